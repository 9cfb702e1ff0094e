section
-- ===== PART A: goes FIRST, ahead of the names: the tables' words, and 'selects' of the private methods out of them =====
/-- a private method of a class that the tables say can be made, by its rows of tables_1 -/
def lw_okq (q : MethodName × Nat) : Prop := (q.1.cls ≠ "java/lang/invoke/MethodHandle" ∧ q.1.cls ≠ "java/lang/invoke/VarHandle") ∧ Cond.instantiable q.1.cls q.2 ∈ tables_1 ∧ Cond.privateMethod q.1 ∈ tables_1 ∧ Cond.instanceMethod q.1 ∈ tables_1
theorem lw_p0 : lw_okq (⟨"LeapBoard$Page", "fits", "(I)Z"⟩, 3) := ⟨⟨by decide +kernel, by decide +kernel⟩, List.mem_of_getElem? (i := 24) (by decide +kernel), List.mem_of_getElem? (i := 203) (by decide +kernel), List.mem_of_getElem? (i := 204) (by decide +kernel)⟩
theorem lw_p1 : lw_okq (⟨"LeapBoard$Page", "kindPlace", "(I)I"⟩, 3) := ⟨⟨by decide +kernel, by decide +kernel⟩, List.mem_of_getElem? (i := 24) (by decide +kernel), List.mem_of_getElem? (i := 207) (by decide +kernel), List.mem_of_getElem? (i := 208) (by decide +kernel)⟩
theorem lw_p2 : lw_okq (⟨"LeapBoard$Page", "isOpenTo", "(I)Z"⟩, 3) := ⟨⟨by decide +kernel, by decide +kernel⟩, List.mem_of_getElem? (i := 24) (by decide +kernel), List.mem_of_getElem? (i := 301) (by decide +kernel), List.mem_of_getElem? (i := 302) (by decide +kernel)⟩
theorem lw_p3 : lw_okq (⟨"LeapBoard$Ground", "fanFrom", "(II)I"⟩, 4) := ⟨⟨by decide +kernel, by decide +kernel⟩, List.mem_of_getElem? (i := 42) (by decide +kernel), List.mem_of_getElem? (i := 325) (by decide +kernel), List.mem_of_getElem? (i := 326) (by decide +kernel)⟩
theorem lw_p4 : lw_okq (⟨"LeapBoard", "watchedBy", "(LLeapBoard$Scene;I)I"⟩, 9) := ⟨⟨by decide +kernel, by decide +kernel⟩, List.mem_of_getElem? (i := 16) (by decide +kernel), List.mem_of_getElem? (i := 367) (by decide +kernel), List.mem_of_getElem? (i := 368) (by decide +kernel)⟩
theorem lw_p5 : lw_okq (⟨"LeapBoard", "goals", "(LLeapBoard$Scene;I)I"⟩, 9) := ⟨⟨by decide +kernel, by decide +kernel⟩, List.mem_of_getElem? (i := 16) (by decide +kernel), List.mem_of_getElem? (i := 378) (by decide +kernel), List.mem_of_getElem? (i := 379) (by decide +kernel)⟩
theorem lw_p6 : lw_okq (⟨"LeapBoard", "fanOfLeaper", "(I)[I"⟩, 9) := ⟨⟨by decide +kernel, by decide +kernel⟩, List.mem_of_getElem? (i := 16) (by decide +kernel), List.mem_of_getElem? (i := 403) (by decide +kernel), List.mem_of_getElem? (i := 404) (by decide +kernel)⟩
theorem lw_p7 : lw_okq (⟨"LeapBoard$Trips", "findFirsts", "([III)V"⟩, 6) := ⟨⟨by decide +kernel, by decide +kernel⟩, List.mem_of_getElem? (i := 103) (by decide +kernel), List.mem_of_getElem? (i := 411) (by decide +kernel), List.mem_of_getElem? (i := 412) (by decide +kernel)⟩
theorem lw_p8 : lw_okq (⟨"LeapBoard$Trips", "startsOf", "([II)I"⟩, 6) := ⟨⟨by decide +kernel, by decide +kernel⟩, List.mem_of_getElem? (i := 103) (by decide +kernel), List.mem_of_getElem? (i := 421) (by decide +kernel), List.mem_of_getElem? (i := 422) (by decide +kernel)⟩
theorem lw_p9 : lw_okq (⟨"LeapBoard$Trips", "mostBehind", "()I"⟩, 6) := ⟨⟨by decide +kernel, by decide +kernel⟩, List.mem_of_getElem? (i := 103) (by decide +kernel), List.mem_of_getElem? (i := 429) (by decide +kernel), List.mem_of_getElem? (i := 430) (by decide +kernel)⟩
theorem lw_p10 : lw_okq (⟨"LeapBoard", "watchers", "(I)I"⟩, 9) := ⟨⟨by decide +kernel, by decide +kernel⟩, List.mem_of_getElem? (i := 16) (by decide +kernel), List.mem_of_getElem? (i := 461) (by decide +kernel), List.mem_of_getElem? (i := 462) (by decide +kernel)⟩
theorem lw_p11 : lw_okq (⟨"LeapBoard$Trips", "spreadPairs", "([I[II)Z"⟩, 6) := ⟨⟨by decide +kernel, by decide +kernel⟩, List.mem_of_getElem? (i := 103) (by decide +kernel), List.mem_of_getElem? (i := 497) (by decide +kernel), List.mem_of_getElem? (i := 498) (by decide +kernel)⟩
theorem lw_p12 : lw_okq (⟨"LeapBoard$Trips", "addLeap", "([II)V"⟩, 6) := ⟨⟨by decide +kernel, by decide +kernel⟩, List.mem_of_getElem? (i := 103) (by decide +kernel), List.mem_of_getElem? (i := 550) (by decide +kernel), List.mem_of_getElem? (i := 551) (by decide +kernel)⟩
theorem lw_p13 : lw_okq (⟨"LeapBoard$Trips", "sumOver", "(I)I"⟩, 6) := ⟨⟨by decide +kernel, by decide +kernel⟩, List.mem_of_getElem? (i := 103) (by decide +kernel), List.mem_of_getElem? (i := 554) (by decide +kernel), List.mem_of_getElem? (i := 555) (by decide +kernel)⟩
theorem lw_p14 : lw_okq (⟨"LeapBoard", "walkTrial", "(II)V"⟩, 9) := ⟨⟨by decide +kernel, by decide +kernel⟩, List.mem_of_getElem? (i := 16) (by decide +kernel), List.mem_of_getElem? (i := 574) (by decide +kernel), List.mem_of_getElem? (i := 575) (by decide +kernel)⟩
theorem lw_p15 : lw_okq (⟨"LeapBoard", "watchedEmpty", "(LLeapBoard$Scene;)I"⟩, 9) := ⟨⟨by decide +kernel, by decide +kernel⟩, List.mem_of_getElem? (i := 16) (by decide +kernel), List.mem_of_getElem? (i := 590) (by decide +kernel), List.mem_of_getElem? (i := 591) (by decide +kernel)⟩
def lw_privs_1 : List (MethodName × Nat) := [(⟨"LeapBoard$Page", "fits", "(I)Z"⟩, 3), (⟨"LeapBoard$Page", "kindPlace", "(I)I"⟩, 3), (⟨"LeapBoard$Page", "isOpenTo", "(I)Z"⟩, 3), (⟨"LeapBoard$Ground", "fanFrom", "(II)I"⟩, 4), (⟨"LeapBoard", "watchedBy", "(LLeapBoard$Scene;I)I"⟩, 9), (⟨"LeapBoard", "goals", "(LLeapBoard$Scene;I)I"⟩, 9), (⟨"LeapBoard", "fanOfLeaper", "(I)[I"⟩, 9), (⟨"LeapBoard$Trips", "findFirsts", "([III)V"⟩, 6), (⟨"LeapBoard$Trips", "startsOf", "([II)I"⟩, 6), (⟨"LeapBoard$Trips", "mostBehind", "()I"⟩, 6), (⟨"LeapBoard", "watchers", "(I)I"⟩, 9), (⟨"LeapBoard$Trips", "spreadPairs", "([I[II)Z"⟩, 6), (⟨"LeapBoard$Trips", "addLeap", "([II)V"⟩, 6), (⟨"LeapBoard$Trips", "sumOver", "(I)I"⟩, 6), (⟨"LeapBoard", "walkTrial", "(II)V"⟩, 9), (⟨"LeapBoard", "watchedEmpty", "(LLeapBoard$Scene;)I"⟩, 9)]
theorem lw_r1 : ∀ q ∈ lw_privs_1, lw_okq q := List.forall_mem_cons.mpr ⟨lw_p0, List.forall_mem_cons.mpr ⟨lw_p1, List.forall_mem_cons.mpr ⟨lw_p2, List.forall_mem_cons.mpr ⟨lw_p3, List.forall_mem_cons.mpr ⟨lw_p4, List.forall_mem_cons.mpr ⟨lw_p5, List.forall_mem_cons.mpr ⟨lw_p6, List.forall_mem_cons.mpr ⟨lw_p7, List.forall_mem_cons.mpr ⟨lw_p8, List.forall_mem_cons.mpr ⟨lw_p9, List.forall_mem_cons.mpr ⟨lw_p10, List.forall_mem_cons.mpr ⟨lw_p11, List.forall_mem_cons.mpr ⟨lw_p12, List.forall_mem_cons.mpr ⟨lw_p13, List.forall_mem_cons.mpr ⟨lw_p14, List.forall_mem_cons.mpr ⟨lw_p15, fun _ h => absurd h List.not_mem_nil⟩⟩⟩⟩⟩⟩⟩⟩⟩⟩⟩⟩⟩⟩⟩⟩
theorem lw_p16 : lw_okq (⟨"LeapBoard", "mixLeapers", "(J)J"⟩, 9) := ⟨⟨by decide +kernel, by decide +kernel⟩, List.mem_of_getElem? (i := 16) (by decide +kernel), List.mem_of_getElem? (i := 611) (by decide +kernel), List.mem_of_getElem? (i := 612) (by decide +kernel)⟩
theorem lw_p17 : lw_okq (⟨"LeapBoard", "mixCells", "(J)J"⟩, 9) := ⟨⟨by decide +kernel, by decide +kernel⟩, List.mem_of_getElem? (i := 16) (by decide +kernel), List.mem_of_getElem? (i := 622) (by decide +kernel), List.mem_of_getElem? (i := 623) (by decide +kernel)⟩
theorem lw_p18 : lw_okq (⟨"LeapBoard", "mixKinds", "(J)J"⟩, 9) := ⟨⟨by decide +kernel, by decide +kernel⟩, List.mem_of_getElem? (i := 16) (by decide +kernel), List.mem_of_getElem? (i := 627) (by decide +kernel), List.mem_of_getElem? (i := 628) (by decide +kernel)⟩
theorem lw_p19 : lw_okq (⟨"LeapBoardModel", "read", "()I"⟩, 39) := ⟨⟨by decide +kernel, by decide +kernel⟩, List.mem_of_getElem? (i := 637) (by decide +kernel), List.mem_of_getElem? (i := 776) (by decide +kernel), List.mem_of_getElem? (i := 777) (by decide +kernel)⟩
theorem lw_p20 : lw_okq (⟨"LeapBoardModel", "at", "(I)I"⟩, 39) := ⟨⟨by decide +kernel, by decide +kernel⟩, List.mem_of_getElem? (i := 637) (by decide +kernel), List.mem_of_getElem? (i := 780) (by decide +kernel), List.mem_of_getElem? (i := 781) (by decide +kernel)⟩
theorem lw_p21 : lw_okq (⟨"LeapBoardModel", "readCells", "(I)I"⟩, 39) := ⟨⟨by decide +kernel, by decide +kernel⟩, List.mem_of_getElem? (i := 637) (by decide +kernel), List.mem_of_getElem? (i := 784) (by decide +kernel), List.mem_of_getElem? (i := 785) (by decide +kernel)⟩
theorem lw_p22 : lw_okq (⟨"LeapBoardModel", "readLeapers", "(I)I"⟩, 39) := ⟨⟨by decide +kernel, by decide +kernel⟩, List.mem_of_getElem? (i := 637) (by decide +kernel), List.mem_of_getElem? (i := 788) (by decide +kernel), List.mem_of_getElem? (i := 789) (by decide +kernel)⟩
theorem lw_p23 : lw_okq (⟨"LeapBoardModel", "cells", "()I"⟩, 39) := ⟨⟨by decide +kernel, by decide +kernel⟩, List.mem_of_getElem? (i := 637) (by decide +kernel), List.mem_of_getElem? (i := 802) (by decide +kernel), List.mem_of_getElem? (i := 803) (by decide +kernel)⟩
theorem lw_p24 : lw_okq (⟨"LeapBoardModel", "isLeaper", "(I)Z"⟩, 39) := ⟨⟨by decide +kernel, by decide +kernel⟩, List.mem_of_getElem? (i := 637) (by decide +kernel), List.mem_of_getElem? (i := 810) (by decide +kernel), List.mem_of_getElem? (i := 811) (by decide +kernel)⟩
theorem lw_p25 : lw_okq (⟨"LeapBoardModel", "leaperNow", "(II)I"⟩, 39) := ⟨⟨by decide +kernel, by decide +kernel⟩, List.mem_of_getElem? (i := 637) (by decide +kernel), List.mem_of_getElem? (i := 814) (by decide +kernel), List.mem_of_getElem? (i := 815) (by decide +kernel)⟩
theorem lw_p26 : lw_okq (⟨"LeapBoardModel", "watched", "(I)I"⟩, 39) := ⟨⟨by decide +kernel, by decide +kernel⟩, List.mem_of_getElem? (i := 637) (by decide +kernel), List.mem_of_getElem? (i := 818) (by decide +kernel), List.mem_of_getElem? (i := 819) (by decide +kernel)⟩
theorem lw_p27 : lw_okq (⟨"LeapBoardModel", "around", "(II)I"⟩, 39) := ⟨⟨by decide +kernel, by decide +kernel⟩, List.mem_of_getElem? (i := 637) (by decide +kernel), List.mem_of_getElem? (i := 822) (by decide +kernel), List.mem_of_getElem? (i := 823) (by decide +kernel)⟩
theorem lw_p28 : lw_okq (⟨"LeapBoardModel", "canGo", "(I)I"⟩, 39) := ⟨⟨by decide +kernel, by decide +kernel⟩, List.mem_of_getElem? (i := 637) (by decide +kernel), List.mem_of_getElem? (i := 835) (by decide +kernel), List.mem_of_getElem? (i := 836) (by decide +kernel)⟩
theorem lw_p29 : lw_okq (⟨"LeapBoardModel", "standing", "()I"⟩, 39) := ⟨⟨by decide +kernel, by decide +kernel⟩, List.mem_of_getElem? (i := 637) (by decide +kernel), List.mem_of_getElem? (i := 839) (by decide +kernel), List.mem_of_getElem? (i := 840) (by decide +kernel)⟩
theorem lw_p30 : lw_okq (⟨"LeapBoardModel", "sortsOf", "(I)I"⟩, 39) := ⟨⟨by decide +kernel, by decide +kernel⟩, List.mem_of_getElem? (i := 637) (by decide +kernel), List.mem_of_getElem? (i := 843) (by decide +kernel), List.mem_of_getElem? (i := 844) (by decide +kernel)⟩
theorem lw_p31 : lw_okq (⟨"LeapBoardModel", "askOf", "(I)I"⟩, 39) := ⟨⟨by decide +kernel, by decide +kernel⟩, List.mem_of_getElem? (i := 637) (by decide +kernel), List.mem_of_getElem? (i := 847) (by decide +kernel), List.mem_of_getElem? (i := 848) (by decide +kernel)⟩
def lw_privs_2 : List (MethodName × Nat) := [(⟨"LeapBoard", "mixLeapers", "(J)J"⟩, 9), (⟨"LeapBoard", "mixCells", "(J)J"⟩, 9), (⟨"LeapBoard", "mixKinds", "(J)J"⟩, 9), (⟨"LeapBoardModel", "read", "()I"⟩, 39), (⟨"LeapBoardModel", "at", "(I)I"⟩, 39), (⟨"LeapBoardModel", "readCells", "(I)I"⟩, 39), (⟨"LeapBoardModel", "readLeapers", "(I)I"⟩, 39), (⟨"LeapBoardModel", "cells", "()I"⟩, 39), (⟨"LeapBoardModel", "isLeaper", "(I)Z"⟩, 39), (⟨"LeapBoardModel", "leaperNow", "(II)I"⟩, 39), (⟨"LeapBoardModel", "watched", "(I)I"⟩, 39), (⟨"LeapBoardModel", "around", "(II)I"⟩, 39), (⟨"LeapBoardModel", "canGo", "(I)I"⟩, 39), (⟨"LeapBoardModel", "standing", "()I"⟩, 39), (⟨"LeapBoardModel", "sortsOf", "(I)I"⟩, 39), (⟨"LeapBoardModel", "askOf", "(I)I"⟩, 39)]
theorem lw_r2 : ∀ q ∈ lw_privs_2, lw_okq q := List.forall_mem_cons.mpr ⟨lw_p16, List.forall_mem_cons.mpr ⟨lw_p17, List.forall_mem_cons.mpr ⟨lw_p18, List.forall_mem_cons.mpr ⟨lw_p19, List.forall_mem_cons.mpr ⟨lw_p20, List.forall_mem_cons.mpr ⟨lw_p21, List.forall_mem_cons.mpr ⟨lw_p22, List.forall_mem_cons.mpr ⟨lw_p23, List.forall_mem_cons.mpr ⟨lw_p24, List.forall_mem_cons.mpr ⟨lw_p25, List.forall_mem_cons.mpr ⟨lw_p26, List.forall_mem_cons.mpr ⟨lw_p27, List.forall_mem_cons.mpr ⟨lw_p28, List.forall_mem_cons.mpr ⟨lw_p29, List.forall_mem_cons.mpr ⟨lw_p30, List.forall_mem_cons.mpr ⟨lw_p31, fun _ h => absurd h List.not_mem_nil⟩⟩⟩⟩⟩⟩⟩⟩⟩⟩⟩⟩⟩⟩⟩⟩
theorem lw_p32 : lw_okq (⟨"LeapBoardModel", "wayOf", "(II)I"⟩, 39) := ⟨⟨by decide +kernel, by decide +kernel⟩, List.mem_of_getElem? (i := 637) (by decide +kernel), List.mem_of_getElem? (i := 855) (by decide +kernel), List.mem_of_getElem? (i := 856) (by decide +kernel)⟩
theorem lw_p33 : lw_okq (⟨"LeapBoardModel", "longestBy", "(II)I"⟩, 39) := ⟨⟨by decide +kernel, by decide +kernel⟩, List.mem_of_getElem? (i := 637) (by decide +kernel), List.mem_of_getElem? (i := 859) (by decide +kernel), List.mem_of_getElem? (i := 860) (by decide +kernel)⟩
theorem lw_p34 : lw_okq (⟨"LeapBoardModel", "others", "(I)I"⟩, 39) := ⟨⟨by decide +kernel, by decide +kernel⟩, List.mem_of_getElem? (i := 637) (by decide +kernel), List.mem_of_getElem? (i := 863) (by decide +kernel), List.mem_of_getElem? (i := 864) (by decide +kernel)⟩
theorem lw_p35 : lw_okq (⟨"LeapBoardModel", "goOn", "(III)V"⟩, 39) := ⟨⟨by decide +kernel, by decide +kernel⟩, List.mem_of_getElem? (i := 637) (by decide +kernel), List.mem_of_getElem? (i := 867) (by decide +kernel), List.mem_of_getElem? (i := 868) (by decide +kernel)⟩
theorem lw_p36 : lw_okq (⟨"LeapBoardModel", "isCell", "(I)Z"⟩, 39) := ⟨⟨by decide +kernel, by decide +kernel⟩, List.mem_of_getElem? (i := 637) (by decide +kernel), List.mem_of_getElem? (i := 879) (by decide +kernel), List.mem_of_getElem? (i := 880) (by decide +kernel)⟩
theorem lw_p37 : lw_okq (⟨"LeapBoardModel", "cellNow", "(II)I"⟩, 39) := ⟨⟨by decide +kernel, by decide +kernel⟩, List.mem_of_getElem? (i := 637) (by decide +kernel), List.mem_of_getElem? (i := 883) (by decide +kernel), List.mem_of_getElem? (i := 884) (by decide +kernel)⟩
theorem lw_p38 : lw_okq (⟨"LeapBoardModel", "whoAt", "(I)I"⟩, 39) := ⟨⟨by decide +kernel, by decide +kernel⟩, List.mem_of_getElem? (i := 637) (by decide +kernel), List.mem_of_getElem? (i := 887) (by decide +kernel), List.mem_of_getElem? (i := 888) (by decide +kernel)⟩
theorem lw_p39 : lw_okq (⟨"LeapBoardModel", "watchersOf", "(I)I"⟩, 39) := ⟨⟨by decide +kernel, by decide +kernel⟩, List.mem_of_getElem? (i := 637) (by decide +kernel), List.mem_of_getElem? (i := 891) (by decide +kernel), List.mem_of_getElem? (i := 892) (by decide +kernel)⟩
theorem lw_p40 : lw_okq (⟨"LeapBoardModel", "hopsNow", "(II)I"⟩, 39) := ⟨⟨by decide +kernel, by decide +kernel⟩, List.mem_of_getElem? (i := 637) (by decide +kernel), List.mem_of_getElem? (i := 915) (by decide +kernel), List.mem_of_getElem? (i := 916) (by decide +kernel)⟩
theorem lw_p41 : lw_okq (⟨"LeapBoardModel", "aroundAll", "(II)I"⟩, 39) := ⟨⟨by decide +kernel, by decide +kernel⟩, List.mem_of_getElem? (i := 637) (by decide +kernel), List.mem_of_getElem? (i := 919) (by decide +kernel), List.mem_of_getElem? (i := 920) (by decide +kernel)⟩
theorem lw_p42 : lw_okq (⟨"LeapBoardModel", "tradeNow", "(II)I"⟩, 39) := ⟨⟨by decide +kernel, by decide +kernel⟩, List.mem_of_getElem? (i := 637) (by decide +kernel), List.mem_of_getElem? (i := 927) (by decide +kernel), List.mem_of_getElem? (i := 928) (by decide +kernel)⟩
theorem lw_p43 : lw_okq (⟨"LeapBoardModel", "comeTo", "(II)V"⟩, 39) := ⟨⟨by decide +kernel, by decide +kernel⟩, List.mem_of_getElem? (i := 637) (by decide +kernel), List.mem_of_getElem? (i := 931) (by decide +kernel), List.mem_of_getElem? (i := 932) (by decide +kernel)⟩
theorem lw_p44 : lw_okq (⟨"LeapBoardModel", "comeFrom", "(IIII)V"⟩, 39) := ⟨⟨by decide +kernel, by decide +kernel⟩, List.mem_of_getElem? (i := 637) (by decide +kernel), List.mem_of_getElem? (i := 935) (by decide +kernel), List.mem_of_getElem? (i := 936) (by decide +kernel)⟩
theorem lw_p45 : lw_okq (⟨"LeapBoardModel", "refused", "(II)I"⟩, 39) := ⟨⟨by decide +kernel, by decide +kernel⟩, List.mem_of_getElem? (i := 637) (by decide +kernel), List.mem_of_getElem? (i := 943) (by decide +kernel), List.mem_of_getElem? (i := 944) (by decide +kernel)⟩
theorem lw_p46 : lw_okq (⟨"LeapBoardModel", "peaceNow", "(II)I"⟩, 39) := ⟨⟨by decide +kernel, by decide +kernel⟩, List.mem_of_getElem? (i := 637) (by decide +kernel), List.mem_of_getElem? (i := 950) (by decide +kernel), List.mem_of_getElem? (i := 951) (by decide +kernel)⟩
theorem lw_p47 : lw_okq (⟨"LeapBoardModel", "peaceSet", "(I)I"⟩, 39) := ⟨⟨by decide +kernel, by decide +kernel⟩, List.mem_of_getElem? (i := 637) (by decide +kernel), List.mem_of_getElem? (i := 954) (by decide +kernel), List.mem_of_getElem? (i := 955) (by decide +kernel)⟩
def lw_privs_3 : List (MethodName × Nat) := [(⟨"LeapBoardModel", "wayOf", "(II)I"⟩, 39), (⟨"LeapBoardModel", "longestBy", "(II)I"⟩, 39), (⟨"LeapBoardModel", "others", "(I)I"⟩, 39), (⟨"LeapBoardModel", "goOn", "(III)V"⟩, 39), (⟨"LeapBoardModel", "isCell", "(I)Z"⟩, 39), (⟨"LeapBoardModel", "cellNow", "(II)I"⟩, 39), (⟨"LeapBoardModel", "whoAt", "(I)I"⟩, 39), (⟨"LeapBoardModel", "watchersOf", "(I)I"⟩, 39), (⟨"LeapBoardModel", "hopsNow", "(II)I"⟩, 39), (⟨"LeapBoardModel", "aroundAll", "(II)I"⟩, 39), (⟨"LeapBoardModel", "tradeNow", "(II)I"⟩, 39), (⟨"LeapBoardModel", "comeTo", "(II)V"⟩, 39), (⟨"LeapBoardModel", "comeFrom", "(IIII)V"⟩, 39), (⟨"LeapBoardModel", "refused", "(II)I"⟩, 39), (⟨"LeapBoardModel", "peaceNow", "(II)I"⟩, 39), (⟨"LeapBoardModel", "peaceSet", "(I)I"⟩, 39)]
theorem lw_r3 : ∀ q ∈ lw_privs_3, lw_okq q := List.forall_mem_cons.mpr ⟨lw_p32, List.forall_mem_cons.mpr ⟨lw_p33, List.forall_mem_cons.mpr ⟨lw_p34, List.forall_mem_cons.mpr ⟨lw_p35, List.forall_mem_cons.mpr ⟨lw_p36, List.forall_mem_cons.mpr ⟨lw_p37, List.forall_mem_cons.mpr ⟨lw_p38, List.forall_mem_cons.mpr ⟨lw_p39, List.forall_mem_cons.mpr ⟨lw_p40, List.forall_mem_cons.mpr ⟨lw_p41, List.forall_mem_cons.mpr ⟨lw_p42, List.forall_mem_cons.mpr ⟨lw_p43, List.forall_mem_cons.mpr ⟨lw_p44, List.forall_mem_cons.mpr ⟨lw_p45, List.forall_mem_cons.mpr ⟨lw_p46, List.forall_mem_cons.mpr ⟨lw_p47, fun _ h => absurd h List.not_mem_nil⟩⟩⟩⟩⟩⟩⟩⟩⟩⟩⟩⟩⟩⟩⟩⟩
theorem lw_p48 : lw_okq (⟨"LeapBoardModel", "guardNow", "(II)I"⟩, 39) := ⟨⟨by decide +kernel, by decide +kernel⟩, List.mem_of_getElem? (i := 637) (by decide +kernel), List.mem_of_getElem? (i := 962) (by decide +kernel), List.mem_of_getElem? (i := 963) (by decide +kernel)⟩
theorem lw_p49 : lw_okq (⟨"LeapBoardModel", "guardSet", "(I)I"⟩, 39) := ⟨⟨by decide +kernel, by decide +kernel⟩, List.mem_of_getElem? (i := 637) (by decide +kernel), List.mem_of_getElem? (i := 966) (by decide +kernel), List.mem_of_getElem? (i := 967) (by decide +kernel)⟩
theorem lw_p50 : lw_okq (⟨"LeapBoardModel", "partsTold", "(II)I"⟩, 39) := ⟨⟨by decide +kernel, by decide +kernel⟩, List.mem_of_getElem? (i := 637) (by decide +kernel), List.mem_of_getElem? (i := 974) (by decide +kernel), List.mem_of_getElem? (i := 975) (by decide +kernel)⟩
theorem lw_p51 : lw_okq (⟨"LeapBoardModel", "partsNow", "(I)I"⟩, 39) := ⟨⟨by decide +kernel, by decide +kernel⟩, List.mem_of_getElem? (i := 637) (by decide +kernel), List.mem_of_getElem? (i := 978) (by decide +kernel), List.mem_of_getElem? (i := 979) (by decide +kernel)⟩
theorem lw_p52 : lw_okq (⟨"LeapBoardModel", "partOf", "(II)I"⟩, 39) := ⟨⟨by decide +kernel, by decide +kernel⟩, List.mem_of_getElem? (i := 637) (by decide +kernel), List.mem_of_getElem? (i := 982) (by decide +kernel), List.mem_of_getElem? (i := 983) (by decide +kernel)⟩
theorem lw_p53 : lw_okq (⟨"LeapBoardModel", "areShades", "(I)Z"⟩, 39) := ⟨⟨by decide +kernel, by decide +kernel⟩, List.mem_of_getElem? (i := 637) (by decide +kernel), List.mem_of_getElem? (i := 986) (by decide +kernel), List.mem_of_getElem? (i := 987) (by decide +kernel)⟩
theorem lw_p54 : lw_okq (⟨"LeapBoardModel", "chanceNow", "(III)I"⟩, 39) := ⟨⟨by decide +kernel, by decide +kernel⟩, List.mem_of_getElem? (i := 637) (by decide +kernel), List.mem_of_getElem? (i := 994) (by decide +kernel), List.mem_of_getElem? (i := 995) (by decide +kernel)⟩
theorem lw_p55 : lw_okq (⟨"LeapBoardModel", "chanceFrom", "(III)I"⟩, 39) := ⟨⟨by decide +kernel, by decide +kernel⟩, List.mem_of_getElem? (i := 637) (by decide +kernel), List.mem_of_getElem? (i := 999) (by decide +kernel), List.mem_of_getElem? (i := 1000) (by decide +kernel)⟩
theorem lw_p56 : lw_okq (⟨"LeapBoardModel", "walksNow", "(III)I"⟩, 39) := ⟨⟨by decide +kernel, by decide +kernel⟩, List.mem_of_getElem? (i := 637) (by decide +kernel), List.mem_of_getElem? (i := 1015) (by decide +kernel), List.mem_of_getElem? (i := 1016) (by decide +kernel)⟩
theorem lw_p57 : lw_okq (⟨"LeapBoardModel", "draw", "(I)I"⟩, 39) := ⟨⟨by decide +kernel, by decide +kernel⟩, List.mem_of_getElem? (i := 637) (by decide +kernel), List.mem_of_getElem? (i := 1019) (by decide +kernel), List.mem_of_getElem? (i := 1020) (by decide +kernel)⟩
theorem lw_p58 : lw_okq (⟨"LeapBoardModel", "watchedFree", "()I"⟩, 39) := ⟨⟨by decide +kernel, by decide +kernel⟩, List.mem_of_getElem? (i := 637) (by decide +kernel), List.mem_of_getElem? (i := 1030) (by decide +kernel), List.mem_of_getElem? (i := 1031) (by decide +kernel)⟩
theorem lw_p59 : lw_okq (⟨"LeapBoardModel", "howMany", "(I)I"⟩, 39) := ⟨⟨by decide +kernel, by decide +kernel⟩, List.mem_of_getElem? (i := 637) (by decide +kernel), List.mem_of_getElem? (i := 1046) (by decide +kernel), List.mem_of_getElem? (i := 1047) (by decide +kernel)⟩
theorem lw_p60 : lw_okq (⟨"LeapBoardModel", "mix", "(J)V"⟩, 39) := ⟨⟨by decide +kernel, by decide +kernel⟩, List.mem_of_getElem? (i := 637) (by decide +kernel), List.mem_of_getElem? (i := 1055) (by decide +kernel), List.mem_of_getElem? (i := 1056) (by decide +kernel)⟩
theorem lw_p61 : lw_okq (⟨"LeapBoardModel", "mixBoard", "()V"⟩, 39) := ⟨⟨by decide +kernel, by decide +kernel⟩, List.mem_of_getElem? (i := 637) (by decide +kernel), List.mem_of_getElem? (i := 1062) (by decide +kernel), List.mem_of_getElem? (i := 1063) (by decide +kernel)⟩
def lw_privs_4 : List (MethodName × Nat) := [(⟨"LeapBoardModel", "guardNow", "(II)I"⟩, 39), (⟨"LeapBoardModel", "guardSet", "(I)I"⟩, 39), (⟨"LeapBoardModel", "partsTold", "(II)I"⟩, 39), (⟨"LeapBoardModel", "partsNow", "(I)I"⟩, 39), (⟨"LeapBoardModel", "partOf", "(II)I"⟩, 39), (⟨"LeapBoardModel", "areShades", "(I)Z"⟩, 39), (⟨"LeapBoardModel", "chanceNow", "(III)I"⟩, 39), (⟨"LeapBoardModel", "chanceFrom", "(III)I"⟩, 39), (⟨"LeapBoardModel", "walksNow", "(III)I"⟩, 39), (⟨"LeapBoardModel", "draw", "(I)I"⟩, 39), (⟨"LeapBoardModel", "watchedFree", "()I"⟩, 39), (⟨"LeapBoardModel", "howMany", "(I)I"⟩, 39), (⟨"LeapBoardModel", "mix", "(J)V"⟩, 39), (⟨"LeapBoardModel", "mixBoard", "()V"⟩, 39)]
theorem lw_r4 : ∀ q ∈ lw_privs_4, lw_okq q := List.forall_mem_cons.mpr ⟨lw_p48, List.forall_mem_cons.mpr ⟨lw_p49, List.forall_mem_cons.mpr ⟨lw_p50, List.forall_mem_cons.mpr ⟨lw_p51, List.forall_mem_cons.mpr ⟨lw_p52, List.forall_mem_cons.mpr ⟨lw_p53, List.forall_mem_cons.mpr ⟨lw_p54, List.forall_mem_cons.mpr ⟨lw_p55, List.forall_mem_cons.mpr ⟨lw_p56, List.forall_mem_cons.mpr ⟨lw_p57, List.forall_mem_cons.mpr ⟨lw_p58, List.forall_mem_cons.mpr ⟨lw_p59, List.forall_mem_cons.mpr ⟨lw_p60, List.forall_mem_cons.mpr ⟨lw_p61, fun _ h => absurd h List.not_mem_nil⟩⟩⟩⟩⟩⟩⟩⟩⟩⟩⟩⟩⟩⟩
def lw_privs : List (MethodName × Nat) := lw_privs_1 ++ (lw_privs_2 ++ (lw_privs_3 ++ (lw_privs_4)))
def lw_tbl : List Cond := k2_sels lw_privs ++ tables_1
theorem lw_privs_ok : ∀ q ∈ lw_privs, lw_okq q := by
  show ∀ q ∈ lw_privs_1 ++ (lw_privs_2 ++ (lw_privs_3 ++ (lw_privs_4))), lw_okq q
  exact List.forall_mem_append.mpr ⟨lw_r1, List.forall_mem_append.mpr ⟨lw_r2, List.forall_mem_append.mpr ⟨lw_r3, lw_r4⟩⟩⟩
def RX0 : String := "LeapBoard$Draws"
def TX0 : u_T := fun k => match k with
  | _ => ("LeapBoard$Draws", "seed", "I", false)
def tyX0 : Nat → FieldType := fun k => match k with
  | _ => .int
abbrev wsX00 : List Cond := u_ws RX0 TX0 1
theorem nmX0 : ∀ a, a < 1 → ∀ b, b < 1 → a ≠ b → (TX0 a).2.1 ≠ (TX0 b).2.1 := by decide +kernel
theorem tyX0_ok : ∀ k, k < 1 → parseFieldDescriptor (TX0 k).2.2.1 = some (tyX0 k) := by decide +kernel
abbrev cX0_init : ByteArray := prog_2_method_1_code
def yX0_init : MethodName := ⟨RX0, "<init>", "()V"⟩
abbrev cX0_next : ByteArray := prog_2_method_2_code
def yX0_next : MethodName := ⟨RX0, "next", "(I)I"⟩
def RX1 : String := "LeapBoard$Ground"
def TX1 : u_T := fun k => match k with
  | 0 => ("LeapBoard$Ground", "rows", "I", false)
  | 1 => ("LeapBoard$Ground", "columns", "I", false)
  | 2 => ("LeapBoard$Ground", "cells", "I", false)
  | _ => ("LeapBoard$Ground", "fans", "[[I", true)
def tyX1 : Nat → FieldType := fun k => match k with
  | 0 => .int
  | 1 => .int
  | 2 => .int
  | _ => .array (.array .int)
abbrev wsX10 : List Cond := u_ws RX1 TX1 4
theorem nmX1 : ∀ a, a < 4 → ∀ b, b < 4 → a ≠ b → (TX1 a).2.1 ≠ (TX1 b).2.1 := by decide +kernel
theorem tyX1_ok : ∀ k, k < 4 → parseFieldDescriptor (TX1 k).2.2.1 = some (tyX1 k) := by decide +kernel
abbrev cX1_init : ByteArray := prog_3_method_1_code
def yX1_init : MethodName := ⟨RX1, "<init>", "()V"⟩
abbrev cX1_lay : ByteArray := prog_3_method_2_code
def yX1_lay : MethodName := ⟨RX1, "lay", "(II)V"⟩
abbrev cX1_hasCell : ByteArray := prog_3_method_3_code
def yX1_hasCell : MethodName := ⟨RX1, "hasCell", "(I)Z"⟩
abbrev cX1_fanOf : ByteArray := prog_3_method_4_code
def yX1_fanOf : MethodName := ⟨RX1, "fanOf", "(I)[I"⟩
abbrev cX1_fanFrom : ByteArray := prog_3_method_5_code
def yX1_fanFrom : MethodName := ⟨RX1, "fanFrom", "(II)I"⟩
abbrev cX1_spread : ByteArray := prog_3_method_6_code
def yX1_spread : MethodName := ⟨RX1, "spread", "([II)I"⟩
abbrev cX1_partAround : ByteArray := prog_3_method_7_code
def yX1_partAround : MethodName := ⟨RX1, "partAround", "([III)I"⟩
abbrev cX1_partCount : ByteArray := prog_3_method_8_code
def yX1_partCount : MethodName := ⟨RX1, "partCount", "([II)I"⟩
abbrev cX1_isTwoShaded : ByteArray := prog_3_method_9_code
def yX1_isTwoShaded : MethodName := ⟨RX1, "isTwoShaded", "([II)Z"⟩
abbrev cX1_mostInPeace : ByteArray := prog_3_method_10_code
def yX1_mostInPeace : MethodName := ⟨RX1, "mostInPeace", "([III)I"⟩
abbrev cX1_isLarger : ByteArray := prog_3_method_11_code
def yX1_isLarger : MethodName := ⟨RX1, "isLarger", "(II)Z"⟩
abbrev cX1_fewestGuards : ByteArray := prog_3_method_12_code
def yX1_fewestGuards : MethodName := ⟨RX1, "fewestGuards", "([IIIIII)I"⟩
def RX2 : String := "LeapBoard$Page"
def TX2 : u_T := fun k => match k with
  | 0 => ("LeapBoard$Page", "codes", "[I", true)
  | 1 => ("LeapBoard$Page", "size", "I", false)
  | _ => ("LeapBoard$Page", "cells", "I", false)
def tyX2 : Nat → FieldType := fun k => match k with
  | 0 => .array .int
  | 1 => .int
  | _ => .int
abbrev wsX20 : List Cond := u_ws RX2 TX2 3
theorem nmX2 : ∀ a, a < 3 → ∀ b, b < 3 → a ≠ b → (TX2 a).2.1 ≠ (TX2 b).2.1 := by decide +kernel
theorem tyX2_ok : ∀ k, k < 3 → parseFieldDescriptor (TX2 k).2.2.1 = some (tyX2 k) := by decide +kernel
abbrev cX2_init : ByteArray := prog_4_method_1_code
def yX2_init : MethodName := ⟨RX2, "<init>", "()V"⟩
abbrev cX2_put : ByteArray := prog_4_method_2_code
def yX2_put : MethodName := ⟨RX2, "put", "(I)Z"⟩
abbrev cX2_clear : ByteArray := prog_4_method_3_code
def yX2_clear : MethodName := ⟨RX2, "clear", "()I"⟩
abbrev cX2_at : ByteArray := prog_4_method_4_code
def yX2_at : MethodName := ⟨RX2, "at", "(I)I"⟩
abbrev cX2_firstFault : ByteArray := prog_4_method_5_code
def yX2_firstFault : MethodName := ⟨RX2, "firstFault", "()I"⟩
abbrev cX2_isWhole : ByteArray := prog_4_method_6_code
def yX2_isWhole : MethodName := ⟨RX2, "isWhole", "()Z"⟩
abbrev cX2_rows : ByteArray := prog_4_method_7_code
def yX2_rows : MethodName := ⟨RX2, "rows", "()I"⟩
abbrev cX2_columns : ByteArray := prog_4_method_8_code
def yX2_columns : MethodName := ⟨RX2, "columns", "()I"⟩
abbrev cX2_freeCells : ByteArray := prog_4_method_9_code
def yX2_freeCells : MethodName := ⟨RX2, "freeCells", "()I"⟩
abbrev cX2_leapers : ByteArray := prog_4_method_10_code
def yX2_leapers : MethodName := ⟨RX2, "leapers", "()I"⟩
abbrev cX2_kindOf : ByteArray := prog_4_method_11_code
def yX2_kindOf : MethodName := ⟨RX2, "kindOf", "(I)I"⟩
abbrev cX2_standOf : ByteArray := prog_4_method_12_code
def yX2_standOf : MethodName := ⟨RX2, "standOf", "(I)I"⟩
abbrev cX2_kindPlace : ByteArray := prog_4_method_13_code
def yX2_kindPlace : MethodName := ⟨RX2, "kindPlace", "(I)I"⟩
abbrev cX2_kindFor : ByteArray := prog_4_method_14_code
def yX2_kindFor : MethodName := ⟨RX2, "kindFor", "(I)I"⟩
abbrev cX2_fits : ByteArray := prog_4_method_15_code
def yX2_fits : MethodName := ⟨RX2, "fits", "(I)Z"⟩
abbrev cX2_isOpenTo : ByteArray := prog_4_method_16_code
def yX2_isOpenTo : MethodName := ⟨RX2, "isOpenTo", "(I)Z"⟩
def RX3 : String := "LeapBoard$Scene"
def TX3 : u_T := fun k => match k with
  | 0 => ("LeapBoard$Scene", "free", "I", false)
  | 1 => ("LeapBoard$Scene", "leapers", "I", false)
  | 2 => ("LeapBoard$Scene", "leaps", "I", false)
  | 3 => ("LeapBoard$Scene", "seen", "I", false)
  | 4 => ("LeapBoard$Scene", "kinds", "[I", true)
  | 5 => ("LeapBoard$Scene", "stands", "[I", true)
  | 6 => ("LeapBoard$Scene", "seenOf", "[I", true)
  | _ => ("LeapBoard$Scene", "seenSorts", "[I", true)
def tyX3 : Nat → FieldType := fun k => match k with
  | 0 => .int
  | 1 => .int
  | 2 => .int
  | 3 => .int
  | 4 => .array .int
  | 5 => .array .int
  | 6 => .array .int
  | _ => .array .int
abbrev wsX30 : List Cond := u_ws RX3 TX3 8
theorem nmX3 : ∀ a, a < 8 → ∀ b, b < 8 → a ≠ b → (TX3 a).2.1 ≠ (TX3 b).2.1 := by decide +kernel
theorem tyX3_ok : ∀ k, k < 8 → parseFieldDescriptor (TX3 k).2.2.1 = some (tyX3 k) := by decide +kernel
abbrev cX3_init : ByteArray := prog_5_method_1_code
def yX3_init : MethodName := ⟨RX3, "<init>", "()V"⟩
abbrev cX3_isThere : ByteArray := prog_5_method_2_code
def yX3_isThere : MethodName := ⟨RX3, "isThere", "()Z"⟩
abbrev cX3_hasLeaper : ByteArray := prog_5_method_3_code
def yX3_hasLeaper : MethodName := ⟨RX3, "hasLeaper", "(I)Z"⟩
abbrev cX3_kindOf : ByteArray := prog_5_method_4_code
def yX3_kindOf : MethodName := ⟨RX3, "kindOf", "(I)I"⟩
abbrev cX3_standOf : ByteArray := prog_5_method_5_code
def yX3_standOf : MethodName := ⟨RX3, "standOf", "(I)I"⟩
abbrev cX3_empty : ByteArray := prog_5_method_6_code
def yX3_empty : MethodName := ⟨RX3, "empty", "()I"⟩
abbrev cX3_whoStands : ByteArray := prog_5_method_7_code
def yX3_whoStands : MethodName := ⟨RX3, "whoStands", "(I)I"⟩
abbrev cX3_note : ByteArray := prog_5_method_8_code
def yX3_note : MethodName := ⟨RX3, "note", "(II)Z"⟩
abbrev cX3_sorts : ByteArray := prog_5_method_9_code
def yX3_sorts : MethodName := ⟨RX3, "sorts", "(I)I"⟩
abbrev cX3_copy : ByteArray := prog_5_method_10_code
def yX3_copy : MethodName := ⟨RX3, "copy", "(LLeapBoard$Scene;)V"⟩
def RX4 : String := "LeapBoard$Trips"
def TX4 : u_T := fun k => match k with
  | 0 => ("LeapBoard$Trips", "starts", "[I", true)
  | 1 => ("LeapBoard$Trips", "firsts", "[I", true)
  | 2 => ("LeapBoard$Trips", "pairs", "[I", true)
  | 3 => ("LeapBoard$Trips", "nextPairs", "[I", true)
  | 4 => ("LeapBoard$Trips", "chances", "[I", true)
  | _ => ("LeapBoard$Trips", "nextChances", "[I", true)
def tyX4 : Nat → FieldType := fun k => match k with
  | 0 => .array .int
  | 1 => .array .int
  | 2 => .array .int
  | 3 => .array .int
  | 4 => .array .int
  | _ => .array .int
abbrev wsX40 : List Cond := u_ws RX4 TX4 6
theorem nmX4 : ∀ a, a < 6 → ∀ b, b < 6 → a ≠ b → (TX4 a).2.1 ≠ (TX4 b).2.1 := by decide +kernel
theorem tyX4_ok : ∀ k, k < 6 → parseFieldDescriptor (TX4 k).2.2.1 = some (tyX4 k) := by decide +kernel
abbrev cX4_init : ByteArray := prog_6_method_1_code
def yX4_init : MethodName := ⟨RX4, "<init>", "()V"⟩
abbrev cX4_fewest : ByteArray := prog_6_method_2_code
def yX4_fewest : MethodName := ⟨RX4, "fewest", "([IIII)I"⟩
abbrev cX4_longest : ByteArray := prog_6_method_3_code
def yX4_longest : MethodName := ⟨RX4, "longest", "([III)I"⟩
abbrev cX4_firstOfLongest : ByteArray := prog_6_method_4_code
def yX4_firstOfLongest : MethodName := ⟨RX4, "firstOfLongest", "([III)I"⟩
abbrev cX4_mostBehind : ByteArray := prog_6_method_5_code
def yX4_mostBehind : MethodName := ⟨RX4, "mostBehind", "()I"⟩
abbrev cX4_findFirsts : ByteArray := prog_6_method_6_code
def yX4_findFirsts : MethodName := ⟨RX4, "findFirsts", "([III)V"⟩
abbrev cX4_startsOf : ByteArray := prog_6_method_7_code
def yX4_startsOf : MethodName := ⟨RX4, "startsOf", "([II)I"⟩
abbrev cX4_fewestToTrade : ByteArray := prog_6_method_8_code
def yX4_fewestToTrade : MethodName := ⟨RX4, "fewestToTrade", "([I[IIII)I"⟩
abbrev cX4_spreadPairs : ByteArray := prog_6_method_9_code
def yX4_spreadPairs : MethodName := ⟨RX4, "spreadPairs", "([I[II)Z"⟩
abbrev cX4_likelihood : ByteArray := prog_6_method_10_code
def yX4_likelihood : MethodName := ⟨RX4, "likelihood", "([IIIII)I"⟩
abbrev cX4_addLeap : ByteArray := prog_6_method_11_code
def yX4_addLeap : MethodName := ⟨RX4, "addLeap", "([II)V"⟩
abbrev cX4_sumOver : ByteArray := prog_6_method_12_code
def yX4_sumOver : MethodName := ⟨RX4, "sumOver", "(I)I"⟩
def RX5 : String := "LeapBoard"
def TX5 : u_T := fun k => match k with
  | 0 => ("LeapBoard", "page", "LLeapBoard$Page;", true)
  | 1 => ("LeapBoard", "ground", "LLeapBoard$Ground;", true)
  | 2 => ("LeapBoard", "now", "LLeapBoard$Scene;", true)
  | 3 => ("LeapBoard", "kept", "LLeapBoard$Scene;", true)
  | 4 => ("LeapBoard", "trial", "LLeapBoard$Scene;", true)
  | 5 => ("LeapBoard", "trips", "LLeapBoard$Trips;", true)
  | 6 => ("LeapBoard", "draws", "LLeapBoard$Draws;", true)
  | 7 => ("LeapBoard", "isKept", "Z", false)
  | _ => ("LeapBoard", "reads", "I", false)
def tyX5 : Nat → FieldType := fun k => match k with
  | 0 => .object "LeapBoard$Page"
  | 1 => .object "LeapBoard$Ground"
  | 2 => .object "LeapBoard$Scene"
  | 3 => .object "LeapBoard$Scene"
  | 4 => .object "LeapBoard$Scene"
  | 5 => .object "LeapBoard$Trips"
  | 6 => .object "LeapBoard$Draws"
  | 7 => .boolean
  | _ => .int
abbrev wsX50 : List Cond := u_ws RX5 TX5 9
theorem nmX5 : ∀ a, a < 9 → ∀ b, b < 9 → a ≠ b → (TX5 a).2.1 ≠ (TX5 b).2.1 := by decide +kernel
theorem tyX5_ok : ∀ k, k < 9 → parseFieldDescriptor (TX5 k).2.2.1 = some (tyX5 k) := by decide +kernel
abbrev cX5_init : ByteArray := prog_1_method_1_code
def yX5_init : MethodName := ⟨RX5, "<init>", "()V"⟩
abbrev cX5_letter : ByteArray := prog_1_method_2_code
def yX5_letter : MethodName := ⟨RX5, "letter", "(I)I"⟩
abbrev cX5_blank : ByteArray := prog_1_method_3_code
def yX5_blank : MethodName := ⟨RX5, "blank", "()I"⟩
abbrev cX5_fault : ByteArray := prog_1_method_4_code
def yX5_fault : MethodName := ⟨RX5, "fault", "()I"⟩
abbrev cX5_board : ByteArray := prog_1_method_5_code
def yX5_board : MethodName := ⟨RX5, "board", "()I"⟩
abbrev cX5_leaper : ByteArray := prog_1_method_6_code
def yX5_leaper : MethodName := ⟨RX5, "leaper", "(II)I"⟩
abbrev cX5_as : ByteArray := prog_1_method_7_code
def yX5_as : MethodName := ⟨RX5, "as", "(II)I"⟩
abbrev cX5_cell : ByteArray := prog_1_method_8_code
def yX5_cell : MethodName := ⟨RX5, "cell", "(II)I"⟩
abbrev cX5_leap : ByteArray := prog_1_method_9_code
def yX5_leap : MethodName := ⟨RX5, "leap", "(II)I"⟩
abbrev cX5_dig : ByteArray := prog_1_method_10_code
def yX5_dig : MethodName := ⟨RX5, "dig", "(I)I"⟩
abbrev cX5_fill : ByteArray := prog_1_method_11_code
def yX5_fill : MethodName := ⟨RX5, "fill", "(I)I"⟩
abbrev cX5_be : ByteArray := prog_1_method_12_code
def yX5_be : MethodName := ⟨RX5, "be", "(II)I"⟩
abbrev cX5_hops : ByteArray := prog_1_method_13_code
def yX5_hops : MethodName := ⟨RX5, "hops", "(II)I"⟩
abbrev cX5_trade : ByteArray := prog_1_method_14_code
def yX5_trade : MethodName := ⟨RX5, "trade", "(II)I"⟩
abbrev cX5_peace : ByteArray := prog_1_method_15_code
def yX5_peace : MethodName := ⟨RX5, "peace", "(II)I"⟩
abbrev cX5_guard : ByteArray := prog_1_method_16_code
def yX5_guard : MethodName := ⟨RX5, "guard", "(II)I"⟩
abbrev cX5_parts : ByteArray := prog_1_method_17_code
def yX5_parts : MethodName := ⟨RX5, "parts", "(II)I"⟩
abbrev cX5_chance : ByteArray := prog_1_method_18_code
def yX5_chance : MethodName := ⟨RX5, "chance", "(III)I"⟩
abbrev cX5_see : ByteArray := prog_1_method_19_code
def yX5_see : MethodName := ⟨RX5, "see", "(IIIZ)I"⟩
abbrev cX5_forget : ByteArray := prog_1_method_20_code
def yX5_forget : MethodName := ⟨RX5, "forget", "()I"⟩
abbrev cX5_walks : ByteArray := prog_1_method_21_code
def yX5_walks : MethodName := ⟨RX5, "walks", "(III)I"⟩
abbrev cX5_image : ByteArray := prog_1_method_22_code
def yX5_image : MethodName := ⟨RX5, "image", "()I"⟩
abbrev cX5_restore : ByteArray := prog_1_method_23_code
def yX5_restore : MethodName := ⟨RX5, "restore", "()I"⟩
abbrev cX5_count : ByteArray := prog_1_method_24_code
def yX5_count : MethodName := ⟨RX5, "count", "(I)I"⟩
abbrev cX5_digest : ByteArray := prog_1_method_25_code
def yX5_digest : MethodName := ⟨RX5, "digest", "()J"⟩
abbrev cX5_mix : ByteArray := prog_1_method_26_code
def yX5_mix : MethodName := ⟨RX5, "mix", "(JJ)J"⟩
abbrev cX5_mixLeapers : ByteArray := prog_1_method_27_code
def yX5_mixLeapers : MethodName := ⟨RX5, "mixLeapers", "(J)J"⟩
abbrev cX5_mixCells : ByteArray := prog_1_method_28_code
def yX5_mixCells : MethodName := ⟨RX5, "mixCells", "(J)J"⟩
abbrev cX5_mixKinds : ByteArray := prog_1_method_29_code
def yX5_mixKinds : MethodName := ⟨RX5, "mixKinds", "(J)J"⟩
abbrev cX5_fanOfLeaper : ByteArray := prog_1_method_30_code
def yX5_fanOfLeaper : MethodName := ⟨RX5, "fanOfLeaper", "(I)[I"⟩
abbrev cX5_watchedBy : ByteArray := prog_1_method_31_code
def yX5_watchedBy : MethodName := ⟨RX5, "watchedBy", "(LLeapBoard$Scene;I)I"⟩
abbrev cX5_goals : ByteArray := prog_1_method_32_code
def yX5_goals : MethodName := ⟨RX5, "goals", "(LLeapBoard$Scene;I)I"⟩
abbrev cX5_watchers : ByteArray := prog_1_method_33_code
def yX5_watchers : MethodName := ⟨RX5, "watchers", "(I)I"⟩
abbrev cX5_watchedEmpty : ByteArray := prog_1_method_34_code
def yX5_watchedEmpty : MethodName := ⟨RX5, "watchedEmpty", "(LLeapBoard$Scene;)I"⟩
abbrev cX5_walkTrial : ByteArray := prog_1_method_35_code
def yX5_walkTrial : MethodName := ⟨RX5, "walkTrial", "(II)V"⟩
abbrev cX5_isKind : ByteArray := prog_1_method_36_code
def yX5_isKind : MethodName := ⟨RX5, "isKind", "(I)Z"⟩
abbrev cX5_isOneOfTwo : ByteArray := prog_1_method_37_code
def yX5_isOneOfTwo : MethodName := ⟨RX5, "isOneOfTwo", "(I)Z"⟩
abbrev cX5_goes : ByteArray := prog_1_method_38_code
def yX5_goes : MethodName := ⟨RX5, "goes", "(III)Z"⟩
abbrev cX5_goers : ByteArray := prog_1_method_39_code
def yX5_goers : MethodName := ⟨RX5, "goers", "(II)I"⟩
abbrev cX5_bestAsk : ByteArray := prog_1_method_40_code
def yX5_bestAsk : MethodName := ⟨RX5, "bestAsk", "(I)I"⟩
abbrev cX5_has : ByteArray := prog_1_method_41_code
def yX5_has : MethodName := ⟨RX5, "has", "(II)Z"⟩
abbrev cX5_lowestOf : ByteArray := prog_1_method_42_code
def yX5_lowestOf : MethodName := ⟨RX5, "lowestOf", "(I)I"⟩
abbrev cX5_nthOf : ByteArray := prog_1_method_43_code
def yX5_nthOf : MethodName := ⟨RX5, "nthOf", "(II)I"⟩
def RX6 : String := "LeapBoardModel"
def TX6 : u_T := fun k => match k with
  | 0 => ("LeapBoardModel", "boards", "I", false)
  | 1 => ("LeapBoardModel", "high", "I", false)
  | 2 => ("LeapBoardModel", "wide", "I", false)
  | 3 => ("LeapBoardModel", "free", "I", false)
  | 4 => ("LeapBoardModel", "leapers", "I", false)
  | 5 => ("LeapBoardModel", "kindOf", "[I", true)
  | 6 => ("LeapBoardModel", "cellOf", "[I", true)
  | 7 => ("LeapBoardModel", "leaps", "I", false)
  | 8 => ("LeapBoardModel", "seen", "I", false)
  | 9 => ("LeapBoardModel", "seenLeaper", "[I", true)
  | 10 => ("LeapBoardModel", "seenRows", "[I", true)
  | 11 => ("LeapBoardModel", "seenColumns", "[I", true)
  | 12 => ("LeapBoardModel", "seenCan", "[I", true)
  | 13 => ("LeapBoardModel", "pageLength", "I", false)
  | 14 => ("LeapBoardModel", "page", "[B", true)
  | 15 => ("LeapBoardModel", "isWhole", "Z", false)
  | 16 => ("LeapBoardModel", "newCells", "I", false)
  | 17 => ("LeapBoardModel", "newFree", "I", false)
  | 18 => ("LeapBoardModel", "newLeapers", "I", false)
  | 19 => ("LeapBoardModel", "tradeBy", "[I", true)
  | 20 => ("LeapBoardModel", "tradeRow", "[I", true)
  | 21 => ("LeapBoardModel", "tradeLength", "I", false)
  | 22 => ("LeapBoardModel", "endsOf", "[I", true)
  | 23 => ("LeapBoardModel", "chanceBy", "[I", true)
  | 24 => ("LeapBoardModel", "chanceNext", "[I", true)
  | 25 => ("LeapBoardModel", "seedNow", "J", false)
  | 26 => ("LeapBoardModel", "savedCell", "[I", true)
  | 27 => ("LeapBoardModel", "isKept", "Z", false)
  | 28 => ("LeapBoardModel", "keptBoard", "I", false)
  | 29 => ("LeapBoardModel", "keptFree", "I", false)
  | 30 => ("LeapBoardModel", "keptLeaps", "I", false)
  | 31 => ("LeapBoardModel", "keptSeen", "I", false)
  | 32 => ("LeapBoardModel", "keptKind", "[I", true)
  | 33 => ("LeapBoardModel", "keptCell", "[I", true)
  | 34 => ("LeapBoardModel", "keptLeaper", "[I", true)
  | 35 => ("LeapBoardModel", "keptRows", "[I", true)
  | 36 => ("LeapBoardModel", "keptColumns", "[I", true)
  | 37 => ("LeapBoardModel", "keptCan", "[I", true)
  | _ => ("LeapBoardModel", "h", "J", false)
def tyX6 : Nat → FieldType := fun k => match k with
  | 0 => .int
  | 1 => .int
  | 2 => .int
  | 3 => .int
  | 4 => .int
  | 5 => .array .int
  | 6 => .array .int
  | 7 => .int
  | 8 => .int
  | 9 => .array .int
  | 10 => .array .int
  | 11 => .array .int
  | 12 => .array .int
  | 13 => .int
  | 14 => .array .byte
  | 15 => .boolean
  | 16 => .int
  | 17 => .int
  | 18 => .int
  | 19 => .array .int
  | 20 => .array .int
  | 21 => .int
  | 22 => .array .int
  | 23 => .array .int
  | 24 => .array .int
  | 25 => .long
  | 26 => .array .int
  | 27 => .boolean
  | 28 => .int
  | 29 => .int
  | 30 => .int
  | 31 => .int
  | 32 => .array .int
  | 33 => .array .int
  | 34 => .array .int
  | 35 => .array .int
  | 36 => .array .int
  | 37 => .array .int
  | _ => .long
abbrev wsX60 : List Cond := u_ws RX6 TX6 39
theorem nmX6 : ∀ a, a < 39 → ∀ b, b < 39 → a ≠ b → (TX6 a).2.1 ≠ (TX6 b).2.1 := by decide +kernel
theorem tyX6_ok : ∀ k, k < 39 → parseFieldDescriptor (TX6 k).2.2.1 = some (tyX6 k) := by decide +kernel
abbrev cX6_init : ByteArray := prog_8_method_1_code
def yX6_init : MethodName := ⟨RX6, "<init>", "()V"⟩
abbrev cX6_within : ByteArray := prog_8_method_3_code
def yX6_within : MethodName := ⟨RX6, "within", "(III)Z"⟩
abbrev cX6_isIn : ByteArray := prog_8_method_4_code
def yX6_isIn : MethodName := ⟨RX6, "isIn", "(II)Z"⟩
abbrev cX6_size : ByteArray := prog_8_method_5_code
def yX6_size : MethodName := ⟨RX6, "size", "(I)I"⟩
abbrev cX6_letter : ByteArray := prog_8_method_6_code
def yX6_letter : MethodName := ⟨RX6, "letter", "(I)I"⟩
abbrev cX6_blank : ByteArray := prog_8_method_7_code
def yX6_blank : MethodName := ⟨RX6, "blank", "()I"⟩
abbrev cX6_kindBy : ByteArray := prog_8_method_8_code
def yX6_kindBy : MethodName := ⟨RX6, "kindBy", "(I)I"⟩
abbrev cX6_at : ByteArray := prog_8_method_9_code
def yX6_at : MethodName := ⟨RX6, "at", "(I)I"⟩
abbrev cX6_readCells : ByteArray := prog_8_method_10_code
def yX6_readCells : MethodName := ⟨RX6, "readCells", "(I)I"⟩
abbrev cX6_readLeapers : ByteArray := prog_8_method_11_code
def yX6_readLeapers : MethodName := ⟨RX6, "readLeapers", "(I)I"⟩
abbrev cX6_read : ByteArray := prog_8_method_12_code
def yX6_read : MethodName := ⟨RX6, "read", "()I"⟩
abbrev cX6_fault : ByteArray := prog_8_method_13_code
def yX6_fault : MethodName := ⟨RX6, "fault", "()I"⟩
abbrev cX6_board : ByteArray := prog_8_method_14_code
def yX6_board : MethodName := ⟨RX6, "board", "()I"⟩
abbrev cX6_cells : ByteArray := prog_8_method_15_code
def yX6_cells : MethodName := ⟨RX6, "cells", "()I"⟩
abbrev cX6_isLeaper : ByteArray := prog_8_method_16_code
def yX6_isLeaper : MethodName := ⟨RX6, "isLeaper", "(I)Z"⟩
abbrev cX6_isCell : ByteArray := prog_8_method_17_code
def yX6_isCell : MethodName := ⟨RX6, "isCell", "(I)Z"⟩
abbrev cX6_isBy : ByteArray := prog_8_method_18_code
def yX6_isBy : MethodName := ⟨RX6, "isBy", "(IIII)Z"⟩
abbrev cX6_canBy : ByteArray := prog_8_method_19_code
def yX6_canBy : MethodName := ⟨RX6, "canBy", "(III)Z"⟩
abbrev cX6_apart : ByteArray := prog_8_method_20_code
def yX6_apart : MethodName := ⟨RX6, "apart", "(II)I"⟩
abbrev cX6_around : ByteArray := prog_8_method_21_code
def yX6_around : MethodName := ⟨RX6, "around", "(II)I"⟩
abbrev cX6_standing : ByteArray := prog_8_method_22_code
def yX6_standing : MethodName := ⟨RX6, "standing", "()I"⟩
abbrev cX6_watched : ByteArray := prog_8_method_23_code
def yX6_watched : MethodName := ⟨RX6, "watched", "(I)I"⟩
abbrev cX6_canGo : ByteArray := prog_8_method_24_code
def yX6_canGo : MethodName := ⟨RX6, "canGo", "(I)I"⟩
abbrev cX6_others : ByteArray := prog_8_method_25_code
def yX6_others : MethodName := ⟨RX6, "others", "(I)I"⟩
abbrev cX6_leaperNow : ByteArray := prog_8_method_26_code
def yX6_leaperNow : MethodName := ⟨RX6, "leaperNow", "(II)I"⟩
abbrev cX6_leaper : ByteArray := prog_8_method_27_code
def yX6_leaper : MethodName := ⟨RX6, "leaper", "(II)I"⟩
abbrev cX6_as : ByteArray := prog_8_method_28_code
def yX6_as : MethodName := ⟨RX6, "as", "(II)I"⟩
abbrev cX6_whoAt : ByteArray := prog_8_method_29_code
def yX6_whoAt : MethodName := ⟨RX6, "whoAt", "(I)I"⟩
abbrev cX6_watchersOf : ByteArray := prog_8_method_30_code
def yX6_watchersOf : MethodName := ⟨RX6, "watchersOf", "(I)I"⟩
abbrev cX6_cellNow : ByteArray := prog_8_method_31_code
def yX6_cellNow : MethodName := ⟨RX6, "cellNow", "(II)I"⟩
abbrev cX6_cell : ByteArray := prog_8_method_32_code
def yX6_cell : MethodName := ⟨RX6, "cell", "(II)I"⟩
abbrev cX6_leap : ByteArray := prog_8_method_33_code
def yX6_leap : MethodName := ⟨RX6, "leap", "(II)I"⟩
abbrev cX6_dig : ByteArray := prog_8_method_34_code
def yX6_dig : MethodName := ⟨RX6, "dig", "(I)I"⟩
abbrev cX6_fill : ByteArray := prog_8_method_35_code
def yX6_fill : MethodName := ⟨RX6, "fill", "(I)I"⟩
abbrev cX6_be : ByteArray := prog_8_method_36_code
def yX6_be : MethodName := ⟨RX6, "be", "(II)I"⟩
abbrev cX6_aroundAll : ByteArray := prog_8_method_37_code
def yX6_aroundAll : MethodName := ⟨RX6, "aroundAll", "(II)I"⟩
abbrev cX6_hopsNow : ByteArray := prog_8_method_38_code
def yX6_hopsNow : MethodName := ⟨RX6, "hopsNow", "(II)I"⟩
abbrev cX6_hops : ByteArray := prog_8_method_39_code
def yX6_hops : MethodName := ⟨RX6, "hops", "(II)I"⟩
abbrev cX6_comeTo : ByteArray := prog_8_method_40_code
def yX6_comeTo : MethodName := ⟨RX6, "comeTo", "(II)V"⟩
abbrev cX6_comeFrom : ByteArray := prog_8_method_41_code
def yX6_comeFrom : MethodName := ⟨RX6, "comeFrom", "(IIII)V"⟩
abbrev cX6_tradeNow : ByteArray := prog_8_method_42_code
def yX6_tradeNow : MethodName := ⟨RX6, "tradeNow", "(II)I"⟩
abbrev cX6_trade : ByteArray := prog_8_method_43_code
def yX6_trade : MethodName := ⟨RX6, "trade", "(II)I"⟩
abbrev cX6_goOn : ByteArray := prog_8_method_44_code
def yX6_goOn : MethodName := ⟨RX6, "goOn", "(III)V"⟩
abbrev cX6_longestBy : ByteArray := prog_8_method_45_code
def yX6_longestBy : MethodName := ⟨RX6, "longestBy", "(II)I"⟩
abbrev cX6_wayOf : ByteArray := prog_8_method_46_code
def yX6_wayOf : MethodName := ⟨RX6, "wayOf", "(II)I"⟩
abbrev cX6_peaceSet : ByteArray := prog_8_method_47_code
def yX6_peaceSet : MethodName := ⟨RX6, "peaceSet", "(I)I"⟩
abbrev cX6_guardSet : ByteArray := prog_8_method_48_code
def yX6_guardSet : MethodName := ⟨RX6, "guardSet", "(I)I"⟩
abbrev cX6_isKind : ByteArray := prog_8_method_49_code
def yX6_isKind : MethodName := ⟨RX6, "isKind", "(I)Z"⟩
abbrev cX6_refused : ByteArray := prog_8_method_50_code
def yX6_refused : MethodName := ⟨RX6, "refused", "(II)I"⟩
abbrev cX6_peaceNow : ByteArray := prog_8_method_51_code
def yX6_peaceNow : MethodName := ⟨RX6, "peaceNow", "(II)I"⟩
abbrev cX6_peace : ByteArray := prog_8_method_52_code
def yX6_peace : MethodName := ⟨RX6, "peace", "(II)I"⟩
abbrev cX6_guardNow : ByteArray := prog_8_method_53_code
def yX6_guardNow : MethodName := ⟨RX6, "guardNow", "(II)I"⟩
abbrev cX6_guard : ByteArray := prog_8_method_54_code
def yX6_guard : MethodName := ⟨RX6, "guard", "(II)I"⟩
abbrev cX6_partOf : ByteArray := prog_8_method_55_code
def yX6_partOf : MethodName := ⟨RX6, "partOf", "(II)I"⟩
abbrev cX6_partsNow : ByteArray := prog_8_method_56_code
def yX6_partsNow : MethodName := ⟨RX6, "partsNow", "(I)I"⟩
abbrev cX6_areShades : ByteArray := prog_8_method_57_code
def yX6_areShades : MethodName := ⟨RX6, "areShades", "(I)Z"⟩
abbrev cX6_partsTold : ByteArray := prog_8_method_58_code
def yX6_partsTold : MethodName := ⟨RX6, "partsTold", "(II)I"⟩
abbrev cX6_parts : ByteArray := prog_8_method_59_code
def yX6_parts : MethodName := ⟨RX6, "parts", "(II)I"⟩
abbrev cX6_chanceFrom : ByteArray := prog_8_method_60_code
def yX6_chanceFrom : MethodName := ⟨RX6, "chanceFrom", "(III)I"⟩
abbrev cX6_chanceNow : ByteArray := prog_8_method_61_code
def yX6_chanceNow : MethodName := ⟨RX6, "chanceNow", "(III)I"⟩
abbrev cX6_chance : ByteArray := prog_8_method_62_code
def yX6_chance : MethodName := ⟨RX6, "chance", "(III)I"⟩
abbrev cX6_see : ByteArray := prog_8_method_63_code
def yX6_see : MethodName := ⟨RX6, "see", "(IIIZ)I"⟩
abbrev cX6_forget : ByteArray := prog_8_method_64_code
def yX6_forget : MethodName := ⟨RX6, "forget", "()I"⟩
abbrev cX6_sortsOf : ByteArray := prog_8_method_65_code
def yX6_sortsOf : MethodName := ⟨RX6, "sortsOf", "(I)I"⟩
abbrev cX6_askOf : ByteArray := prog_8_method_66_code
def yX6_askOf : MethodName := ⟨RX6, "askOf", "(I)I"⟩
abbrev cX6_draw : ByteArray := prog_8_method_67_code
def yX6_draw : MethodName := ⟨RX6, "draw", "(I)I"⟩
abbrev cX6_ofSet : ByteArray := prog_8_method_68_code
def yX6_ofSet : MethodName := ⟨RX6, "ofSet", "(II)I"⟩
abbrev cX6_watchedFree : ByteArray := prog_8_method_69_code
def yX6_watchedFree : MethodName := ⟨RX6, "watchedFree", "()I"⟩
abbrev cX6_walksNow : ByteArray := prog_8_method_70_code
def yX6_walksNow : MethodName := ⟨RX6, "walksNow", "(III)I"⟩
abbrev cX6_walks : ByteArray := prog_8_method_71_code
def yX6_walks : MethodName := ⟨RX6, "walks", "(III)I"⟩
abbrev cX6_image : ByteArray := prog_8_method_72_code
def yX6_image : MethodName := ⟨RX6, "image", "()I"⟩
abbrev cX6_restore : ByteArray := prog_8_method_73_code
def yX6_restore : MethodName := ⟨RX6, "restore", "()I"⟩
abbrev cX6_howMany : ByteArray := prog_8_method_74_code
def yX6_howMany : MethodName := ⟨RX6, "howMany", "(I)I"⟩
abbrev cX6_count : ByteArray := prog_8_method_75_code
def yX6_count : MethodName := ⟨RX6, "count", "(I)I"⟩
abbrev cX6_mix : ByteArray := prog_8_method_76_code
def yX6_mix : MethodName := ⟨RX6, "mix", "(J)V"⟩
abbrev cX6_mixBoard : ByteArray := prog_8_method_77_code
def yX6_mixBoard : MethodName := ⟨RX6, "mixBoard", "()V"⟩
abbrev cX6_digest : ByteArray := prog_8_method_78_code
def yX6_digest : MethodName := ⟨RX6, "digest", "()J"⟩
def RJ11 : String := "java/lang/Character"
abbrev cJ11_isValidCodePoint_9a6ad : ByteArray := prog_9_method_11_code
def yJ11_isValidCodePoint_9a6ad : MethodName := ⟨RJ11, "isValidCodePoint", "(I)Z"⟩
abbrev cJ11_highSurrogate_5068e : ByteArray := prog_9_method_28_code
def yJ11_highSurrogate_5068e : MethodName := ⟨RJ11, "highSurrogate", "(I)C"⟩
abbrev cJ11_lowSurrogate_5068e : ByteArray := prog_9_method_29_code
def yJ11_lowSurrogate_5068e : MethodName := ⟨RJ11, "lowSurrogate", "(I)C"⟩
def RJ6 : String := "java/lang/Integer"
abbrev cJ6_bitCount_0f7a4 : ByteArray := prog_10_method_49_code
def yJ6_bitCount_0f7a4 : MethodName := ⟨RJ6, "bitCount", "(I)I"⟩
def RJ9 : String := "java/lang/Math"
abbrev cJ9_abs_0f7a4 : ByteArray := prog_11_method_59_code
def yJ9_abs_0f7a4 : MethodName := ⟨RJ9, "abs", "(I)I"⟩
abbrev cJ9_max_7cf53 : ByteArray := prog_11_method_65_code
def yJ9_max_7cf53 : MethodName := ⟨RJ9, "max", "(II)I"⟩
abbrev cJ9_min_7cf53 : ByteArray := prog_11_method_69_code
def yJ9_min_7cf53 : MethodName := ⟨RJ9, "min", "(II)I"⟩
def RJ0 : String := "java/lang/String"
abbrev cJ0_length_8abf5 : ByteArray := prog_12_method_54_code
def yJ0_length_8abf5 : MethodName := ⟨RJ0, "length", "()I"⟩
abbrev cJ0_indexOf_0f7a4 : ByteArray := prog_12_method_79_code
def yJ0_indexOf_0f7a4 : MethodName := ⟨RJ0, "indexOf", "(I)I"⟩
abbrev cJ0_indexOf_7cf53 : ByteArray := prog_12_method_80_code
def yJ0_indexOf_7cf53 : MethodName := ⟨RJ0, "indexOf", "(II)I"⟩
abbrev cJ0_coder_7d493 : ByteArray := prog_12_method_152_code
def yJ0_coder_7d493 : MethodName := ⟨RJ0, "coder", "()B"⟩
abbrev cJ0_isLatin1_aae02 : ByteArray := prog_12_method_154_code
def yJ0_isLatin1_aae02 : MethodName := ⟨RJ0, "isLatin1", "()Z"⟩
abbrev cJ0_checkBoundsBeginEnd_23922 : ByteArray := prog_12_method_158_code
def yJ0_checkBoundsBeginEnd_23922 : MethodName := ⟨RJ0, "checkBoundsBeginEnd", "(III)V"⟩
def RJ1 : String := "java/lang/StringLatin1"
abbrev cJ1_canEncode_9a6ad : ByteArray := prog_13_method_4_code
def yJ1_canEncode_9a6ad : MethodName := ⟨RJ1, "canEncode", "(I)Z"⟩
abbrev cJ1_indexOf_4cfef : ByteArray := prog_13_method_22_code
def yJ1_indexOf_4cfef : MethodName := ⟨RJ1, "indexOf", "([BIII)I"⟩
abbrev cJ1_indexOfChar_4cfef : ByteArray := prog_13_method_23_code
def yJ1_indexOfChar_4cfef : MethodName := ⟨RJ1, "indexOfChar", "([BIII)I"⟩
def RJ2 : String := "java/lang/StringUTF16"
abbrev cJ2_getChar_3b067 : ByteArray := prog_14_method_5_code
def yJ2_getChar_3b067 : MethodName := ⟨RJ2, "getChar", "([BI)C"⟩
abbrev cJ2_length_9d52b : ByteArray := prog_14_method_6_code
def yJ2_length_9d52b : MethodName := ⟨RJ2, "length", "([B)I"⟩
abbrev cJ2_indexOf_4cfef : ByteArray := prog_14_method_40_code
def yJ2_indexOf_4cfef : MethodName := ⟨RJ2, "indexOf", "([BIII)I"⟩
abbrev cJ2_indexOfChar_4cfef : ByteArray := prog_14_method_47_code
def yJ2_indexOfChar_4cfef : MethodName := ⟨RJ2, "indexOfChar", "([BIII)I"⟩
abbrev cJ2_indexOfCharUnsafe_4cfef : ByteArray := prog_14_method_48_code
def yJ2_indexOfCharUnsafe_4cfef : MethodName := ⟨RJ2, "indexOfCharUnsafe", "([BIII)I"⟩
abbrev cJ2_indexOfSupplementary_4cfef : ByteArray := prog_14_method_49_code
def yJ2_indexOfSupplementary_4cfef : MethodName := ⟨RJ2, "indexOfSupplementary", "([BIII)I"⟩
abbrev cJ2_checkBoundsBeginEnd_d044e : ByteArray := prog_14_method_93_code
def yJ2_checkBoundsBeginEnd_d044e : MethodName := ⟨RJ2, "checkBoundsBeginEnd", "(II[B)V"⟩
def RJ3 : String := "jdk/internal/util/Preconditions"
abbrev cJ3_checkFromToIndex_8c36e : ByteArray := prog_15_method_12_code
def yJ3_checkFromToIndex_8c36e : MethodName := ⟨RJ3, "checkFromToIndex", "(IIILjava/util/function/BiFunction;)I"⟩
def RL : String := "LeapBoardLaw"
abbrev cL_law : ByteArray := code
def yL_law : MethodName := ⟨RL, "law", "([I)Z"⟩
abbrev vwCl : List vw_C := [(RX0, TX0, 1), (RX1, TX1, 4), (RX2, TX2, 3), (RX3, TX3, 8), (RX4, TX4, 6), (RX5, TX5, 9), (RX6, TX6, 39)]
end
section
/-! ===== words, by their places ===== -/
abbrev MI : Type := MethodName × ByteArray × Nat × Option FieldType × Nat
def UW : List Cond := lw_tbl.filter goodWord
theorem uw {w : Cond} (i : Nat) (h : lw_tbl[i]? = some w) (g : goodWord w = true) : w ∈ UW := List.mem_filter.mpr ⟨List.mem_of_getElem? h, g⟩
theorem uw_good {w : Cond} (h : w ∈ UW) : (w.onTables && w.keeps) = true ∨ ∃ ty, w = .arrayClass ty := good_of_word (List.mem_filter.mp h).2
def mOK (mi : MI) : Prop := Cond.code mi.1 mi.2.1 mi.2.2.1 mi.2.2.2.1 ∈ UW ∧ Cond.initialized mi.1.cls ∈ UW ∧ (mi.1.cls ≠ "java/lang/invoke/MethodHandle" ∧ mi.1.cls ≠ "java/lang/invoke/VarHandle") ∧ (parseMethodDescriptor mi.1.desc).map (fun d => d.parameters.length) = some mi.2.2.2.2 ∧ plainName mi.1.cls = true ∧ mi.2.2.1 ≤ 40
def mS (mi : MI) : Prop := mOK mi ∧ Cond.static mi.1 ∈ UW
def mV (mi : MI) : Prop := mOK mi ∧ Cond.instanceMethod mi.1 ∈ UW ∧ Cond.selects mi.1.cls mi.1 mi.1 ∈ UW
abbrev mX0_init : MI := (yX0_init, cX0_init, 1, none, 0)
theorem okX0_init : mOK mX0_init ∧ Cond.instanceMethod mX0_init.1 ∈ UW := ⟨⟨uw 193 (by decide +kernel) (by decide +kernel), uw 68 (by decide +kernel) (by decide +kernel), by decide +kernel, by decide +kernel, by decide +kernel, by decide +kernel⟩, uw 192 (by decide +kernel) (by decide +kernel)⟩
abbrev mX0_next : MI := (yX0_next, cX0_next, 2, (some .int), 1)
theorem okX0_next : mV mX0_next := ⟨⟨uw 646 (by decide +kernel) (by decide +kernel), uw 68 (by decide +kernel) (by decide +kernel), by decide +kernel, by decide +kernel, by decide +kernel, by decide +kernel⟩, uw 644 (by decide +kernel) (by decide +kernel), uw 645 (by decide +kernel) (by decide +kernel)⟩
abbrev mX1_init : MI := (yX1_init, cX1_init, 1, none, 0)
theorem okX1_init : mOK mX1_init ∧ Cond.instanceMethod mX1_init.1 ∈ UW := ⟨⟨uw 107 (by decide +kernel) (by decide +kernel), uw 65 (by decide +kernel) (by decide +kernel), by decide +kernel, by decide +kernel, by decide +kernel, by decide +kernel⟩, uw 106 (by decide +kernel) (by decide +kernel)⟩
abbrev mX1_lay : MI := (yX1_lay, cX1_lay, 5, none, 2)
theorem okX1_lay : mV mX1_lay := ⟨⟨uw 385 (by decide +kernel) (by decide +kernel), uw 65 (by decide +kernel) (by decide +kernel), by decide +kernel, by decide +kernel, by decide +kernel, by decide +kernel⟩, uw 383 (by decide +kernel) (by decide +kernel), uw 384 (by decide +kernel) (by decide +kernel)⟩
abbrev mX1_hasCell : MI := (yX1_hasCell, cX1_hasCell, 2, (some .boolean), 1)
theorem okX1_hasCell : mV mX1_hasCell := ⟨⟨uw 517 (by decide +kernel) (by decide +kernel), uw 65 (by decide +kernel) (by decide +kernel), by decide +kernel, by decide +kernel, by decide +kernel, by decide +kernel⟩, uw 515 (by decide +kernel) (by decide +kernel), uw 516 (by decide +kernel) (by decide +kernel)⟩
abbrev mX1_fanOf : MI := (yX1_fanOf, cX1_fanOf, 2, (some (.array .int)), 1)
theorem okX1_fanOf : mV mX1_fanOf := ⟨⟨uw 435 (by decide +kernel) (by decide +kernel), uw 65 (by decide +kernel) (by decide +kernel), by decide +kernel, by decide +kernel, by decide +kernel, by decide +kernel⟩, uw 433 (by decide +kernel) (by decide +kernel), uw 434 (by decide +kernel) (by decide +kernel)⟩
abbrev mX1_fanFrom : MI := (yX1_fanFrom, cX1_fanFrom, 7, (some .int), 2)
theorem okX1_fanFrom : mV mX1_fanFrom := ⟨⟨uw 389 (by decide +kernel) (by decide +kernel), uw 65 (by decide +kernel) (by decide +kernel), by decide +kernel, by decide +kernel, by decide +kernel, by decide +kernel⟩, uw 388 (by decide +kernel) (by decide +kernel), uw 3 (by decide +kernel) (by decide +kernel)⟩
abbrev mX1_spread : MI := (yX1_spread, cX1_spread, 4, (some .int), 2)
theorem okX1_spread : mS mX1_spread := ⟨⟨uw 481 (by decide +kernel) (by decide +kernel), uw 65 (by decide +kernel) (by decide +kernel), by decide +kernel, by decide +kernel, by decide +kernel, by decide +kernel⟩, uw 480 (by decide +kernel) (by decide +kernel)⟩
abbrev mX1_partAround : MI := (yX1_partAround, cX1_partAround, 6, (some .int), 3)
theorem okX1_partAround : mS mX1_partAround := ⟨⟨uw 478 (by decide +kernel) (by decide +kernel), uw 65 (by decide +kernel) (by decide +kernel), by decide +kernel, by decide +kernel, by decide +kernel, by decide +kernel⟩, uw 477 (by decide +kernel) (by decide +kernel)⟩
abbrev mX1_partCount : MI := (yX1_partCount, cX1_partCount, 5, (some .int), 2)
theorem okX1_partCount : mS mX1_partCount := ⟨⟨uw 597 (by decide +kernel) (by decide +kernel), uw 65 (by decide +kernel) (by decide +kernel), by decide +kernel, by decide +kernel, by decide +kernel, by decide +kernel⟩, uw 596 (by decide +kernel) (by decide +kernel)⟩
abbrev mX1_isTwoShaded : MI := (yX1_isTwoShaded, cX1_isTwoShaded, 7, (some .boolean), 2)
theorem okX1_isTwoShaded : mS mX1_isTwoShaded := ⟨⟨uw 601 (by decide +kernel) (by decide +kernel), uw 65 (by decide +kernel) (by decide +kernel), by decide +kernel, by decide +kernel, by decide +kernel, by decide +kernel⟩, uw 600 (by decide +kernel) (by decide +kernel)⟩
abbrev mX1_mostInPeace : MI := (yX1_mostInPeace, cX1_mostInPeace, 7, (some .int), 3)
theorem okX1_mostInPeace : mS mX1_mostInPeace := ⟨⟨uw 575 (by decide +kernel) (by decide +kernel), uw 65 (by decide +kernel) (by decide +kernel), by decide +kernel, by decide +kernel, by decide +kernel, by decide +kernel⟩, uw 574 (by decide +kernel) (by decide +kernel)⟩
abbrev mX1_isLarger : MI := (yX1_isLarger, cX1_isLarger, 2, (some .boolean), 2)
theorem okX1_isLarger : mS mX1_isLarger := ⟨⟨uw 580 (by decide +kernel) (by decide +kernel), uw 65 (by decide +kernel) (by decide +kernel), by decide +kernel, by decide +kernel, by decide +kernel, by decide +kernel⟩, uw 579 (by decide +kernel) (by decide +kernel)⟩
abbrev mX1_fewestGuards : MI := (yX1_fewestGuards, cX1_fewestGuards, 12, (some .int), 6)
theorem okX1_fewestGuards : mS mX1_fewestGuards := ⟨⟨uw 588 (by decide +kernel) (by decide +kernel), uw 65 (by decide +kernel) (by decide +kernel), by decide +kernel, by decide +kernel, by decide +kernel, by decide +kernel⟩, uw 587 (by decide +kernel) (by decide +kernel)⟩
abbrev mX2_init : MI := (yX2_init, cX2_init, 1, none, 0)
theorem okX2_init : mOK mX2_init ∧ Cond.instanceMethod mX2_init.1 ∈ UW := ⟨⟨uw 89 (by decide +kernel) (by decide +kernel), uw 64 (by decide +kernel) (by decide +kernel), by decide +kernel, by decide +kernel, by decide +kernel, by decide +kernel⟩, uw 88 (by decide +kernel) (by decide +kernel)⟩
abbrev mX2_put : MI := (yX2_put, cX2_put, 2, (some .boolean), 1)
theorem okX2_put : mV mX2_put := ⟨⟨uw 235 (by decide +kernel) (by decide +kernel), uw 64 (by decide +kernel) (by decide +kernel), by decide +kernel, by decide +kernel, by decide +kernel, by decide +kernel⟩, uw 233 (by decide +kernel) (by decide +kernel), uw 234 (by decide +kernel) (by decide +kernel)⟩
abbrev mX2_clear : MI := (yX2_clear, cX2_clear, 2, (some .int), 0)
theorem okX2_clear : mV mX2_clear := ⟨⟨uw 255 (by decide +kernel) (by decide +kernel), uw 64 (by decide +kernel) (by decide +kernel), by decide +kernel, by decide +kernel, by decide +kernel, by decide +kernel⟩, uw 253 (by decide +kernel) (by decide +kernel), uw 254 (by decide +kernel) (by decide +kernel)⟩
abbrev mX2_at : MI := (yX2_at, cX2_at, 2, (some .int), 1)
theorem okX2_at : mV mX2_at := ⟨⟨uw 243 (by decide +kernel) (by decide +kernel), uw 64 (by decide +kernel) (by decide +kernel), by decide +kernel, by decide +kernel, by decide +kernel, by decide +kernel⟩, uw 241 (by decide +kernel) (by decide +kernel), uw 242 (by decide +kernel) (by decide +kernel)⟩
abbrev mX2_firstFault : MI := (yX2_firstFault, cX2_firstFault, 2, (some .int), 0)
theorem okX2_firstFault : mV mX2_firstFault := ⟨⟨uw 263 (by decide +kernel) (by decide +kernel), uw 64 (by decide +kernel) (by decide +kernel), by decide +kernel, by decide +kernel, by decide +kernel, by decide +kernel⟩, uw 261 (by decide +kernel) (by decide +kernel), uw 262 (by decide +kernel) (by decide +kernel)⟩
abbrev mX2_isWhole : MI := (yX2_isWhole, cX2_isWhole, 2, (some .boolean), 0)
theorem okX2_isWhole : mV mX2_isWhole := ⟨⟨uw 378 (by decide +kernel) (by decide +kernel), uw 64 (by decide +kernel) (by decide +kernel), by decide +kernel, by decide +kernel, by decide +kernel, by decide +kernel⟩, uw 376 (by decide +kernel) (by decide +kernel), uw 377 (by decide +kernel) (by decide +kernel)⟩
abbrev mX2_rows : MI := (yX2_rows, cX2_rows, 1, (some .int), 0)
theorem okX2_rows : mV mX2_rows := ⟨⟨uw 239 (by decide +kernel) (by decide +kernel), uw 64 (by decide +kernel) (by decide +kernel), by decide +kernel, by decide +kernel, by decide +kernel, by decide +kernel⟩, uw 237 (by decide +kernel) (by decide +kernel), uw 238 (by decide +kernel) (by decide +kernel)⟩
abbrev mX2_columns : MI := (yX2_columns, cX2_columns, 1, (some .int), 0)
theorem okX2_columns : mV mX2_columns := ⟨⟨uw 247 (by decide +kernel) (by decide +kernel), uw 64 (by decide +kernel) (by decide +kernel), by decide +kernel, by decide +kernel, by decide +kernel, by decide +kernel⟩, uw 245 (by decide +kernel) (by decide +kernel), uw 246 (by decide +kernel) (by decide +kernel)⟩
abbrev mX2_freeCells : MI := (yX2_freeCells, cX2_freeCells, 3, (some .int), 0)
theorem okX2_freeCells : mV mX2_freeCells := ⟨⟨uw 401 (by decide +kernel) (by decide +kernel), uw 64 (by decide +kernel) (by decide +kernel), by decide +kernel, by decide +kernel, by decide +kernel, by decide +kernel⟩, uw 399 (by decide +kernel) (by decide +kernel), uw 400 (by decide +kernel) (by decide +kernel)⟩
abbrev mX2_leapers : MI := (yX2_leapers, cX2_leapers, 1, (some .int), 0)
theorem okX2_leapers : mV mX2_leapers := ⟨⟨uw 405 (by decide +kernel) (by decide +kernel), uw 64 (by decide +kernel) (by decide +kernel), by decide +kernel, by decide +kernel, by decide +kernel, by decide +kernel⟩, uw 403 (by decide +kernel) (by decide +kernel), uw 404 (by decide +kernel) (by decide +kernel)⟩
abbrev mX2_kindOf : MI := (yX2_kindOf, cX2_kindOf, 2, (some .int), 1)
theorem okX2_kindOf : mV mX2_kindOf := ⟨⟨uw 409 (by decide +kernel) (by decide +kernel), uw 64 (by decide +kernel) (by decide +kernel), by decide +kernel, by decide +kernel, by decide +kernel, by decide +kernel⟩, uw 407 (by decide +kernel) (by decide +kernel), uw 408 (by decide +kernel) (by decide +kernel)⟩
abbrev mX2_standOf : MI := (yX2_standOf, cX2_standOf, 2, (some .int), 1)
theorem okX2_standOf : mV mX2_standOf := ⟨⟨uw 369 (by decide +kernel) (by decide +kernel), uw 64 (by decide +kernel) (by decide +kernel), by decide +kernel, by decide +kernel, by decide +kernel, by decide +kernel⟩, uw 367 (by decide +kernel) (by decide +kernel), uw 368 (by decide +kernel) (by decide +kernel)⟩
abbrev mX2_kindPlace : MI := (yX2_kindPlace, cX2_kindPlace, 2, (some .int), 1)
theorem okX2_kindPlace : mV mX2_kindPlace := ⟨⟨uw 271 (by decide +kernel) (by decide +kernel), uw 64 (by decide +kernel) (by decide +kernel), by decide +kernel, by decide +kernel, by decide +kernel, by decide +kernel⟩, uw 270 (by decide +kernel) (by decide +kernel), uw 1 (by decide +kernel) (by decide +kernel)⟩
abbrev mX2_kindFor : MI := (yX2_kindFor, cX2_kindFor, 1, (some .int), 1)
theorem okX2_kindFor : mS mX2_kindFor := ⟨⟨uw 274 (by decide +kernel) (by decide +kernel), uw 64 (by decide +kernel) (by decide +kernel), by decide +kernel, by decide +kernel, by decide +kernel, by decide +kernel⟩, uw 273 (by decide +kernel) (by decide +kernel)⟩
abbrev mX2_fits : MI := (yX2_fits, cX2_fits, 5, (some .boolean), 1)
theorem okX2_fits : mV mX2_fits := ⟨⟨uw 267 (by decide +kernel) (by decide +kernel), uw 64 (by decide +kernel) (by decide +kernel), by decide +kernel, by decide +kernel, by decide +kernel, by decide +kernel⟩, uw 266 (by decide +kernel) (by decide +kernel), uw 0 (by decide +kernel) (by decide +kernel)⟩
abbrev mX2_isOpenTo : MI := (yX2_isOpenTo, cX2_isOpenTo, 4, (some .boolean), 1)
theorem okX2_isOpenTo : mV mX2_isOpenTo := ⟨⟨uw 365 (by decide +kernel) (by decide +kernel), uw 64 (by decide +kernel) (by decide +kernel), by decide +kernel, by decide +kernel, by decide +kernel, by decide +kernel⟩, uw 364 (by decide +kernel) (by decide +kernel), uw 2 (by decide +kernel) (by decide +kernel)⟩
abbrev mX3_init : MI := (yX3_init, cX3_init, 1, none, 0)
theorem okX3_init : mOK mX3_init ∧ Cond.instanceMethod mX3_init.1 ∈ UW := ⟨⟨uw 131 (by decide +kernel) (by decide +kernel), uw 66 (by decide +kernel) (by decide +kernel), by decide +kernel, by decide +kernel, by decide +kernel, by decide +kernel⟩, uw 130 (by decide +kernel) (by decide +kernel)⟩
abbrev mX3_isThere : MI := (yX3_isThere, cX3_isThere, 1, (some .boolean), 0)
theorem okX3_isThere : mV mX3_isThere := ⟨⟨uw 572 (by decide +kernel) (by decide +kernel), uw 66 (by decide +kernel) (by decide +kernel), by decide +kernel, by decide +kernel, by decide +kernel, by decide +kernel⟩, uw 570 (by decide +kernel) (by decide +kernel), uw 571 (by decide +kernel) (by decide +kernel)⟩
abbrev mX3_hasLeaper : MI := (yX3_hasLeaper, cX3_hasLeaper, 2, (some .boolean), 1)
theorem okX3_hasLeaper : mV mX3_hasLeaper := ⟨⟨uw 418 (by decide +kernel) (by decide +kernel), uw 66 (by decide +kernel) (by decide +kernel), by decide +kernel, by decide +kernel, by decide +kernel, by decide +kernel⟩, uw 416 (by decide +kernel) (by decide +kernel), uw 417 (by decide +kernel) (by decide +kernel)⟩
abbrev mX3_kindOf : MI := (yX3_kindOf, cX3_kindOf, 2, (some .int), 1)
theorem okX3_kindOf : mV mX3_kindOf := ⟨⟨uw 422 (by decide +kernel) (by decide +kernel), uw 66 (by decide +kernel) (by decide +kernel), by decide +kernel, by decide +kernel, by decide +kernel, by decide +kernel⟩, uw 420 (by decide +kernel) (by decide +kernel), uw 421 (by decide +kernel) (by decide +kernel)⟩
abbrev mX3_standOf : MI := (yX3_standOf, cX3_standOf, 2, (some .int), 1)
theorem okX3_standOf : mV mX3_standOf := ⟨⟨uw 427 (by decide +kernel) (by decide +kernel), uw 66 (by decide +kernel) (by decide +kernel), by decide +kernel, by decide +kernel, by decide +kernel, by decide +kernel⟩, uw 425 (by decide +kernel) (by decide +kernel), uw 426 (by decide +kernel) (by decide +kernel)⟩
abbrev mX3_empty : MI := (yX3_empty, cX3_empty, 3, (some .int), 0)
theorem okX3_empty : mV mX3_empty := ⟨⟨uw 446 (by decide +kernel) (by decide +kernel), uw 66 (by decide +kernel) (by decide +kernel), by decide +kernel, by decide +kernel, by decide +kernel, by decide +kernel⟩, uw 444 (by decide +kernel) (by decide +kernel), uw 445 (by decide +kernel) (by decide +kernel)⟩
abbrev mX3_whoStands : MI := (yX3_whoStands, cX3_whoStands, 3, (some .int), 1)
theorem okX3_whoStands : mV mX3_whoStands := ⟨⟨uw 521 (by decide +kernel) (by decide +kernel), uw 66 (by decide +kernel) (by decide +kernel), by decide +kernel, by decide +kernel, by decide +kernel, by decide +kernel⟩, uw 519 (by decide +kernel) (by decide +kernel), uw 520 (by decide +kernel) (by decide +kernel)⟩
abbrev mX3_note : MI := (yX3_note, cX3_note, 3, (some .boolean), 2)
theorem okX3_note : mV mX3_note := ⟨⟨uw 626 (by decide +kernel) (by decide +kernel), uw 66 (by decide +kernel) (by decide +kernel), by decide +kernel, by decide +kernel, by decide +kernel, by decide +kernel⟩, uw 624 (by decide +kernel) (by decide +kernel), uw 625 (by decide +kernel) (by decide +kernel)⟩
abbrev mX3_sorts : MI := (yX3_sorts, cX3_sorts, 4, (some .int), 1)
theorem okX3_sorts : mV mX3_sorts := ⟨⟨uw 450 (by decide +kernel) (by decide +kernel), uw 66 (by decide +kernel) (by decide +kernel), by decide +kernel, by decide +kernel, by decide +kernel, by decide +kernel⟩, uw 448 (by decide +kernel) (by decide +kernel), uw 449 (by decide +kernel) (by decide +kernel)⟩
abbrev mX3_copy : MI := (yX3_copy, cX3_copy, 3, none, 1)
theorem okX3_copy : mV mX3_copy := ⟨⟨uw 642 (by decide +kernel) (by decide +kernel), uw 66 (by decide +kernel) (by decide +kernel), by decide +kernel, by decide +kernel, by decide +kernel, by decide +kernel⟩, uw 640 (by decide +kernel) (by decide +kernel), uw 641 (by decide +kernel) (by decide +kernel)⟩
abbrev mX4_init : MI := (yX4_init, cX4_init, 1, none, 0)
theorem okX4_init : mOK mX4_init ∧ Cond.instanceMethod mX4_init.1 ∈ UW := ⟨⟨uw 168 (by decide +kernel) (by decide +kernel), uw 67 (by decide +kernel) (by decide +kernel), by decide +kernel, by decide +kernel, by decide +kernel, by decide +kernel⟩, uw 167 (by decide +kernel) (by decide +kernel)⟩
abbrev mX4_fewest : MI := (yX4_fewest, cX4_fewest, 6, (some .int), 4)
theorem okX4_fewest : mS mX4_fewest := ⟨⟨uw 548 (by decide +kernel) (by decide +kernel), uw 67 (by decide +kernel) (by decide +kernel), by decide +kernel, by decide +kernel, by decide +kernel, by decide +kernel⟩, uw 547 (by decide +kernel) (by decide +kernel)⟩
abbrev mX4_longest : MI := (yX4_longest, cX4_longest, 4, (some .int), 3)
theorem okX4_longest : mV mX4_longest := ⟨⟨uw 471 (by decide +kernel) (by decide +kernel), uw 67 (by decide +kernel) (by decide +kernel), by decide +kernel, by decide +kernel, by decide +kernel, by decide +kernel⟩, uw 469 (by decide +kernel) (by decide +kernel), uw 470 (by decide +kernel) (by decide +kernel)⟩
abbrev mX4_firstOfLongest : MI := (yX4_firstOfLongest, cX4_firstOfLongest, 4, (some .int), 3)
theorem okX4_firstOfLongest : mV mX4_firstOfLongest := ⟨⟨uw 497 (by decide +kernel) (by decide +kernel), uw 67 (by decide +kernel) (by decide +kernel), by decide +kernel, by decide +kernel, by decide +kernel, by decide +kernel⟩, uw 495 (by decide +kernel) (by decide +kernel), uw 496 (by decide +kernel) (by decide +kernel)⟩
abbrev mX4_mostBehind : MI := (yX4_mostBehind, cX4_mostBehind, 2, (some .int), 0)
theorem okX4_mostBehind : mV mX4_mostBehind := ⟨⟨uw 493 (by decide +kernel) (by decide +kernel), uw 67 (by decide +kernel) (by decide +kernel), by decide +kernel, by decide +kernel, by decide +kernel, by decide +kernel⟩, uw 492 (by decide +kernel) (by decide +kernel), uw 9 (by decide +kernel) (by decide +kernel)⟩
abbrev mX4_findFirsts : MI := (yX4_findFirsts, cX4_findFirsts, 9, none, 3)
theorem okX4_findFirsts : mV mX4_findFirsts := ⟨⟨uw 475 (by decide +kernel) (by decide +kernel), uw 67 (by decide +kernel) (by decide +kernel), by decide +kernel, by decide +kernel, by decide +kernel, by decide +kernel⟩, uw 474 (by decide +kernel) (by decide +kernel), uw 7 (by decide +kernel) (by decide +kernel)⟩
abbrev mX4_startsOf : MI := (yX4_startsOf, cX4_startsOf, 6, (some .int), 2)
theorem okX4_startsOf : mV mX4_startsOf := ⟨⟨uw 485 (by decide +kernel) (by decide +kernel), uw 67 (by decide +kernel) (by decide +kernel), by decide +kernel, by decide +kernel, by decide +kernel, by decide +kernel⟩, uw 484 (by decide +kernel) (by decide +kernel), uw 8 (by decide +kernel) (by decide +kernel)⟩
abbrev mX4_fewestToTrade : MI := (yX4_fewestToTrade, cX4_fewestToTrade, 7, (some .int), 5)
theorem okX4_fewestToTrade : mV mX4_fewestToTrade := ⟨⟨uw 557 (by decide +kernel) (by decide +kernel), uw 67 (by decide +kernel) (by decide +kernel), by decide +kernel, by decide +kernel, by decide +kernel, by decide +kernel⟩, uw 555 (by decide +kernel) (by decide +kernel), uw 556 (by decide +kernel) (by decide +kernel)⟩
abbrev mX4_spreadPairs : MI := (yX4_spreadPairs, cX4_spreadPairs, 8, (some .boolean), 3)
theorem okX4_spreadPairs : mV mX4_spreadPairs := ⟨⟨uw 561 (by decide +kernel) (by decide +kernel), uw 67 (by decide +kernel) (by decide +kernel), by decide +kernel, by decide +kernel, by decide +kernel, by decide +kernel⟩, uw 560 (by decide +kernel) (by decide +kernel), uw 11 (by decide +kernel) (by decide +kernel)⟩
abbrev mX4_likelihood : MI := (yX4_likelihood, cX4_likelihood, 7, (some .int), 5)
theorem okX4_likelihood : mV mX4_likelihood := ⟨⟨uw 609 (by decide +kernel) (by decide +kernel), uw 67 (by decide +kernel) (by decide +kernel), by decide +kernel, by decide +kernel, by decide +kernel, by decide +kernel⟩, uw 607 (by decide +kernel) (by decide +kernel), uw 608 (by decide +kernel) (by decide +kernel)⟩
abbrev mX4_addLeap : MI := (yX4_addLeap, cX4_addLeap, 6, none, 2)
theorem okX4_addLeap : mV mX4_addLeap := ⟨⟨uw 614 (by decide +kernel) (by decide +kernel), uw 67 (by decide +kernel) (by decide +kernel), by decide +kernel, by decide +kernel, by decide +kernel, by decide +kernel⟩, uw 613 (by decide +kernel) (by decide +kernel), uw 12 (by decide +kernel) (by decide +kernel)⟩
abbrev mX4_sumOver : MI := (yX4_sumOver, cX4_sumOver, 4, (some .int), 1)
theorem okX4_sumOver : mV mX4_sumOver := ⟨⟨uw 618 (by decide +kernel) (by decide +kernel), uw 67 (by decide +kernel) (by decide +kernel), by decide +kernel, by decide +kernel, by decide +kernel, by decide +kernel⟩, uw 617 (by decide +kernel) (by decide +kernel), uw 13 (by decide +kernel) (by decide +kernel)⟩
abbrev mX5_init : MI := (yX5_init, cX5_init, 1, none, 0)
theorem okX5_init : mOK mX5_init ∧ Cond.instanceMethod mX5_init.1 ∈ UW := ⟨⟨uw 81 (by decide +kernel) (by decide +kernel), uw 63 (by decide +kernel) (by decide +kernel), by decide +kernel, by decide +kernel, by decide +kernel, by decide +kernel⟩, uw 80 (by decide +kernel) (by decide +kernel)⟩
abbrev mX5_letter : MI := (yX5_letter, cX5_letter, 2, (some .int), 1)
theorem okX5_letter : mV mX5_letter := ⟨⟨uw 231 (by decide +kernel) (by decide +kernel), uw 63 (by decide +kernel) (by decide +kernel), by decide +kernel, by decide +kernel, by decide +kernel, by decide +kernel⟩, uw 229 (by decide +kernel) (by decide +kernel), uw 230 (by decide +kernel) (by decide +kernel)⟩
abbrev mX5_blank : MI := (yX5_blank, cX5_blank, 1, (some .int), 0)
theorem okX5_blank : mV mX5_blank := ⟨⟨uw 251 (by decide +kernel) (by decide +kernel), uw 63 (by decide +kernel) (by decide +kernel), by decide +kernel, by decide +kernel, by decide +kernel, by decide +kernel⟩, uw 249 (by decide +kernel) (by decide +kernel), uw 250 (by decide +kernel) (by decide +kernel)⟩
abbrev mX5_fault : MI := (yX5_fault, cX5_fault, 1, (some .int), 0)
theorem okX5_fault : mV mX5_fault := ⟨⟨uw 259 (by decide +kernel) (by decide +kernel), uw 63 (by decide +kernel) (by decide +kernel), by decide +kernel, by decide +kernel, by decide +kernel, by decide +kernel⟩, uw 257 (by decide +kernel) (by decide +kernel), uw 258 (by decide +kernel) (by decide +kernel)⟩
abbrev mX5_board : MI := (yX5_board, cX5_board, 2, (some .int), 0)
theorem okX5_board : mV mX5_board := ⟨⟨uw 374 (by decide +kernel) (by decide +kernel), uw 63 (by decide +kernel) (by decide +kernel), by decide +kernel, by decide +kernel, by decide +kernel, by decide +kernel⟩, uw 372 (by decide +kernel) (by decide +kernel), uw 373 (by decide +kernel) (by decide +kernel)⟩
abbrev mX5_leaper : MI := (yX5_leaper, cX5_leaper, 3, (some .int), 2)
theorem okX5_leaper : mV mX5_leaper := ⟨⟨uw 414 (by decide +kernel) (by decide +kernel), uw 63 (by decide +kernel) (by decide +kernel), by decide +kernel, by decide +kernel, by decide +kernel, by decide +kernel⟩, uw 412 (by decide +kernel) (by decide +kernel), uw 413 (by decide +kernel) (by decide +kernel)⟩
abbrev mX5_as : MI := (yX5_as, cX5_as, 5, (some .int), 2)
theorem okX5_as : mV mX5_as := ⟨⟨uw 508 (by decide +kernel) (by decide +kernel), uw 63 (by decide +kernel) (by decide +kernel), by decide +kernel, by decide +kernel, by decide +kernel, by decide +kernel⟩, uw 506 (by decide +kernel) (by decide +kernel), uw 507 (by decide +kernel) (by decide +kernel)⟩
abbrev mX5_cell : MI := (yX5_cell, cX5_cell, 3, (some .int), 2)
theorem okX5_cell : mV mX5_cell := ⟨⟨uw 513 (by decide +kernel) (by decide +kernel), uw 63 (by decide +kernel) (by decide +kernel), by decide +kernel, by decide +kernel, by decide +kernel, by decide +kernel⟩, uw 511 (by decide +kernel) (by decide +kernel), uw 512 (by decide +kernel) (by decide +kernel)⟩
abbrev mX5_leap : MI := (yX5_leap, cX5_leap, 3, (some .int), 2)
theorem okX5_leap : mV mX5_leap := ⟨⟨uw 529 (by decide +kernel) (by decide +kernel), uw 63 (by decide +kernel) (by decide +kernel), by decide +kernel, by decide +kernel, by decide +kernel, by decide +kernel⟩, uw 527 (by decide +kernel) (by decide +kernel), uw 528 (by decide +kernel) (by decide +kernel)⟩
abbrev mX5_dig : MI := (yX5_dig, cX5_dig, 2, (some .int), 1)
theorem okX5_dig : mV mX5_dig := ⟨⟨uw 533 (by decide +kernel) (by decide +kernel), uw 63 (by decide +kernel) (by decide +kernel), by decide +kernel, by decide +kernel, by decide +kernel, by decide +kernel⟩, uw 531 (by decide +kernel) (by decide +kernel), uw 532 (by decide +kernel) (by decide +kernel)⟩
abbrev mX5_fill : MI := (yX5_fill, cX5_fill, 2, (some .int), 1)
theorem okX5_fill : mV mX5_fill := ⟨⟨uw 537 (by decide +kernel) (by decide +kernel), uw 63 (by decide +kernel) (by decide +kernel), by decide +kernel, by decide +kernel, by decide +kernel, by decide +kernel⟩, uw 535 (by decide +kernel) (by decide +kernel), uw 536 (by decide +kernel) (by decide +kernel)⟩
abbrev mX5_be : MI := (yX5_be, cX5_be, 4, (some .int), 2)
theorem okX5_be : mV mX5_be := ⟨⟨uw 541 (by decide +kernel) (by decide +kernel), uw 63 (by decide +kernel) (by decide +kernel), by decide +kernel, by decide +kernel, by decide +kernel, by decide +kernel⟩, uw 539 (by decide +kernel) (by decide +kernel), uw 540 (by decide +kernel) (by decide +kernel)⟩
abbrev mX5_hops : MI := (yX5_hops, cX5_hops, 4, (some .int), 2)
theorem okX5_hops : mV mX5_hops := ⟨⟨uw 545 (by decide +kernel) (by decide +kernel), uw 63 (by decide +kernel) (by decide +kernel), by decide +kernel, by decide +kernel, by decide +kernel, by decide +kernel⟩, uw 543 (by decide +kernel) (by decide +kernel), uw 544 (by decide +kernel) (by decide +kernel)⟩
abbrev mX5_trade : MI := (yX5_trade, cX5_trade, 6, (some .int), 2)
theorem okX5_trade : mV mX5_trade := ⟨⟨uw 553 (by decide +kernel) (by decide +kernel), uw 63 (by decide +kernel) (by decide +kernel), by decide +kernel, by decide +kernel, by decide +kernel, by decide +kernel⟩, uw 551 (by decide +kernel) (by decide +kernel), uw 552 (by decide +kernel) (by decide +kernel)⟩
abbrev mX5_peace : MI := (yX5_peace, cX5_peace, 4, (some .int), 2)
theorem okX5_peace : mV mX5_peace := ⟨⟨uw 565 (by decide +kernel) (by decide +kernel), uw 63 (by decide +kernel) (by decide +kernel), by decide +kernel, by decide +kernel, by decide +kernel, by decide +kernel⟩, uw 563 (by decide +kernel) (by decide +kernel), uw 564 (by decide +kernel) (by decide +kernel)⟩
abbrev mX5_guard : MI := (yX5_guard, cX5_guard, 4, (some .int), 2)
theorem okX5_guard : mV mX5_guard := ⟨⟨uw 585 (by decide +kernel) (by decide +kernel), uw 63 (by decide +kernel) (by decide +kernel), by decide +kernel, by decide +kernel, by decide +kernel, by decide +kernel⟩, uw 583 (by decide +kernel) (by decide +kernel), uw 584 (by decide +kernel) (by decide +kernel)⟩
abbrev mX5_parts : MI := (yX5_parts, cX5_parts, 4, (some .int), 2)
theorem okX5_parts : mV mX5_parts := ⟨⟨uw 594 (by decide +kernel) (by decide +kernel), uw 63 (by decide +kernel) (by decide +kernel), by decide +kernel, by decide +kernel, by decide +kernel, by decide +kernel⟩, uw 592 (by decide +kernel) (by decide +kernel), uw 593 (by decide +kernel) (by decide +kernel)⟩
abbrev mX5_chance : MI := (yX5_chance, cX5_chance, 6, (some .int), 3)
theorem okX5_chance : mV mX5_chance := ⟨⟨uw 605 (by decide +kernel) (by decide +kernel), uw 63 (by decide +kernel) (by decide +kernel), by decide +kernel, by decide +kernel, by decide +kernel, by decide +kernel⟩, uw 603 (by decide +kernel) (by decide +kernel), uw 604 (by decide +kernel) (by decide +kernel)⟩
abbrev mX5_see : MI := (yX5_see, cX5_see, 6, (some .int), 4)
theorem okX5_see : mV mX5_see := ⟨⟨uw 622 (by decide +kernel) (by decide +kernel), uw 63 (by decide +kernel) (by decide +kernel), by decide +kernel, by decide +kernel, by decide +kernel, by decide +kernel⟩, uw 620 (by decide +kernel) (by decide +kernel), uw 621 (by decide +kernel) (by decide +kernel)⟩
abbrev mX5_forget : MI := (yX5_forget, cX5_forget, 2, (some .int), 0)
theorem okX5_forget : mV mX5_forget := ⟨⟨uw 630 (by decide +kernel) (by decide +kernel), uw 63 (by decide +kernel) (by decide +kernel), by decide +kernel, by decide +kernel, by decide +kernel, by decide +kernel⟩, uw 628 (by decide +kernel) (by decide +kernel), uw 629 (by decide +kernel) (by decide +kernel)⟩
abbrev mX5_walks : MI := (yX5_walks, cX5_walks, 4, (some .int), 3)
theorem okX5_walks : mV mX5_walks := ⟨⟨uw 634 (by decide +kernel) (by decide +kernel), uw 63 (by decide +kernel) (by decide +kernel), by decide +kernel, by decide +kernel, by decide +kernel, by decide +kernel⟩, uw 632 (by decide +kernel) (by decide +kernel), uw 633 (by decide +kernel) (by decide +kernel)⟩
abbrev mX5_image : MI := (yX5_image, cX5_image, 1, (some .int), 0)
theorem okX5_image : mV mX5_image := ⟨⟨uw 658 (by decide +kernel) (by decide +kernel), uw 63 (by decide +kernel) (by decide +kernel), by decide +kernel, by decide +kernel, by decide +kernel, by decide +kernel⟩, uw 656 (by decide +kernel) (by decide +kernel), uw 657 (by decide +kernel) (by decide +kernel)⟩
abbrev mX5_restore : MI := (yX5_restore, cX5_restore, 1, (some .int), 0)
theorem okX5_restore : mV mX5_restore := ⟨⟨uw 662 (by decide +kernel) (by decide +kernel), uw 63 (by decide +kernel) (by decide +kernel), by decide +kernel, by decide +kernel, by decide +kernel, by decide +kernel⟩, uw 660 (by decide +kernel) (by decide +kernel), uw 661 (by decide +kernel) (by decide +kernel)⟩
abbrev mX5_count : MI := (yX5_count, cX5_count, 2, (some .int), 1)
theorem okX5_count : mV mX5_count := ⟨⟨uw 666 (by decide +kernel) (by decide +kernel), uw 63 (by decide +kernel) (by decide +kernel), by decide +kernel, by decide +kernel, by decide +kernel, by decide +kernel⟩, uw 664 (by decide +kernel) (by decide +kernel), uw 665 (by decide +kernel) (by decide +kernel)⟩
abbrev mX5_digest : MI := (yX5_digest, cX5_digest, 4, (some .long), 0)
theorem okX5_digest : mV mX5_digest := ⟨⟨uw 670 (by decide +kernel) (by decide +kernel), uw 63 (by decide +kernel) (by decide +kernel), by decide +kernel, by decide +kernel, by decide +kernel, by decide +kernel⟩, uw 668 (by decide +kernel) (by decide +kernel), uw 669 (by decide +kernel) (by decide +kernel)⟩
abbrev mX5_mix : MI := (yX5_mix, cX5_mix, 4, (some .long), 2)
theorem okX5_mix : mS mX5_mix := ⟨⟨uw 679 (by decide +kernel) (by decide +kernel), uw 63 (by decide +kernel) (by decide +kernel), by decide +kernel, by decide +kernel, by decide +kernel, by decide +kernel⟩, uw 678 (by decide +kernel) (by decide +kernel)⟩
abbrev mX5_mixLeapers : MI := (yX5_mixLeapers, cX5_mixLeapers, 7, (some .long), 1)
theorem okX5_mixLeapers : mV mX5_mixLeapers := ⟨⟨uw 675 (by decide +kernel) (by decide +kernel), uw 63 (by decide +kernel) (by decide +kernel), by decide +kernel, by decide +kernel, by decide +kernel, by decide +kernel⟩, uw 674 (by decide +kernel) (by decide +kernel), uw 16 (by decide +kernel) (by decide +kernel)⟩
abbrev mX5_mixCells : MI := (yX5_mixCells, cX5_mixCells, 7, (some .long), 1)
theorem okX5_mixCells : mV mX5_mixCells := ⟨⟨uw 686 (by decide +kernel) (by decide +kernel), uw 63 (by decide +kernel) (by decide +kernel), by decide +kernel, by decide +kernel, by decide +kernel, by decide +kernel⟩, uw 685 (by decide +kernel) (by decide +kernel), uw 17 (by decide +kernel) (by decide +kernel)⟩
abbrev mX5_mixKinds : MI := (yX5_mixKinds, cX5_mixKinds, 6, (some .long), 1)
theorem okX5_mixKinds : mV mX5_mixKinds := ⟨⟨uw 691 (by decide +kernel) (by decide +kernel), uw 63 (by decide +kernel) (by decide +kernel), by decide +kernel, by decide +kernel, by decide +kernel, by decide +kernel⟩, uw 690 (by decide +kernel) (by decide +kernel), uw 18 (by decide +kernel) (by decide +kernel)⟩
abbrev mX5_fanOfLeaper : MI := (yX5_fanOfLeaper, cX5_fanOfLeaper, 2, (some (.array .int)), 1)
theorem okX5_fanOfLeaper : mV mX5_fanOfLeaper := ⟨⟨uw 467 (by decide +kernel) (by decide +kernel), uw 63 (by decide +kernel) (by decide +kernel), by decide +kernel, by decide +kernel, by decide +kernel, by decide +kernel⟩, uw 466 (by decide +kernel) (by decide +kernel), uw 6 (by decide +kernel) (by decide +kernel)⟩
abbrev mX5_watchedBy : MI := (yX5_watchedBy, cX5_watchedBy, 5, (some .int), 2)
theorem okX5_watchedBy : mV mX5_watchedBy := ⟨⟨uw 431 (by decide +kernel) (by decide +kernel), uw 63 (by decide +kernel) (by decide +kernel), by decide +kernel, by decide +kernel, by decide +kernel, by decide +kernel⟩, uw 430 (by decide +kernel) (by decide +kernel), uw 4 (by decide +kernel) (by decide +kernel)⟩
abbrev mX5_goals : MI := (yX5_goals, cX5_goals, 3, (some .int), 2)
theorem okX5_goals : mV mX5_goals := ⟨⟨uw 442 (by decide +kernel) (by decide +kernel), uw 63 (by decide +kernel) (by decide +kernel), by decide +kernel, by decide +kernel, by decide +kernel, by decide +kernel⟩, uw 441 (by decide +kernel) (by decide +kernel), uw 5 (by decide +kernel) (by decide +kernel)⟩
abbrev mX5_watchers : MI := (yX5_watchers, cX5_watchers, 4, (some .int), 1)
theorem okX5_watchers : mV mX5_watchers := ⟨⟨uw 525 (by decide +kernel) (by decide +kernel), uw 63 (by decide +kernel) (by decide +kernel), by decide +kernel, by decide +kernel, by decide +kernel, by decide +kernel⟩, uw 524 (by decide +kernel) (by decide +kernel), uw 10 (by decide +kernel) (by decide +kernel)⟩
abbrev mX5_watchedEmpty : MI := (yX5_watchedEmpty, cX5_watchedEmpty, 4, (some .int), 1)
theorem okX5_watchedEmpty : mV mX5_watchedEmpty := ⟨⟨uw 654 (by decide +kernel) (by decide +kernel), uw 63 (by decide +kernel) (by decide +kernel), by decide +kernel, by decide +kernel, by decide +kernel, by decide +kernel⟩, uw 653 (by decide +kernel) (by decide +kernel), uw 15 (by decide +kernel) (by decide +kernel)⟩
abbrev mX5_walkTrial : MI := (yX5_walkTrial, cX5_walkTrial, 6, none, 2)
theorem okX5_walkTrial : mV mX5_walkTrial := ⟨⟨uw 638 (by decide +kernel) (by decide +kernel), uw 63 (by decide +kernel) (by decide +kernel), by decide +kernel, by decide +kernel, by decide +kernel, by decide +kernel⟩, uw 637 (by decide +kernel) (by decide +kernel), uw 14 (by decide +kernel) (by decide +kernel)⟩
abbrev mX5_isKind : MI := (yX5_isKind, cX5_isKind, 1, (some .boolean), 1)
theorem okX5_isKind : mS mX5_isKind := ⟨⟨uw 438 (by decide +kernel) (by decide +kernel), uw 63 (by decide +kernel) (by decide +kernel), by decide +kernel, by decide +kernel, by decide +kernel, by decide +kernel⟩, uw 437 (by decide +kernel) (by decide +kernel)⟩
abbrev mX5_isOneOfTwo : MI := (yX5_isOneOfTwo, cX5_isOneOfTwo, 1, (some .boolean), 1)
theorem okX5_isOneOfTwo : mS mX5_isOneOfTwo := ⟨⟨uw 568 (by decide +kernel) (by decide +kernel), uw 63 (by decide +kernel) (by decide +kernel), by decide +kernel, by decide +kernel, by decide +kernel, by decide +kernel⟩, uw 567 (by decide +kernel) (by decide +kernel)⟩
abbrev mX5_goes : MI := (yX5_goes, cX5_goes, 7, (some .boolean), 3)
theorem okX5_goes : mS mX5_goes := ⟨⟨uw 395 (by decide +kernel) (by decide +kernel), uw 63 (by decide +kernel) (by decide +kernel), by decide +kernel, by decide +kernel, by decide +kernel, by decide +kernel⟩, uw 394 (by decide +kernel) (by decide +kernel)⟩
abbrev mX5_goers : MI := (yX5_goers, cX5_goers, 4, (some .int), 2)
theorem okX5_goers : mS mX5_goers := ⟨⟨uw 456 (by decide +kernel) (by decide +kernel), uw 63 (by decide +kernel) (by decide +kernel), by decide +kernel, by decide +kernel, by decide +kernel, by decide +kernel⟩, uw 455 (by decide +kernel) (by decide +kernel)⟩
abbrev mX5_bestAsk : MI := (yX5_bestAsk, cX5_bestAsk, 7, (some .int), 1)
theorem okX5_bestAsk : mS mX5_bestAsk := ⟨⟨uw 453 (by decide +kernel) (by decide +kernel), uw 63 (by decide +kernel) (by decide +kernel), by decide +kernel, by decide +kernel, by decide +kernel, by decide +kernel⟩, uw 452 (by decide +kernel) (by decide +kernel)⟩
abbrev mX5_has : MI := (yX5_has, cX5_has, 2, (some .boolean), 2)
theorem okX5_has : mS mX5_has := ⟨⟨uw 488 (by decide +kernel) (by decide +kernel), uw 63 (by decide +kernel) (by decide +kernel), by decide +kernel, by decide +kernel, by decide +kernel, by decide +kernel⟩, uw 487 (by decide +kernel) (by decide +kernel)⟩
abbrev mX5_lowestOf : MI := (yX5_lowestOf, cX5_lowestOf, 1, (some .int), 1)
theorem okX5_lowestOf : mS mX5_lowestOf := ⟨⟨uw 500 (by decide +kernel) (by decide +kernel), uw 63 (by decide +kernel) (by decide +kernel), by decide +kernel, by decide +kernel, by decide +kernel, by decide +kernel⟩, uw 499 (by decide +kernel) (by decide +kernel)⟩
abbrev mX5_nthOf : MI := (yX5_nthOf, cX5_nthOf, 4, (some .int), 2)
theorem okX5_nthOf : mS mX5_nthOf := ⟨⟨uw 503 (by decide +kernel) (by decide +kernel), uw 63 (by decide +kernel) (by decide +kernel), by decide +kernel, by decide +kernel, by decide +kernel, by decide +kernel⟩, uw 502 (by decide +kernel) (by decide +kernel)⟩
abbrev mX6_init : MI := (yX6_init, cX6_init, 1, none, 0)
theorem okX6_init : mOK mX6_init ∧ Cond.instanceMethod mX6_init.1 ∈ UW := ⟨⟨uw 702 (by decide +kernel) (by decide +kernel), uw 69 (by decide +kernel) (by decide +kernel), by decide +kernel, by decide +kernel, by decide +kernel, by decide +kernel⟩, uw 701 (by decide +kernel) (by decide +kernel)⟩
abbrev mX6_within : MI := (yX6_within, cX6_within, 3, (some .boolean), 3)
theorem okX6_within : mS mX6_within := ⟨⟨uw 828 (by decide +kernel) (by decide +kernel), uw 69 (by decide +kernel) (by decide +kernel), by decide +kernel, by decide +kernel, by decide +kernel, by decide +kernel⟩, uw 827 (by decide +kernel) (by decide +kernel)⟩
abbrev mX6_isIn : MI := (yX6_isIn, cX6_isIn, 2, (some .boolean), 2)
theorem okX6_isIn : mS mX6_isIn := ⟨⟨uw 858 (by decide +kernel) (by decide +kernel), uw 69 (by decide +kernel) (by decide +kernel), by decide +kernel, by decide +kernel, by decide +kernel, by decide +kernel⟩, uw 857 (by decide +kernel) (by decide +kernel)⟩
abbrev mX6_size : MI := (yX6_size, cX6_size, 3, (some .int), 1)
theorem okX6_size : mS mX6_size := ⟨⟨uw 915 (by decide +kernel) (by decide +kernel), uw 69 (by decide +kernel) (by decide +kernel), by decide +kernel, by decide +kernel, by decide +kernel, by decide +kernel⟩, uw 914 (by decide +kernel) (by decide +kernel)⟩
abbrev mX6_letter : MI := (yX6_letter, cX6_letter, 2, (some .int), 1)
theorem okX6_letter : mV mX6_letter := ⟨⟨uw 825 (by decide +kernel) (by decide +kernel), uw 69 (by decide +kernel) (by decide +kernel), by decide +kernel, by decide +kernel, by decide +kernel, by decide +kernel⟩, uw 823 (by decide +kernel) (by decide +kernel), uw 824 (by decide +kernel) (by decide +kernel)⟩
abbrev mX6_blank : MI := (yX6_blank, cX6_blank, 2, (some .int), 0)
theorem okX6_blank : mV mX6_blank := ⟨⟨uw 832 (by decide +kernel) (by decide +kernel), uw 69 (by decide +kernel) (by decide +kernel), by decide +kernel, by decide +kernel, by decide +kernel, by decide +kernel⟩, uw 830 (by decide +kernel) (by decide +kernel), uw 831 (by decide +kernel) (by decide +kernel)⟩
abbrev mX6_kindBy : MI := (yX6_kindBy, cX6_kindBy, 1, (some .int), 1)
theorem okX6_kindBy : mS mX6_kindBy := ⟨⟨uw 855 (by decide +kernel) (by decide +kernel), uw 69 (by decide +kernel) (by decide +kernel), by decide +kernel, by decide +kernel, by decide +kernel, by decide +kernel⟩, uw 854 (by decide +kernel) (by decide +kernel)⟩
abbrev mX6_at : MI := (yX6_at, cX6_at, 2, (some .int), 1)
theorem okX6_at : mV mX6_at := ⟨⟨uw 844 (by decide +kernel) (by decide +kernel), uw 69 (by decide +kernel) (by decide +kernel), by decide +kernel, by decide +kernel, by decide +kernel, by decide +kernel⟩, uw 843 (by decide +kernel) (by decide +kernel), uw 20 (by decide +kernel) (by decide +kernel)⟩
abbrev mX6_readCells : MI := (yX6_readCells, cX6_readCells, 3, (some .int), 1)
theorem okX6_readCells : mV mX6_readCells := ⟨⟨uw 848 (by decide +kernel) (by decide +kernel), uw 69 (by decide +kernel) (by decide +kernel), by decide +kernel, by decide +kernel, by decide +kernel, by decide +kernel⟩, uw 847 (by decide +kernel) (by decide +kernel), uw 21 (by decide +kernel) (by decide +kernel)⟩
abbrev mX6_readLeapers : MI := (yX6_readLeapers, cX6_readLeapers, 5, (some .int), 1)
theorem okX6_readLeapers : mV mX6_readLeapers := ⟨⟨uw 852 (by decide +kernel) (by decide +kernel), uw 69 (by decide +kernel) (by decide +kernel), by decide +kernel, by decide +kernel, by decide +kernel, by decide +kernel⟩, uw 851 (by decide +kernel) (by decide +kernel), uw 22 (by decide +kernel) (by decide +kernel)⟩
abbrev mX6_read : MI := (yX6_read, cX6_read, 2, (some .int), 0)
theorem okX6_read : mV mX6_read := ⟨⟨uw 840 (by decide +kernel) (by decide +kernel), uw 69 (by decide +kernel) (by decide +kernel), by decide +kernel, by decide +kernel, by decide +kernel, by decide +kernel⟩, uw 839 (by decide +kernel) (by decide +kernel), uw 19 (by decide +kernel) (by decide +kernel)⟩
abbrev mX6_fault : MI := (yX6_fault, cX6_fault, 1, (some .int), 0)
theorem okX6_fault : mV mX6_fault := ⟨⟨uw 836 (by decide +kernel) (by decide +kernel), uw 69 (by decide +kernel) (by decide +kernel), by decide +kernel, by decide +kernel, by decide +kernel, by decide +kernel⟩, uw 834 (by decide +kernel) (by decide +kernel), uw 835 (by decide +kernel) (by decide +kernel)⟩
abbrev mX6_board : MI := (yX6_board, cX6_board, 3, (some .int), 0)
theorem okX6_board : mV mX6_board := ⟨⟨uw 862 (by decide +kernel) (by decide +kernel), uw 69 (by decide +kernel) (by decide +kernel), by decide +kernel, by decide +kernel, by decide +kernel, by decide +kernel⟩, uw 860 (by decide +kernel) (by decide +kernel), uw 861 (by decide +kernel) (by decide +kernel)⟩
abbrev mX6_cells : MI := (yX6_cells, cX6_cells, 1, (some .int), 0)
theorem okX6_cells : mV mX6_cells := ⟨⟨uw 866 (by decide +kernel) (by decide +kernel), uw 69 (by decide +kernel) (by decide +kernel), by decide +kernel, by decide +kernel, by decide +kernel, by decide +kernel⟩, uw 865 (by decide +kernel) (by decide +kernel), uw 23 (by decide +kernel) (by decide +kernel)⟩
abbrev mX6_isLeaper : MI := (yX6_isLeaper, cX6_isLeaper, 2, (some .boolean), 1)
theorem okX6_isLeaper : mV mX6_isLeaper := ⟨⟨uw 874 (by decide +kernel) (by decide +kernel), uw 69 (by decide +kernel) (by decide +kernel), by decide +kernel, by decide +kernel, by decide +kernel, by decide +kernel⟩, uw 873 (by decide +kernel) (by decide +kernel), uw 24 (by decide +kernel) (by decide +kernel)⟩
abbrev mX6_isCell : MI := (yX6_isCell, cX6_isCell, 2, (some .boolean), 1)
theorem okX6_isCell : mV mX6_isCell := ⟨⟨uw 943 (by decide +kernel) (by decide +kernel), uw 69 (by decide +kernel) (by decide +kernel), by decide +kernel, by decide +kernel, by decide +kernel, by decide +kernel⟩, uw 942 (by decide +kernel) (by decide +kernel), uw 36 (by decide +kernel) (by decide +kernel)⟩
abbrev mX6_isBy : MI := (yX6_isBy, cX6_isBy, 4, (some .boolean), 4)
theorem okX6_isBy : mS mX6_isBy := ⟨⟨uw 895 (by decide +kernel) (by decide +kernel), uw 69 (by decide +kernel) (by decide +kernel), by decide +kernel, by decide +kernel, by decide +kernel, by decide +kernel⟩, uw 894 (by decide +kernel) (by decide +kernel)⟩
abbrev mX6_canBy : MI := (yX6_canBy, cX6_canBy, 3, (some .boolean), 3)
theorem okX6_canBy : mS mX6_canBy := ⟨⟨uw 892 (by decide +kernel) (by decide +kernel), uw 69 (by decide +kernel) (by decide +kernel), by decide +kernel, by decide +kernel, by decide +kernel, by decide +kernel⟩, uw 891 (by decide +kernel) (by decide +kernel)⟩
abbrev mX6_apart : MI := (yX6_apart, cX6_apart, 2, (some .int), 2)
theorem okX6_apart : mS mX6_apart := ⟨⟨uw 889 (by decide +kernel) (by decide +kernel), uw 69 (by decide +kernel) (by decide +kernel), by decide +kernel, by decide +kernel, by decide +kernel, by decide +kernel⟩, uw 888 (by decide +kernel) (by decide +kernel)⟩
abbrev mX6_around : MI := (yX6_around, cX6_around, 6, (some .int), 2)
theorem okX6_around : mV mX6_around := ⟨⟨uw 886 (by decide +kernel) (by decide +kernel), uw 69 (by decide +kernel) (by decide +kernel), by decide +kernel, by decide +kernel, by decide +kernel, by decide +kernel⟩, uw 885 (by decide +kernel) (by decide +kernel), uw 27 (by decide +kernel) (by decide +kernel)⟩
abbrev mX6_standing : MI := (yX6_standing, cX6_standing, 3, (some .int), 0)
theorem okX6_standing : mV mX6_standing := ⟨⟨uw 903 (by decide +kernel) (by decide +kernel), uw 69 (by decide +kernel) (by decide +kernel), by decide +kernel, by decide +kernel, by decide +kernel, by decide +kernel⟩, uw 902 (by decide +kernel) (by decide +kernel), uw 29 (by decide +kernel) (by decide +kernel)⟩
abbrev mX6_watched : MI := (yX6_watched, cX6_watched, 2, (some .int), 1)
theorem okX6_watched : mV mX6_watched := ⟨⟨uw 882 (by decide +kernel) (by decide +kernel), uw 69 (by decide +kernel) (by decide +kernel), by decide +kernel, by decide +kernel, by decide +kernel, by decide +kernel⟩, uw 881 (by decide +kernel) (by decide +kernel), uw 26 (by decide +kernel) (by decide +kernel)⟩
abbrev mX6_canGo : MI := (yX6_canGo, cX6_canGo, 2, (some .int), 1)
theorem okX6_canGo : mV mX6_canGo := ⟨⟨uw 899 (by decide +kernel) (by decide +kernel), uw 69 (by decide +kernel) (by decide +kernel), by decide +kernel, by decide +kernel, by decide +kernel, by decide +kernel⟩, uw 898 (by decide +kernel) (by decide +kernel), uw 28 (by decide +kernel) (by decide +kernel)⟩
abbrev mX6_others : MI := (yX6_others, cX6_others, 2, (some .int), 1)
theorem okX6_others : mV mX6_others := ⟨⟨uw 927 (by decide +kernel) (by decide +kernel), uw 69 (by decide +kernel) (by decide +kernel), by decide +kernel, by decide +kernel, by decide +kernel, by decide +kernel⟩, uw 926 (by decide +kernel) (by decide +kernel), uw 34 (by decide +kernel) (by decide +kernel)⟩
abbrev mX6_leaperNow : MI := (yX6_leaperNow, cX6_leaperNow, 3, (some .int), 2)
theorem okX6_leaperNow : mV mX6_leaperNow := ⟨⟨uw 878 (by decide +kernel) (by decide +kernel), uw 69 (by decide +kernel) (by decide +kernel), by decide +kernel, by decide +kernel, by decide +kernel, by decide +kernel⟩, uw 877 (by decide +kernel) (by decide +kernel), uw 25 (by decide +kernel) (by decide +kernel)⟩
abbrev mX6_leaper : MI := (yX6_leaper, cX6_leaper, 3, (some .int), 2)
theorem okX6_leaper : mV mX6_leaper := ⟨⟨uw 870 (by decide +kernel) (by decide +kernel), uw 69 (by decide +kernel) (by decide +kernel), by decide +kernel, by decide +kernel, by decide +kernel, by decide +kernel⟩, uw 868 (by decide +kernel) (by decide +kernel), uw 869 (by decide +kernel) (by decide +kernel)⟩
abbrev mX6_as : MI := (yX6_as, cX6_as, 4, (some .int), 2)
theorem okX6_as : mV mX6_as := ⟨⟨uw 935 (by decide +kernel) (by decide +kernel), uw 69 (by decide +kernel) (by decide +kernel), by decide +kernel, by decide +kernel, by decide +kernel, by decide +kernel⟩, uw 933 (by decide +kernel) (by decide +kernel), uw 934 (by decide +kernel) (by decide +kernel)⟩
abbrev mX6_whoAt : MI := (yX6_whoAt, cX6_whoAt, 4, (some .int), 1)
theorem okX6_whoAt : mV mX6_whoAt := ⟨⟨uw 951 (by decide +kernel) (by decide +kernel), uw 69 (by decide +kernel) (by decide +kernel), by decide +kernel, by decide +kernel, by decide +kernel, by decide +kernel⟩, uw 950 (by decide +kernel) (by decide +kernel), uw 38 (by decide +kernel) (by decide +kernel)⟩
abbrev mX6_watchersOf : MI := (yX6_watchersOf, cX6_watchersOf, 4, (some .int), 1)
theorem okX6_watchersOf : mV mX6_watchersOf := ⟨⟨uw 955 (by decide +kernel) (by decide +kernel), uw 69 (by decide +kernel) (by decide +kernel), by decide +kernel, by decide +kernel, by decide +kernel, by decide +kernel⟩, uw 954 (by decide +kernel) (by decide +kernel), uw 39 (by decide +kernel) (by decide +kernel)⟩
abbrev mX6_cellNow : MI := (yX6_cellNow, cX6_cellNow, 3, (some .int), 2)
theorem okX6_cellNow : mV mX6_cellNow := ⟨⟨uw 947 (by decide +kernel) (by decide +kernel), uw 69 (by decide +kernel) (by decide +kernel), by decide +kernel, by decide +kernel, by decide +kernel, by decide +kernel⟩, uw 946 (by decide +kernel) (by decide +kernel), uw 37 (by decide +kernel) (by decide +kernel)⟩
abbrev mX6_cell : MI := (yX6_cell, cX6_cell, 3, (some .int), 2)
theorem okX6_cell : mV mX6_cell := ⟨⟨uw 939 (by decide +kernel) (by decide +kernel), uw 69 (by decide +kernel) (by decide +kernel), by decide +kernel, by decide +kernel, by decide +kernel, by decide +kernel⟩, uw 937 (by decide +kernel) (by decide +kernel), uw 938 (by decide +kernel) (by decide +kernel)⟩
abbrev mX6_leap : MI := (yX6_leap, cX6_leap, 3, (some .int), 2)
theorem okX6_leap : mV mX6_leap := ⟨⟨uw 959 (by decide +kernel) (by decide +kernel), uw 69 (by decide +kernel) (by decide +kernel), by decide +kernel, by decide +kernel, by decide +kernel, by decide +kernel⟩, uw 957 (by decide +kernel) (by decide +kernel), uw 958 (by decide +kernel) (by decide +kernel)⟩
abbrev mX6_dig : MI := (yX6_dig, cX6_dig, 2, (some .int), 1)
theorem okX6_dig : mV mX6_dig := ⟨⟨uw 963 (by decide +kernel) (by decide +kernel), uw 69 (by decide +kernel) (by decide +kernel), by decide +kernel, by decide +kernel, by decide +kernel, by decide +kernel⟩, uw 961 (by decide +kernel) (by decide +kernel), uw 962 (by decide +kernel) (by decide +kernel)⟩
abbrev mX6_fill : MI := (yX6_fill, cX6_fill, 2, (some .int), 1)
theorem okX6_fill : mV mX6_fill := ⟨⟨uw 967 (by decide +kernel) (by decide +kernel), uw 69 (by decide +kernel) (by decide +kernel), by decide +kernel, by decide +kernel, by decide +kernel, by decide +kernel⟩, uw 965 (by decide +kernel) (by decide +kernel), uw 966 (by decide +kernel) (by decide +kernel)⟩
abbrev mX6_be : MI := (yX6_be, cX6_be, 4, (some .int), 2)
theorem okX6_be : mV mX6_be := ⟨⟨uw 971 (by decide +kernel) (by decide +kernel), uw 69 (by decide +kernel) (by decide +kernel), by decide +kernel, by decide +kernel, by decide +kernel, by decide +kernel⟩, uw 969 (by decide +kernel) (by decide +kernel), uw 970 (by decide +kernel) (by decide +kernel)⟩
abbrev mX6_aroundAll : MI := (yX6_aroundAll, cX6_aroundAll, 5, (some .int), 2)
theorem okX6_aroundAll : mV mX6_aroundAll := ⟨⟨uw 983 (by decide +kernel) (by decide +kernel), uw 69 (by decide +kernel) (by decide +kernel), by decide +kernel, by decide +kernel, by decide +kernel, by decide +kernel⟩, uw 982 (by decide +kernel) (by decide +kernel), uw 41 (by decide +kernel) (by decide +kernel)⟩
abbrev mX6_hopsNow : MI := (yX6_hopsNow, cX6_hopsNow, 6, (some .int), 2)
theorem okX6_hopsNow : mV mX6_hopsNow := ⟨⟨uw 979 (by decide +kernel) (by decide +kernel), uw 69 (by decide +kernel) (by decide +kernel), by decide +kernel, by decide +kernel, by decide +kernel, by decide +kernel⟩, uw 978 (by decide +kernel) (by decide +kernel), uw 40 (by decide +kernel) (by decide +kernel)⟩
abbrev mX6_hops : MI := (yX6_hops, cX6_hops, 3, (some .int), 2)
theorem okX6_hops : mV mX6_hops := ⟨⟨uw 975 (by decide +kernel) (by decide +kernel), uw 69 (by decide +kernel) (by decide +kernel), by decide +kernel, by decide +kernel, by decide +kernel, by decide +kernel⟩, uw 973 (by decide +kernel) (by decide +kernel), uw 974 (by decide +kernel) (by decide +kernel)⟩
abbrev mX6_comeTo : MI := (yX6_comeTo, cX6_comeTo, 3, none, 2)
theorem okX6_comeTo : mV mX6_comeTo := ⟨⟨uw 995 (by decide +kernel) (by decide +kernel), uw 69 (by decide +kernel) (by decide +kernel), by decide +kernel, by decide +kernel, by decide +kernel, by decide +kernel⟩, uw 994 (by decide +kernel) (by decide +kernel), uw 43 (by decide +kernel) (by decide +kernel)⟩
abbrev mX6_comeFrom : MI := (yX6_comeFrom, cX6_comeFrom, 10, none, 4)
theorem okX6_comeFrom : mV mX6_comeFrom := ⟨⟨uw 999 (by decide +kernel) (by decide +kernel), uw 69 (by decide +kernel) (by decide +kernel), by decide +kernel, by decide +kernel, by decide +kernel, by decide +kernel⟩, uw 998 (by decide +kernel) (by decide +kernel), uw 44 (by decide +kernel) (by decide +kernel)⟩
abbrev mX6_tradeNow : MI := (yX6_tradeNow, cX6_tradeNow, 5, (some .int), 2)
theorem okX6_tradeNow : mV mX6_tradeNow := ⟨⟨uw 991 (by decide +kernel) (by decide +kernel), uw 69 (by decide +kernel) (by decide +kernel), by decide +kernel, by decide +kernel, by decide +kernel, by decide +kernel⟩, uw 990 (by decide +kernel) (by decide +kernel), uw 42 (by decide +kernel) (by decide +kernel)⟩
abbrev mX6_trade : MI := (yX6_trade, cX6_trade, 3, (some .int), 2)
theorem okX6_trade : mV mX6_trade := ⟨⟨uw 987 (by decide +kernel) (by decide +kernel), uw 69 (by decide +kernel) (by decide +kernel), by decide +kernel, by decide +kernel, by decide +kernel, by decide +kernel⟩, uw 985 (by decide +kernel) (by decide +kernel), uw 986 (by decide +kernel) (by decide +kernel)⟩
abbrev mX6_goOn : MI := (yX6_goOn, cX6_goOn, 7, none, 3)
theorem okX6_goOn : mV mX6_goOn := ⟨⟨uw 931 (by decide +kernel) (by decide +kernel), uw 69 (by decide +kernel) (by decide +kernel), by decide +kernel, by decide +kernel, by decide +kernel, by decide +kernel⟩, uw 930 (by decide +kernel) (by decide +kernel), uw 35 (by decide +kernel) (by decide +kernel)⟩
abbrev mX6_longestBy : MI := (yX6_longestBy, cX6_longestBy, 7, (some .int), 2)
theorem okX6_longestBy : mV mX6_longestBy := ⟨⟨uw 923 (by decide +kernel) (by decide +kernel), uw 69 (by decide +kernel) (by decide +kernel), by decide +kernel, by decide +kernel, by decide +kernel, by decide +kernel⟩, uw 922 (by decide +kernel) (by decide +kernel), uw 33 (by decide +kernel) (by decide +kernel)⟩
abbrev mX6_wayOf : MI := (yX6_wayOf, cX6_wayOf, 8, (some .int), 2)
theorem okX6_wayOf : mV mX6_wayOf := ⟨⟨uw 919 (by decide +kernel) (by decide +kernel), uw 69 (by decide +kernel) (by decide +kernel), by decide +kernel, by decide +kernel, by decide +kernel, by decide +kernel⟩, uw 918 (by decide +kernel) (by decide +kernel), uw 32 (by decide +kernel) (by decide +kernel)⟩
abbrev mX6_peaceSet : MI := (yX6_peaceSet, cX6_peaceSet, 5, (some .int), 1)
theorem okX6_peaceSet : mV mX6_peaceSet := ⟨⟨uw 1018 (by decide +kernel) (by decide +kernel), uw 69 (by decide +kernel) (by decide +kernel), by decide +kernel, by decide +kernel, by decide +kernel, by decide +kernel⟩, uw 1017 (by decide +kernel) (by decide +kernel), uw 47 (by decide +kernel) (by decide +kernel)⟩
abbrev mX6_guardSet : MI := (yX6_guardSet, cX6_guardSet, 5, (some .int), 1)
theorem okX6_guardSet : mV mX6_guardSet := ⟨⟨uw 1030 (by decide +kernel) (by decide +kernel), uw 69 (by decide +kernel) (by decide +kernel), by decide +kernel, by decide +kernel, by decide +kernel, by decide +kernel⟩, uw 1029 (by decide +kernel) (by decide +kernel), uw 49 (by decide +kernel) (by decide +kernel)⟩
abbrev mX6_isKind : MI := (yX6_isKind, cX6_isKind, 1, (some .boolean), 1)
theorem okX6_isKind : mS mX6_isKind := ⟨⟨uw 1010 (by decide +kernel) (by decide +kernel), uw 69 (by decide +kernel) (by decide +kernel), by decide +kernel, by decide +kernel, by decide +kernel, by decide +kernel⟩, uw 1009 (by decide +kernel) (by decide +kernel)⟩
abbrev mX6_refused : MI := (yX6_refused, cX6_refused, 3, (some .int), 2)
theorem okX6_refused : mV mX6_refused := ⟨⟨uw 1007 (by decide +kernel) (by decide +kernel), uw 69 (by decide +kernel) (by decide +kernel), by decide +kernel, by decide +kernel, by decide +kernel, by decide +kernel⟩, uw 1006 (by decide +kernel) (by decide +kernel), uw 45 (by decide +kernel) (by decide +kernel)⟩
abbrev mX6_peaceNow : MI := (yX6_peaceNow, cX6_peaceNow, 3, (some .int), 2)
theorem okX6_peaceNow : mV mX6_peaceNow := ⟨⟨uw 1014 (by decide +kernel) (by decide +kernel), uw 69 (by decide +kernel) (by decide +kernel), by decide +kernel, by decide +kernel, by decide +kernel, by decide +kernel⟩, uw 1013 (by decide +kernel) (by decide +kernel), uw 46 (by decide +kernel) (by decide +kernel)⟩
abbrev mX6_peace : MI := (yX6_peace, cX6_peace, 3, (some .int), 2)
theorem okX6_peace : mV mX6_peace := ⟨⟨uw 1003 (by decide +kernel) (by decide +kernel), uw 69 (by decide +kernel) (by decide +kernel), by decide +kernel, by decide +kernel, by decide +kernel, by decide +kernel⟩, uw 1001 (by decide +kernel) (by decide +kernel), uw 1002 (by decide +kernel) (by decide +kernel)⟩
abbrev mX6_guardNow : MI := (yX6_guardNow, cX6_guardNow, 3, (some .int), 2)
theorem okX6_guardNow : mV mX6_guardNow := ⟨⟨uw 1026 (by decide +kernel) (by decide +kernel), uw 69 (by decide +kernel) (by decide +kernel), by decide +kernel, by decide +kernel, by decide +kernel, by decide +kernel⟩, uw 1025 (by decide +kernel) (by decide +kernel), uw 48 (by decide +kernel) (by decide +kernel)⟩
abbrev mX6_guard : MI := (yX6_guard, cX6_guard, 3, (some .int), 2)
theorem okX6_guard : mV mX6_guard := ⟨⟨uw 1022 (by decide +kernel) (by decide +kernel), uw 69 (by decide +kernel) (by decide +kernel), by decide +kernel, by decide +kernel, by decide +kernel, by decide +kernel⟩, uw 1020 (by decide +kernel) (by decide +kernel), uw 1021 (by decide +kernel) (by decide +kernel)⟩
abbrev mX6_partOf : MI := (yX6_partOf, cX6_partOf, 5, (some .int), 2)
theorem okX6_partOf : mV mX6_partOf := ⟨⟨uw 1046 (by decide +kernel) (by decide +kernel), uw 69 (by decide +kernel) (by decide +kernel), by decide +kernel, by decide +kernel, by decide +kernel, by decide +kernel⟩, uw 1045 (by decide +kernel) (by decide +kernel), uw 52 (by decide +kernel) (by decide +kernel)⟩
abbrev mX6_partsNow : MI := (yX6_partsNow, cX6_partsNow, 5, (some .int), 1)
theorem okX6_partsNow : mV mX6_partsNow := ⟨⟨uw 1042 (by decide +kernel) (by decide +kernel), uw 69 (by decide +kernel) (by decide +kernel), by decide +kernel, by decide +kernel, by decide +kernel, by decide +kernel⟩, uw 1041 (by decide +kernel) (by decide +kernel), uw 51 (by decide +kernel) (by decide +kernel)⟩
abbrev mX6_areShades : MI := (yX6_areShades, cX6_areShades, 7, (some .boolean), 1)
theorem okX6_areShades : mV mX6_areShades := ⟨⟨uw 1050 (by decide +kernel) (by decide +kernel), uw 69 (by decide +kernel) (by decide +kernel), by decide +kernel, by decide +kernel, by decide +kernel, by decide +kernel⟩, uw 1049 (by decide +kernel) (by decide +kernel), uw 53 (by decide +kernel) (by decide +kernel)⟩
abbrev mX6_partsTold : MI := (yX6_partsTold, cX6_partsTold, 3, (some .int), 2)
theorem okX6_partsTold : mV mX6_partsTold := ⟨⟨uw 1038 (by decide +kernel) (by decide +kernel), uw 69 (by decide +kernel) (by decide +kernel), by decide +kernel, by decide +kernel, by decide +kernel, by decide +kernel⟩, uw 1037 (by decide +kernel) (by decide +kernel), uw 50 (by decide +kernel) (by decide +kernel)⟩
abbrev mX6_parts : MI := (yX6_parts, cX6_parts, 3, (some .int), 2)
theorem okX6_parts : mV mX6_parts := ⟨⟨uw 1034 (by decide +kernel) (by decide +kernel), uw 69 (by decide +kernel) (by decide +kernel), by decide +kernel, by decide +kernel, by decide +kernel, by decide +kernel⟩, uw 1032 (by decide +kernel) (by decide +kernel), uw 1033 (by decide +kernel) (by decide +kernel)⟩
abbrev mX6_chanceFrom : MI := (yX6_chanceFrom, cX6_chanceFrom, 8, (some .int), 3)
theorem okX6_chanceFrom : mV mX6_chanceFrom := ⟨⟨uw 1063 (by decide +kernel) (by decide +kernel), uw 69 (by decide +kernel) (by decide +kernel), by decide +kernel, by decide +kernel, by decide +kernel, by decide +kernel⟩, uw 1062 (by decide +kernel) (by decide +kernel), uw 55 (by decide +kernel) (by decide +kernel)⟩
abbrev mX6_chanceNow : MI := (yX6_chanceNow, cX6_chanceNow, 7, (some .int), 3)
theorem okX6_chanceNow : mV mX6_chanceNow := ⟨⟨uw 1058 (by decide +kernel) (by decide +kernel), uw 69 (by decide +kernel) (by decide +kernel), by decide +kernel, by decide +kernel, by decide +kernel, by decide +kernel⟩, uw 1057 (by decide +kernel) (by decide +kernel), uw 54 (by decide +kernel) (by decide +kernel)⟩
abbrev mX6_chance : MI := (yX6_chance, cX6_chance, 4, (some .int), 3)
theorem okX6_chance : mV mX6_chance := ⟨⟨uw 1054 (by decide +kernel) (by decide +kernel), uw 69 (by decide +kernel) (by decide +kernel), by decide +kernel, by decide +kernel, by decide +kernel, by decide +kernel⟩, uw 1052 (by decide +kernel) (by decide +kernel), uw 1053 (by decide +kernel) (by decide +kernel)⟩
abbrev mX6_see : MI := (yX6_see, cX6_see, 5, (some .int), 4)
theorem okX6_see : mV mX6_see := ⟨⟨uw 1067 (by decide +kernel) (by decide +kernel), uw 69 (by decide +kernel) (by decide +kernel), by decide +kernel, by decide +kernel, by decide +kernel, by decide +kernel⟩, uw 1065 (by decide +kernel) (by decide +kernel), uw 1066 (by decide +kernel) (by decide +kernel)⟩
abbrev mX6_forget : MI := (yX6_forget, cX6_forget, 2, (some .int), 0)
theorem okX6_forget : mV mX6_forget := ⟨⟨uw 1071 (by decide +kernel) (by decide +kernel), uw 69 (by decide +kernel) (by decide +kernel), by decide +kernel, by decide +kernel, by decide +kernel, by decide +kernel⟩, uw 1069 (by decide +kernel) (by decide +kernel), uw 1070 (by decide +kernel) (by decide +kernel)⟩
abbrev mX6_sortsOf : MI := (yX6_sortsOf, cX6_sortsOf, 6, (some .int), 1)
theorem okX6_sortsOf : mV mX6_sortsOf := ⟨⟨uw 907 (by decide +kernel) (by decide +kernel), uw 69 (by decide +kernel) (by decide +kernel), by decide +kernel, by decide +kernel, by decide +kernel, by decide +kernel⟩, uw 906 (by decide +kernel) (by decide +kernel), uw 30 (by decide +kernel) (by decide +kernel)⟩
abbrev mX6_askOf : MI := (yX6_askOf, cX6_askOf, 9, (some .int), 1)
theorem okX6_askOf : mV mX6_askOf := ⟨⟨uw 911 (by decide +kernel) (by decide +kernel), uw 69 (by decide +kernel) (by decide +kernel), by decide +kernel, by decide +kernel, by decide +kernel, by decide +kernel⟩, uw 910 (by decide +kernel) (by decide +kernel), uw 31 (by decide +kernel) (by decide +kernel)⟩
abbrev mX6_draw : MI := (yX6_draw, cX6_draw, 2, (some .int), 1)
theorem okX6_draw : mV mX6_draw := ⟨⟨uw 1083 (by decide +kernel) (by decide +kernel), uw 69 (by decide +kernel) (by decide +kernel), by decide +kernel, by decide +kernel, by decide +kernel, by decide +kernel⟩, uw 1082 (by decide +kernel) (by decide +kernel), uw 57 (by decide +kernel) (by decide +kernel)⟩
abbrev mX6_ofSet : MI := (yX6_ofSet, cX6_ofSet, 4, (some .int), 2)
theorem okX6_ofSet : mS mX6_ofSet := ⟨⟨uw 1090 (by decide +kernel) (by decide +kernel), uw 69 (by decide +kernel) (by decide +kernel), by decide +kernel, by decide +kernel, by decide +kernel, by decide +kernel⟩, uw 1089 (by decide +kernel) (by decide +kernel)⟩
abbrev mX6_watchedFree : MI := (yX6_watchedFree, cX6_watchedFree, 3, (some .int), 0)
theorem okX6_watchedFree : mV mX6_watchedFree := ⟨⟨uw 1094 (by decide +kernel) (by decide +kernel), uw 69 (by decide +kernel) (by decide +kernel), by decide +kernel, by decide +kernel, by decide +kernel, by decide +kernel⟩, uw 1093 (by decide +kernel) (by decide +kernel), uw 58 (by decide +kernel) (by decide +kernel)⟩
abbrev mX6_walksNow : MI := (yX6_walksNow, cX6_walksNow, 8, (some .int), 3)
theorem okX6_walksNow : mV mX6_walksNow := ⟨⟨uw 1079 (by decide +kernel) (by decide +kernel), uw 69 (by decide +kernel) (by decide +kernel), by decide +kernel, by decide +kernel, by decide +kernel, by decide +kernel⟩, uw 1078 (by decide +kernel) (by decide +kernel), uw 56 (by decide +kernel) (by decide +kernel)⟩
abbrev mX6_walks : MI := (yX6_walks, cX6_walks, 4, (some .int), 3)
theorem okX6_walks : mV mX6_walks := ⟨⟨uw 1075 (by decide +kernel) (by decide +kernel), uw 69 (by decide +kernel) (by decide +kernel), by decide +kernel, by decide +kernel, by decide +kernel, by decide +kernel⟩, uw 1073 (by decide +kernel) (by decide +kernel), uw 1074 (by decide +kernel) (by decide +kernel)⟩
abbrev mX6_image : MI := (yX6_image, cX6_image, 2, (some .int), 0)
theorem okX6_image : mV mX6_image := ⟨⟨uw 1098 (by decide +kernel) (by decide +kernel), uw 69 (by decide +kernel) (by decide +kernel), by decide +kernel, by decide +kernel, by decide +kernel, by decide +kernel⟩, uw 1096 (by decide +kernel) (by decide +kernel), uw 1097 (by decide +kernel) (by decide +kernel)⟩
abbrev mX6_restore : MI := (yX6_restore, cX6_restore, 2, (some .int), 0)
theorem okX6_restore : mV mX6_restore := ⟨⟨uw 1102 (by decide +kernel) (by decide +kernel), uw 69 (by decide +kernel) (by decide +kernel), by decide +kernel, by decide +kernel, by decide +kernel, by decide +kernel⟩, uw 1100 (by decide +kernel) (by decide +kernel), uw 1101 (by decide +kernel) (by decide +kernel)⟩
abbrev mX6_howMany : MI := (yX6_howMany, cX6_howMany, 2, (some .int), 1)
theorem okX6_howMany : mV mX6_howMany := ⟨⟨uw 1110 (by decide +kernel) (by decide +kernel), uw 69 (by decide +kernel) (by decide +kernel), by decide +kernel, by decide +kernel, by decide +kernel, by decide +kernel⟩, uw 1109 (by decide +kernel) (by decide +kernel), uw 59 (by decide +kernel) (by decide +kernel)⟩
abbrev mX6_count : MI := (yX6_count, cX6_count, 2, (some .int), 1)
theorem okX6_count : mV mX6_count := ⟨⟨uw 1106 (by decide +kernel) (by decide +kernel), uw 69 (by decide +kernel) (by decide +kernel), by decide +kernel, by decide +kernel, by decide +kernel, by decide +kernel⟩, uw 1104 (by decide +kernel) (by decide +kernel), uw 1105 (by decide +kernel) (by decide +kernel)⟩
abbrev mX6_mix : MI := (yX6_mix, cX6_mix, 3, none, 1)
theorem okX6_mix : mV mX6_mix := ⟨⟨uw 1119 (by decide +kernel) (by decide +kernel), uw 69 (by decide +kernel) (by decide +kernel), by decide +kernel, by decide +kernel, by decide +kernel, by decide +kernel⟩, uw 1118 (by decide +kernel) (by decide +kernel), uw 60 (by decide +kernel) (by decide +kernel)⟩
abbrev mX6_mixBoard : MI := (yX6_mixBoard, cX6_mixBoard, 3, none, 0)
theorem okX6_mixBoard : mV mX6_mixBoard := ⟨⟨uw 1126 (by decide +kernel) (by decide +kernel), uw 69 (by decide +kernel) (by decide +kernel), by decide +kernel, by decide +kernel, by decide +kernel, by decide +kernel⟩, uw 1125 (by decide +kernel) (by decide +kernel), uw 61 (by decide +kernel) (by decide +kernel)⟩
abbrev mX6_digest : MI := (yX6_digest, cX6_digest, 3, (some .long), 0)
theorem okX6_digest : mV mX6_digest := ⟨⟨uw 1114 (by decide +kernel) (by decide +kernel), uw 69 (by decide +kernel) (by decide +kernel), by decide +kernel, by decide +kernel, by decide +kernel, by decide +kernel⟩, uw 1112 (by decide +kernel) (by decide +kernel), uw 1113 (by decide +kernel) (by decide +kernel)⟩
abbrev mJ11_isValidCodePoint : MI := (yJ11_isValidCodePoint_9a6ad, cJ11_isValidCodePoint_9a6ad, 2, (some .boolean), 1)
theorem okJ11_isValidCodePoint : mS mJ11_isValidCodePoint := ⟨⟨uw 353 (by decide +kernel) (by decide +kernel), uw 75 (by decide +kernel) (by decide +kernel), by decide +kernel, by decide +kernel, by decide +kernel, by decide +kernel⟩, uw 352 (by decide +kernel) (by decide +kernel)⟩
abbrev mJ11_highSurrogate : MI := (yJ11_highSurrogate_5068e, cJ11_highSurrogate_5068e, 1, (some .char), 1)
theorem okJ11_highSurrogate : mS mJ11_highSurrogate := ⟨⟨uw 356 (by decide +kernel) (by decide +kernel), uw 75 (by decide +kernel) (by decide +kernel), by decide +kernel, by decide +kernel, by decide +kernel, by decide +kernel⟩, uw 355 (by decide +kernel) (by decide +kernel)⟩
abbrev mJ11_lowSurrogate : MI := (yJ11_lowSurrogate_5068e, cJ11_lowSurrogate_5068e, 1, (some .char), 1)
theorem okJ11_lowSurrogate : mS mJ11_lowSurrogate := ⟨⟨uw 360 (by decide +kernel) (by decide +kernel), uw 75 (by decide +kernel) (by decide +kernel), by decide +kernel, by decide +kernel, by decide +kernel, by decide +kernel⟩, uw 359 (by decide +kernel) (by decide +kernel)⟩
abbrev mJ6_bitCount : MI := (yJ6_bitCount_0f7a4, cJ6_bitCount_0f7a4, 1, (some .int), 1)
theorem okJ6_bitCount : mS mJ6_bitCount := ⟨⟨uw 460 (by decide +kernel) (by decide +kernel), uw 76 (by decide +kernel) (by decide +kernel), by decide +kernel, by decide +kernel, by decide +kernel, by decide +kernel⟩, uw 459 (by decide +kernel) (by decide +kernel)⟩
abbrev mJ0_length : MI := (yJ0_length_8abf5, cJ0_length_8abf5, 1, (some .int), 0)
theorem okJ0_length : mV mJ0_length := ⟨⟨uw 293 (by decide +kernel) (by decide +kernel), uw 70 (by decide +kernel) (by decide +kernel), by decide +kernel, by decide +kernel, by decide +kernel, by decide +kernel⟩, uw 291 (by decide +kernel) (by decide +kernel), uw 292 (by decide +kernel) (by decide +kernel)⟩
abbrev mJ0_indexOf1 : MI := (yJ0_indexOf_0f7a4, cJ0_indexOf_0f7a4, 2, (some .int), 1)
theorem okJ0_indexOf1 : mV mJ0_indexOf1 := ⟨⟨uw 279 (by decide +kernel) (by decide +kernel), uw 70 (by decide +kernel) (by decide +kernel), by decide +kernel, by decide +kernel, by decide +kernel, by decide +kernel⟩, uw 277 (by decide +kernel) (by decide +kernel), uw 278 (by decide +kernel) (by decide +kernel)⟩
abbrev mJ0_indexOf2 : MI := (yJ0_indexOf_7cf53, cJ0_indexOf_7cf53, 3, (some .int), 2)
theorem okJ0_indexOf2 : mV mJ0_indexOf2 := ⟨⟨uw 283 (by decide +kernel) (by decide +kernel), uw 70 (by decide +kernel) (by decide +kernel), by decide +kernel, by decide +kernel, by decide +kernel, by decide +kernel⟩, uw 281 (by decide +kernel) (by decide +kernel), uw 282 (by decide +kernel) (by decide +kernel)⟩
abbrev mJ0_coder : MI := (yJ0_coder_7d493, cJ0_coder_7d493, 1, (some .byte), 0)
theorem okJ0_coder : mV mJ0_coder := ⟨⟨uw 297 (by decide +kernel) (by decide +kernel), uw 70 (by decide +kernel) (by decide +kernel), by decide +kernel, by decide +kernel, by decide +kernel, by decide +kernel⟩, uw 295 (by decide +kernel) (by decide +kernel), uw 296 (by decide +kernel) (by decide +kernel)⟩
abbrev mJ0_isLatin1 : MI := (yJ0_isLatin1_aae02, cJ0_isLatin1_aae02, 1, (some .boolean), 0)
theorem okJ0_isLatin1 : mV mJ0_isLatin1 := ⟨⟨uw 287 (by decide +kernel) (by decide +kernel), uw 70 (by decide +kernel) (by decide +kernel), by decide +kernel, by decide +kernel, by decide +kernel, by decide +kernel⟩, uw 285 (by decide +kernel) (by decide +kernel), uw 286 (by decide +kernel) (by decide +kernel)⟩
abbrev mJ0_checkBoundsBeginEnd : MI := (yJ0_checkBoundsBeginEnd_23922, cJ0_checkBoundsBeginEnd_23922, 3, none, 3)
theorem okJ0_checkBoundsBeginEnd : mS mJ0_checkBoundsBeginEnd := ⟨⟨uw 330 (by decide +kernel) (by decide +kernel), uw 70 (by decide +kernel) (by decide +kernel), by decide +kernel, by decide +kernel, by decide +kernel, by decide +kernel⟩, uw 329 (by decide +kernel) (by decide +kernel)⟩
abbrev mJ1_canEncode : MI := (yJ1_canEncode_9a6ad, cJ1_canEncode_9a6ad, 1, (some .boolean), 1)
theorem okJ1_canEncode : mS mJ1_canEncode := ⟨⟨uw 303 (by decide +kernel) (by decide +kernel), uw 71 (by decide +kernel) (by decide +kernel), by decide +kernel, by decide +kernel, by decide +kernel, by decide +kernel⟩, uw 302 (by decide +kernel) (by decide +kernel)⟩
abbrev mJ1_indexOf : MI := (yJ1_indexOf_4cfef, cJ1_indexOf_4cfef, 4, (some .int), 4)
theorem okJ1_indexOf : mS mJ1_indexOf := ⟨⟨uw 300 (by decide +kernel) (by decide +kernel), uw 71 (by decide +kernel) (by decide +kernel), by decide +kernel, by decide +kernel, by decide +kernel, by decide +kernel⟩, uw 299 (by decide +kernel) (by decide +kernel)⟩
abbrev mJ1_indexOfChar : MI := (yJ1_indexOfChar_4cfef, cJ1_indexOfChar_4cfef, 6, (some .int), 4)
theorem okJ1_indexOfChar : mS mJ1_indexOfChar := ⟨⟨uw 312 (by decide +kernel) (by decide +kernel), uw 71 (by decide +kernel) (by decide +kernel), by decide +kernel, by decide +kernel, by decide +kernel, by decide +kernel⟩, uw 311 (by decide +kernel) (by decide +kernel)⟩
abbrev mJ2_getChar : MI := (yJ2_getChar_3b067, cJ2_getChar_3b067, 2, (some .char), 2)
theorem okJ2_getChar : mS mJ2_getChar := ⟨⟨uw 341 (by decide +kernel) (by decide +kernel), uw 73 (by decide +kernel) (by decide +kernel), by decide +kernel, by decide +kernel, by decide +kernel, by decide +kernel⟩, uw 340 (by decide +kernel) (by decide +kernel)⟩
abbrev mJ2_length : MI := (yJ2_length_9d52b, cJ2_length_9d52b, 1, (some .int), 1)
theorem okJ2_length : mS mJ2_length := ⟨⟨uw 327 (by decide +kernel) (by decide +kernel), uw 73 (by decide +kernel) (by decide +kernel), by decide +kernel, by decide +kernel, by decide +kernel, by decide +kernel⟩, uw 326 (by decide +kernel) (by decide +kernel)⟩
abbrev mJ2_indexOf : MI := (yJ2_indexOf_4cfef, cJ2_indexOf_4cfef, 4, (some .int), 4)
theorem okJ2_indexOf : mS mJ2_indexOf := ⟨⟨uw 315 (by decide +kernel) (by decide +kernel), uw 73 (by decide +kernel) (by decide +kernel), by decide +kernel, by decide +kernel, by decide +kernel, by decide +kernel⟩, uw 314 (by decide +kernel) (by decide +kernel)⟩
abbrev mJ2_indexOfChar : MI := (yJ2_indexOfChar_4cfef, cJ2_indexOfChar_4cfef, 4, (some .int), 4)
theorem okJ2_indexOfChar : mS mJ2_indexOfChar := ⟨⟨uw 321 (by decide +kernel) (by decide +kernel), uw 73 (by decide +kernel) (by decide +kernel), by decide +kernel, by decide +kernel, by decide +kernel, by decide +kernel⟩, uw 320 (by decide +kernel) (by decide +kernel)⟩
abbrev mJ2_indexOfCharUnsafe : MI := (yJ2_indexOfCharUnsafe_4cfef, cJ2_indexOfCharUnsafe_4cfef, 5, (some .int), 4)
theorem okJ2_indexOfCharUnsafe : mS mJ2_indexOfCharUnsafe := ⟨⟨uw 338 (by decide +kernel) (by decide +kernel), uw 73 (by decide +kernel) (by decide +kernel), by decide +kernel, by decide +kernel, by decide +kernel, by decide +kernel⟩, uw 337 (by decide +kernel) (by decide +kernel)⟩
abbrev mJ2_indexOfSupplementary : MI := (yJ2_indexOfSupplementary_4cfef, cJ2_indexOfSupplementary_4cfef, 7, (some .int), 4)
theorem okJ2_indexOfSupplementary : mS mJ2_indexOfSupplementary := ⟨⟨uw 350 (by decide +kernel) (by decide +kernel), uw 73 (by decide +kernel) (by decide +kernel), by decide +kernel, by decide +kernel, by decide +kernel, by decide +kernel⟩, uw 349 (by decide +kernel) (by decide +kernel)⟩
abbrev mJ2_checkBoundsBeginEnd : MI := (yJ2_checkBoundsBeginEnd_d044e, cJ2_checkBoundsBeginEnd_d044e, 3, none, 3)
theorem okJ2_checkBoundsBeginEnd : mS mJ2_checkBoundsBeginEnd := ⟨⟨uw 324 (by decide +kernel) (by decide +kernel), uw 73 (by decide +kernel) (by decide +kernel), by decide +kernel, by decide +kernel, by decide +kernel, by decide +kernel⟩, uw 323 (by decide +kernel) (by decide +kernel)⟩
abbrev mJ3_checkFromToIndex : MI := (yJ3_checkFromToIndex_8c36e, cJ3_checkFromToIndex_8c36e, 4, (some .int), 4)
theorem okJ3_checkFromToIndex : mS mJ3_checkFromToIndex := ⟨⟨uw 335 (by decide +kernel) (by decide +kernel), uw 74 (by decide +kernel) (by decide +kernel), by decide +kernel, by decide +kernel, by decide +kernel, by decide +kernel⟩, uw 334 (by decide +kernel) (by decide +kernel)⟩
/-! ===== links ===== -/
theorem lk_X5_58 : Cond.methodLink RX5 58 mX2_put.1 ∈ UW := uw 232 (by decide +kernel) (by decide +kernel)
theorem lk_X2_19 : Cond.methodLink RX2 19 mX2_rows.1 ∈ UW := uw 236 (by decide +kernel) (by decide +kernel)
theorem lk_X2_40 : Cond.methodLink RX2 40 mX2_at.1 ∈ UW := uw 240 (by decide +kernel) (by decide +kernel)
theorem lk_X2_23 : Cond.methodLink RX2 23 mX2_columns.1 ∈ UW := uw 244 (by decide +kernel) (by decide +kernel)
theorem lk_X5_65 : Cond.methodLink RX5 65 mX2_clear.1 ∈ UW := uw 252 (by decide +kernel) (by decide +kernel)
theorem lk_X5_69 : Cond.methodLink RX5 69 mX2_firstFault.1 ∈ UW := uw 260 (by decide +kernel) (by decide +kernel)
theorem lk_X2_29 : Cond.methodLink RX2 29 mX2_fits.1 ∈ UW := uw 264 (by decide +kernel) (by decide +kernel)
theorem lk_X2_33 : Cond.methodLink RX2 33 mX2_kindPlace.1 ∈ UW := uw 268 (by decide +kernel) (by decide +kernel)
theorem lk_X2_43 : Cond.methodLink RX2 43 mX2_kindFor.1 ∈ UW := uw 272 (by decide +kernel) (by decide +kernel)
theorem lk_X2_48 : Cond.methodLink RX2 48 mJ0_indexOf1.1 ∈ UW := uw 276 (by decide +kernel) (by decide +kernel)
theorem lk_J0_633 : Cond.methodLink RJ0 633 mJ0_indexOf2.1 ∈ UW := uw 280 (by decide +kernel) (by decide +kernel)
theorem lk_J0_492 : Cond.methodLink RJ0 492 mJ0_isLatin1.1 ∈ UW := uw 284 (by decide +kernel) (by decide +kernel)
theorem lk_J0_505 : Cond.methodLink RJ0 505 mJ0_length.1 ∈ UW := uw 290 (by decide +kernel) (by decide +kernel)
theorem lk_J0_335 : Cond.methodLink RJ0 335 mJ0_coder.1 ∈ UW := uw 294 (by decide +kernel) (by decide +kernel)
theorem lk_J0_637 : Cond.methodLink RJ0 637 mJ1_indexOf.1 ∈ UW := uw 298 (by decide +kernel) (by decide +kernel)
theorem lk_J1_88 : Cond.methodLink RJ1 88 mJ1_canEncode.1 ∈ UW := uw 301 (by decide +kernel) (by decide +kernel)
theorem mk_J1_92 : Cond.methodLink RJ1 92 Lib.Math.max.name ∈ UW := uw 304 (by decide +kernel) (by decide +kernel)
theorem mk_J1_38 : Cond.methodLink RJ1 38 Lib.Math.min.name ∈ UW := uw 307 (by decide +kernel) (by decide +kernel)
theorem lk_J1_95 : Cond.methodLink RJ1 95 mJ1_indexOfChar.1 ∈ UW := uw 310 (by decide +kernel) (by decide +kernel)
theorem lk_J0_640 : Cond.methodLink RJ0 640 mJ2_indexOf.1 ∈ UW := uw 313 (by decide +kernel) (by decide +kernel)
theorem mk_J2_224 : Cond.methodLink RJ2 224 Lib.Math.max.name ∈ UW := uw 316 (by decide +kernel) (by decide +kernel)
theorem mk_J2_183 : Cond.methodLink RJ2 183 Lib.Math.min.name ∈ UW := uw 317 (by decide +kernel) (by decide +kernel)
theorem lk_J2_228 : Cond.methodLink RJ2 228 mJ2_indexOfChar.1 ∈ UW := uw 319 (by decide +kernel) (by decide +kernel)
theorem lk_J2_96 : Cond.methodLink RJ2 96 mJ2_checkBoundsBeginEnd.1 ∈ UW := uw 322 (by decide +kernel) (by decide +kernel)
theorem lk_J2_48 : Cond.methodLink RJ2 48 mJ2_length.1 ∈ UW := uw 325 (by decide +kernel) (by decide +kernel)
theorem lk_J2_241 : Cond.methodLink RJ2 241 mJ0_checkBoundsBeginEnd.1 ∈ UW := uw 328 (by decide +kernel) (by decide +kernel)
theorem lk_J0_1062 : Cond.methodLink RJ0 1062 mJ3_checkFromToIndex.1 ∈ UW := uw 333 (by decide +kernel) (by decide +kernel)
theorem lk_J2_244 : Cond.methodLink RJ2 244 mJ2_indexOfCharUnsafe.1 ∈ UW := uw 336 (by decide +kernel) (by decide +kernel)
theorem lk_J2_71 : Cond.methodLink RJ2 71 mJ2_getChar.1 ∈ UW := uw 339 (by decide +kernel) (by decide +kernel)
theorem lk_J2_232 : Cond.methodLink RJ2 232 mJ2_indexOfSupplementary.1 ∈ UW := uw 348 (by decide +kernel) (by decide +kernel)
theorem lk_J2_164 : Cond.methodLink RJ2 164 mJ11_isValidCodePoint.1 ∈ UW := uw 351 (by decide +kernel) (by decide +kernel)
theorem lk_J2_157 : Cond.methodLink RJ2 157 mJ11_highSurrogate.1 ∈ UW := uw 354 (by decide +kernel) (by decide +kernel)
theorem lk_J2_161 : Cond.methodLink RJ2 161 mJ11_lowSurrogate.1 ∈ UW := uw 358 (by decide +kernel) (by decide +kernel)
theorem lk_X2_53 : Cond.methodLink RX2 53 mX2_isOpenTo.1 ∈ UW := uw 362 (by decide +kernel) (by decide +kernel)
theorem lk_X2_56 : Cond.methodLink RX2 56 mX2_standOf.1 ∈ UW := uw 366 (by decide +kernel) (by decide +kernel)
theorem lk_X5_72 : Cond.methodLink RX5 72 mX2_isWhole.1 ∈ UW := uw 375 (by decide +kernel) (by decide +kernel)
theorem lk_X2_37 : Cond.methodLink RX2 37 mX2_firstFault.1 ∈ UW := uw 379 (by decide +kernel) (by decide +kernel)
theorem lk_X5_76 : Cond.methodLink RX5 76 mX2_rows.1 ∈ UW := uw 380 (by decide +kernel) (by decide +kernel)
theorem lk_X5_79 : Cond.methodLink RX5 79 mX2_columns.1 ∈ UW := uw 381 (by decide +kernel) (by decide +kernel)
theorem lk_X5_82 : Cond.methodLink RX5 82 mX1_lay.1 ∈ UW := uw 382 (by decide +kernel) (by decide +kernel)
theorem lk_X1_26 : Cond.methodLink RX1 26 mX1_fanFrom.1 ∈ UW := uw 386 (by decide +kernel) (by decide +kernel)
theorem mk_X1_34 : Cond.methodLink RX1 34 Lib.Math.abs.name ∈ UW := uw 390 (by decide +kernel) (by decide +kernel)
theorem mk_X5_289 : Cond.methodLink RX5 289 Lib.Math.min.name ∈ UW := uw 396 (by decide +kernel) (by decide +kernel)
theorem mk_X5_294 : Cond.methodLink RX5 294 Lib.Math.max.name ∈ UW := uw 397 (by decide +kernel) (by decide +kernel)
theorem lk_X5_86 : Cond.methodLink RX5 86 mX2_freeCells.1 ∈ UW := uw 398 (by decide +kernel) (by decide +kernel)
theorem lk_X5_92 : Cond.methodLink RX5 92 mX2_leapers.1 ∈ UW := uw 402 (by decide +kernel) (by decide +kernel)
theorem lk_X5_101 : Cond.methodLink RX5 101 mX2_kindOf.1 ∈ UW := uw 406 (by decide +kernel) (by decide +kernel)
theorem lk_X5_108 : Cond.methodLink RX5 108 mX2_standOf.1 ∈ UW := uw 410 (by decide +kernel) (by decide +kernel)
theorem lk_X5_120 : Cond.methodLink RX5 120 mX3_hasLeaper.1 ∈ UW := uw 415 (by decide +kernel) (by decide +kernel)
theorem lk_X5_123 : Cond.methodLink RX5 123 mX3_kindOf.1 ∈ UW := uw 419 (by decide +kernel) (by decide +kernel)
theorem lk_X3_28 : Cond.methodLink RX3 28 mX3_hasLeaper.1 ∈ UW := uw 423 (by decide +kernel) (by decide +kernel)
theorem lk_X5_124 : Cond.methodLink RX5 124 mX3_standOf.1 ∈ UW := uw 424 (by decide +kernel) (by decide +kernel)
theorem lk_X5_125 : Cond.methodLink RX5 125 mX5_watchedBy.1 ∈ UW := uw 428 (by decide +kernel) (by decide +kernel)
theorem lk_X5_187 : Cond.methodLink RX5 187 mX1_fanOf.1 ∈ UW := uw 432 (by decide +kernel) (by decide +kernel)
theorem lk_X5_129 : Cond.methodLink RX5 129 mX5_goals.1 ∈ UW := uw 439 (by decide +kernel) (by decide +kernel)
theorem lk_X5_142 : Cond.methodLink RX5 142 mX3_empty.1 ∈ UW := uw 443 (by decide +kernel) (by decide +kernel)
theorem lk_X5_132 : Cond.methodLink RX5 132 mX3_sorts.1 ∈ UW := uw 447 (by decide +kernel) (by decide +kernel)
theorem lk_X5_135 : Cond.methodLink RX5 135 mX5_bestAsk.1 ∈ UW := uw 451 (by decide +kernel) (by decide +kernel)
theorem lk_X5_209 : Cond.methodLink RX5 209 mX5_goers.1 ∈ UW := uw 454 (by decide +kernel) (by decide +kernel)
theorem lk_X5_297 : Cond.methodLink RX5 297 mX5_goes.1 ∈ UW := uw 457 (by decide +kernel) (by decide +kernel)
theorem lk_X5_168 : Cond.methodLink RX5 168 mJ6_bitCount.1 ∈ UW := uw 458 (by decide +kernel) (by decide +kernel)
theorem lk_X5_138 : Cond.methodLink RX5 138 mX5_fanOfLeaper.1 ∈ UW := uw 464 (by decide +kernel) (by decide +kernel)
theorem lk_X5_145 : Cond.methodLink RX5 145 mX4_longest.1 ∈ UW := uw 468 (by decide +kernel) (by decide +kernel)
theorem lk_X4_40 : Cond.methodLink RX4 40 mX4_findFirsts.1 ∈ UW := uw 472 (by decide +kernel) (by decide +kernel)
theorem lk_X4_52 : Cond.methodLink RX4 52 mX1_partAround.1 ∈ UW := uw 476 (by decide +kernel) (by decide +kernel)
theorem lk_X1_44 : Cond.methodLink RX1 44 mX1_spread.1 ∈ UW := uw 479 (by decide +kernel) (by decide +kernel)
theorem lk_X4_56 : Cond.methodLink RX4 56 mX4_startsOf.1 ∈ UW := uw 482 (by decide +kernel) (by decide +kernel)
theorem lk_X4_59 : Cond.methodLink RX4 59 mJ6_bitCount.1 ∈ UW := uw 489 (by decide +kernel) (by decide +kernel)
theorem lk_X4_44 : Cond.methodLink RX4 44 mX4_mostBehind.1 ∈ UW := uw 490 (by decide +kernel) (by decide +kernel)
theorem lk_X5_149 : Cond.methodLink RX5 149 mX4_firstOfLongest.1 ∈ UW := uw 494 (by decide +kernel) (by decide +kernel)
theorem lk_X5_286 : Cond.methodLink RX5 286 mX5_nthOf.1 ∈ UW := uw 501 (by decide +kernel) (by decide +kernel)
theorem lk_X5_158 : Cond.methodLink RX5 158 mX5_has.1 ∈ UW := uw 504 (by decide +kernel) (by decide +kernel)
theorem lk_X5_152 : Cond.methodLink RX5 152 mX5_isKind.1 ∈ UW := uw 509 (by decide +kernel) (by decide +kernel)
theorem lk_X5_155 : Cond.methodLink RX5 155 mX1_hasCell.1 ∈ UW := uw 514 (by decide +kernel) (by decide +kernel)
theorem lk_X5_162 : Cond.methodLink RX5 162 mX3_whoStands.1 ∈ UW := uw 518 (by decide +kernel) (by decide +kernel)
theorem lk_X5_165 : Cond.methodLink RX5 165 mX5_watchers.1 ∈ UW := uw 522 (by decide +kernel) (by decide +kernel)
theorem lk_X5_173 : Cond.methodLink RX5 173 mX4_fewest.1 ∈ UW := uw 546 (by decide +kernel) (by decide +kernel)
theorem lk_X4_34 : Cond.methodLink RX4 34 mX1_spread.1 ∈ UW := uw 549 (by decide +kernel) (by decide +kernel)
theorem lk_X5_177 : Cond.methodLink RX5 177 mX4_fewestToTrade.1 ∈ UW := uw 554 (by decide +kernel) (by decide +kernel)
theorem lk_X4_64 : Cond.methodLink RX4 64 mX4_spreadPairs.1 ∈ UW := uw 558 (by decide +kernel) (by decide +kernel)
theorem lk_X5_181 : Cond.methodLink RX5 181 mX5_isOneOfTwo.1 ∈ UW := uw 566 (by decide +kernel) (by decide +kernel)
theorem lk_X5_184 : Cond.methodLink RX5 184 mX3_isThere.1 ∈ UW := uw 569 (by decide +kernel) (by decide +kernel)
theorem lk_X5_190 : Cond.methodLink RX5 190 mX1_mostInPeace.1 ∈ UW := uw 573 (by decide +kernel) (by decide +kernel)
theorem lk_X1_59 : Cond.methodLink RX1 59 mX1_mostInPeace.1 ∈ UW := uw 577 (by decide +kernel) (by decide +kernel)
theorem lk_X1_62 : Cond.methodLink RX1 62 mX1_isLarger.1 ∈ UW := uw 578 (by decide +kernel) (by decide +kernel)
theorem lk_X1_65 : Cond.methodLink RX1 65 mJ6_bitCount.1 ∈ UW := uw 581 (by decide +kernel) (by decide +kernel)
theorem lk_X5_193 : Cond.methodLink RX5 193 mX1_fewestGuards.1 ∈ UW := uw 586 (by decide +kernel) (by decide +kernel)
theorem lk_X1_70 : Cond.methodLink RX1 70 mX1_fewestGuards.1 ∈ UW := uw 590 (by decide +kernel) (by decide +kernel)
theorem lk_X5_197 : Cond.methodLink RX5 197 mX1_partCount.1 ∈ UW := uw 595 (by decide +kernel) (by decide +kernel)
theorem lk_X1_51 : Cond.methodLink RX1 51 mX1_partAround.1 ∈ UW := uw 598 (by decide +kernel) (by decide +kernel)
theorem lk_X5_201 : Cond.methodLink RX5 201 mX1_isTwoShaded.1 ∈ UW := uw 599 (by decide +kernel) (by decide +kernel)
theorem lk_X5_205 : Cond.methodLink RX5 205 mX4_likelihood.1 ∈ UW := uw 606 (by decide +kernel) (by decide +kernel)
theorem lk_X4_69 : Cond.methodLink RX4 69 mX4_addLeap.1 ∈ UW := uw 611 (by decide +kernel) (by decide +kernel)
theorem lk_X4_73 : Cond.methodLink RX4 73 mX4_sumOver.1 ∈ UW := uw 615 (by decide +kernel) (by decide +kernel)
theorem lk_X5_213 : Cond.methodLink RX5 213 mX3_note.1 ∈ UW := uw 623 (by decide +kernel) (by decide +kernel)
theorem lk_X5_216 : Cond.methodLink RX5 216 mX5_walkTrial.1 ∈ UW := uw 635 (by decide +kernel) (by decide +kernel)
theorem lk_X5_226 : Cond.methodLink RX5 226 mX3_copy.1 ∈ UW := uw 639 (by decide +kernel) (by decide +kernel)
theorem lk_X5_283 : Cond.methodLink RX5 283 mX0_next.1 ∈ UW := uw 643 (by decide +kernel) (by decide +kernel)
theorem lk_X5_219 : Cond.methodLink RX5 219 mX5_watchedEmpty.1 ∈ UW := uw 651 (by decide +kernel) (by decide +kernel)
theorem lk_X5_236 : Cond.methodLink RX5 236 mX5_mixLeapers.1 ∈ UW := uw 672 (by decide +kernel) (by decide +kernel)
theorem lk_X5_261 : Cond.methodLink RX5 261 mX5_leaper.1 ∈ UW := uw 676 (by decide +kernel) (by decide +kernel)
theorem lk_X5_249 : Cond.methodLink RX5 249 mX5_mix.1 ∈ UW := uw 677 (by decide +kernel) (by decide +kernel)
theorem lk_X5_264 : Cond.methodLink RX5 264 mX5_hops.1 ∈ UW := uw 681 (by decide +kernel) (by decide +kernel)
theorem lk_X5_267 : Cond.methodLink RX5 267 mX5_chance.1 ∈ UW := uw 682 (by decide +kernel) (by decide +kernel)
theorem lk_X5_240 : Cond.methodLink RX5 240 mX5_mixCells.1 ∈ UW := uw 683 (by decide +kernel) (by decide +kernel)
theorem lk_X5_271 : Cond.methodLink RX5 271 mX5_cell.1 ∈ UW := uw 687 (by decide +kernel) (by decide +kernel)
theorem lk_X5_243 : Cond.methodLink RX5 243 mX5_mixKinds.1 ∈ UW := uw 688 (by decide +kernel) (by decide +kernel)
theorem lk_X5_274 : Cond.methodLink RX5 274 mX5_peace.1 ∈ UW := uw 692 (by decide +kernel) (by decide +kernel)
theorem lk_X5_277 : Cond.methodLink RX5 277 mX5_guard.1 ∈ UW := uw 693 (by decide +kernel) (by decide +kernel)
theorem lk_X5_280 : Cond.methodLink RX5 280 mX5_parts.1 ∈ UW := uw 694 (by decide +kernel) (by decide +kernel)
theorem lk_X5_246 : Cond.methodLink RX5 246 mX5_trade.1 ∈ UW := uw 695 (by decide +kernel) (by decide +kernel)
theorem lk_X5_253 : Cond.methodLink RX5 253 mX2_at.1 ∈ UW := uw 696 (by decide +kernel) (by decide +kernel)
theorem lk_X5_256 : Cond.methodLink RX5 256 mX5_count.1 ∈ UW := uw 697 (by decide +kernel) (by decide +kernel)
theorem lk_X6_68 : Cond.methodLink RX6 68 mX6_within.1 ∈ UW := uw 826 (by decide +kernel) (by decide +kernel)
theorem lk_X6_106 : Cond.methodLink RX6 106 mX6_read.1 ∈ UW := uw 837 (by decide +kernel) (by decide +kernel)
theorem lk_X6_79 : Cond.methodLink RX6 79 mX6_at.1 ∈ UW := uw 841 (by decide +kernel) (by decide +kernel)
theorem lk_X6_100 : Cond.methodLink RX6 100 mX6_readCells.1 ∈ UW := uw 845 (by decide +kernel) (by decide +kernel)
theorem lk_X6_103 : Cond.methodLink RX6 103 mX6_readLeapers.1 ∈ UW := uw 849 (by decide +kernel) (by decide +kernel)
theorem lk_X6_89 : Cond.methodLink RX6 89 mX6_kindBy.1 ∈ UW := uw 853 (by decide +kernel) (by decide +kernel)
theorem lk_X6_92 : Cond.methodLink RX6 92 mX6_isIn.1 ∈ UW := uw 856 (by decide +kernel) (by decide +kernel)
theorem lk_X6_131 : Cond.methodLink RX6 131 mX6_cells.1 ∈ UW := uw 863 (by decide +kernel) (by decide +kernel)
theorem lk_X6_166 : Cond.methodLink RX6 166 mX6_isLeaper.1 ∈ UW := uw 871 (by decide +kernel) (by decide +kernel)
theorem lk_X6_170 : Cond.methodLink RX6 170 mX6_leaperNow.1 ∈ UW := uw 875 (by decide +kernel) (by decide +kernel)
theorem lk_X6_148 : Cond.methodLink RX6 148 mX6_watched.1 ∈ UW := uw 879 (by decide +kernel) (by decide +kernel)
theorem lk_X6_145 : Cond.methodLink RX6 145 mX6_around.1 ∈ UW := uw 883 (by decide +kernel) (by decide +kernel)
theorem lk_X6_138 : Cond.methodLink RX6 138 mX6_apart.1 ∈ UW := uw 887 (by decide +kernel) (by decide +kernel)
theorem lk_X6_142 : Cond.methodLink RX6 142 mX6_canBy.1 ∈ UW := uw 890 (by decide +kernel) (by decide +kernel)
theorem lk_X6_134 : Cond.methodLink RX6 134 mX6_isBy.1 ∈ UW := uw 893 (by decide +kernel) (by decide +kernel)
theorem lk_X6_154 : Cond.methodLink RX6 154 mX6_canGo.1 ∈ UW := uw 896 (by decide +kernel) (by decide +kernel)
theorem lk_X6_151 : Cond.methodLink RX6 151 mX6_standing.1 ∈ UW := uw 900 (by decide +kernel) (by decide +kernel)
theorem lk_X6_157 : Cond.methodLink RX6 157 mX6_sortsOf.1 ∈ UW := uw 904 (by decide +kernel) (by decide +kernel)
theorem lk_X6_160 : Cond.methodLink RX6 160 mX6_askOf.1 ∈ UW := uw 908 (by decide +kernel) (by decide +kernel)
theorem lk_X6_185 : Cond.methodLink RX6 185 mX6_size.1 ∈ UW := uw 913 (by decide +kernel) (by decide +kernel)
theorem lk_X6_163 : Cond.methodLink RX6 163 mX6_wayOf.1 ∈ UW := uw 916 (by decide +kernel) (by decide +kernel)
theorem lk_X6_216 : Cond.methodLink RX6 216 mX6_longestBy.1 ∈ UW := uw 920 (by decide +kernel) (by decide +kernel)
theorem lk_X6_191 : Cond.methodLink RX6 191 mX6_others.1 ∈ UW := uw 924 (by decide +kernel) (by decide +kernel)
theorem lk_X6_212 : Cond.methodLink RX6 212 mX6_goOn.1 ∈ UW := uw 928 (by decide +kernel) (by decide +kernel)
theorem lk_X6_179 : Cond.methodLink RX6 179 mX6_isCell.1 ∈ UW := uw 940 (by decide +kernel) (by decide +kernel)
theorem lk_X6_182 : Cond.methodLink RX6 182 mX6_cellNow.1 ∈ UW := uw 944 (by decide +kernel) (by decide +kernel)
theorem lk_X6_173 : Cond.methodLink RX6 173 mX6_whoAt.1 ∈ UW := uw 948 (by decide +kernel) (by decide +kernel)
theorem lk_X6_176 : Cond.methodLink RX6 176 mX6_watchersOf.1 ∈ UW := uw 952 (by decide +kernel) (by decide +kernel)
theorem lk_X6_194 : Cond.methodLink RX6 194 mX6_hopsNow.1 ∈ UW := uw 976 (by decide +kernel) (by decide +kernel)
theorem lk_X6_188 : Cond.methodLink RX6 188 mX6_aroundAll.1 ∈ UW := uw 980 (by decide +kernel) (by decide +kernel)
theorem lk_X6_209 : Cond.methodLink RX6 209 mX6_tradeNow.1 ∈ UW := uw 988 (by decide +kernel) (by decide +kernel)
theorem lk_X6_201 : Cond.methodLink RX6 201 mX6_comeTo.1 ∈ UW := uw 992 (by decide +kernel) (by decide +kernel)
theorem lk_X6_205 : Cond.methodLink RX6 205 mX6_comeFrom.1 ∈ UW := uw 996 (by decide +kernel) (by decide +kernel)
theorem lk_X6_225 : Cond.methodLink RX6 225 mX6_refused.1 ∈ UW := uw 1004 (by decide +kernel) (by decide +kernel)
theorem lk_X6_219 : Cond.methodLink RX6 219 mX6_isKind.1 ∈ UW := uw 1008 (by decide +kernel) (by decide +kernel)
theorem lk_X6_228 : Cond.methodLink RX6 228 mX6_peaceNow.1 ∈ UW := uw 1011 (by decide +kernel) (by decide +kernel)
theorem lk_X6_222 : Cond.methodLink RX6 222 mX6_peaceSet.1 ∈ UW := uw 1015 (by decide +kernel) (by decide +kernel)
theorem lk_X6_234 : Cond.methodLink RX6 234 mX6_guardNow.1 ∈ UW := uw 1023 (by decide +kernel) (by decide +kernel)
theorem lk_X6_231 : Cond.methodLink RX6 231 mX6_guardSet.1 ∈ UW := uw 1027 (by decide +kernel) (by decide +kernel)
theorem lk_X6_246 : Cond.methodLink RX6 246 mX6_partsTold.1 ∈ UW := uw 1035 (by decide +kernel) (by decide +kernel)
theorem lk_X6_240 : Cond.methodLink RX6 240 mX6_partsNow.1 ∈ UW := uw 1039 (by decide +kernel) (by decide +kernel)
theorem lk_X6_237 : Cond.methodLink RX6 237 mX6_partOf.1 ∈ UW := uw 1043 (by decide +kernel) (by decide +kernel)
theorem lk_X6_243 : Cond.methodLink RX6 243 mX6_areShades.1 ∈ UW := uw 1047 (by decide +kernel) (by decide +kernel)
theorem lk_X6_254 : Cond.methodLink RX6 254 mX6_chanceNow.1 ∈ UW := uw 1055 (by decide +kernel) (by decide +kernel)
theorem lk_X6_250 : Cond.methodLink RX6 250 mX6_chanceFrom.1 ∈ UW := uw 1060 (by decide +kernel) (by decide +kernel)
theorem lk_X6_278 : Cond.methodLink RX6 278 mX6_walksNow.1 ∈ UW := uw 1076 (by decide +kernel) (by decide +kernel)
theorem lk_X6_269 : Cond.methodLink RX6 269 mX6_draw.1 ∈ UW := uw 1080 (by decide +kernel) (by decide +kernel)
theorem lk_X6_272 : Cond.methodLink RX6 272 mX6_ofSet.1 ∈ UW := uw 1088 (by decide +kernel) (by decide +kernel)
theorem lk_X6_275 : Cond.methodLink RX6 275 mX6_watchedFree.1 ∈ UW := uw 1091 (by decide +kernel) (by decide +kernel)
theorem lk_X6_296 : Cond.methodLink RX6 296 mX6_howMany.1 ∈ UW := uw 1107 (by decide +kernel) (by decide +kernel)
theorem lk_X6_304 : Cond.methodLink RX6 304 mX6_mix.1 ∈ UW := uw 1116 (by decide +kernel) (by decide +kernel)
theorem lk_X6_310 : Cond.methodLink RX6 310 mX6_hops.1 ∈ UW := uw 1121 (by decide +kernel) (by decide +kernel)
theorem lk_X6_313 : Cond.methodLink RX6 313 mX6_chance.1 ∈ UW := uw 1122 (by decide +kernel) (by decide +kernel)
theorem lk_X6_316 : Cond.methodLink RX6 316 mX6_mixBoard.1 ∈ UW := uw 1123 (by decide +kernel) (by decide +kernel)
theorem math_init : Cond.initialized "java/lang/Math" ∈ UW := uw 72 (by decide +kernel) (by decide +kernel)
theorem math_abs : Cond.static Lib.Math.abs.name ∈ UW ∧ Cond.code Lib.Math.abs.name Lib.Math.abs.code 1 (some .int) ∈ UW := ⟨uw 391 (by decide +kernel) (by decide +kernel), uw 392 (by decide +kernel) (by decide +kernel)⟩
theorem math_max : Cond.static Lib.Math.max.name ∈ UW ∧ Cond.code Lib.Math.max.name Lib.Math.max.code 2 (some .int) ∈ UW := ⟨uw 305 (by decide +kernel) (by decide +kernel), uw 306 (by decide +kernel) (by decide +kernel)⟩
theorem math_min : Cond.static Lib.Math.min.name ∈ UW ∧ Cond.code Lib.Math.min.name Lib.Math.min.code 2 (some .int) ∈ UW := ⟨uw 308 (by decide +kernel) (by decide +kernel), uw 309 (by decide +kernel) (by decide +kernel)⟩
def NW : List Cond := [Cond.methodLinkNest RX5 9 mX2_init.1 "LeapBoard", Cond.methodLinkNest RX5 18 mX1_init.1 "LeapBoard", Cond.methodLinkNest RX5 25 mX3_init.1 "LeapBoard", Cond.methodLinkNest RX5 38 mX4_init.1 "LeapBoard", Cond.methodLinkNest RX5 45 mX0_init.1 "LeapBoard", Cond.methodLinkNest RX1 40 mX5_goes.1 "LeapBoard", Cond.methodLinkNest RX1 30 mX5_isKind.1 "LeapBoard", Cond.methodLinkNest RX4 30 mX5_has.1 "LeapBoard", Cond.methodLinkNest RX4 48 mX5_lowestOf.1 "LeapBoard", Cond.methodLinkNest RX1 55 mX5_has.1 "LeapBoard", Cond.methodLinkNest RX1 48 mX5_lowestOf.1 "LeapBoard"]
theorem nw_form : ∀ w ∈ NW, ∃ (a : String) (i : Nat) (x : MethodName) (h : String), w = Cond.methodLinkNest a i x h := by
  intro w hw
  simp only [NW, List.mem_cons, List.not_mem_nil, or_false] at hw
  rcases hw with rfl | rfl | rfl | rfl | rfl | rfl | rfl | rfl | rfl | rfl | rfl <;> exact ⟨_, _, _, _, rfl⟩
theorem nk_X5_9 : Cond.methodLinkNest RX5 9 mX2_init.1 "LeapBoard" ∈ NW := List.mem_of_getElem? (i := 0) rfl
theorem nk_X5_18 : Cond.methodLinkNest RX5 18 mX1_init.1 "LeapBoard" ∈ NW := List.mem_of_getElem? (i := 1) rfl
theorem nk_X5_25 : Cond.methodLinkNest RX5 25 mX3_init.1 "LeapBoard" ∈ NW := List.mem_of_getElem? (i := 2) rfl
theorem nk_X5_38 : Cond.methodLinkNest RX5 38 mX4_init.1 "LeapBoard" ∈ NW := List.mem_of_getElem? (i := 3) rfl
theorem nk_X5_45 : Cond.methodLinkNest RX5 45 mX0_init.1 "LeapBoard" ∈ NW := List.mem_of_getElem? (i := 4) rfl
theorem nk_X1_40 : Cond.methodLinkNest RX1 40 mX5_goes.1 "LeapBoard" ∈ NW := List.mem_of_getElem? (i := 5) rfl
theorem nk_X1_30 : Cond.methodLinkNest RX1 30 mX5_isKind.1 "LeapBoard" ∈ NW := List.mem_of_getElem? (i := 6) rfl
theorem nk_X4_30 : Cond.methodLinkNest RX4 30 mX5_has.1 "LeapBoard" ∈ NW := List.mem_of_getElem? (i := 7) rfl
theorem nk_X4_48 : Cond.methodLinkNest RX4 48 mX5_lowestOf.1 "LeapBoard" ∈ NW := List.mem_of_getElem? (i := 8) rfl
theorem nk_X1_55 : Cond.methodLinkNest RX1 55 mX5_has.1 "LeapBoard" ∈ NW := List.mem_of_getElem? (i := 9) rfl
theorem nk_X1_48 : Cond.methodLinkNest RX1 48 mX5_lowestOf.1 "LeapBoard" ∈ NW := List.mem_of_getElem? (i := 10) rfl
theorem nw_tbl : ∀ w ∈ NW, w ∈ lw_tbl := by
  intro w hw
  simp only [NW, List.mem_cons, List.not_mem_nil, or_false] at hw
  rcases hw with rfl | rfl | rfl | rfl | rfl | rfl | rfl | rfl | rfl | rfl | rfl
  · exact List.mem_of_getElem? (i := 87) (by decide +kernel)
  · exact List.mem_of_getElem? (i := 105) (by decide +kernel)
  · exact List.mem_of_getElem? (i := 129) (by decide +kernel)
  · exact List.mem_of_getElem? (i := 166) (by decide +kernel)
  · exact List.mem_of_getElem? (i := 191) (by decide +kernel)
  · exact List.mem_of_getElem? (i := 393) (by decide +kernel)
  · exact List.mem_of_getElem? (i := 436) (by decide +kernel)
  · exact List.mem_of_getElem? (i := 486) (by decide +kernel)
  · exact List.mem_of_getElem? (i := 498) (by decide +kernel)
  · exact List.mem_of_getElem? (i := 576) (by decide +kernel)
  · exact List.mem_of_getElem? (i := 589) (by decide +kernel)
end
section
/-! ===== fields ===== -/
def FOK (own : String) (idx ci k : Nat) (ty : FieldType) (fin : Bool) : Prop := ∃ (C : String) (T : u_T) (N : Nat) (ty0 : Nat → FieldType), vwCl[ci]? = some (C, T, N) ∧ (∀ w ∈ u_ws C T N, w ∈ UW) ∧ (∀ k, k < N → parseFieldDescriptor (T k).2.2.1 = some (ty0 k)) ∧ (∀ a, a < N → ∀ b, b < N → a ≠ b → (T a).2.1 ≠ (T b).2.1) ∧ k < N ∧ ty0 k = ty ∧ (T k).2.2.2 = fin ∧ Cond.fieldLink own idx (T k).1 (T k).2.1 (T k).2.2.1 ∈ UW
theorem uwX0 : ∀ w ∈ u_ws RX0 TX0 1, w ∈ UW := by
  have h : (u_ws RX0 TX0 1) = [197].filterMap (fun i => lw_tbl[i]?) := by decide +kernel
  intro w hw
  have hg : goodWord w = true := List.all_eq_true.mp (show (u_ws RX0 TX0 1).all goodWord = true by decide +kernel) w hw
  rw [h] at hw
  obtain ⟨i, -, hi⟩ := List.mem_filterMap.mp hw
  exact uw i hi hg
theorem uwX1 : ∀ w ∈ u_ws RX1 TX1 4, w ∈ UW := by
  have h : (u_ws RX1 TX1 4) = [118, 120, 122, 124].filterMap (fun i => lw_tbl[i]?) := by decide +kernel
  intro w hw
  have hg : goodWord w = true := List.all_eq_true.mp (show (u_ws RX1 TX1 4).all goodWord = true by decide +kernel) w hw
  rw [h] at hw
  obtain ⟨i, -, hi⟩ := List.mem_filterMap.mp hw
  exact uw i hi hg
theorem uwX2 : ∀ w ∈ u_ws RX2 TX2 3, w ∈ UW := by
  have h : (u_ws RX2 TX2 3) = [95, 97, 99].filterMap (fun i => lw_tbl[i]?) := by decide +kernel
  intro w hw
  have hg : goodWord w = true := List.all_eq_true.mp (show (u_ws RX2 TX2 3).all goodWord = true by decide +kernel) w hw
  rw [h] at hw
  obtain ⟨i, -, hi⟩ := List.mem_filterMap.mp hw
  exact uw i hi hg
theorem uwX3 : ∀ w ∈ u_ws RX3 TX3 8, w ∈ UW := by
  have h : (u_ws RX3 TX3 8) = [147, 149, 151, 153, 155, 157, 159, 161].filterMap (fun i => lw_tbl[i]?) := by decide +kernel
  intro w hw
  have hg : goodWord w = true := List.all_eq_true.mp (show (u_ws RX3 TX3 8).all goodWord = true by decide +kernel) w hw
  rw [h] at hw
  obtain ⟨i, -, hi⟩ := List.mem_filterMap.mp hw
  exact uw i hi hg
theorem uwX4 : ∀ w ∈ u_ws RX4 TX4 6, w ∈ UW := by
  have h : (u_ws RX4 TX4 6) = [176, 178, 180, 182, 184, 186].filterMap (fun i => lw_tbl[i]?) := by decide +kernel
  intro w hw
  have hg : goodWord w = true := List.all_eq_true.mp (show (u_ws RX4 TX4 6).all goodWord = true by decide +kernel) w hw
  rw [h] at hw
  obtain ⟨i, -, hi⟩ := List.mem_filterMap.mp hw
  exact uw i hi hg
theorem uwX5 : ∀ w ∈ u_ws RX5 TX5 9, w ∈ UW := by
  have h : (u_ws RX5 TX5 9) = [209, 211, 213, 215, 217, 219, 221, 223, 225].filterMap (fun i => lw_tbl[i]?) := by decide +kernel
  intro w hw
  have hg : goodWord w = true := List.all_eq_true.mp (show (u_ws RX5 TX5 9).all goodWord = true by decide +kernel) w hw
  rw [h] at hw
  obtain ⟨i, -, hi⟩ := List.mem_filterMap.mp hw
  exact uw i hi hg
theorem uwX6 : ∀ w ∈ u_ws RX6 TX6 39, w ∈ UW := by
  have h : (u_ws RX6 TX6 39) = [743, 745, 747, 749, 751, 753, 755, 757, 759, 761, 763, 765, 767, 769, 771, 773, 775, 777, 779, 781, 783, 785, 787, 789, 791, 793, 795, 797, 799, 801, 803, 805, 807, 809, 811, 813, 815, 817, 819].filterMap (fun i => lw_tbl[i]?) := by decide +kernel
  intro w hw
  have hg : goodWord w = true := List.all_eq_true.mp (show (u_ws RX6 TX6 39).all goodWord = true by decide +kernel) w hw
  rw [h] at hw
  obtain ⟨i, -, hi⟩ := List.mem_filterMap.mp hw
  exact uw i hi hg
theorem fk_X2_9 : FOK RX2 9 2 0 (.array .int) true := ⟨RX2, TX2, 3, tyX2, rfl, uwX2, tyX2_ok, nmX2, by decide, rfl, rfl, uw 91 (by decide +kernel) (by decide +kernel)⟩
theorem fk_X2_15 : FOK RX2 15 2 1 .int false := ⟨RX2, TX2, 3, tyX2, rfl, uwX2, tyX2_ok, nmX2, by decide, rfl, rfl, uw 92 (by decide +kernel) (by decide +kernel)⟩
theorem fk_X5_62 : FOK RX5 62 2 1 .int false := ⟨RX2, TX2, 3, tyX2, rfl, uwX2, tyX2_ok, nmX2, by decide, rfl, rfl, uw 93 (by decide +kernel) (by decide +kernel)⟩
theorem fk_X2_26 : FOK RX2 26 2 2 .int false := ⟨RX2, TX2, 3, tyX2, rfl, uwX2, tyX2_ok, nmX2, by decide, rfl, rfl, uw 94 (by decide +kernel) (by decide +kernel)⟩
theorem fk_X1_16 : FOK RX1 16 1 0 .int false := ⟨RX1, TX1, 4, tyX1, rfl, uwX1, tyX1_ok, nmX1, by decide, rfl, rfl, uw 111 (by decide +kernel) (by decide +kernel)⟩
theorem fk_X5_230 : FOK RX5 230 1 0 .int false := ⟨RX1, TX1, 4, tyX1, rfl, uwX1, tyX1_ok, nmX1, by decide, rfl, rfl, uw 112 (by decide +kernel) (by decide +kernel)⟩
theorem fk_X1_20 : FOK RX1 20 1 1 .int false := ⟨RX1, TX1, 4, tyX1, rfl, uwX1, tyX1_ok, nmX1, by decide, rfl, rfl, uw 113 (by decide +kernel) (by decide +kernel)⟩
theorem fk_X5_232 : FOK RX5 232 1 1 .int false := ⟨RX1, TX1, 4, tyX1, rfl, uwX1, tyX1_ok, nmX1, by decide, rfl, rfl, uw 114 (by decide +kernel) (by decide +kernel)⟩
theorem fk_X1_23 : FOK RX1 23 1 2 .int false := ⟨RX1, TX1, 4, tyX1, rfl, uwX1, tyX1_ok, nmX1, by decide, rfl, rfl, uw 115 (by decide +kernel) (by decide +kernel)⟩
theorem fk_X5_117 : FOK RX5 117 1 2 .int false := ⟨RX1, TX1, 4, tyX1, rfl, uwX1, tyX1_ok, nmX1, by decide, rfl, rfl, uw 116 (by decide +kernel) (by decide +kernel)⟩
theorem fk_X1_11 : FOK RX1 11 1 3 (.array (.array .int)) true := ⟨RX1, TX1, 4, tyX1, rfl, uwX1, tyX1_ok, nmX1, by decide, rfl, rfl, uw 117 (by decide +kernel) (by decide +kernel)⟩
theorem fk_X5_89 : FOK RX5 89 3 0 .int false := ⟨RX3, TX3, 8, tyX3, rfl, uwX3, tyX3_ok, nmX3, by decide, rfl, rfl, uw 133 (by decide +kernel) (by decide +kernel)⟩
theorem fk_X3_32 : FOK RX3 32 3 0 .int false := ⟨RX3, TX3, 8, tyX3, rfl, uwX3, tyX3_ok, nmX3, by decide, rfl, rfl, uw 134 (by decide +kernel) (by decide +kernel)⟩
theorem fk_X3_24 : FOK RX3 24 3 1 .int false := ⟨RX3, TX3, 8, tyX3, rfl, uwX3, tyX3_ok, nmX3, by decide, rfl, rfl, uw 135 (by decide +kernel) (by decide +kernel)⟩
theorem fk_X5_95 : FOK RX5 95 3 1 .int false := ⟨RX3, TX3, 8, tyX3, rfl, uwX3, tyX3_ok, nmX3, by decide, rfl, rfl, uw 136 (by decide +kernel) (by decide +kernel)⟩
theorem fk_X5_111 : FOK RX5 111 3 2 .int false := ⟨RX3, TX3, 8, tyX3, rfl, uwX3, tyX3_ok, nmX3, by decide, rfl, rfl, uw 137 (by decide +kernel) (by decide +kernel)⟩
theorem fk_X3_38 : FOK RX3 38 3 2 .int false := ⟨RX3, TX3, 8, tyX3, rfl, uwX3, tyX3_ok, nmX3, by decide, rfl, rfl, uw 138 (by decide +kernel) (by decide +kernel)⟩
theorem fk_X5_114 : FOK RX5 114 3 3 .int false := ⟨RX3, TX3, 8, tyX3, rfl, uwX3, tyX3_ok, nmX3, by decide, rfl, rfl, uw 139 (by decide +kernel) (by decide +kernel)⟩
theorem fk_X3_35 : FOK RX3 35 3 3 .int false := ⟨RX3, TX3, 8, tyX3, rfl, uwX3, tyX3_ok, nmX3, by decide, rfl, rfl, uw 140 (by decide +kernel) (by decide +kernel)⟩
theorem fk_X3_9 : FOK RX3 9 3 4 (.array .int) true := ⟨RX3, TX3, 8, tyX3, rfl, uwX3, tyX3_ok, nmX3, by decide, rfl, rfl, uw 141 (by decide +kernel) (by decide +kernel)⟩
theorem fk_X5_97 : FOK RX5 97 3 4 (.array .int) true := ⟨RX3, TX3, 8, tyX3, rfl, uwX3, tyX3_ok, nmX3, by decide, rfl, rfl, uw 142 (by decide +kernel) (by decide +kernel)⟩
theorem fk_X3_15 : FOK RX3 15 3 5 (.array .int) true := ⟨RX3, TX3, 8, tyX3, rfl, uwX3, tyX3_ok, nmX3, by decide, rfl, rfl, uw 143 (by decide +kernel) (by decide +kernel)⟩
theorem fk_X5_105 : FOK RX5 105 3 5 (.array .int) true := ⟨RX3, TX3, 8, tyX3, rfl, uwX3, tyX3_ok, nmX3, by decide, rfl, rfl, uw 144 (by decide +kernel) (by decide +kernel)⟩
theorem fk_X3_18 : FOK RX3 18 3 6 (.array .int) true := ⟨RX3, TX3, 8, tyX3, rfl, uwX3, tyX3_ok, nmX3, by decide, rfl, rfl, uw 145 (by decide +kernel) (by decide +kernel)⟩
theorem fk_X3_21 : FOK RX3 21 3 7 (.array .int) true := ⟨RX3, TX3, 8, tyX3, rfl, uwX3, tyX3_ok, nmX3, by decide, rfl, rfl, uw 146 (by decide +kernel) (by decide +kernel)⟩
theorem fk_X4_9 : FOK RX4 9 4 0 (.array .int) true := ⟨RX4, TX4, 6, tyX4, rfl, uwX4, tyX4_ok, nmX4, by decide, rfl, rfl, uw 170 (by decide +kernel) (by decide +kernel)⟩
theorem fk_X4_15 : FOK RX4 15 4 1 (.array .int) true := ⟨RX4, TX4, 6, tyX4, rfl, uwX4, tyX4_ok, nmX4, by decide, rfl, rfl, uw 171 (by decide +kernel) (by decide +kernel)⟩
theorem fk_X4_18 : FOK RX4 18 4 2 (.array .int) true := ⟨RX4, TX4, 6, tyX4, rfl, uwX4, tyX4_ok, nmX4, by decide, rfl, rfl, uw 172 (by decide +kernel) (by decide +kernel)⟩
theorem fk_X4_21 : FOK RX4 21 4 3 (.array .int) true := ⟨RX4, TX4, 6, tyX4, rfl, uwX4, tyX4_ok, nmX4, by decide, rfl, rfl, uw 173 (by decide +kernel) (by decide +kernel)⟩
theorem fk_X4_24 : FOK RX4 24 4 4 (.array .int) true := ⟨RX4, TX4, 6, tyX4, rfl, uwX4, tyX4_ok, nmX4, by decide, rfl, rfl, uw 174 (by decide +kernel) (by decide +kernel)⟩
theorem fk_X4_27 : FOK RX4 27 4 5 (.array .int) true := ⟨RX4, TX4, 6, tyX4, rfl, uwX4, tyX4_ok, nmX4, by decide, rfl, rfl, uw 175 (by decide +kernel) (by decide +kernel)⟩
theorem fk_X0_9 : FOK RX0 9 0 0 .int false := ⟨RX0, TX0, 1, tyX0, rfl, uwX0, tyX0_ok, nmX0, by decide, rfl, rfl, uw 195 (by decide +kernel) (by decide +kernel)⟩
theorem fk_X5_223 : FOK RX5 223 0 0 .int false := ⟨RX0, TX0, 1, tyX0, rfl, uwX0, tyX0_ok, nmX0, by decide, rfl, rfl, uw 196 (by decide +kernel) (by decide +kernel)⟩
theorem fk_X5_10 : FOK RX5 10 5 0 (.object "LeapBoard$Page") true := ⟨RX5, TX5, 9, tyX5, rfl, uwX5, tyX5_ok, nmX5, by decide, rfl, rfl, uw 200 (by decide +kernel) (by decide +kernel)⟩
theorem fk_X5_19 : FOK RX5 19 5 1 (.object "LeapBoard$Ground") true := ⟨RX5, TX5, 9, tyX5, rfl, uwX5, tyX5_ok, nmX5, by decide, rfl, rfl, uw 201 (by decide +kernel) (by decide +kernel)⟩
theorem fk_X5_26 : FOK RX5 26 5 2 (.object "LeapBoard$Scene") true := ⟨RX5, TX5, 9, tyX5, rfl, uwX5, tyX5_ok, nmX5, by decide, rfl, rfl, uw 202 (by decide +kernel) (by decide +kernel)⟩
theorem fk_X5_30 : FOK RX5 30 5 3 (.object "LeapBoard$Scene") true := ⟨RX5, TX5, 9, tyX5, rfl, uwX5, tyX5_ok, nmX5, by decide, rfl, rfl, uw 203 (by decide +kernel) (by decide +kernel)⟩
theorem fk_X5_33 : FOK RX5 33 5 4 (.object "LeapBoard$Scene") true := ⟨RX5, TX5, 9, tyX5, rfl, uwX5, tyX5_ok, nmX5, by decide, rfl, rfl, uw 204 (by decide +kernel) (by decide +kernel)⟩
theorem fk_X5_39 : FOK RX5 39 5 5 (.object "LeapBoard$Trips") true := ⟨RX5, TX5, 9, tyX5, rfl, uwX5, tyX5_ok, nmX5, by decide, rfl, rfl, uw 205 (by decide +kernel) (by decide +kernel)⟩
theorem fk_X5_46 : FOK RX5 46 5 6 (.object "LeapBoard$Draws") true := ⟨RX5, TX5, 9, tyX5, rfl, uwX5, tyX5_ok, nmX5, by decide, rfl, rfl, uw 206 (by decide +kernel) (by decide +kernel)⟩
theorem fk_X5_50 : FOK RX5 50 5 7 .boolean false := ⟨RX5, TX5, 9, tyX5, rfl, uwX5, tyX5_ok, nmX5, by decide, rfl, rfl, uw 207 (by decide +kernel) (by decide +kernel)⟩
theorem fk_X5_54 : FOK RX5 54 5 8 .int false := ⟨RX5, TX5, 9, tyX5, rfl, uwX5, tyX5_ok, nmX5, by decide, rfl, rfl, uw 208 (by decide +kernel) (by decide +kernel)⟩
theorem fk_X6_125 : FOK RX6 125 6 0 .int false := ⟨RX6, TX6, 39, tyX6, rfl, uwX6, tyX6_ok, nmX6, by decide, rfl, rfl, uw 704 (by decide +kernel) (by decide +kernel)⟩
theorem fk_X6_110 : FOK RX6 110 6 1 .int false := ⟨RX6, TX6, 39, tyX6, rfl, uwX6, tyX6_ok, nmX6, by decide, rfl, rfl, uw 705 (by decide +kernel) (by decide +kernel)⟩
theorem fk_X6_113 : FOK RX6 113 6 2 .int false := ⟨RX6, TX6, 39, tyX6, rfl, uwX6, tyX6_ok, nmX6, by decide, rfl, rfl, uw 706 (by decide +kernel) (by decide +kernel)⟩
theorem fk_X6_116 : FOK RX6 116 6 3 .int false := ⟨RX6, TX6, 39, tyX6, rfl, uwX6, tyX6_ok, nmX6, by decide, rfl, rfl, uw 707 (by decide +kernel) (by decide +kernel)⟩
theorem fk_X6_119 : FOK RX6 119 6 4 .int false := ⟨RX6, TX6, 39, tyX6, rfl, uwX6, tyX6_ok, nmX6, by decide, rfl, rfl, uw 708 (by decide +kernel) (by decide +kernel)⟩
theorem fk_X6_7 : FOK RX6 7 6 5 (.array .int) true := ⟨RX6, TX6, 39, tyX6, rfl, uwX6, tyX6_ok, nmX6, by decide, rfl, rfl, uw 709 (by decide +kernel) (by decide +kernel)⟩
theorem fk_X6_13 : FOK RX6 13 6 6 (.array .int) true := ⟨RX6, TX6, 39, tyX6, rfl, uwX6, tyX6_ok, nmX6, by decide, rfl, rfl, uw 710 (by decide +kernel) (by decide +kernel)⟩
theorem fk_X6_122 : FOK RX6 122 6 7 .int false := ⟨RX6, TX6, 39, tyX6, rfl, uwX6, tyX6_ok, nmX6, by decide, rfl, rfl, uw 711 (by decide +kernel) (by decide +kernel)⟩
theorem fk_X6_128 : FOK RX6 128 6 8 .int false := ⟨RX6, TX6, 39, tyX6, rfl, uwX6, tyX6_ok, nmX6, by decide, rfl, rfl, uw 712 (by decide +kernel) (by decide +kernel)⟩
theorem fk_X6_16 : FOK RX6 16 6 9 (.array .int) true := ⟨RX6, TX6, 39, tyX6, rfl, uwX6, tyX6_ok, nmX6, by decide, rfl, rfl, uw 713 (by decide +kernel) (by decide +kernel)⟩
theorem fk_X6_19 : FOK RX6 19 6 10 (.array .int) true := ⟨RX6, TX6, 39, tyX6, rfl, uwX6, tyX6_ok, nmX6, by decide, rfl, rfl, uw 714 (by decide +kernel) (by decide +kernel)⟩
theorem fk_X6_22 : FOK RX6 22 6 11 (.array .int) true := ⟨RX6, TX6, 39, tyX6, rfl, uwX6, tyX6_ok, nmX6, by decide, rfl, rfl, uw 715 (by decide +kernel) (by decide +kernel)⟩
theorem fk_X6_25 : FOK RX6 25 6 12 (.array .int) true := ⟨RX6, TX6, 39, tyX6, rfl, uwX6, tyX6_ok, nmX6, by decide, rfl, rfl, uw 716 (by decide +kernel) (by decide +kernel)⟩
theorem fk_X6_72 : FOK RX6 72 6 13 .int false := ⟨RX6, TX6, 39, tyX6, rfl, uwX6, tyX6_ok, nmX6, by decide, rfl, rfl, uw 717 (by decide +kernel) (by decide +kernel)⟩
theorem fk_X6_28 : FOK RX6 28 6 14 (.array .byte) true := ⟨RX6, TX6, 39, tyX6, rfl, uwX6, tyX6_ok, nmX6, by decide, rfl, rfl, uw 718 (by decide +kernel) (by decide +kernel)⟩
theorem fk_X6_96 : FOK RX6 96 6 15 .boolean false := ⟨RX6, TX6, 39, tyX6, rfl, uwX6, tyX6_ok, nmX6, by decide, rfl, rfl, uw 719 (by decide +kernel) (by decide +kernel)⟩
theorem fk_X6_76 : FOK RX6 76 6 16 .int false := ⟨RX6, TX6, 39, tyX6, rfl, uwX6, tyX6_ok, nmX6, by decide, rfl, rfl, uw 720 (by decide +kernel) (by decide +kernel)⟩
theorem fk_X6_83 : FOK RX6 83 6 17 .int false := ⟨RX6, TX6, 39, tyX6, rfl, uwX6, tyX6_ok, nmX6, by decide, rfl, rfl, uw 721 (by decide +kernel) (by decide +kernel)⟩
theorem fk_X6_86 : FOK RX6 86 6 18 .int false := ⟨RX6, TX6, 39, tyX6, rfl, uwX6, tyX6_ok, nmX6, by decide, rfl, rfl, uw 722 (by decide +kernel) (by decide +kernel)⟩
theorem fk_X6_32 : FOK RX6 32 6 19 (.array .int) true := ⟨RX6, TX6, 39, tyX6, rfl, uwX6, tyX6_ok, nmX6, by decide, rfl, rfl, uw 723 (by decide +kernel) (by decide +kernel)⟩
theorem fk_X6_35 : FOK RX6 35 6 20 (.array .int) true := ⟨RX6, TX6, 39, tyX6, rfl, uwX6, tyX6_ok, nmX6, by decide, rfl, rfl, uw 724 (by decide +kernel) (by decide +kernel)⟩
theorem fk_X6_198 : FOK RX6 198 6 21 .int false := ⟨RX6, TX6, 39, tyX6, rfl, uwX6, tyX6_ok, nmX6, by decide, rfl, rfl, uw 725 (by decide +kernel) (by decide +kernel)⟩
theorem fk_X6_38 : FOK RX6 38 6 22 (.array .int) true := ⟨RX6, TX6, 39, tyX6, rfl, uwX6, tyX6_ok, nmX6, by decide, rfl, rfl, uw 726 (by decide +kernel) (by decide +kernel)⟩
theorem fk_X6_41 : FOK RX6 41 6 23 (.array .int) true := ⟨RX6, TX6, 39, tyX6, rfl, uwX6, tyX6_ok, nmX6, by decide, rfl, rfl, uw 727 (by decide +kernel) (by decide +kernel)⟩
theorem fk_X6_44 : FOK RX6 44 6 24 (.array .int) true := ⟨RX6, TX6, 39, tyX6, rfl, uwX6, tyX6_ok, nmX6, by decide, rfl, rfl, uw 728 (by decide +kernel) (by decide +kernel)⟩
theorem fk_X6_259 : FOK RX6 259 6 25 .long false := ⟨RX6, TX6, 39, tyX6, rfl, uwX6, tyX6_ok, nmX6, by decide, rfl, rfl, uw 729 (by decide +kernel) (by decide +kernel)⟩
theorem fk_X6_47 : FOK RX6 47 6 26 (.array .int) true := ⟨RX6, TX6, 39, tyX6, rfl, uwX6, tyX6_ok, nmX6, by decide, rfl, rfl, uw 730 (by decide +kernel) (by decide +kernel)⟩
theorem fk_X6_281 : FOK RX6 281 6 27 .boolean false := ⟨RX6, TX6, 39, tyX6, rfl, uwX6, tyX6_ok, nmX6, by decide, rfl, rfl, uw 731 (by decide +kernel) (by decide +kernel)⟩
theorem fk_X6_284 : FOK RX6 284 6 28 .int false := ⟨RX6, TX6, 39, tyX6, rfl, uwX6, tyX6_ok, nmX6, by decide, rfl, rfl, uw 732 (by decide +kernel) (by decide +kernel)⟩
theorem fk_X6_287 : FOK RX6 287 6 29 .int false := ⟨RX6, TX6, 39, tyX6, rfl, uwX6, tyX6_ok, nmX6, by decide, rfl, rfl, uw 733 (by decide +kernel) (by decide +kernel)⟩
theorem fk_X6_290 : FOK RX6 290 6 30 .int false := ⟨RX6, TX6, 39, tyX6, rfl, uwX6, tyX6_ok, nmX6, by decide, rfl, rfl, uw 734 (by decide +kernel) (by decide +kernel)⟩
theorem fk_X6_293 : FOK RX6 293 6 31 .int false := ⟨RX6, TX6, 39, tyX6, rfl, uwX6, tyX6_ok, nmX6, by decide, rfl, rfl, uw 735 (by decide +kernel) (by decide +kernel)⟩
theorem fk_X6_50 : FOK RX6 50 6 32 (.array .int) true := ⟨RX6, TX6, 39, tyX6, rfl, uwX6, tyX6_ok, nmX6, by decide, rfl, rfl, uw 736 (by decide +kernel) (by decide +kernel)⟩
theorem fk_X6_53 : FOK RX6 53 6 33 (.array .int) true := ⟨RX6, TX6, 39, tyX6, rfl, uwX6, tyX6_ok, nmX6, by decide, rfl, rfl, uw 737 (by decide +kernel) (by decide +kernel)⟩
theorem fk_X6_56 : FOK RX6 56 6 34 (.array .int) true := ⟨RX6, TX6, 39, tyX6, rfl, uwX6, tyX6_ok, nmX6, by decide, rfl, rfl, uw 738 (by decide +kernel) (by decide +kernel)⟩
theorem fk_X6_59 : FOK RX6 59 6 35 (.array .int) true := ⟨RX6, TX6, 39, tyX6, rfl, uwX6, tyX6_ok, nmX6, by decide, rfl, rfl, uw 739 (by decide +kernel) (by decide +kernel)⟩
theorem fk_X6_62 : FOK RX6 62 6 36 (.array .int) true := ⟨RX6, TX6, 39, tyX6, rfl, uwX6, tyX6_ok, nmX6, by decide, rfl, rfl, uw 740 (by decide +kernel) (by decide +kernel)⟩
theorem fk_X6_65 : FOK RX6 65 6 37 (.array .int) true := ⟨RX6, TX6, 39, tyX6, rfl, uwX6, tyX6_ok, nmX6, by decide, rfl, rfl, uw 741 (by decide +kernel) (by decide +kernel)⟩
theorem fk_X6_301 : FOK RX6 301 6 38 .long false := ⟨RX6, TX6, 39, tyX6, rfl, uwX6, tyX6_ok, nmX6, by decide, rfl, rfl, uw 742 (by decide +kernel) (by decide +kernel)⟩
theorem kc_J2_227 : Cond.constant RJ2 227 (65536) ∈ UW := uw 318 (by decide +kernel) (by decide +kernel)
theorem kc_J11_110 : Cond.constant RJ11 110 (55232) ∈ UW := uw 357 (by decide +kernel) (by decide +kernel)
theorem kc_J11_76 : Cond.constant RJ11 76 (56320) ∈ UW := uw 361 (by decide +kernel) (by decide +kernel)
theorem kc_J6_265 : Cond.constant RJ6 265 (1431655765) ∈ UW := uw 461 (by decide +kernel) (by decide +kernel)
theorem kc_J6_266 : Cond.constant RJ6 266 (858993459) ∈ UW := uw 462 (by decide +kernel) (by decide +kernel)
theorem kc_J6_267 : Cond.constant RJ6 267 (252645135) ∈ UW := uw 463 (by decide +kernel) (by decide +kernel)
theorem kc_X4_68 : Cond.constant RX4 68 (1000000) ∈ UW := uw 610 (by decide +kernel) (by decide +kernel)
theorem kc_X0_7 : Cond.constantLong RX0 7 (1103515245) ∈ UW := uw 647 (by decide +kernel) (by decide +kernel)
theorem kc_X0_15 : Cond.constantLong RX0 15 (12345) ∈ UW := uw 648 (by decide +kernel) (by decide +kernel)
theorem kc_X0_17 : Cond.constantLong RX0 17 (2147483647) ∈ UW := uw 649 (by decide +kernel) (by decide +kernel)
theorem kc_X0_19 : Cond.constant RX0 19 (65536) ∈ UW := uw 650 (by decide +kernel) (by decide +kernel)
theorem kc_X5_234 : Cond.constantLong RX5 234 (1301) ∈ UW := uw 671 (by decide +kernel) (by decide +kernel)
theorem kc_X5_259 : Cond.constantLong RX5 259 (31) ∈ UW := uw 680 (by decide +kernel) (by decide +kernel)
theorem kc_X6_197 : Cond.constant RX6 197 (268435456) ∈ UW := uw 912 (by decide +kernel) (by decide +kernel)
theorem kc_X6_249 : Cond.constant RX6 249 (1000000) ∈ UW := uw 1059 (by decide +kernel) (by decide +kernel)
theorem kc_X6_257 : Cond.constantLong RX6 257 (1103515245) ∈ UW := uw 1084 (by decide +kernel) (by decide +kernel)
theorem kc_X6_263 : Cond.constantLong RX6 263 (12345) ∈ UW := uw 1085 (by decide +kernel) (by decide +kernel)
theorem kc_X6_265 : Cond.constantLong RX6 265 (2147483647) ∈ UW := uw 1086 (by decide +kernel) (by decide +kernel)
theorem kc_X6_267 : Cond.constantLong RX6 267 (65536) ∈ UW := uw 1087 (by decide +kernel) (by decide +kernel)
theorem kc_X6_308 : Cond.constantLong RX6 308 (1301) ∈ UW := uw 1115 (by decide +kernel) (by decide +kernel)
theorem kc_X6_299 : Cond.constantLong RX6 299 (31) ∈ UW := uw 1120 (by decide +kernel) (by decide +kernel)
theorem rk_J0_38 : Cond.fieldLink RJ0 38 "java/lang/String" "COMPACT_STRINGS" "Z" ∈ UW := uw 288 (by decide +kernel) (by decide +kernel)
theorem rk_J0_15 : Cond.fieldLink RJ0 15 "java/lang/String" "coder" "B" ∈ UW := uw 1127 (by decide +kernel) (by decide +kernel)
theorem rk_J0_9 : Cond.fieldLink RJ0 9 "java/lang/String" "value" "[B" ∈ UW := uw 1128 (by decide +kernel) (by decide +kernel)
end
section

/-! ===== worlds of numbered cells ===== -/
def cV (q : Nat → Nat) : Value → Value
  | .ref i => .ref (q i)
  | .int x => .int x
  | .long x => .long x
  | .float x => .float x
  | .double x => .double x
  | .null => .null
  | .retAddr x => .retAddr x
theorem cV_cat (q : Nat → Nat) (v : Value) : (cV q v).category = v.category := by cases v <;> rfl
abbrev mE : Type := (Nat × vp_A) ⊕ (Nat × List Value)
abbrev mW : Type := List mE
def cR (q : Nat → Nat) : vp_A → vp_A
  | (n, .inl f) => (n, .inl f)
  | (n, .inr (.inl f)) => (n, .inr (.inl f))
  | (n, .inr (.inr (.inl f))) => (n, .inr (.inr (.inl f)))
  | (n, .inr (.inr (.inr (.inl f)))) => (n, .inr (.inr (.inr (.inl f))))
  | (n, .inr (.inr (.inr (.inr f)))) => (n, .inr (.inr (.inr (.inr (fun i => (f i).map q)))))
def cE (q : Nat → Nat) (dA : Nat → ClassId) : mE → va_E
  | .inl (t, a) => .inl (dA t, cR q a)
  | .inr (ci, fs) => .inr (ci, fs.map (cV q))
def cW (q : Nat → Nat) (dA : Nat → ClassId) (w : mW) : va_W := w.mapIdx fun i e => (q i, cE q dA e)
theorem cW_get {q : Nat → Nat} {dA : Nat → ClassId} {w : mW} {a : Nat} {e : mE} (h : w[a]? = some e) : (cW q dA w)[a]? = some (q a, cE q dA e) := by
  simp [cW, List.getElem?_mapIdx, h]
theorem cW_set {q : Nat → Nat} {dA : Nat → ClassId} {w : mW} {a : Nat} {e : mE} : (cW q dA w).set a (q a, cE q dA e) = cW q dA (w.set a e) := by
  apply List.ext_getElem?
  intro i
  simp only [cW, List.getElem?_set, List.getElem?_mapIdx, List.length_mapIdx]
  by_cases h : a = i
  · subst h
    by_cases h2 : a < w.length <;> simp [h2]
  · simp [h]
abbrev iA (n : Nat) (f : Nat → Int32) : mE := .inl (0, n, .inl f)
abbrev bA (n : Nat) (f : Nat → Int32) : mE := .inl (1, n, .inl f)
abbrev rA (n : Nat) (f : Nat → Option Nat) : mE := .inl (2, n, .inr (.inr (.inr (.inr f))))
def tyA (dA : Nat → ClassId) : List (ClassId × FieldType) := [(dA 0, .int), (dA 1, .byte), (dA 2, .array .int)]
/-! the ambient: the String constant and what its search reads -/
def Amb (q : Nat → Nat) (A : Nat → Prop) (U : State) (H : Heap) : Prop :=
  vk_S 1 [5] [[107, 119, 102, 99, 98]] (fun _ => q 1000) (fun _ => q 1001) A U H ∧ vk_R "LeapBoard$Page" 46 "kwfcb" (q 1000) U ∧ va_Z "java/lang/String" "COMPACT_STRINGS" "Z" (.int 1) A U H
/-! locals -/
def lvl (q : Nat → Nat) (ls : List Value) : List (Nat × Value) := (List.range ls.length).filterMap fun j => if ls[j]? = some .null then none else (ls[j]?).map fun v => (j, cV q v)
theorem lvl_mem {q : Nat → Nat} {ls : List Value} {j : Nat} {v : Value} (h : ls[j]? = some v) (hn : v ≠ .null) : (j, cV q v) ∈ lvl q ls := by
  refine List.mem_filterMap.mpr ⟨j, List.mem_range.mpr (List.getElem?_eq_some_iff.mp h).1, ?_⟩
  rw [h, if_neg (by intro e; exact hn (Option.some.inj e))]
  rfl
theorem lvl_of {q : Nat → Nat} {ls : List Value} {x : Nat × Value} (h : x ∈ lvl q ls) : ∃ v, ls[x.1]? = some v ∧ v ≠ .null ∧ x.2 = cV q v := by
  obtain ⟨j, -, h2⟩ := List.mem_filterMap.mp h
  by_cases hn : ls[j]? = some .null
  · rw [if_pos hn] at h2; cases h2
  · rw [if_neg hn] at h2
    cases hv : ls[j]? with
    | none => rw [hv] at h2; cases h2
    | some v =>
      rw [hv] at h2
      cases h2
      exact ⟨v, hv, fun e => hn (by rw [hv, e]), rfl⟩
def lvH (q : Nat → Nat) (arr : Array Slot) (n : Nat) (ls : List Value) : Prop := arr.size = n ∧ lv_wf arr ∧ ∀ (i : Nat) (v : Value), ls[i]? = some v → v ≠ .null → arr[i]? = some (.val (cV q v))
theorem lvH.has {q : Nat → Nat} {arr : Array Slot} {n : Nat} {ls : List Value} (h : lvH q arr n ls) : lv_has arr n (lvl q ls) := by
  refine ⟨h.1, h.2.1, fun x hx => ?_⟩
  obtain ⟨v, h1, h2, h3⟩ := lvl_of hx
  rw [h3]
  exact h.2.2 _ _ h1 h2
theorem lvH.of {q : Nat → Nat} {arr : Array Slot} {n : Nat} {ls : List Value} {lv : List (Nat × Value)} (h : lv_has arr n lv) (hm : ∀ (i : Nat) (v : Value), ls[i]? = some v → v ≠ .null → (i, cV q v) ∈ lv) : lvH q arr n ls :=
  ⟨h.1, h.2.1, fun i v h1 h2 => h.2.2 _ (hm i v h1 h2)⟩
/-- no long begins just below place i -/
def okAt (ls : List Value) : Nat → Bool
  | 0 => true
  | j + 1 => match ls[j]? with
    | some (.long _) => false
    | some (.double _) => false
    | _ => true
theorem okAt_cat {q : Nat → Nat} {ls : List Value} {i j : Nat} {v : Value} (h : okAt ls i = true) (hv : ls[j]? = some v) (hj : j + 1 = i) : (cV q v).category ≠ 2 := by
  subst hj
  simp only [okAt] at h
  rw [hv] at h
  cases v <;> first | (simp at h; done) | (simp [cV, Value.category])
theorem lvH.store {q : Nat → Nat} {arr' : Array Slot} {n i : Nat} {ls : List Value} {x y : Value} (hx : cV q x = y) (ho : okAt ls i = true) (h' : lv_has arr' n ((i, y) :: (lvl q ls).filter (fun q => !(q.1 == i) && !(q.1 + 1 == i && q.2.category == 2)))) : lvH q arr' n (ls.set i x) := by
  refine lvH.of h' fun j v h1 h2 => ?_
  rw [List.getElem?_set] at h1
  by_cases hj : i = j
  · subst hj
    rw [if_pos rfl] at h1
    split at h1
    · cases h1; rw [hx]; exact List.mem_cons_self
    · cases h1
  · rw [if_neg hj] at h1
    refine List.mem_cons_of_mem _ (List.mem_filter.mpr ⟨lvl_mem h1 h2, ?_⟩)
    have h3 : (j == i) = false := by simp; omega
    simp only [h3, Bool.not_false, Bool.true_and]
    by_cases hk : j + 1 = i
    · have := okAt_cat (q := q) ho h1 hk
      simp [this]
    · simp [hk]
theorem lvH.store2 {q : Nat → Nat} {arr' : Array Slot} {n i : Nat} {ls : List Value} {x y : Value} (hx : cV q x = y) (ho : okAt ls i = true) (h' : lv_has arr' n ((i, y) :: (lvl q ls).filter (fun q => !(q.1 == i) && (!(q.1 == i + 1) && !(q.1 + 1 == i && q.2.category == 2))))) : lvH q arr' n ((ls.set i x).set (i + 1) .null) := by
  refine lvH.of h' fun j v h1 h2 => ?_
  rw [List.getElem?_set] at h1
  by_cases hj1 : i + 1 = j
  · rw [if_pos hj1] at h1
    split at h1
    · cases h1; exact absurd rfl h2
    · cases h1
  · rw [if_neg hj1, List.getElem?_set] at h1
    by_cases hj : i = j
    · subst hj
      rw [if_pos rfl] at h1
      split at h1
      · cases h1; rw [hx]; exact List.mem_cons_self
      · cases h1
    · rw [if_neg hj] at h1
      refine List.mem_cons_of_mem _ (List.mem_filter.mpr ⟨lvl_mem h1 h2, ?_⟩)
      have h3 : (j == i) = false := by simp; omega
      have h4 : (j == i + 1) = false := by simp; omega
      simp only [h3, h4, Bool.not_false, Bool.true_and]
      by_cases hk : j + 1 = i
      · have := okAt_cat (q := q) ho h1 hk
        simp [this]
      · simp [hk]
/-- a method's first locals -/
def entL : List Value → List Value
  | [] => []
  | v :: vs => if v.category = 2 then v :: .null :: entL vs else v :: entL vs
def ent (n : Nat) (as : List Value) : List Value := entL as ++ List.replicate (n - (entL as).length) .null
theorem entL_mem {q : Nat → Nat} (as : List Value) : ∀ (b i : Nat) (v : Value), (entL as)[i]? = some v → v ≠ .null → (b + i, cV q v) ∈ lv_args b (as.map (cV q)) := by
  induction as with
  | nil => intro b i v h; simp [entL] at h
  | cons a as ih =>
    intro b i v h hn
    simp only [List.map_cons, lv_args, cV_cat]
    unfold entL at h
    by_cases hc : a.category = 2
    · rw [if_pos hc] at h
      rw [if_pos hc]
      match i, h with
      | 0, h => cases h; exact List.mem_cons_self
      | 1, h => cases h; exact absurd rfl hn
      | i + 2, h =>
        have := ih (b + 2) i v (by simpa using h) hn
        rw [show b + (i + 2) = b + 2 + i by omega]
        exact List.mem_cons_of_mem _ this
    · rw [if_neg hc] at h
      rw [if_neg hc]
      match i, h with
      | 0, h => cases h; exact List.mem_cons_self
      | i + 1, h =>
        have := ih (b + 1) i v (by simpa using h) hn
        rw [show b + (i + 1) = b + 1 + i by omega]
        exact List.mem_cons_of_mem _ this
theorem ent_mem {q : Nat → Nat} {n : Nat} {as : List Value} {i : Nat} {v : Value} (h : (ent n as)[i]? = some v) (hn : v ≠ .null) : (i, cV q v) ∈ lv_args 0 (as.map (cV q)) := by
  unfold ent at h
  by_cases hi : i < (entL as).length
  · rw [List.getElem?_append_left hi] at h
    have := entL_mem (q := q) as 0 i v h hn
    rwa [Nat.zero_add] at this
  · rw [List.getElem?_append_right (by omega)] at h
    exact absurd (List.eq_of_mem_replicate (List.mem_of_getElem? h)) hn
theorem entL_len (q : Nat → Nat) (as : List Value) : (lg_sl (as.map (cV q))).length = (entL as).length := by
  induction as with
  | nil => rfl
  | cons a as ih =>
    have : (lg_sl (List.map (cV q) (a :: as))).length = (if a.category = 2 then 2 else 1) + (lg_sl (as.map (cV q))).length := by
      simp only [lg_sl, List.map_cons, List.flatMap_cons, List.length_append]
      congr 1
      cases a <;> simp [cV, Value.category]
    rw [this, ih]
    have e : entL (a :: as) = if a.category = 2 then a :: .null :: entL as else a :: entL as := rfl
    rw [e]
    by_cases hc : a.category = 2
    · rw [if_pos hc, if_pos hc]; simp only [List.length_cons]; omega
    · rw [if_neg hc, if_neg hc]; simp only [List.length_cons]; omega
/-! ===== the judgement ===== -/
def jR (d : Nat) : Room := { frames := d, cells := 0, slots := 0, locals := 64 * d }
def JC (p : Program) (s : State) (m : MethodId) (args : Array Value) (meth : Method) (c : Code) (mi : MI) (q : Nat → Nat) (D : va_G) (dA : Nat → ClassId) (A : Nat → Prop) : Prop :=
  p.tables.exec = Jvm.exec ∧ c.code = mi.2.1 ∧ c.maxLocals = mi.2.2.1 ∧ meth.sig.returnType = mi.2.2.2.1 ∧ meth.locks = false ∧ s.vm.findClass mi.1.cls = some m.cls ∧ (∀ w ∈ UW, w.before args s = true) ∧ (∀ w ∈ NW, va_Nw w s) ∧ va_K D vwCl (tyA dA) s ∧ Amb q A s s.heap
def JQ (q : Nat → Nat) (D : va_G) (dA : Nat → ClassId) (A : Nat → Prop) (Q : Option Value → mW → Prop) : Array Value → State → Outcome → State → Prop := fun _ s o t =>
  (∃ (v : Option Value) (w' : mW), o = .returned (v.map (cV q)) ∧ Q v w' ∧ va_P D vwCl (cW q dA w') t.heap ∧ va_K D vwCl (tyA dA) t ∧ va_D A (cW q dA w')) ∧ va_F A s t
def J (d : Nat) (mi : MI) (pc : Nat) (ls st : List Value) (w : mW) (Q : Option Value → mW → Prop) : Prop :=
  ∀ (p : Program) (l : Launch) (e : Env) (R : Room) (s : State) (m : MethodId) (args : Array Value) (below : List Frame) (meth : Method) (c : Code) (H : Heap) (locs : List Loc) (q : Nat → Nat) (D : va_G) (dA : Nat → ClassId) (A : Nat → Prop) (arr : Array Slot),
    (d ≤ R.frames ∧ 64 * d ≤ R.locals) → JC p s m args meth c mi q D dA A → va_S A s.heap H locs → va_P D vwCl (cW q dA w) H → va_D A (cW q dA w) → lvH q arr mi.2.2.1 ls →
    W p l e R s m args below meth c H locs 0 0 (MQ below (JQ q D dA A Q) args s 0 0 A) (F0 m pc arr (st.map (cV q)))
/-- a call's whole: from its entry -/
def JX (d : Nat) (mi : MI) (as : List Value) (w : mW) (Q : Option Value → mW → Prop) : Prop := J d mi 0 (ent mi.2.2.1 as) [] w Q
def JR (d : Nat) (mi : MI) (as : List Value) (w : mW) (r : Value) (w' : mW) : Prop := JX d mi as w (fun v u => v = some r ∧ u = w')
def JV (d : Nat) (mi : MI) (as : List Value) (w : mW) (w' : mW) : Prop := JX d mi as w (fun v u => v = none ∧ u = w')
section JRules
variable {d : Nat} {mi : MI} {pc pc' : Nat} {ls st : List Value} {w : mW} {Q Q' : Option Value → mW → Prop}
theorem J.mono {d' : Nat} (h : J d mi pc ls st w Q) (hd : d ≤ d') : J d' mi pc ls st w Q := by
  intro p l e R s m args below meth c H locs q D dA A arr hR C hS hP hD hl
  exact h p l e R s m args below meth c H locs q D dA A arr ⟨by omega, by omega⟩ C hS hP hD hl
theorem J.conseq (h : J d mi pc ls st w Q') (hQ : ∀ v u, Q' v u → Q v u) : J d mi pc ls st w Q := by
  intro p l e R s m args below meth c H locs q D dA A arr hR C hS hP hD hl T hT X
  obtain ⟨t, a1, o, b1, b2, ⟨⟨v, w', c1, c2, c3⟩, b3⟩, b4⟩ := h p l e R s m args below meth c H locs q D dA A arr hR C hS hP hD hl T hT X
  exact ⟨t, a1, o, b1, b2, ⟨⟨v, w', c1, hQ _ _ c2, c3⟩, b3⟩, b4⟩
theorem JX.mono {d' : Nat} {as : List Value} (h : JX d mi as w Q) (hd : d ≤ d') : JX d' mi as w Q := J.mono h hd
/-- fewer locals are known -/
theorem J.forget {ls' : List Value} (h : J d mi pc ls' st w Q) (hl : ∀ (i : Nat) (v : Value), ls'[i]? = some v → v ≠ .null → ls[i]? = some v) : J d mi pc ls st w Q := by
  intro p l e R s m args below meth c H locs q D dA A arr hR C hS hP hD hl2
  exact h p l e R s m args below meth c H locs q D dA A arr hR C hS hP hD ⟨hl2.1, hl2.2.1, fun i v h1 h2 => hl2.2.2 i v (hl i v h1 h2) h2⟩

theorem j_iadd {x y : Int32} (h : decode mi.2.1 pc = .ok (.iadd, 1) ∧ pc + 1 = pc')  (k : J d mi pc' ls (.int (x + y) :: st) w Q) : J d mi pc ls (.int y :: .int x :: st) w Q := by
  intro p l e R s m args below meth c H locs q D dA A arr hR C hS hP hD hl
  obtain ⟨h, rfl⟩ := h
  exact lv_iadd C.1 C.2.1 h (k p l e R s m args below meth c H locs q D dA A arr hR C hS hP hD hl)
theorem j_isub {x y : Int32} (h : decode mi.2.1 pc = .ok (.isub, 1) ∧ pc + 1 = pc')  (k : J d mi pc' ls (.int (x - y) :: st) w Q) : J d mi pc ls (.int y :: .int x :: st) w Q := by
  intro p l e R s m args below meth c H locs q D dA A arr hR C hS hP hD hl
  obtain ⟨h, rfl⟩ := h
  exact lv_isub C.1 C.2.1 h (k p l e R s m args below meth c H locs q D dA A arr hR C hS hP hD hl)
theorem j_imul {x y : Int32} (h : decode mi.2.1 pc = .ok (.imul, 1) ∧ pc + 1 = pc')  (k : J d mi pc' ls (.int (x * y) :: st) w Q) : J d mi pc ls (.int y :: .int x :: st) w Q := by
  intro p l e R s m args below meth c H locs q D dA A arr hR C hS hP hD hl
  obtain ⟨h, rfl⟩ := h
  exact lv_imul C.1 C.2.1 h (k p l e R s m args below meth c H locs q D dA A arr hR C hS hP hD hl)
theorem j_iand {x y : Int32} (h : decode mi.2.1 pc = .ok (.iand, 1) ∧ pc + 1 = pc')  (k : J d mi pc' ls (.int (x &&& y) :: st) w Q) : J d mi pc ls (.int y :: .int x :: st) w Q := by
  intro p l e R s m args below meth c H locs q D dA A arr hR C hS hP hD hl
  obtain ⟨h, rfl⟩ := h
  exact lv_iand C.1 C.2.1 h (k p l e R s m args below meth c H locs q D dA A arr hR C hS hP hD hl)
theorem j_ior {x y : Int32} (h : decode mi.2.1 pc = .ok (.ior, 1) ∧ pc + 1 = pc')  (k : J d mi pc' ls (.int (x ||| y) :: st) w Q) : J d mi pc ls (.int y :: .int x :: st) w Q := by
  intro p l e R s m args below meth c H locs q D dA A arr hR C hS hP hD hl
  obtain ⟨h, rfl⟩ := h
  exact lv_ior C.1 C.2.1 h (k p l e R s m args below meth c H locs q D dA A arr hR C hS hP hD hl)
theorem j_ixor {x y : Int32} (h : decode mi.2.1 pc = .ok (.ixor, 1) ∧ pc + 1 = pc')  (k : J d mi pc' ls (.int (x ^^^ y) :: st) w Q) : J d mi pc ls (.int y :: .int x :: st) w Q := by
  intro p l e R s m args below meth c H locs q D dA A arr hR C hS hP hD hl
  obtain ⟨h, rfl⟩ := h
  exact lv_ixor C.1 C.2.1 h (k p l e R s m args below meth c H locs q D dA A arr hR C hS hP hD hl)
theorem j_ishl {x y : Int32} (h : decode mi.2.1 pc = .ok (.ishl, 1) ∧ pc + 1 = pc')  (k : J d mi pc' ls (.int (x <<< (y &&& 31)) :: st) w Q) : J d mi pc ls (.int y :: .int x :: st) w Q := by
  intro p l e R s m args below meth c H locs q D dA A arr hR C hS hP hD hl
  obtain ⟨h, rfl⟩ := h
  exact lv_ishl C.1 C.2.1 h (k p l e R s m args below meth c H locs q D dA A arr hR C hS hP hD hl)
theorem j_ishr {x y : Int32} (h : decode mi.2.1 pc = .ok (.ishr, 1) ∧ pc + 1 = pc')  (k : J d mi pc' ls (.int (x >>> (y &&& 31)) :: st) w Q) : J d mi pc ls (.int y :: .int x :: st) w Q := by
  intro p l e R s m args below meth c H locs q D dA A arr hR C hS hP hD hl
  obtain ⟨h, rfl⟩ := h
  exact lv_ishr C.1 C.2.1 h (k p l e R s m args below meth c H locs q D dA A arr hR C hS hP hD hl)
theorem j_idiv {x y : Int32} (h : decode mi.2.1 pc = .ok (.idiv, 1) ∧ pc + 1 = pc') (hne : ¬ y = 0) (k : J d mi pc' ls (.int (x / y) :: st) w Q) : J d mi pc ls (.int y :: .int x :: st) w Q := by
  intro p l e R s m args below meth c H locs q D dA A arr hR C hS hP hD hl
  obtain ⟨h, rfl⟩ := h
  exact lv_idiv C.1 C.2.1 h hne (k p l e R s m args below meth c H locs q D dA A arr hR C hS hP hD hl)
theorem j_irem {x y : Int32} (h : decode mi.2.1 pc = .ok (.irem, 1) ∧ pc + 1 = pc') (hne : ¬ y = 0) (k : J d mi pc' ls (.int (x - x / y * y) :: st) w Q) : J d mi pc ls (.int y :: .int x :: st) w Q := by
  intro p l e R s m args below meth c H locs q D dA A arr hR C hS hP hD hl
  obtain ⟨h, rfl⟩ := h
  exact lv_irem C.1 C.2.1 h hne (k p l e R s m args below meth c H locs q D dA A arr hR C hS hP hD hl)
theorem j_ineg {x : Int32} (h : decode mi.2.1 pc = .ok (.ineg, 1) ∧ pc + 1 = pc')  (k : J d mi pc' ls (.int (-x) :: st) w Q) : J d mi pc ls (.int x :: st) w Q := by
  intro p l e R s m args below meth c H locs q D dA A arr hR C hS hP hD hl
  obtain ⟨h, rfl⟩ := h
  exact lv_ineg C.1 C.2.1 h (k p l e R s m args below meth c H locs q D dA A arr hR C hS hP hD hl)
theorem j_iushr {x y : Int32} (h : decode mi.2.1 pc = .ok (.iushr, 1) ∧ pc + 1 = pc')  (k : J d mi pc' ls (.int ((x.toUInt32 >>> (y.toUInt32 &&& Int32.toUInt32 31)).toInt32) :: st) w Q) : J d mi pc ls (.int y :: .int x :: st) w Q := by
  intro p l e R s m args below meth c H locs q D dA A arr hR C hS hP hD hl
  obtain ⟨h, rfl⟩ := h
  exact lv_iushr C.1 C.2.1 h rfl (k p l e R s m args below meth c H locs q D dA A arr hR C hS hP hD hl)
theorem j_ladd {x y : Int64} (h : decode mi.2.1 pc = .ok (.ladd, 1) ∧ pc + 1 = pc')  (k : J d mi pc' ls (.long (x + y) :: st) w Q) : J d mi pc ls (.long y :: .long x :: st) w Q := by
  intro p l e R s m args below meth c H locs q D dA A arr hR C hS hP hD hl
  obtain ⟨h, rfl⟩ := h
  exact lv_ladd C.1 C.2.1 h (k p l e R s m args below meth c H locs q D dA A arr hR C hS hP hD hl)
theorem j_lmul {x y : Int64} (h : decode mi.2.1 pc = .ok (.lmul, 1) ∧ pc + 1 = pc')  (k : J d mi pc' ls (.long (x * y) :: st) w Q) : J d mi pc ls (.long y :: .long x :: st) w Q := by
  intro p l e R s m args below meth c H locs q D dA A arr hR C hS hP hD hl
  obtain ⟨h, rfl⟩ := h
  exact lv_lmul C.1 C.2.1 h (k p l e R s m args below meth c H locs q D dA A arr hR C hS hP hD hl)
theorem j_land {x y : Int64} (h : decode mi.2.1 pc = .ok (.land, 1) ∧ pc + 1 = pc')  (k : J d mi pc' ls (.long (x &&& y) :: st) w Q) : J d mi pc ls (.long y :: .long x :: st) w Q := by
  intro p l e R s m args below meth c H locs q D dA A arr hR C hS hP hD hl
  obtain ⟨h, rfl⟩ := h
  exact lv_land C.1 C.2.1 h (k p l e R s m args below meth c H locs q D dA A arr hR C hS hP hD hl)
theorem j_ldiv {x y : Int64} (h : decode mi.2.1 pc = .ok (.ldiv, 1) ∧ pc + 1 = pc') (hne : ¬ y = 0) (k : J d mi pc' ls (.long (x / y) :: st) w Q) : J d mi pc ls (.long y :: .long x :: st) w Q := by
  intro p l e R s m args below meth c H locs q D dA A arr hR C hS hP hD hl
  obtain ⟨h, rfl⟩ := h
  exact lv_ldiv C.1 C.2.1 h hne (k p l e R s m args below meth c H locs q D dA A arr hR C hS hP hD hl)
theorem j_lrem {x y : Int64} (h : decode mi.2.1 pc = .ok (.lrem, 1) ∧ pc + 1 = pc') (hne : ¬ y = 0) (k : J d mi pc' ls (.long (x - x / y * y) :: st) w Q) : J d mi pc ls (.long y :: .long x :: st) w Q := by
  intro p l e R s m args below meth c H locs q D dA A arr hR C hS hP hD hl
  obtain ⟨h, rfl⟩ := h
  exact lv_lrem C.1 C.2.1 h hne (k p l e R s m args below meth c H locs q D dA A arr hR C hS hP hD hl)
theorem j_i2l {x : Int32} (h : decode mi.2.1 pc = .ok (.i2l, 1) ∧ pc + 1 = pc')  (k : J d mi pc' ls (.long (x.toInt64) :: st) w Q) : J d mi pc ls (.int x :: st) w Q := by
  intro p l e R s m args below meth c H locs q D dA A arr hR C hS hP hD hl
  obtain ⟨h, rfl⟩ := h
  exact lv_i2l C.1 C.2.1 h rfl (k p l e R s m args below meth c H locs q D dA A arr hR C hS hP hD hl)
theorem j_l2i {x : Int64} (h : decode mi.2.1 pc = .ok (.l2i, 1) ∧ pc + 1 = pc')  (k : J d mi pc' ls (.int (x.toInt32) :: st) w Q) : J d mi pc ls (.long x :: st) w Q := by
  intro p l e R s m args below meth c H locs q D dA A arr hR C hS hP hD hl
  obtain ⟨h, rfl⟩ := h
  exact lv_l2i C.1 C.2.1 h rfl (k p l e R s m args below meth c H locs q D dA A arr hR C hS hP hD hl)
theorem j_i2b {x : Int32} (h : decode mi.2.1 pc = .ok (.i2b, 1) ∧ pc + 1 = pc')  (k : J d mi pc' ls (.int (x.toInt8.toInt32) :: st) w Q) : J d mi pc ls (.int x :: st) w Q := by
  intro p l e R s m args below meth c H locs q D dA A arr hR C hS hP hD hl
  obtain ⟨h, rfl⟩ := h
  exact lv_i2b C.1 C.2.1 h rfl (k p l e R s m args below meth c H locs q D dA A arr hR C hS hP hD hl)
theorem j_i2c {x : Int32} (h : decode mi.2.1 pc = .ok (.i2c, 1) ∧ pc + 1 = pc')  (k : J d mi pc' ls (.int ((x.toUInt32 % 65536).toInt32) :: st) w Q) : J d mi pc ls (.int x :: st) w Q := by
  intro p l e R s m args below meth c H locs q D dA A arr hR C hS hP hD hl
  obtain ⟨h, rfl⟩ := h
  exact lv_i2c C.1 C.2.1 h rfl (k p l e R s m args below meth c H locs q D dA A arr hR C hS hP hD hl)
theorem j_iconst {n : Int} {v : Int32} (h : decode mi.2.1 pc = .ok (.iconst n, 1) ∧ pc + 1 = pc') (hv : Int32.ofInt n = v) (k : J d mi pc' ls (.int v :: st) w Q) : J d mi pc ls (st) w Q := by
  intro p l e R s m args below meth c H locs q D dA A arr hR C hS hP hD hl
  obtain ⟨h, rfl⟩ := h
  exact lv_iconst C.1 C.2.1 h hv (k p l e R s m args below meth c H locs q D dA A arr hR C hS hP hD hl)
theorem j_bipush {n : Int} {v : Int32} (h : decode mi.2.1 pc = .ok (.bipush n, 2) ∧ pc + 2 = pc') (hv : (Int8.ofInt n).toInt32 = v) (k : J d mi pc' ls (.int v :: st) w Q) : J d mi pc ls (st) w Q := by
  intro p l e R s m args below meth c H locs q D dA A arr hR C hS hP hD hl
  obtain ⟨h, rfl⟩ := h
  exact lv_bipush C.1 C.2.1 h hv (k p l e R s m args below meth c H locs q D dA A arr hR C hS hP hD hl)
theorem j_sipush {n : Int} {v : Int32} (h : decode mi.2.1 pc = .ok (.sipush n, 3) ∧ pc + 3 = pc') (hv : (Int16.ofInt n).toInt32 = v) (k : J d mi pc' ls (.int v :: st) w Q) : J d mi pc ls (st) w Q := by
  intro p l e R s m args below meth c H locs q D dA A arr hR C hS hP hD hl
  obtain ⟨h, rfl⟩ := h
  exact lv_sipush C.1 C.2.1 h hv (k p l e R s m args below meth c H locs q D dA A arr hR C hS hP hD hl)
theorem j_ldc {i : Nat} {v : Int32} (h : decode mi.2.1 pc = .ok (.ldc i, 2) ∧ pc + 2 = pc') (hv : Cond.constant mi.1.cls i v ∈ UW) (k : J d mi pc' ls (.int v :: st) w Q) : J d mi pc ls (st) w Q := by
  intro p l e R s m args below meth c H locs q D dA A arr hR C hS hP hD hl
  obtain ⟨h, rfl⟩ := h
  exact lv_ldc C.1 C.2.1 C.2.2.2.2.2.1 (C.2.2.2.2.2.2.1 _ hv) h (k p l e R s m args below meth c H locs q D dA A arr hR C hS hP hD hl)
theorem j_ldcw {i : Nat} {v : Int32} (h : decode mi.2.1 pc = .ok (.ldc_w i, 3) ∧ pc + 3 = pc') (hv : Cond.constant mi.1.cls i v ∈ UW) (k : J d mi pc' ls (.int v :: st) w Q) : J d mi pc ls (st) w Q := by
  intro p l e R s m args below meth c H locs q D dA A arr hR C hS hP hD hl
  obtain ⟨h, rfl⟩ := h
  exact lv_ldcw C.1 C.2.1 C.2.2.2.2.2.1 (C.2.2.2.2.2.2.1 _ hv) h (k p l e R s m args below meth c H locs q D dA A arr hR C hS hP hD hl)
theorem j_ldc2 {i : Nat} {v : Int64} (h : decode mi.2.1 pc = .ok (.ldc2_w i, 3) ∧ pc + 3 = pc') (hv : Cond.constantLong mi.1.cls i v ∈ UW) (k : J d mi pc' ls (.long v :: st) w Q) : J d mi pc ls (st) w Q := by
  intro p l e R s m args below meth c H locs q D dA A arr hR C hS hP hD hl
  obtain ⟨h, rfl⟩ := h
  exact lv_ldc2 C.1 C.2.1 C.2.2.2.2.2.1 (C.2.2.2.2.2.2.1 _ hv) h (k p l e R s m args below meth c H locs q D dA A arr hR C hS hP hD hl)
theorem j_dup {v : Value} (h : decode mi.2.1 pc = .ok (.dup, 1) ∧ pc + 1 = pc') (hc : v.category = 1) (k : J d mi pc' ls (v :: v :: st) w Q) : J d mi pc ls (v :: st) w Q := by
  intro p l e R s m args below meth c H locs q D dA A arr hR C hS hP hD hl
  obtain ⟨h, rfl⟩ := h
  exact lv_dup C.1 C.2.1 h ((cV_cat q v).trans hc) (k p l e R s m args below meth c H locs q D dA A arr hR C hS hP hD hl)
theorem j_pop {v : Value} (h : decode mi.2.1 pc = .ok (.pop, 1) ∧ pc + 1 = pc') (hc : v.category = 1) (k : J d mi pc' ls (st) w Q) : J d mi pc ls (v :: st) w Q := by
  intro p l e R s m args below meth c H locs q D dA A arr hR C hS hP hD hl
  obtain ⟨h, rfl⟩ := h
  exact lv_pop C.1 C.2.1 h ((cV_cat q v).trans hc) (k p l e R s m args below meth c H locs q D dA A arr hR C hS hP hD hl)
theorem j_dup2 {v u : Value} (h : decode mi.2.1 pc = .ok (.dup2, 1) ∧ pc + 1 = pc') (hv : v.category = 1) (hu : u.category = 1) (k : J d mi pc' ls (v :: u :: v :: u :: st) w Q) : J d mi pc ls (v :: u :: st) w Q := by
  intro p l e R s m args below meth c H locs q D dA A arr hR C hS hP hD hl
  obtain ⟨h, rfl⟩ := h
  exact lv_dup2_11 C.1 C.2.1 h ((cV_cat q v).trans hv) ((cV_cat q u).trans hu) (k p l e R s m args below meth c H locs q D dA A arr hR C hS hP hD hl)
theorem j_iload_n {i : Fin 4} {x : Int32} (h : decode mi.2.1 pc = .ok (.iload_n i, 1) ∧ pc + 1 = pc') (hv : ls[(i : Nat)]? = some (.int x)) (k : J d mi pc' ls (.int x :: st) w Q) : J d mi pc ls (st) w Q := by
  intro p l e R s m args below meth c H locs q D dA A arr hR C hS hP hD hl
  obtain ⟨h, rfl⟩ := h
  exact lv_iload_n C.1 C.2.1 h rfl (hl.2.2 _ _ hv (by simp)) (k p l e R s m args below meth c H locs q D dA A arr hR C hS hP hD hl)
theorem j_iload {i : Nat} {x : Int32} (h : decode mi.2.1 pc = .ok (.iload i, 2) ∧ pc + 2 = pc') (hv : ls[i]? = some (.int x)) (k : J d mi pc' ls (.int x :: st) w Q) : J d mi pc ls (st) w Q := by
  intro p l e R s m args below meth c H locs q D dA A arr hR C hS hP hD hl
  obtain ⟨h, rfl⟩ := h
  exact lv_iload C.1 C.2.1 h (hl.2.2 _ _ hv (by simp)) (k p l e R s m args below meth c H locs q D dA A arr hR C hS hP hD hl)
theorem j_lload_n {i : Fin 4} {x : Int64} (h : decode mi.2.1 pc = .ok (.lload_n i, 1) ∧ pc + 1 = pc') (hv : ls[(i : Nat)]? = some (.long x)) (k : J d mi pc' ls (.long x :: st) w Q) : J d mi pc ls (st) w Q := by
  intro p l e R s m args below meth c H locs q D dA A arr hR C hS hP hD hl
  obtain ⟨h, rfl⟩ := h
  exact lv_lload_n C.1 C.2.1 h rfl (hl.2.2 _ _ hv (by simp)) (k p l e R s m args below meth c H locs q D dA A arr hR C hS hP hD hl)
theorem j_lload {i : Nat} {x : Int64} (h : decode mi.2.1 pc = .ok (.lload i, 2) ∧ pc + 2 = pc') (hv : ls[i]? = some (.long x)) (k : J d mi pc' ls (.long x :: st) w Q) : J d mi pc ls (st) w Q := by
  intro p l e R s m args below meth c H locs q D dA A arr hR C hS hP hD hl
  obtain ⟨h, rfl⟩ := h
  exact lv_lload C.1 C.2.1 h (hl.2.2 _ _ hv (by simp)) (k p l e R s m args below meth c H locs q D dA A arr hR C hS hP hD hl)
theorem j_aload_n {i : Fin 4} {x : Nat} (h : decode mi.2.1 pc = .ok (.aload_n i, 1) ∧ pc + 1 = pc') (hv : ls[(i : Nat)]? = some (.ref x)) (k : J d mi pc' ls (.ref x :: st) w Q) : J d mi pc ls (st) w Q := by
  intro p l e R s m args below meth c H locs q D dA A arr hR C hS hP hD hl
  obtain ⟨h, rfl⟩ := h
  exact lv_aload_n C.1 C.2.1 h rfl (hl.2.2 _ _ hv (by simp)) (k p l e R s m args below meth c H locs q D dA A arr hR C hS hP hD hl)
theorem j_aload {i : Nat} {x : Nat} (h : decode mi.2.1 pc = .ok (.aload i, 2) ∧ pc + 2 = pc') (hv : ls[i]? = some (.ref x)) (k : J d mi pc' ls (.ref x :: st) w Q) : J d mi pc ls (st) w Q := by
  intro p l e R s m args below meth c H locs q D dA A arr hR C hS hP hD hl
  obtain ⟨h, rfl⟩ := h
  exact lv_aload C.1 C.2.1 h (hl.2.2 _ _ hv (by simp)) (k p l e R s m args below meth c H locs q D dA A arr hR C hS hP hD hl)
theorem j_istore_n {i : Fin 4} {x : Int32} (h : decode mi.2.1 pc = .ok (.istore_n i, 1) ∧ pc + 1 = pc') (hn : (i : Nat) < mi.2.2.1) (ho : okAt ls (i : Nat) = true) (k : J d mi pc' (ls.set (i : Nat) (.int x)) st w Q) : J d mi pc ls (.int x :: st) w Q := by
  intro p l e R s m args below meth c H locs q D dA A arr hR C hS hP hD hl
  obtain ⟨h, rfl⟩ := h
  refine lv_istore_n C.1 C.2.1 h rfl hl.has hn rfl fun arr2 h2 => ?_
  exact k p l e R s m args below meth c H locs q D dA A arr2 hR C hS hP hD (lvH.store rfl ho h2)
theorem j_istore {i : Nat} {x : Int32} (h : decode mi.2.1 pc = .ok (.istore i, 2) ∧ pc + 2 = pc') (hn : i < mi.2.2.1) (ho : okAt ls i = true) (k : J d mi pc' (ls.set i (.int x)) st w Q) : J d mi pc ls (.int x :: st) w Q := by
  intro p l e R s m args below meth c H locs q D dA A arr hR C hS hP hD hl
  obtain ⟨h, rfl⟩ := h
  refine lv_istore C.1 C.2.1 h  hl.has hn rfl fun arr2 h2 => ?_
  exact k p l e R s m args below meth c H locs q D dA A arr2 hR C hS hP hD (lvH.store rfl ho h2)
theorem j_astore_n {i : Fin 4} {x : Nat} (h : decode mi.2.1 pc = .ok (.astore_n i, 1) ∧ pc + 1 = pc') (hn : (i : Nat) < mi.2.2.1) (ho : okAt ls (i : Nat) = true) (k : J d mi pc' (ls.set (i : Nat) (.ref x)) st w Q) : J d mi pc ls (.ref x :: st) w Q := by
  intro p l e R s m args below meth c H locs q D dA A arr hR C hS hP hD hl
  obtain ⟨h, rfl⟩ := h
  refine lv_astore_n C.1 C.2.1 h rfl hl.has hn rfl fun arr2 h2 => ?_
  exact k p l e R s m args below meth c H locs q D dA A arr2 hR C hS hP hD (lvH.store rfl ho h2)
theorem j_lstore_n {i : Fin 4} {x : Int64} (h : decode mi.2.1 pc = .ok (.lstore_n i, 1) ∧ pc + 1 = pc') (hn : (i : Nat) + 1 < mi.2.2.1) (ho : okAt ls (i : Nat) = true) (k : J d mi pc' ((ls.set (i : Nat) (.long x)).set ((i : Nat) + 1) .null) st w Q) : J d mi pc ls (.long x :: st) w Q := by
  intro p l e R s m args below meth c H locs q D dA A arr hR C hS hP hD hl
  obtain ⟨h, rfl⟩ := h
  refine lv_lstore_n C.1 C.2.1 h rfl hl.has hn rfl fun arr2 h2 => ?_
  exact k p l e R s m args below meth c H locs q D dA A arr2 hR C hS hP hD (lvH.store2 rfl ho h2)
theorem j_iinc {i : Nat} {n : Int} {x v : Int32} (h : decode mi.2.1 pc = .ok (.iinc i n, 3) ∧ pc + 3 = pc') (hv : ls[i]? = some (.int x)) (he : Int32.ofInt n = v) (hn : i < mi.2.2.1) (ho : okAt ls i = true) (k : J d mi pc' (ls.set i (.int (x + v))) st w Q) : J d mi pc ls st w Q := by
  intro p l e R s m args below meth c H locs q D dA A arr hR C hS hP hD hl
  obtain ⟨h, rfl⟩ := h
  subst he
  obtain ⟨j, hj⟩ := List.getElem?_of_mem (lvl_mem (q := q) hv (by simp))
  refine lv_iinc C.1 C.2.1 h hl.has hj rfl hn rfl fun arr2 h2 => ?_
  exact k p l e R s m args below meth c H locs q D dA A arr2 hR C hS hP hD (lvH.store rfl ho h2)
theorem j_goto {off : Int} {tgt : Nat} (h : decode mi.2.1 pc = .ok (.goto off, 3) ∧ pc + 3 = pc') (ht : (pc : Int) + off = (tgt : Int)) (k : J d mi tgt ls st w Q) : J d mi pc ls st w Q := by
  intro p l e R s m args below meth c H locs q D dA A arr hR C hS hP hD hl
  exact lv_goto C.1 C.2.1 h.1 ht (k p l e R s m args below meth c H locs q D dA A arr hR C hS hP hD hl)
theorem j_if_eq {x : Int32} {off : Int} {tgt : Nat} (h : decode mi.2.1 pc = .ok (.ifCond .eq off, 3) ∧ pc + 3 = pc') (ht : (pc : Int) + off = (tgt : Int)) (kt : x = 0 → J d mi tgt ls st w Q) (kf : ¬ x = 0 → J d mi pc' ls st w Q) : J d mi pc ls (.int x :: st) w Q := by
  intro p l e R s m args below meth c H locs q D dA A arr hR C hS hP hD hl
  obtain ⟨h, rfl⟩ := h
  exact lv_if_eq C.1 C.2.1 h ht (fun hc => kt hc p l e R s m args below meth c H locs q D dA A arr hR C hS hP hD hl) (fun hc => kf hc p l e R s m args below meth c H locs q D dA A arr hR C hS hP hD hl)
theorem j_icmp_eq {x y : Int32} {off : Int} {tgt : Nat} (h : decode mi.2.1 pc = .ok (.if_icmp .eq off, 3) ∧ pc + 3 = pc') (ht : (pc : Int) + off = (tgt : Int)) (kt : x = y → J d mi tgt ls st w Q) (kf : ¬ x = y → J d mi pc' ls st w Q) : J d mi pc ls (.int y :: .int x :: st) w Q := by
  intro p l e R s m args below meth c H locs q D dA A arr hR C hS hP hD hl
  obtain ⟨h, rfl⟩ := h
  exact lv_icmp_eq C.1 C.2.1 h ht (fun hc => kt hc p l e R s m args below meth c H locs q D dA A arr hR C hS hP hD hl) (fun hc => kf hc p l e R s m args below meth c H locs q D dA A arr hR C hS hP hD hl)
theorem j_if_ne {x : Int32} {off : Int} {tgt : Nat} (h : decode mi.2.1 pc = .ok (.ifCond .ne off, 3) ∧ pc + 3 = pc') (ht : (pc : Int) + off = (tgt : Int)) (kt : ¬ x = 0 → J d mi tgt ls st w Q) (kf : x = 0 → J d mi pc' ls st w Q) : J d mi pc ls (.int x :: st) w Q := by
  intro p l e R s m args below meth c H locs q D dA A arr hR C hS hP hD hl
  obtain ⟨h, rfl⟩ := h
  exact lv_if_ne C.1 C.2.1 h ht (fun hc => kt hc p l e R s m args below meth c H locs q D dA A arr hR C hS hP hD hl) (fun hc => kf hc p l e R s m args below meth c H locs q D dA A arr hR C hS hP hD hl)
theorem j_icmp_ne {x y : Int32} {off : Int} {tgt : Nat} (h : decode mi.2.1 pc = .ok (.if_icmp .ne off, 3) ∧ pc + 3 = pc') (ht : (pc : Int) + off = (tgt : Int)) (kt : ¬ x = y → J d mi tgt ls st w Q) (kf : x = y → J d mi pc' ls st w Q) : J d mi pc ls (.int y :: .int x :: st) w Q := by
  intro p l e R s m args below meth c H locs q D dA A arr hR C hS hP hD hl
  obtain ⟨h, rfl⟩ := h
  exact lv_icmp_ne C.1 C.2.1 h ht (fun hc => kt hc p l e R s m args below meth c H locs q D dA A arr hR C hS hP hD hl) (fun hc => kf hc p l e R s m args below meth c H locs q D dA A arr hR C hS hP hD hl)
theorem j_if_lt {x : Int32} {off : Int} {tgt : Nat} (h : decode mi.2.1 pc = .ok (.ifCond .lt off, 3) ∧ pc + 3 = pc') (ht : (pc : Int) + off = (tgt : Int)) (kt : x < 0 → J d mi tgt ls st w Q) (kf : ¬ x < 0 → J d mi pc' ls st w Q) : J d mi pc ls (.int x :: st) w Q := by
  intro p l e R s m args below meth c H locs q D dA A arr hR C hS hP hD hl
  obtain ⟨h, rfl⟩ := h
  exact lv_if_lt C.1 C.2.1 h ht (fun hc => kt hc p l e R s m args below meth c H locs q D dA A arr hR C hS hP hD hl) (fun hc => kf hc p l e R s m args below meth c H locs q D dA A arr hR C hS hP hD hl)
theorem j_icmp_lt {x y : Int32} {off : Int} {tgt : Nat} (h : decode mi.2.1 pc = .ok (.if_icmp .lt off, 3) ∧ pc + 3 = pc') (ht : (pc : Int) + off = (tgt : Int)) (kt : x < y → J d mi tgt ls st w Q) (kf : ¬ x < y → J d mi pc' ls st w Q) : J d mi pc ls (.int y :: .int x :: st) w Q := by
  intro p l e R s m args below meth c H locs q D dA A arr hR C hS hP hD hl
  obtain ⟨h, rfl⟩ := h
  exact lv_icmp_lt C.1 C.2.1 h ht (fun hc => kt hc p l e R s m args below meth c H locs q D dA A arr hR C hS hP hD hl) (fun hc => kf hc p l e R s m args below meth c H locs q D dA A arr hR C hS hP hD hl)
theorem j_if_ge {x : Int32} {off : Int} {tgt : Nat} (h : decode mi.2.1 pc = .ok (.ifCond .ge off, 3) ∧ pc + 3 = pc') (ht : (pc : Int) + off = (tgt : Int)) (kt : 0 ≤ x → J d mi tgt ls st w Q) (kf : ¬ 0 ≤ x → J d mi pc' ls st w Q) : J d mi pc ls (.int x :: st) w Q := by
  intro p l e R s m args below meth c H locs q D dA A arr hR C hS hP hD hl
  obtain ⟨h, rfl⟩ := h
  exact lv_if_ge C.1 C.2.1 h ht (fun hc => kt hc p l e R s m args below meth c H locs q D dA A arr hR C hS hP hD hl) (fun hc => kf hc p l e R s m args below meth c H locs q D dA A arr hR C hS hP hD hl)
theorem j_icmp_ge {x y : Int32} {off : Int} {tgt : Nat} (h : decode mi.2.1 pc = .ok (.if_icmp .ge off, 3) ∧ pc + 3 = pc') (ht : (pc : Int) + off = (tgt : Int)) (kt : y ≤ x → J d mi tgt ls st w Q) (kf : ¬ y ≤ x → J d mi pc' ls st w Q) : J d mi pc ls (.int y :: .int x :: st) w Q := by
  intro p l e R s m args below meth c H locs q D dA A arr hR C hS hP hD hl
  obtain ⟨h, rfl⟩ := h
  exact lv_icmp_ge C.1 C.2.1 h ht (fun hc => kt hc p l e R s m args below meth c H locs q D dA A arr hR C hS hP hD hl) (fun hc => kf hc p l e R s m args below meth c H locs q D dA A arr hR C hS hP hD hl)
theorem j_if_gt {x : Int32} {off : Int} {tgt : Nat} (h : decode mi.2.1 pc = .ok (.ifCond .gt off, 3) ∧ pc + 3 = pc') (ht : (pc : Int) + off = (tgt : Int)) (kt : 0 < x → J d mi tgt ls st w Q) (kf : ¬ 0 < x → J d mi pc' ls st w Q) : J d mi pc ls (.int x :: st) w Q := by
  intro p l e R s m args below meth c H locs q D dA A arr hR C hS hP hD hl
  obtain ⟨h, rfl⟩ := h
  exact lv_if_gt C.1 C.2.1 h ht (fun hc => kt hc p l e R s m args below meth c H locs q D dA A arr hR C hS hP hD hl) (fun hc => kf hc p l e R s m args below meth c H locs q D dA A arr hR C hS hP hD hl)
theorem j_icmp_gt {x y : Int32} {off : Int} {tgt : Nat} (h : decode mi.2.1 pc = .ok (.if_icmp .gt off, 3) ∧ pc + 3 = pc') (ht : (pc : Int) + off = (tgt : Int)) (kt : y < x → J d mi tgt ls st w Q) (kf : ¬ y < x → J d mi pc' ls st w Q) : J d mi pc ls (.int y :: .int x :: st) w Q := by
  intro p l e R s m args below meth c H locs q D dA A arr hR C hS hP hD hl
  obtain ⟨h, rfl⟩ := h
  exact lv_icmp_gt C.1 C.2.1 h ht (fun hc => kt hc p l e R s m args below meth c H locs q D dA A arr hR C hS hP hD hl) (fun hc => kf hc p l e R s m args below meth c H locs q D dA A arr hR C hS hP hD hl)
theorem j_if_le {x : Int32} {off : Int} {tgt : Nat} (h : decode mi.2.1 pc = .ok (.ifCond .le off, 3) ∧ pc + 3 = pc') (ht : (pc : Int) + off = (tgt : Int)) (kt : x ≤ 0 → J d mi tgt ls st w Q) (kf : ¬ x ≤ 0 → J d mi pc' ls st w Q) : J d mi pc ls (.int x :: st) w Q := by
  intro p l e R s m args below meth c H locs q D dA A arr hR C hS hP hD hl
  obtain ⟨h, rfl⟩ := h
  exact lv_if_le C.1 C.2.1 h ht (fun hc => kt hc p l e R s m args below meth c H locs q D dA A arr hR C hS hP hD hl) (fun hc => kf hc p l e R s m args below meth c H locs q D dA A arr hR C hS hP hD hl)
theorem j_icmp_le {x y : Int32} {off : Int} {tgt : Nat} (h : decode mi.2.1 pc = .ok (.if_icmp .le off, 3) ∧ pc + 3 = pc') (ht : (pc : Int) + off = (tgt : Int)) (kt : x ≤ y → J d mi tgt ls st w Q) (kf : ¬ x ≤ y → J d mi pc' ls st w Q) : J d mi pc ls (.int y :: .int x :: st) w Q := by
  intro p l e R s m args below meth c H locs q D dA A arr hR C hS hP hD hl
  obtain ⟨h, rfl⟩ := h
  exact lv_icmp_le C.1 C.2.1 h ht (fun hc => kt hc p l e R s m args below meth c H locs q D dA A arr hR C hS hP hD hl) (fun hc => kf hc p l e R s m args below meth c H locs q D dA A arr hR C hS hP hD hl)
theorem j_tswOut {dflt lo hi : Int} {offs : Array Int} {len : Nat} {x : Int32} {tgt : Nat} (h : decode mi.2.1 pc = .ok (.tableswitch dflt lo hi offs, len) ∧ pc + len = pc') (hx : x.toInt < lo ∨ hi < x.toInt) (ht : (pc : Int) + dflt = (tgt : Int)) (k : J d mi tgt ls st w Q) : J d mi pc ls (.int x :: st) w Q := by
  intro p l e R s m args below meth c H locs q D dA A arr hR C hS hP hD hl
  exact lv_tableOut C.1 C.2.1 h.1 hx ht (k p l e R s m args below meth c H locs q D dA A arr hR C hS hP hD hl)
theorem j_tswIn {dflt lo hi : Int} {offs : Array Int} {len : Nat} {x : Int32} {off : Int} {tgt : Nat} (h : decode mi.2.1 pc = .ok (.tableswitch dflt lo hi offs, len) ∧ pc + len = pc') (h1 : ¬ x.toInt < lo) (h2 : ¬ hi < x.toInt) (ho : offs[(x.toInt - lo).toNat]? = some off) (ht : (pc : Int) + off = (tgt : Int)) (k : J d mi tgt ls st w Q) : J d mi pc ls (.int x :: st) w Q := by
  intro p l e R s m args below meth c H locs q D dA A arr hR C hS hP hD hl
  exact lv_tableIn C.1 C.2.1 h.1 h1 h2 ho ht (k p l e R s m args below meth c H locs q D dA A arr hR C hS hP hD hl)
theorem j_lsw {dflt : Int} {ps : Array (Int × Int)} {len : Nat} {x : Int32} {off : Int} {tgt : Nat} (h : decode mi.2.1 pc = .ok (.lookupswitch dflt ps, len) ∧ pc + len = pc') (hp : (ps.toList.zip (ps.toList.drop 1)).all (fun (a, next) => a.1 < next.1) = true) (ho : Op.lookupswitch.offset ps.toList dflt x.toInt = off) (ht : (pc : Int) + off = (tgt : Int)) (k : J d mi tgt ls st w Q) : J d mi pc ls (.int x :: st) w Q := by
  intro p l e R s m args below meth c H locs q D dA A arr hR C hS hP hD hl
  exact lv_lookup C.1 C.2.1 h.1 hp ho ht (k p l e R s m args below meth c H locs q D dA A arr hR C hS hP hD hl)
theorem j_get {idx ci kf a : Nat} {ty : FieldType} {fin : Bool} {fs : List Value} {v : Value} (hf : FOK mi.1.cls idx ci kf ty fin) (h : decode mi.2.1 pc = .ok (.getfield idx, 3) ∧ pc + 3 = pc') (hc : w[a]? = some (.inr (ci, fs))) (hv : fs[kf]? = some v) (k : J d mi pc' ls (v :: st) w Q) : J d mi pc ls (.ref a :: st) w Q := by
  intro p l e R s m args below meth c H locs q D dA A arr hR C hS hP hD hl
  obtain ⟨h, rfl⟩ := h
  obtain ⟨CC, T, N, ty0, g1, g2, g3, g4, g5, g6, g7, g8⟩ := hf
  exact va_get (ref := (T kf).1) C.1 C.2.1 C.2.2.2.2.2.2.1 g2 C.2.2.2.2.2.1 C.2.2.2.2.2.2.2.2.1 hP a (cW_get hc) g1 kf g5 (C.2.2.2.2.2.2.1 _ g8) (fun _ h9 => h9) (v := cV q v) (by simp [hv]) h (k p l e R s m args below meth c H locs q D dA A arr hR C hS hP hD hl)
theorem j_put {idx ci kf a : Nat} {ty : FieldType} {fs : List Value} {v : Value} (hf : FOK mi.1.cls idx ci kf ty false) (h : decode mi.2.1 pc = .ok (.putfield idx, 3) ∧ pc + 3 = pc') (hc : w[a]? = some (.inr (ci, fs))) (hn : ∀ q, narrow ty (cV q v) = cV q v) (hfit : ∀ q, fits ty (cV q v) = true) (hk : kf < fs.length) (k : J d mi pc' ls st (w.set a (.inr (ci, fs.set kf v))) Q) : J d mi pc ls (v :: .ref a :: st) w Q := by
  intro p l e R s m args below meth c H locs q D dA A arr hR C hS hP hD hl
  obtain ⟨h, rfl⟩ := h
  obtain ⟨CC, T, N, ty0, g1, g2, g3, g4, g5, g6, g7, g8⟩ := hf
  subst g6
  refine va_put (ref := (T kf).1) C.1 C.2.1 C.2.2.2.2.2.2.1 g2 ty0 g3 g4 C.2.2.2.2.2.1 C.2.2.2.2.2.2.2.2.1 hP hD hS a (cW_get hc) g1 kf g5 (C.2.2.2.2.2.2.1 _ g8) (fun _ h9 => h9) g7 (g3 kf g5) (hn q) (hfit q) (by simpa using hk) h fun H1 locs1 hP1 hD1 hS1 => ?_
  have e1 : (cW q dA w).set a (q a, Sum.inr (ci, (List.map (cV q) fs).set kf (cV q v))) = cW q dA (w.set a (.inr (ci, fs.set kf v))) := by
    rw [← cW_set]; simp only [cE, List.map_set]
  rw [e1] at hP1 hD1
  exact k p l e R s m args below meth c H1 locs1 q D dA A arr hR C hS1 hP1 hD1 hl
theorem j_iald {a n : Nat} {f : Nat → Int32} {i : Int32} (h : decode mi.2.1 pc = .ok (.iaload, 1) ∧ pc + 1 = pc') (hc : w[a]? = some (iA n f)) (hi : vp_in i n) (k : J d mi pc' ls (.int (f i.toNatClampNeg) :: st) w Q) : J d mi pc ls (.int i :: .ref a :: st) w Q := by
  intro p l e R s m args below meth c H locs q D dA A arr hR C hS hP hD hl
  obtain ⟨h, rfl⟩ := h
  exact va_iald C.1 C.2.1 C.2.2.2.2.2.2.2.2.1 hP a 0 (cW_get hc) rfl hi h (k p l e R s m args below meth c H locs q D dA A arr hR C hS hP hD hl)
theorem j_bald {a n : Nat} {f : Nat → Int32} {i : Int32} (h : decode mi.2.1 pc = .ok (.baload, 1) ∧ pc + 1 = pc') (hc : w[a]? = some (bA n f)) (hi : vp_in i n) (k : J d mi pc' ls (.int (f i.toNatClampNeg) :: st) w Q) : J d mi pc ls (.int i :: .ref a :: st) w Q := by
  intro p l e R s m args below meth c H locs q D dA A arr hR C hS hP hD hl
  obtain ⟨h, rfl⟩ := h
  exact va_bald C.1 C.2.1 C.2.2.2.2.2.2.2.2.1 hP a 1 (cW_get hc) rfl hi h (k p l e R s m args below meth c H locs q D dA A arr hR C hS hP hD hl)
theorem j_aald {a n b : Nat} {f : Nat → Option Nat} {i : Int32} (h : decode mi.2.1 pc = .ok (.aaload, 1) ∧ pc + 1 = pc') (hc : w[a]? = some (rA n f)) (hi : vp_in i n) (hb : f i.toNatClampNeg = some b) (k : J d mi pc' ls (.ref b :: st) w Q) : J d mi pc ls (.int i :: .ref a :: st) w Q := by
  intro p l e R s m args below meth c H locs q D dA A arr hR C hS hP hD hl
  obtain ⟨h, rfl⟩ := h
  have hlt : i.toNatClampNeg < n := Nat.not_le.mp fun q => hi (Or.inr q)
  have hg : H[q a]? = some (arrV (dA 2) n (fun j => va_rf ((f j).map q))) := hP a _ (cW_get hc)
  refine W.aald (v := .ref (q b)) (ty := .array .int) C.1 C.2.1 hg ((C.2.2.2.2.2.2.2.2.1.2 2 _ rfl).1 n (fun j => va_rf ((f j).map q))) rfl (fun q => by cases q) (by show ¬ (i < 0 ∨ (arrV _ _ _).slots.size ≤ _); rw [arrV_size]; exact hi) (by show (arrV _ _ _).slots[_]? = _; rw [arrV_read _ _ hlt]; simp [hb, va_rf]) rfl rfl h (k p l e R s m args below meth c H locs q D dA A arr hR C hS hP hD hl)
theorem j_alen {a n : Nat} {t : Nat} {x : _} {v : Int32} (h : decode mi.2.1 pc = .ok (.arraylength, 1) ∧ pc + 1 = pc') (hc : w[a]? = some (.inl (t, n, x))) (ht : t < 3) (hv : Int32.ofNat n = v) (k : J d mi pc' ls (.int v :: st) w Q) : J d mi pc ls (.ref a :: st) w Q := by
  intro p l e R s m args below meth c H locs q D dA A arr hR C hS hP hD hl
  obtain ⟨h, rfl⟩ := h
  have hx : ∃ y, (cW q dA w)[a]? = some (q a, .inl (dA t, n, y)) := by
    refine ⟨(cR q (n, x)).2, ?_⟩
    rw [cW_get hc]
    rcases x with x | x | x | x | x <;> rfl
  obtain ⟨y, hx⟩ := hx
  rcases (show t = 0 ∨ t = 1 ∨ t = 2 by omega) with rfl | rfl | rfl
  · exact va_alen C.1 C.2.1 C.2.2.2.2.2.2.2.2.1 hP a 0 hx rfl hv h (k p l e R s m args below meth c H locs q D dA A arr hR C hS hP hD hl)
  · exact va_alen C.1 C.2.1 C.2.2.2.2.2.2.2.2.1 hP a 1 hx rfl hv h (k p l e R s m args below meth c H locs q D dA A arr hR C hS hP hD hl)
  · exact va_alen C.1 C.2.1 C.2.2.2.2.2.2.2.2.1 hP a 2 hx rfl hv h (k p l e R s m args below meth c H locs q D dA A arr hR C hS hP hD hl)
theorem j_iast {a n : Nat} {f : Nat → Int32} {i x : Int32} (h : decode mi.2.1 pc = .ok (.iastore, 1) ∧ pc + 1 = pc') (hc : w[a]? = some (iA n f)) (hi : vp_in i n) (k : J d mi pc' ls st (w.set a (iA n (upd f i.toNatClampNeg x))) Q) : J d mi pc ls (.int x :: .int i :: .ref a :: st) w Q := by
  intro p l e R s m args below meth c H locs q D dA A arr hR C hS hP hD hl
  obtain ⟨h, rfl⟩ := h
  refine va_iast C.1 C.2.1 C.2.2.2.2.2.2.2.2.1 hP hD hS a 0 (cW_get hc) rfl hi h fun H1 locs1 hP1 hD1 hS1 => ?_
  exact k p l e R s m args below meth c H1 locs1 q D dA A arr hR C hS1 (by rw [← cW_set]; exact hP1) (by rw [← cW_set]; exact hD1) hl
theorem j_bast {a n : Nat} {f : Nat → Int32} {i x : Int32} (h : decode mi.2.1 pc = .ok (.bastore, 1) ∧ pc + 1 = pc') (hc : w[a]? = some (bA n f)) (hi : vp_in i n) (k : J d mi pc' ls st (w.set a (bA n (upd f i.toNatClampNeg (vp_nar .byte x)))) Q) : J d mi pc ls (.int x :: .int i :: .ref a :: st) w Q := by
  intro p l e R s m args below meth c H locs q D dA A arr hR C hS hP hD hl
  obtain ⟨h, rfl⟩ := h
  refine va_bast C.1 C.2.1 C.2.2.2.2.2.2.2.2.1 hP hD hS a 1 (cW_get hc) rfl hi h fun H1 locs1 hP1 hD1 hS1 => ?_
  exact k p l e R s m args below meth c H1 locs1 q D dA A arr hR C hS1 (by rw [← cW_set]; exact hP1) (by rw [← cW_set]; exact hD1) hl
theorem j_mmax {x y : Int32} {idx : Nat} (hlink : Cond.methodLink mi.1.cls idx Lib.Math.max.name ∈ UW) (h : decode mi.2.1 pc = .ok (.invokestatic idx, 3) ∧ pc + 3 = pc') (hd : 1 ≤ d) (hr : (st.map fun v => v.category).sum ≤ 8) (k : J d mi pc' ls (.int (if x < y then y else x) :: st) w Q) : J d mi pc ls (.int y :: .int x :: st) w Q := by
  intro p l e R s m args below meth c H locs q D dA A arr hR C hS hP hD hl
  obtain ⟨h, rfl⟩ := h
  have hr2 : ((st.map (cV q)).map fun v => v.category).sum ≤ 8 := by
    rw [List.map_map, show ((fun v : Value => v.category) ∘ cV q) = fun v => v.category from funext fun v => cV_cat q v]
    exact hr
  exact va_mmax C.1 C.2.1 (C.2.2.1.trans hl.1.symm) C.2.2.2.2.2.1 (C.2.2.2.2.2.2.1 _ hlink) (C.2.2.2.2.2.2.1 _ math_max.1) (C.2.2.2.2.2.2.1 _ math_init) (C.2.2.2.2.2.2.1 _ math_max.2) (by omega) (by omega) (Nat.zero_le _) (Nat.zero_le _) h (k p l e R s m args below meth c H locs q D dA A arr hR C hS hP hD hl)
theorem j_mmin {x y : Int32} {idx : Nat} (hlink : Cond.methodLink mi.1.cls idx Lib.Math.min.name ∈ UW) (h : decode mi.2.1 pc = .ok (.invokestatic idx, 3) ∧ pc + 3 = pc') (hd : 1 ≤ d) (hr : (st.map fun v => v.category).sum ≤ 8) (k : J d mi pc' ls (.int (if y < x then y else x) :: st) w Q) : J d mi pc ls (.int y :: .int x :: st) w Q := by
  intro p l e R s m args below meth c H locs q D dA A arr hR C hS hP hD hl
  obtain ⟨h, rfl⟩ := h
  have hr2 : ((st.map (cV q)).map fun v => v.category).sum ≤ 8 := by
    rw [List.map_map, show ((fun v : Value => v.category) ∘ cV q) = fun v => v.category from funext fun v => cV_cat q v]
    exact hr
  exact va_mmin C.1 C.2.1 (C.2.2.1.trans hl.1.symm) C.2.2.2.2.2.1 (C.2.2.2.2.2.2.1 _ hlink) (C.2.2.2.2.2.2.1 _ math_min.1) (C.2.2.2.2.2.2.1 _ math_init) (C.2.2.2.2.2.2.1 _ math_min.2) (by omega) (by omega) (Nat.zero_le _) (Nat.zero_le _) h (k p l e R s m args below meth c H locs q D dA A arr hR C hS hP hD hl)
theorem j_mabs {x : Int32} {idx : Nat} (hlink : Cond.methodLink mi.1.cls idx Lib.Math.abs.name ∈ UW) (h : decode mi.2.1 pc = .ok (.invokestatic idx, 3) ∧ pc + 3 = pc') (hd : 1 ≤ d) (hr : (st.map fun v => v.category).sum ≤ 8) (k : J d mi pc' ls (.int (if 0 ≤ x then x else 0 - x) :: st) w Q) : J d mi pc ls (.int x :: st) w Q := by
  intro p l e R s m args below meth c H locs q D dA A arr hR C hS hP hD hl
  obtain ⟨h, rfl⟩ := h
  have hr2 : ((st.map (cV q)).map fun v => v.category).sum ≤ 8 := by
    rw [List.map_map, show ((fun v : Value => v.category) ∘ cV q) = fun v => v.category from funext fun v => cV_cat q v]
    exact hr
  exact va_mabs C.1 C.2.1 (C.2.2.1.trans hl.1.symm) C.2.2.2.2.2.1 (C.2.2.2.2.2.2.1 _ hlink) (C.2.2.2.2.2.2.1 _ math_abs.1) (C.2.2.2.2.2.2.1 _ math_init) (C.2.2.2.2.2.2.1 _ math_abs.2) (by omega) (by omega) (Nat.zero_le _) (Nat.zero_le _) h (k p l e R s m args below meth c H locs q D dA A arr hR C hS hP hD hl)
theorem j_ldcS (hy : mi.1.cls = "LeapBoard$Page") (h : decode mi.2.1 pc = .ok (.ldc 46, 2) ∧ pc + 2 = pc') (k : J d mi pc' ls (.ref 1000 :: st) w Q) : J d mi pc ls st w Q := by
  intro p l e R s m args below meth c H locs q D dA A arr hR C hS hP hD hl
  obtain ⟨h, rfl⟩ := h
  exact va_ldcS C.1 C.2.1 (by rw [← hy]; exact C.2.2.2.2.2.1) C.2.2.2.2.2.2.2.2.2.2.1 h (k p l e R s m args below meth c H locs q D dA A arr hR C hS hP hD hl)
theorem j_getSv {idx : Nat} (hlink : Cond.fieldLink mi.1.cls idx "java/lang/String" "value" "[B" ∈ UW) (h : decode mi.2.1 pc = .ok (.getfield idx, 3) ∧ pc + 3 = pc') (k : J d mi pc' ls (.ref 1001 :: st) w Q) : J d mi pc ls (.ref 1000 :: st) w Q := by
  intro p l e R s m args below meth c H locs q D dA A arr hR C hS hP hD hl
  obtain ⟨h, rfl⟩ := h
  exact vk_getf C.1 C.2.1 (C.2.2.2.2.2.2.2.2.2.1.1 0 (by decide)).2.2.1 hS C.2.2.2.2.2.1 (C.2.2.2.2.2.2.1 _ hlink) (fun _ h9 => h9) h (k p l e R s m args below meth c H locs q D dA A arr hR C hS hP hD hl)
theorem j_getSc {idx : Nat} (hlink : Cond.fieldLink mi.1.cls idx "java/lang/String" "coder" "B" ∈ UW) (h : decode mi.2.1 pc = .ok (.getfield idx, 3) ∧ pc + 3 = pc') (k : J d mi pc' ls (.int 0 :: st) w Q) : J d mi pc ls (.ref 1000 :: st) w Q := by
  intro p l e R s m args below meth c H locs q D dA A arr hR C hS hP hD hl
  obtain ⟨h, rfl⟩ := h
  exact vk_getf C.1 C.2.1 (C.2.2.2.2.2.2.2.2.2.1.1 0 (by decide)).2.1 hS C.2.2.2.2.2.1 (C.2.2.2.2.2.2.1 _ hlink) (fun _ h9 => h9) h (k p l e R s m args below meth c H locs q D dA A arr hR C hS hP hD hl)
theorem j_getsC {idx : Nat} (hlink : Cond.fieldLink mi.1.cls idx "java/lang/String" "COMPACT_STRINGS" "Z" ∈ UW) (h : decode mi.2.1 pc = .ok (.getstatic idx, 3) ∧ pc + 3 = pc') (k : J d mi pc' ls (.int 1 :: st) w Q) : J d mi pc ls st w Q := by
  intro p l e R s m args below meth c H locs q D dA A arr hR C hS hP hD hl
  obtain ⟨h, rfl⟩ := h
  exact va_gets C.1 C.2.1 C.2.2.2.2.2.2.2.2.2.2.2 hS C.2.2.2.2.2.1 (C.2.2.2.2.2.2.1 _ hlink) (fun _ h9 => h9) h (k p l e R s m args below meth c H locs q D dA A arr hR C hS hP hD hl)
theorem j_baldS {i v : Int32} (h : decode mi.2.1 pc = .ok (.baload, 1) ∧ pc + 1 = pc') (hi : vp_in i 5) (hv : ([107, 119, 102, 99, 98] : List Int32).getD i.toNatClampNeg 0 = v) (k : J d mi pc' ls (.int v :: st) w Q) : J d mi pc ls (.int i :: .ref 1001 :: st) w Q := by
  intro p l e R s m args below meth c H locs q D dA A arr hR C hS hP hD hl
  obtain ⟨h, rfl⟩ := h
  exact va_tb C.1 C.2.1 (C.2.2.2.2.2.2.2.2.2.1.1 0 (by decide)).2.2.2 hS hi (v := .int v) (by subst hv; rfl) h (k p l e R s m args below meth c H locs q D dA A arr hR C hS hP hD hl)
theorem j_alenS (h : decode mi.2.1 pc = .ok (.arraylength, 1) ∧ pc + 1 = pc') (k : J d mi pc' ls (.int 5 :: st) w Q) : J d mi pc ls (.ref 1001 :: st) w Q := by
  intro p l e R s m args below meth c H locs q D dA A arr hR C hS hP hD hl
  obtain ⟨h, rfl⟩ := h
  exact va_tlen C.1 C.2.1 (C.2.2.2.2.2.2.2.2.2.1.1 0 (by decide)).2.2.2 hS (v := 5) (by decide) h (k p l e R s m args below meth c H locs q D dA A arr hR C hS hP hD hl)
theorem j_iret {ty : FieldType} {v : Int32} (h : decode mi.2.1 pc = .ok (.ireturn, 1) ∧ pc + 1 = pc') (hr : mi.2.2.2.1 = some ty) (hn : narrow ty (.int v) = .int v) (hq : Q (some (.int v)) w) : J d mi pc ls [.int v] w Q := by
  intro p l e R s m args below meth c H locs q D dA A arr hR C hS hP hD hl
  have hlocks : meth.locks = false := C.2.2.2.2.1
  refine W.zret C.1 C.2.1 (C.2.2.2.1.trans hr) hn (fun t ht hW => ⟨⟨some (.int v), w, rfl, hq, by rw [ht]; exact hP, va_K.moved hW.alike C.2.2.2.2.2.2.2.2.1, hD⟩, hS.F ht⟩) hS.2.2 h.1
theorem j_lret {v : Int64} (h : decode mi.2.1 pc = .ok (.lreturn, 1) ∧ pc + 1 = pc') (hr : mi.2.2.2.1 = some .long) (hq : Q (some (.long v)) w) : J d mi pc ls [.long v] w Q := by
  intro p l e R s m args below meth c H locs q D dA A arr hR C hS hP hD hl
  have hlocks : meth.locks = false := C.2.2.2.2.1
  refine W.lret C.1 C.2.1 (C.2.2.2.1.trans hr) (fun t ht hW => ⟨⟨some (.long v), w, rfl, hq, by rw [ht]; exact hP, va_K.moved hW.alike C.2.2.2.2.2.2.2.2.1, hD⟩, hS.F ht⟩) hS.2.2 h.1
theorem j_aret {rt : FieldType} {a : Nat} (h : decode mi.2.1 pc = .ok (.areturn, 1) ∧ pc + 1 = pc') (hr : mi.2.2.2.1 = some rt) (hrt : (∃ n, rt = .object n) ∨ ∃ t, rt = .array t) (hq : Q (some (.ref a)) w) : J d mi pc ls [.ref a] w Q := by
  intro p l e R s m args below meth c H locs q D dA A arr hR C hS hP hD hl
  have hlocks : meth.locks = false := C.2.2.2.2.1
  refine W.aret C.1 C.2.1 (C.2.2.2.1.trans hr) hrt (Or.inr ⟨_, rfl⟩) (fun t ht hW => ⟨⟨some (.ref a), w, rfl, hq, by rw [ht]; exact hP, va_K.moved hW.alike C.2.2.2.2.2.2.2.2.1, hD⟩, hS.F ht⟩) hS.2.2 h.1
theorem j_vret (h : decode mi.2.1 pc = .ok (.return_, 1) ∧ pc + 1 = pc') (hr : mi.2.2.2.1 = none) (hq : Q none w) : J d mi pc ls [] w Q := by
  intro p l e R s m args below meth c H locs q D dA A arr hR C hS hP hD hl
  have hlocks : meth.locks = false := C.2.2.2.2.1
  refine W.vret C.1 C.2.1 (C.2.2.2.1.trans hr) (fun t ht hW => ⟨⟨none, w, rfl, hq, by rw [ht]; exact hP, va_K.moved hW.alike C.2.2.2.2.2.2.2.2.1, hD⟩, hS.F ht⟩) hS.2.2 h.1
/-! calls -/
def JPre (q : Nat → Nat) (D : va_G) (dA : Nat → ClassId) (A : Nat → Prop) (w : mW) : State → Prop := fun U => va_P D vwCl (cW q dA w) U.heap ∧ va_K D vwCl (tyA dA) U ∧ va_D A (cW q dA w) ∧ Amb q A U U.heap ∧ ∀ w ∈ NW, va_Nw w U
def cws (mi : MI) : List Cond := Cond.code mi.1 mi.2.1 mi.2.2.1 mi.2.2.2.1 :: UW
theorem cws_good {mi : MI} (h : mOK mi) : GoodIn UW (cws mi) := fun w hw => by
  rcases List.mem_cons.mp hw with rfl | hw
  · exact ⟨h.1, uw_good h.1⟩
  · exact ⟨hw, uw_good hw⟩
theorem Amb.moved {q : Nat → Nat} {A : Nat → Prop} {u U : State} {H : Heap} (hW : u.WarmedH U.vm) (h : Amb q A u H) : Amb q A U H := ⟨vk_S.moved hW.alike h.1, vk_R.warm hW h.2.1, va_Z.moved hW.alike h.2.2⟩
theorem Amb.kept {q : Nat → Nat} {A : Nat → Prop} {U : State} {H H1 : Heap} (h : Amb q A U H) (hq : ∀ a : Nat, a < H.size → ¬ A a → H1[a]? = H[a]?) : Amb q A U H1 := ⟨vk_S.kept h.1 hq, h.2.1, va_Z.kept h.2.2 hq⟩
theorem JPre.blind {as : List Value} {q : Nat → Nat} {D : va_G} {dA : Nat → ClassId} {A : Nat → Prop} {w : mW} : FrameBlind (va_Pc as (JPre q D dA A w)) := by
  intro a U g mk h
  obtain ⟨h0, h1, h2, h3, h4, h5⟩ := h
  exact ⟨h0, h1, va_K.moved (u := U) (U := U.calling g mk a) (Vm.Alike.refl U.vm) h2, h3, ⟨vk_S.moved (u := U) (U := U.calling g mk a) (Vm.Alike.refl U.vm) h4.1, vk_R.same (u := U) (U := U.calling g mk a) rfl h4.2.1, va_Z.moved (u := U) (U := U.calling g mk a) (Vm.Alike.refl U.vm) h4.2.2⟩, fun w hw => by
    obtain ⟨a1, i1, x1, h1, e1⟩ := nw_form w hw
    subst e1
    exact va_Nw.same (u := U) (U := U.calling g mk a) rfl rfl (h5 _ hw)⟩
theorem JC.pre {p : Program} {s : State} {m : MethodId} {args : Array Value} {meth : Method} {c : Code} {H : Heap} {locs : List Loc} {q : Nat → Nat} {D : va_G} {dA : Nat → ClassId} {A : Nat → Prop} (C : JC p s m args meth c mi q D dA A) (hS : va_S A s.heap H locs) (hP : va_P D vwCl (cW q dA w) H) (hD : va_D A (cW q dA w)) (U : State) (hU : U.heap = H) (hW : s.WarmedH U.vm) : JPre q D dA A w U := by
  refine ⟨by rw [hU]; exact hP, va_K.moved hW.alike C.2.2.2.2.2.2.2.2.1, hD, ?_, fun w hw => ?_⟩
  · rw [hU]
    exact (Amb.moved hW C.2.2.2.2.2.2.2.2.2).kept hS.2.1
  · obtain ⟨a1, i1, x1, h1, e1⟩ := nw_form w hw
    subst e1
    exact va_Nw.warmM hW (C.2.2.2.2.2.2.2.1 _ hw)
/-- a judgement at a method's entry is its contract -/
theorem J_met {as : List Value} (hm : mOK mi) (hlen : (entL as).length ≤ mi.2.2.1) (hJ : JX d mi as w Q) (l : Launch) (q : Nat → Nat) (D : va_G) (dA : Nat → ClassId) (A : Nat → Prop) : Met l mi.1 (cws mi) (jR d) (va_Pc (as.map (cV q)) (JPre q D dA A w)) (JQ q D dA A Q) 0 0 A := by
  refine Met.ofW (cc := mi.2.1) (maxL := mi.2.2.1) (ret := mi.2.2.2.1) hm.2.2.2.2.1 rfl ?_
  intro p e s m args below meth c s₁ B hml hv
  obtain ⟨rfl, hP, hK, hD, hA, hN⟩ := hv
  have hts := atoms_spec (ws := cws mi) B.pre
  have h := hJ p l e (headSpec (cws mi) (jR d)).room s m (as.map (cV q)).toArray below meth c s.heap [] q D dA A ((lg_sl (as.map (cV q)) ++ List.replicate (mi.2.2.1 - (lg_sl (as.map (cV q))).length) Slot.unset).toArray) ⟨Nat.le_refl _, Nat.le_refl _⟩
    ⟨B.exec, B.bytes, hml, B.returns, B.notSynchronized, findClass_of_methodNamed B.named, fun w hw => hts w (List.mem_cons_of_mem _ hw), hN, hK, hA⟩ va_S.rf hP hD
    (lvH.of (lv_entry (as.map (cV q)) (by rw [entL_len]; exact hlen)) fun i v h1 h2 => ent_mem h1 h2)
  rw [lg_entry_eq]
  exact h
theorem j_run {mi' : MI} {as rest : List Value} {d' : Nat} (hc : JX d' mi' as w Q')
    (kk : ∀ v w', Q' v w' → J d mi pc' ls (v.toList ++ rest) w' Q) {p : Program} {l : Launch} {e : Env} {R : Room} {s : State} {m : MethodId} {args : Array Value} {below : List Frame} {meth : Method} {c : Code} {H : Heap} {locs : List Loc} {q : Nat → Nat} {D : va_G} {dA : Nat → ClassId} {A : Nat → Prop} {arr : Array Slot} {st0 : List Value} {a : Array Value}
    (hR : d ≤ R.frames ∧ 64 * d ≤ R.locals) (C : JC p s m args meth c mi q D dA A) (hS : va_S A s.heap H locs) (hl : lvH q arr mi.2.2.1 ls) (hpc : pc + 3 = pc')
    (hr : va_Run p l e R s m args below meth c H locs 0 0 0 0 (F0 m pc arr st0) (rest.map (cV q)) (JQ q D dA A Q' a) A) : W p l e R s m args below meth c H locs 0 0 (MQ below (JQ q D dA A Q) args s 0 0 A) (F0 m pc arr st0) := by
  intro T hT X
  obtain ⟨v, st₀, t, T', L, h0, X', hL, e1, e2, ⟨⟨v1, w', hv, hp, hP1, hK1, hD1⟩, hz, hk⟩, stp⟩ := hr T hT X
  cases hv
  rw [h0] at hz hk
  obtain ⟨t2, a1, b1⟩ := kk v1 w' hp p l e R s m args below meth c T'.heap (locs ++ L) q D dA A arr hR C
    ⟨Nat.le_trans hS.1 (by rw [e1]; exact hz), fun x h1 h2 => by rw [e1, hk x (Nat.lt_of_lt_of_le h1 hS.1) h2]; exact hS.2.1 x h1 h2, fun x hx => by
      rcases List.mem_append.mp hx with h | h
      · exact hS.2.2 x h
      · exact hL x h⟩ (by rw [e1]; exact hP1) hD1 hl T' rfl X'
  refine ⟨t2, stp t2 ?_, b1⟩
  subst hpc
  have : (F0 m (pc + 3) arr ((v1.toList ++ rest).map (cV q))) = { (F0 m pc arr st0) with pc := pc + 3, stack := (v1.map (cV q)).toList ++ rest.map (cV q) } := by
    cases v1 <;> simp
  rw [← this]
  exact a1
theorem hroom {rest : List Value} {q : Nat → Nat} {m : MethodId} {pc : Nat} {arr : Array Slot} {st0 : List Value} (h : (rest.map fun v => v.category).sum ≤ 8) : 2 * (F0 m pc arr st0).monitorRoom + ((rest.map (cV q)).map fun v => v.category).sum ≤ 8 := by
  refine lv_room ?_
  rw [List.map_map, show ((fun v : Value => v.category) ∘ cV q) = fun v => v.category from funext fun v => cV_cat q v]
  exact h
theorem j_callS {mi' : MI} {as rest : List Value} {d' idx : Nat} (hm : mS mi') (hlink : Cond.methodLink mi.1.cls idx mi'.1 ∈ UW) (h : decode mi.2.1 pc = .ok (.invokestatic idx, 3) ∧ pc + 3 = pc') (hd : d' + 1 ≤ d) (hc : JX d' mi' as w Q') (hn : as.length = mi'.2.2.2.2) (he : (entL as).length ≤ mi'.2.2.1) (hr : (rest.map fun v => v.category).sum ≤ 8)
    (kk : ∀ v w', Q' v w' → J d mi pc' ls (v.toList ++ rest) w' Q) : J d mi pc ls (as.reverse ++ rest) w Q := by
  intro p l e R s m args below meth c H locs q D dA A arr hR C hS hP hD hl
  refine j_run hc kk hR C hS hl h.2 (va_runS (As := as.map (cV q)) (rest := rest.map (cV q)) (Ts := UW) (own := mi.1.cls) (n := mi'.2.2.2.2) ⟨C.1, C.2.1, C.2.2.1, C.2.2.2.2.2.1, C.2.2.2.2.2.2.1⟩ (J_met hm.1 he hc l q D dA A) ⟨callB_of _ C.2.2.2.2.2.2.1 (cws_good hm.1) rfl rfl rfl (C.2.2.2.2.2.2.1 _ hm.1.2.1) (C.2.2.2.2.2.2.1 _ hlink) ⟨hm.1.2.2.1.1, hm.1.2.2.1.2, hm.1.2.2.2.1⟩ ⟨?_, ?_⟩, C.2.2.2.2.2.2.1 _ hm.2⟩ ⟨JPre.blind, fun U hU hW => ⟨rfl, C.pre hS hP hD U hU hW⟩⟩ rfl (by rw [List.length_map]; exact hn) hl.1 (by simp) (hroom hr) h.1 ⟨Nat.zero_le _, Nat.zero_le _⟩)
  · show d' + 1 ≤ R.frames; omega
  · have := hm.1.2.2.2.2.2
    show 8 + (mi'.2.2.1 + 11) + 64 * d' ≤ R.locals; omega
theorem j_callSN {mi' : MI} {as rest : List Value} {d' idx : Nat} {host : String} (hm : mS mi') (hlink : Cond.methodLinkNest mi.1.cls idx mi'.1 host ∈ NW) (h : decode mi.2.1 pc = .ok (.invokestatic idx, 3) ∧ pc + 3 = pc') (hd : d' + 1 ≤ d) (hc : JX d' mi' as w Q') (hn : as.length = mi'.2.2.2.2) (he : (entL as).length ≤ mi'.2.2.1) (hr : (rest.map fun v => v.category).sum ≤ 8)
    (kk : ∀ v w', Q' v w' → J d mi pc' ls (v.toList ++ rest) w' Q) : J d mi pc ls (as.reverse ++ rest) w Q := by
  intro p l e R s m args below meth c H locs q D dA A arr hR C hS hP hD hl
  refine j_run hc kk hR C hS hl h.2 (va_runSN (As := as.map (cV q)) (rest := rest.map (cV q)) (Ts := UW) (own := mi.1.cls) (n := mi'.2.2.2.2) ⟨C.1, C.2.1, C.2.2.1, C.2.2.2.2.2.1, C.2.2.2.2.2.2.1⟩ (J_met hm.1 he hc l q D dA A) ⟨va_cnB _ C.2.2.2.2.2.2.1 (cws_good hm.1) rfl rfl rfl (C.2.2.2.2.2.2.2.1 _ hlink) (C.2.2.2.2.2.2.1 _ hm.1.2.1) ⟨hm.1.2.2.1.1, hm.1.2.2.1.2, hm.1.2.2.2.1⟩ ⟨?_, ?_⟩, C.2.2.2.2.2.2.1 _ hm.2, trivial⟩ ⟨JPre.blind, fun U hU hW => ⟨rfl, C.pre hS hP hD U hU hW⟩⟩ rfl (by rw [List.length_map]; exact hn) hl.1 (by simp) (hroom hr) h.1 ⟨Nat.zero_le _, Nat.zero_le _⟩)
  · show d' + 1 ≤ R.frames; omega
  · have := hm.1.2.2.2.2.2
    show 8 + (mi'.2.2.1 + 11) + 64 * d' ≤ R.locals; omega
theorem j_callV {mi' : MI} {as rest fs : List Value} {d' idx a ci N : Nat} {T : u_T} (hm : mV mi') (hlink : Cond.methodLink mi.1.cls idx mi'.1 ∈ UW) (h : decode mi.2.1 pc = .ok (.invokevirtual idx, 3) ∧ pc + 3 = pc') (hd : d' + 1 ≤ d) (ho : w[a]? = some (.inr (ci, fs))) (hci : vwCl[ci]? = some (mi'.1.cls, T, N)) (hc : JX d' mi' (.ref a :: as) w Q') (hn : as.length = mi'.2.2.2.2) (he : (entL (.ref a :: as)).length ≤ mi'.2.2.1) (hr : (rest.map fun v => v.category).sum ≤ 8)
    (kk : ∀ v w', Q' v w' → J d mi pc' ls (v.toList ++ rest) w' Q) : J d mi pc ls (as.reverse ++ .ref a :: rest) w Q := by
  intro p l e R s m args below meth c H locs q D dA A arr hR C hS hP hD hl
  refine j_run hc kk hR C hS hl h.2 (va_runV (As := as.map (cV q)) (rest := rest.map (cV q)) (Ts := UW) (own := mi.1.cls) (n := mi'.2.2.2.2) (C := mi'.1.cls) (b := q a) ⟨C.1, C.2.1, C.2.2.1, C.2.2.2.2.2.1, C.2.2.2.2.2.2.1⟩ (J_met hm.1 he hc l q D dA A) ⟨callB_of _ C.2.2.2.2.2.2.1 (cws_good hm.1) rfl rfl rfl (C.2.2.2.2.2.2.1 _ hm.1.2.1) (C.2.2.2.2.2.2.1 _ hlink) ⟨hm.1.2.2.1.1, hm.1.2.2.1.2, hm.1.2.2.2.1⟩ ⟨?_, ?_⟩, C.2.2.2.2.2.2.1 _ hm.2.1, C.2.2.2.2.2.2.1 _ hm.2.2⟩ ⟨JPre.blind, va_recv C.2.2.2.2.2.2.2.2.1 hP hci (cW_get ho), fun U hU hW => ⟨rfl, C.pre hS hP hD U hU hW⟩⟩ rfl (by rw [List.length_map]; exact hn) hl.1 (by simp [cV]) (hroom hr) h.1 ⟨Nat.zero_le _, Nat.zero_le _⟩)
  · show d' + 1 ≤ R.frames; omega
  · have := hm.1.2.2.2.2.2
    show 8 + (mi'.2.2.1 + 11) + 64 * d' ≤ R.locals; omega
theorem j_callVS {mi' : MI} {as rest : List Value} {d' idx : Nat} (hm : mV mi') (hlink : Cond.methodLink mi.1.cls idx mi'.1 ∈ UW) (h : decode mi.2.1 pc = .ok (.invokevirtual idx, 3) ∧ pc + 3 = pc') (hd : d' + 1 ≤ d) (hci : mi'.1.cls = "java/lang/String") (hc : JX d' mi' (.ref 1000 :: as) w Q') (hn : as.length = mi'.2.2.2.2) (he : (entL (.ref 1000 :: as)).length ≤ mi'.2.2.1) (hr : (rest.map fun v => v.category).sum ≤ 8)
    (kk : ∀ v w', Q' v w' → J d mi pc' ls (v.toList ++ rest) w' Q) : J d mi pc ls (as.reverse ++ .ref 1000 :: rest) w Q := by
  intro p l e R s m args below meth c H locs q D dA A arr hR C hS hP hD hl
  refine j_run hc kk hR C hS hl h.2 (va_runV (As := as.map (cV q)) (rest := rest.map (cV q)) (Ts := UW) (own := mi.1.cls) (n := mi'.2.2.2.2) (C := mi'.1.cls) (b := q 1000) ⟨C.1, C.2.1, C.2.2.1, C.2.2.2.2.2.1, C.2.2.2.2.2.2.1⟩ (J_met hm.1 he hc l q D dA A) ⟨callB_of _ C.2.2.2.2.2.2.1 (cws_good hm.1) rfl rfl rfl (C.2.2.2.2.2.2.1 _ hm.1.2.1) (C.2.2.2.2.2.2.1 _ hlink) ⟨hm.1.2.2.1.1, hm.1.2.2.1.2, hm.1.2.2.2.1⟩ ⟨?_, ?_⟩, C.2.2.2.2.2.2.1 _ hm.2.1, C.2.2.2.2.2.2.1 _ hm.2.2⟩ ⟨JPre.blind, by rw [hci]; exact vk_recv (adK := fun _ => q 1000) C.2.2.2.2.2.2.2.2.2.1 (i := 0) (by decide) hS, fun U hU hW => ⟨rfl, C.pre hS hP hD U hU hW⟩⟩ rfl (by rw [List.length_map]; exact hn) hl.1 (by simp [cV]) (hroom hr) h.1 ⟨Nat.zero_le _, Nat.zero_le _⟩)
  · show d' + 1 ≤ R.frames; omega
  · have := hm.1.2.2.2.2.2
    show 8 + (mi'.2.2.1 + 11) + 64 * d' ≤ R.locals; omega

theorem j_S0R {mi' : MI} {rest : List Value} {d' idx : Nat} {r : Value} {w' : mW}   (hm : mS mi') (hlink : Cond.methodLink mi.1.cls idx mi'.1 ∈ UW) (h : decode mi.2.1 pc = .ok (.invokestatic idx, 3) ∧ pc + 3 = pc') (hd : d' + 1 ≤ d)  (hc : JR d' mi' [] w r w') (hn : 0 = mi'.2.2.2.2) (he : (entL []).length ≤ mi'.2.2.1) (hr : (rest.map fun v => v.category).sum ≤ 8) (kk : J d mi pc' ls (r :: rest) w' Q) : J d mi pc ls (rest) w Q :=
  j_callS (as := []) (rest := rest) hm hlink h hd hc hn he hr (fun v u hvu => by obtain ⟨rfl, rfl⟩ := hvu; exact kk)
theorem j_S0U {mi' : MI} {rest : List Value} {d' idx : Nat} {r : Value} {w' : mW}   (hm : mS mi') (hlink : Cond.methodLink mi.1.cls idx mi'.1 ∈ UW) (h : decode mi.2.1 pc = .ok (.invokestatic idx, 3) ∧ pc + 3 = pc') (hd : d' + 1 ≤ d)  (hc : JV d' mi' [] w w') (hn : 0 = mi'.2.2.2.2) (he : (entL []).length ≤ mi'.2.2.1) (hr : (rest.map fun v => v.category).sum ≤ 8) (kk : J d mi pc' ls rest w' Q) : J d mi pc ls (rest) w Q :=
  j_callS (as := []) (rest := rest) hm hlink h hd hc hn he hr (fun v u hvu => by obtain ⟨rfl, rfl⟩ := hvu; exact kk)
theorem j_S0X {mi' : MI} {rest : List Value} {d' idx : Nat} {r : Value} {w' : mW}   (hm : mS mi') (hlink : Cond.methodLink mi.1.cls idx mi'.1 ∈ UW) (h : decode mi.2.1 pc = .ok (.invokestatic idx, 3) ∧ pc + 3 = pc') (hd : d' + 1 ≤ d)  (hc : JX d' mi' [] w Q') (hn : 0 = mi'.2.2.2.2) (he : (entL []).length ≤ mi'.2.2.1) (hr : (rest.map fun v => v.category).sum ≤ 8) (kk : ∀ v w', Q' v w' → J d mi pc' ls (v.toList ++ rest) w' Q) : J d mi pc ls (rest) w Q :=
  j_callS (as := []) (rest := rest) hm hlink h hd hc hn he hr kk
theorem j_SN0R {mi' : MI} {rest : List Value} {d' idx : Nat} {r : Value} {w' : mW}   (hm : mS mi') {host : String} (hlink : Cond.methodLinkNest mi.1.cls idx mi'.1 host ∈ NW) (h : decode mi.2.1 pc = .ok (.invokestatic idx, 3) ∧ pc + 3 = pc') (hd : d' + 1 ≤ d)  (hc : JR d' mi' [] w r w') (hn : 0 = mi'.2.2.2.2) (he : (entL []).length ≤ mi'.2.2.1) (hr : (rest.map fun v => v.category).sum ≤ 8) (kk : J d mi pc' ls (r :: rest) w' Q) : J d mi pc ls (rest) w Q :=
  j_callSN (as := []) (rest := rest) hm hlink h hd hc hn he hr (fun v u hvu => by obtain ⟨rfl, rfl⟩ := hvu; exact kk)
theorem j_SN0U {mi' : MI} {rest : List Value} {d' idx : Nat} {r : Value} {w' : mW}   (hm : mS mi') {host : String} (hlink : Cond.methodLinkNest mi.1.cls idx mi'.1 host ∈ NW) (h : decode mi.2.1 pc = .ok (.invokestatic idx, 3) ∧ pc + 3 = pc') (hd : d' + 1 ≤ d)  (hc : JV d' mi' [] w w') (hn : 0 = mi'.2.2.2.2) (he : (entL []).length ≤ mi'.2.2.1) (hr : (rest.map fun v => v.category).sum ≤ 8) (kk : J d mi pc' ls rest w' Q) : J d mi pc ls (rest) w Q :=
  j_callSN (as := []) (rest := rest) hm hlink h hd hc hn he hr (fun v u hvu => by obtain ⟨rfl, rfl⟩ := hvu; exact kk)
theorem j_SN0X {mi' : MI} {rest : List Value} {d' idx : Nat} {r : Value} {w' : mW}   (hm : mS mi') {host : String} (hlink : Cond.methodLinkNest mi.1.cls idx mi'.1 host ∈ NW) (h : decode mi.2.1 pc = .ok (.invokestatic idx, 3) ∧ pc + 3 = pc') (hd : d' + 1 ≤ d)  (hc : JX d' mi' [] w Q') (hn : 0 = mi'.2.2.2.2) (he : (entL []).length ≤ mi'.2.2.1) (hr : (rest.map fun v => v.category).sum ≤ 8) (kk : ∀ v w', Q' v w' → J d mi pc' ls (v.toList ++ rest) w' Q) : J d mi pc ls (rest) w Q :=
  j_callSN (as := []) (rest := rest) hm hlink h hd hc hn he hr kk
theorem j_V0R {mi' : MI} {rest : List Value} {d' idx : Nat} {r : Value} {w' : mW}  {a ci N : Nat} {T : u_T} {fs : List Value} (hm : mV mi') (hlink : Cond.methodLink mi.1.cls idx mi'.1 ∈ UW) (h : decode mi.2.1 pc = .ok (.invokevirtual idx, 3) ∧ pc + 3 = pc') (hd : d' + 1 ≤ d) (ho : w[a]? = some (.inr (ci, fs))) (hci : vwCl[ci]? = some (mi'.1.cls, T, N)) (hc : JR d' mi' [.ref a] w r w') (hn : 0 = mi'.2.2.2.2) (he : (entL [.ref a]).length ≤ mi'.2.2.1) (hr : (rest.map fun v => v.category).sum ≤ 8) (kk : J d mi pc' ls (r :: rest) w' Q) : J d mi pc ls (.ref a :: rest) w Q :=
  j_callV (as := []) (rest := rest) hm hlink h hd ho hci hc hn he hr (fun v u hvu => by obtain ⟨rfl, rfl⟩ := hvu; exact kk)
theorem j_V0U {mi' : MI} {rest : List Value} {d' idx : Nat} {r : Value} {w' : mW}  {a ci N : Nat} {T : u_T} {fs : List Value} (hm : mV mi') (hlink : Cond.methodLink mi.1.cls idx mi'.1 ∈ UW) (h : decode mi.2.1 pc = .ok (.invokevirtual idx, 3) ∧ pc + 3 = pc') (hd : d' + 1 ≤ d) (ho : w[a]? = some (.inr (ci, fs))) (hci : vwCl[ci]? = some (mi'.1.cls, T, N)) (hc : JV d' mi' [.ref a] w w') (hn : 0 = mi'.2.2.2.2) (he : (entL [.ref a]).length ≤ mi'.2.2.1) (hr : (rest.map fun v => v.category).sum ≤ 8) (kk : J d mi pc' ls rest w' Q) : J d mi pc ls (.ref a :: rest) w Q :=
  j_callV (as := []) (rest := rest) hm hlink h hd ho hci hc hn he hr (fun v u hvu => by obtain ⟨rfl, rfl⟩ := hvu; exact kk)
theorem j_V0X {mi' : MI} {rest : List Value} {d' idx : Nat} {r : Value} {w' : mW}  {a ci N : Nat} {T : u_T} {fs : List Value} (hm : mV mi') (hlink : Cond.methodLink mi.1.cls idx mi'.1 ∈ UW) (h : decode mi.2.1 pc = .ok (.invokevirtual idx, 3) ∧ pc + 3 = pc') (hd : d' + 1 ≤ d) (ho : w[a]? = some (.inr (ci, fs))) (hci : vwCl[ci]? = some (mi'.1.cls, T, N)) (hc : JX d' mi' [.ref a] w Q') (hn : 0 = mi'.2.2.2.2) (he : (entL [.ref a]).length ≤ mi'.2.2.1) (hr : (rest.map fun v => v.category).sum ≤ 8) (kk : ∀ v w', Q' v w' → J d mi pc' ls (v.toList ++ rest) w' Q) : J d mi pc ls (.ref a :: rest) w Q :=
  j_callV (as := []) (rest := rest) hm hlink h hd ho hci hc hn he hr kk
theorem j_S1R {mi' : MI} {rest : List Value} {d' idx : Nat} {r : Value} {w' : mW} {a0 : Value}  (hm : mS mi') (hlink : Cond.methodLink mi.1.cls idx mi'.1 ∈ UW) (h : decode mi.2.1 pc = .ok (.invokestatic idx, 3) ∧ pc + 3 = pc') (hd : d' + 1 ≤ d)  (hc : JR d' mi' [a0] w r w') (hn : 1 = mi'.2.2.2.2) (he : (entL [a0]).length ≤ mi'.2.2.1) (hr : (rest.map fun v => v.category).sum ≤ 8) (kk : J d mi pc' ls (r :: rest) w' Q) : J d mi pc ls (a0 :: rest) w Q :=
  j_callS (as := [a0]) (rest := rest) hm hlink h hd hc hn he hr (fun v u hvu => by obtain ⟨rfl, rfl⟩ := hvu; exact kk)
theorem j_S1U {mi' : MI} {rest : List Value} {d' idx : Nat} {r : Value} {w' : mW} {a0 : Value}  (hm : mS mi') (hlink : Cond.methodLink mi.1.cls idx mi'.1 ∈ UW) (h : decode mi.2.1 pc = .ok (.invokestatic idx, 3) ∧ pc + 3 = pc') (hd : d' + 1 ≤ d)  (hc : JV d' mi' [a0] w w') (hn : 1 = mi'.2.2.2.2) (he : (entL [a0]).length ≤ mi'.2.2.1) (hr : (rest.map fun v => v.category).sum ≤ 8) (kk : J d mi pc' ls rest w' Q) : J d mi pc ls (a0 :: rest) w Q :=
  j_callS (as := [a0]) (rest := rest) hm hlink h hd hc hn he hr (fun v u hvu => by obtain ⟨rfl, rfl⟩ := hvu; exact kk)
theorem j_S1X {mi' : MI} {rest : List Value} {d' idx : Nat} {r : Value} {w' : mW} {a0 : Value}  (hm : mS mi') (hlink : Cond.methodLink mi.1.cls idx mi'.1 ∈ UW) (h : decode mi.2.1 pc = .ok (.invokestatic idx, 3) ∧ pc + 3 = pc') (hd : d' + 1 ≤ d)  (hc : JX d' mi' [a0] w Q') (hn : 1 = mi'.2.2.2.2) (he : (entL [a0]).length ≤ mi'.2.2.1) (hr : (rest.map fun v => v.category).sum ≤ 8) (kk : ∀ v w', Q' v w' → J d mi pc' ls (v.toList ++ rest) w' Q) : J d mi pc ls (a0 :: rest) w Q :=
  j_callS (as := [a0]) (rest := rest) hm hlink h hd hc hn he hr kk
theorem j_SN1R {mi' : MI} {rest : List Value} {d' idx : Nat} {r : Value} {w' : mW} {a0 : Value}  (hm : mS mi') {host : String} (hlink : Cond.methodLinkNest mi.1.cls idx mi'.1 host ∈ NW) (h : decode mi.2.1 pc = .ok (.invokestatic idx, 3) ∧ pc + 3 = pc') (hd : d' + 1 ≤ d)  (hc : JR d' mi' [a0] w r w') (hn : 1 = mi'.2.2.2.2) (he : (entL [a0]).length ≤ mi'.2.2.1) (hr : (rest.map fun v => v.category).sum ≤ 8) (kk : J d mi pc' ls (r :: rest) w' Q) : J d mi pc ls (a0 :: rest) w Q :=
  j_callSN (as := [a0]) (rest := rest) hm hlink h hd hc hn he hr (fun v u hvu => by obtain ⟨rfl, rfl⟩ := hvu; exact kk)
theorem j_SN1U {mi' : MI} {rest : List Value} {d' idx : Nat} {r : Value} {w' : mW} {a0 : Value}  (hm : mS mi') {host : String} (hlink : Cond.methodLinkNest mi.1.cls idx mi'.1 host ∈ NW) (h : decode mi.2.1 pc = .ok (.invokestatic idx, 3) ∧ pc + 3 = pc') (hd : d' + 1 ≤ d)  (hc : JV d' mi' [a0] w w') (hn : 1 = mi'.2.2.2.2) (he : (entL [a0]).length ≤ mi'.2.2.1) (hr : (rest.map fun v => v.category).sum ≤ 8) (kk : J d mi pc' ls rest w' Q) : J d mi pc ls (a0 :: rest) w Q :=
  j_callSN (as := [a0]) (rest := rest) hm hlink h hd hc hn he hr (fun v u hvu => by obtain ⟨rfl, rfl⟩ := hvu; exact kk)
theorem j_SN1X {mi' : MI} {rest : List Value} {d' idx : Nat} {r : Value} {w' : mW} {a0 : Value}  (hm : mS mi') {host : String} (hlink : Cond.methodLinkNest mi.1.cls idx mi'.1 host ∈ NW) (h : decode mi.2.1 pc = .ok (.invokestatic idx, 3) ∧ pc + 3 = pc') (hd : d' + 1 ≤ d)  (hc : JX d' mi' [a0] w Q') (hn : 1 = mi'.2.2.2.2) (he : (entL [a0]).length ≤ mi'.2.2.1) (hr : (rest.map fun v => v.category).sum ≤ 8) (kk : ∀ v w', Q' v w' → J d mi pc' ls (v.toList ++ rest) w' Q) : J d mi pc ls (a0 :: rest) w Q :=
  j_callSN (as := [a0]) (rest := rest) hm hlink h hd hc hn he hr kk
theorem j_V1R {mi' : MI} {rest : List Value} {d' idx : Nat} {r : Value} {w' : mW} {a0 : Value} {a ci N : Nat} {T : u_T} {fs : List Value} (hm : mV mi') (hlink : Cond.methodLink mi.1.cls idx mi'.1 ∈ UW) (h : decode mi.2.1 pc = .ok (.invokevirtual idx, 3) ∧ pc + 3 = pc') (hd : d' + 1 ≤ d) (ho : w[a]? = some (.inr (ci, fs))) (hci : vwCl[ci]? = some (mi'.1.cls, T, N)) (hc : JR d' mi' [.ref a, a0] w r w') (hn : 1 = mi'.2.2.2.2) (he : (entL [.ref a, a0]).length ≤ mi'.2.2.1) (hr : (rest.map fun v => v.category).sum ≤ 8) (kk : J d mi pc' ls (r :: rest) w' Q) : J d mi pc ls (a0 :: .ref a :: rest) w Q :=
  j_callV (as := [a0]) (rest := rest) hm hlink h hd ho hci hc hn he hr (fun v u hvu => by obtain ⟨rfl, rfl⟩ := hvu; exact kk)
theorem j_V1U {mi' : MI} {rest : List Value} {d' idx : Nat} {r : Value} {w' : mW} {a0 : Value} {a ci N : Nat} {T : u_T} {fs : List Value} (hm : mV mi') (hlink : Cond.methodLink mi.1.cls idx mi'.1 ∈ UW) (h : decode mi.2.1 pc = .ok (.invokevirtual idx, 3) ∧ pc + 3 = pc') (hd : d' + 1 ≤ d) (ho : w[a]? = some (.inr (ci, fs))) (hci : vwCl[ci]? = some (mi'.1.cls, T, N)) (hc : JV d' mi' [.ref a, a0] w w') (hn : 1 = mi'.2.2.2.2) (he : (entL [.ref a, a0]).length ≤ mi'.2.2.1) (hr : (rest.map fun v => v.category).sum ≤ 8) (kk : J d mi pc' ls rest w' Q) : J d mi pc ls (a0 :: .ref a :: rest) w Q :=
  j_callV (as := [a0]) (rest := rest) hm hlink h hd ho hci hc hn he hr (fun v u hvu => by obtain ⟨rfl, rfl⟩ := hvu; exact kk)
theorem j_V1X {mi' : MI} {rest : List Value} {d' idx : Nat} {r : Value} {w' : mW} {a0 : Value} {a ci N : Nat} {T : u_T} {fs : List Value} (hm : mV mi') (hlink : Cond.methodLink mi.1.cls idx mi'.1 ∈ UW) (h : decode mi.2.1 pc = .ok (.invokevirtual idx, 3) ∧ pc + 3 = pc') (hd : d' + 1 ≤ d) (ho : w[a]? = some (.inr (ci, fs))) (hci : vwCl[ci]? = some (mi'.1.cls, T, N)) (hc : JX d' mi' [.ref a, a0] w Q') (hn : 1 = mi'.2.2.2.2) (he : (entL [.ref a, a0]).length ≤ mi'.2.2.1) (hr : (rest.map fun v => v.category).sum ≤ 8) (kk : ∀ v w', Q' v w' → J d mi pc' ls (v.toList ++ rest) w' Q) : J d mi pc ls (a0 :: .ref a :: rest) w Q :=
  j_callV (as := [a0]) (rest := rest) hm hlink h hd ho hci hc hn he hr kk
theorem j_S2R {mi' : MI} {rest : List Value} {d' idx : Nat} {r : Value} {w' : mW} {a0 a1 : Value}  (hm : mS mi') (hlink : Cond.methodLink mi.1.cls idx mi'.1 ∈ UW) (h : decode mi.2.1 pc = .ok (.invokestatic idx, 3) ∧ pc + 3 = pc') (hd : d' + 1 ≤ d)  (hc : JR d' mi' [a0, a1] w r w') (hn : 2 = mi'.2.2.2.2) (he : (entL [a0, a1]).length ≤ mi'.2.2.1) (hr : (rest.map fun v => v.category).sum ≤ 8) (kk : J d mi pc' ls (r :: rest) w' Q) : J d mi pc ls (a1 :: a0 :: rest) w Q :=
  j_callS (as := [a0, a1]) (rest := rest) hm hlink h hd hc hn he hr (fun v u hvu => by obtain ⟨rfl, rfl⟩ := hvu; exact kk)
theorem j_S2U {mi' : MI} {rest : List Value} {d' idx : Nat} {r : Value} {w' : mW} {a0 a1 : Value}  (hm : mS mi') (hlink : Cond.methodLink mi.1.cls idx mi'.1 ∈ UW) (h : decode mi.2.1 pc = .ok (.invokestatic idx, 3) ∧ pc + 3 = pc') (hd : d' + 1 ≤ d)  (hc : JV d' mi' [a0, a1] w w') (hn : 2 = mi'.2.2.2.2) (he : (entL [a0, a1]).length ≤ mi'.2.2.1) (hr : (rest.map fun v => v.category).sum ≤ 8) (kk : J d mi pc' ls rest w' Q) : J d mi pc ls (a1 :: a0 :: rest) w Q :=
  j_callS (as := [a0, a1]) (rest := rest) hm hlink h hd hc hn he hr (fun v u hvu => by obtain ⟨rfl, rfl⟩ := hvu; exact kk)
theorem j_S2X {mi' : MI} {rest : List Value} {d' idx : Nat} {r : Value} {w' : mW} {a0 a1 : Value}  (hm : mS mi') (hlink : Cond.methodLink mi.1.cls idx mi'.1 ∈ UW) (h : decode mi.2.1 pc = .ok (.invokestatic idx, 3) ∧ pc + 3 = pc') (hd : d' + 1 ≤ d)  (hc : JX d' mi' [a0, a1] w Q') (hn : 2 = mi'.2.2.2.2) (he : (entL [a0, a1]).length ≤ mi'.2.2.1) (hr : (rest.map fun v => v.category).sum ≤ 8) (kk : ∀ v w', Q' v w' → J d mi pc' ls (v.toList ++ rest) w' Q) : J d mi pc ls (a1 :: a0 :: rest) w Q :=
  j_callS (as := [a0, a1]) (rest := rest) hm hlink h hd hc hn he hr kk
theorem j_SN2R {mi' : MI} {rest : List Value} {d' idx : Nat} {r : Value} {w' : mW} {a0 a1 : Value}  (hm : mS mi') {host : String} (hlink : Cond.methodLinkNest mi.1.cls idx mi'.1 host ∈ NW) (h : decode mi.2.1 pc = .ok (.invokestatic idx, 3) ∧ pc + 3 = pc') (hd : d' + 1 ≤ d)  (hc : JR d' mi' [a0, a1] w r w') (hn : 2 = mi'.2.2.2.2) (he : (entL [a0, a1]).length ≤ mi'.2.2.1) (hr : (rest.map fun v => v.category).sum ≤ 8) (kk : J d mi pc' ls (r :: rest) w' Q) : J d mi pc ls (a1 :: a0 :: rest) w Q :=
  j_callSN (as := [a0, a1]) (rest := rest) hm hlink h hd hc hn he hr (fun v u hvu => by obtain ⟨rfl, rfl⟩ := hvu; exact kk)
theorem j_SN2U {mi' : MI} {rest : List Value} {d' idx : Nat} {r : Value} {w' : mW} {a0 a1 : Value}  (hm : mS mi') {host : String} (hlink : Cond.methodLinkNest mi.1.cls idx mi'.1 host ∈ NW) (h : decode mi.2.1 pc = .ok (.invokestatic idx, 3) ∧ pc + 3 = pc') (hd : d' + 1 ≤ d)  (hc : JV d' mi' [a0, a1] w w') (hn : 2 = mi'.2.2.2.2) (he : (entL [a0, a1]).length ≤ mi'.2.2.1) (hr : (rest.map fun v => v.category).sum ≤ 8) (kk : J d mi pc' ls rest w' Q) : J d mi pc ls (a1 :: a0 :: rest) w Q :=
  j_callSN (as := [a0, a1]) (rest := rest) hm hlink h hd hc hn he hr (fun v u hvu => by obtain ⟨rfl, rfl⟩ := hvu; exact kk)
theorem j_SN2X {mi' : MI} {rest : List Value} {d' idx : Nat} {r : Value} {w' : mW} {a0 a1 : Value}  (hm : mS mi') {host : String} (hlink : Cond.methodLinkNest mi.1.cls idx mi'.1 host ∈ NW) (h : decode mi.2.1 pc = .ok (.invokestatic idx, 3) ∧ pc + 3 = pc') (hd : d' + 1 ≤ d)  (hc : JX d' mi' [a0, a1] w Q') (hn : 2 = mi'.2.2.2.2) (he : (entL [a0, a1]).length ≤ mi'.2.2.1) (hr : (rest.map fun v => v.category).sum ≤ 8) (kk : ∀ v w', Q' v w' → J d mi pc' ls (v.toList ++ rest) w' Q) : J d mi pc ls (a1 :: a0 :: rest) w Q :=
  j_callSN (as := [a0, a1]) (rest := rest) hm hlink h hd hc hn he hr kk
theorem j_V2R {mi' : MI} {rest : List Value} {d' idx : Nat} {r : Value} {w' : mW} {a0 a1 : Value} {a ci N : Nat} {T : u_T} {fs : List Value} (hm : mV mi') (hlink : Cond.methodLink mi.1.cls idx mi'.1 ∈ UW) (h : decode mi.2.1 pc = .ok (.invokevirtual idx, 3) ∧ pc + 3 = pc') (hd : d' + 1 ≤ d) (ho : w[a]? = some (.inr (ci, fs))) (hci : vwCl[ci]? = some (mi'.1.cls, T, N)) (hc : JR d' mi' [.ref a, a0, a1] w r w') (hn : 2 = mi'.2.2.2.2) (he : (entL [.ref a, a0, a1]).length ≤ mi'.2.2.1) (hr : (rest.map fun v => v.category).sum ≤ 8) (kk : J d mi pc' ls (r :: rest) w' Q) : J d mi pc ls (a1 :: a0 :: .ref a :: rest) w Q :=
  j_callV (as := [a0, a1]) (rest := rest) hm hlink h hd ho hci hc hn he hr (fun v u hvu => by obtain ⟨rfl, rfl⟩ := hvu; exact kk)
theorem j_V2U {mi' : MI} {rest : List Value} {d' idx : Nat} {r : Value} {w' : mW} {a0 a1 : Value} {a ci N : Nat} {T : u_T} {fs : List Value} (hm : mV mi') (hlink : Cond.methodLink mi.1.cls idx mi'.1 ∈ UW) (h : decode mi.2.1 pc = .ok (.invokevirtual idx, 3) ∧ pc + 3 = pc') (hd : d' + 1 ≤ d) (ho : w[a]? = some (.inr (ci, fs))) (hci : vwCl[ci]? = some (mi'.1.cls, T, N)) (hc : JV d' mi' [.ref a, a0, a1] w w') (hn : 2 = mi'.2.2.2.2) (he : (entL [.ref a, a0, a1]).length ≤ mi'.2.2.1) (hr : (rest.map fun v => v.category).sum ≤ 8) (kk : J d mi pc' ls rest w' Q) : J d mi pc ls (a1 :: a0 :: .ref a :: rest) w Q :=
  j_callV (as := [a0, a1]) (rest := rest) hm hlink h hd ho hci hc hn he hr (fun v u hvu => by obtain ⟨rfl, rfl⟩ := hvu; exact kk)
theorem j_V2X {mi' : MI} {rest : List Value} {d' idx : Nat} {r : Value} {w' : mW} {a0 a1 : Value} {a ci N : Nat} {T : u_T} {fs : List Value} (hm : mV mi') (hlink : Cond.methodLink mi.1.cls idx mi'.1 ∈ UW) (h : decode mi.2.1 pc = .ok (.invokevirtual idx, 3) ∧ pc + 3 = pc') (hd : d' + 1 ≤ d) (ho : w[a]? = some (.inr (ci, fs))) (hci : vwCl[ci]? = some (mi'.1.cls, T, N)) (hc : JX d' mi' [.ref a, a0, a1] w Q') (hn : 2 = mi'.2.2.2.2) (he : (entL [.ref a, a0, a1]).length ≤ mi'.2.2.1) (hr : (rest.map fun v => v.category).sum ≤ 8) (kk : ∀ v w', Q' v w' → J d mi pc' ls (v.toList ++ rest) w' Q) : J d mi pc ls (a1 :: a0 :: .ref a :: rest) w Q :=
  j_callV (as := [a0, a1]) (rest := rest) hm hlink h hd ho hci hc hn he hr kk
theorem j_S3R {mi' : MI} {rest : List Value} {d' idx : Nat} {r : Value} {w' : mW} {a0 a1 a2 : Value}  (hm : mS mi') (hlink : Cond.methodLink mi.1.cls idx mi'.1 ∈ UW) (h : decode mi.2.1 pc = .ok (.invokestatic idx, 3) ∧ pc + 3 = pc') (hd : d' + 1 ≤ d)  (hc : JR d' mi' [a0, a1, a2] w r w') (hn : 3 = mi'.2.2.2.2) (he : (entL [a0, a1, a2]).length ≤ mi'.2.2.1) (hr : (rest.map fun v => v.category).sum ≤ 8) (kk : J d mi pc' ls (r :: rest) w' Q) : J d mi pc ls (a2 :: a1 :: a0 :: rest) w Q :=
  j_callS (as := [a0, a1, a2]) (rest := rest) hm hlink h hd hc hn he hr (fun v u hvu => by obtain ⟨rfl, rfl⟩ := hvu; exact kk)
theorem j_S3U {mi' : MI} {rest : List Value} {d' idx : Nat} {r : Value} {w' : mW} {a0 a1 a2 : Value}  (hm : mS mi') (hlink : Cond.methodLink mi.1.cls idx mi'.1 ∈ UW) (h : decode mi.2.1 pc = .ok (.invokestatic idx, 3) ∧ pc + 3 = pc') (hd : d' + 1 ≤ d)  (hc : JV d' mi' [a0, a1, a2] w w') (hn : 3 = mi'.2.2.2.2) (he : (entL [a0, a1, a2]).length ≤ mi'.2.2.1) (hr : (rest.map fun v => v.category).sum ≤ 8) (kk : J d mi pc' ls rest w' Q) : J d mi pc ls (a2 :: a1 :: a0 :: rest) w Q :=
  j_callS (as := [a0, a1, a2]) (rest := rest) hm hlink h hd hc hn he hr (fun v u hvu => by obtain ⟨rfl, rfl⟩ := hvu; exact kk)
theorem j_S3X {mi' : MI} {rest : List Value} {d' idx : Nat} {r : Value} {w' : mW} {a0 a1 a2 : Value}  (hm : mS mi') (hlink : Cond.methodLink mi.1.cls idx mi'.1 ∈ UW) (h : decode mi.2.1 pc = .ok (.invokestatic idx, 3) ∧ pc + 3 = pc') (hd : d' + 1 ≤ d)  (hc : JX d' mi' [a0, a1, a2] w Q') (hn : 3 = mi'.2.2.2.2) (he : (entL [a0, a1, a2]).length ≤ mi'.2.2.1) (hr : (rest.map fun v => v.category).sum ≤ 8) (kk : ∀ v w', Q' v w' → J d mi pc' ls (v.toList ++ rest) w' Q) : J d mi pc ls (a2 :: a1 :: a0 :: rest) w Q :=
  j_callS (as := [a0, a1, a2]) (rest := rest) hm hlink h hd hc hn he hr kk
theorem j_SN3R {mi' : MI} {rest : List Value} {d' idx : Nat} {r : Value} {w' : mW} {a0 a1 a2 : Value}  (hm : mS mi') {host : String} (hlink : Cond.methodLinkNest mi.1.cls idx mi'.1 host ∈ NW) (h : decode mi.2.1 pc = .ok (.invokestatic idx, 3) ∧ pc + 3 = pc') (hd : d' + 1 ≤ d)  (hc : JR d' mi' [a0, a1, a2] w r w') (hn : 3 = mi'.2.2.2.2) (he : (entL [a0, a1, a2]).length ≤ mi'.2.2.1) (hr : (rest.map fun v => v.category).sum ≤ 8) (kk : J d mi pc' ls (r :: rest) w' Q) : J d mi pc ls (a2 :: a1 :: a0 :: rest) w Q :=
  j_callSN (as := [a0, a1, a2]) (rest := rest) hm hlink h hd hc hn he hr (fun v u hvu => by obtain ⟨rfl, rfl⟩ := hvu; exact kk)
theorem j_SN3U {mi' : MI} {rest : List Value} {d' idx : Nat} {r : Value} {w' : mW} {a0 a1 a2 : Value}  (hm : mS mi') {host : String} (hlink : Cond.methodLinkNest mi.1.cls idx mi'.1 host ∈ NW) (h : decode mi.2.1 pc = .ok (.invokestatic idx, 3) ∧ pc + 3 = pc') (hd : d' + 1 ≤ d)  (hc : JV d' mi' [a0, a1, a2] w w') (hn : 3 = mi'.2.2.2.2) (he : (entL [a0, a1, a2]).length ≤ mi'.2.2.1) (hr : (rest.map fun v => v.category).sum ≤ 8) (kk : J d mi pc' ls rest w' Q) : J d mi pc ls (a2 :: a1 :: a0 :: rest) w Q :=
  j_callSN (as := [a0, a1, a2]) (rest := rest) hm hlink h hd hc hn he hr (fun v u hvu => by obtain ⟨rfl, rfl⟩ := hvu; exact kk)
theorem j_SN3X {mi' : MI} {rest : List Value} {d' idx : Nat} {r : Value} {w' : mW} {a0 a1 a2 : Value}  (hm : mS mi') {host : String} (hlink : Cond.methodLinkNest mi.1.cls idx mi'.1 host ∈ NW) (h : decode mi.2.1 pc = .ok (.invokestatic idx, 3) ∧ pc + 3 = pc') (hd : d' + 1 ≤ d)  (hc : JX d' mi' [a0, a1, a2] w Q') (hn : 3 = mi'.2.2.2.2) (he : (entL [a0, a1, a2]).length ≤ mi'.2.2.1) (hr : (rest.map fun v => v.category).sum ≤ 8) (kk : ∀ v w', Q' v w' → J d mi pc' ls (v.toList ++ rest) w' Q) : J d mi pc ls (a2 :: a1 :: a0 :: rest) w Q :=
  j_callSN (as := [a0, a1, a2]) (rest := rest) hm hlink h hd hc hn he hr kk
theorem j_V3R {mi' : MI} {rest : List Value} {d' idx : Nat} {r : Value} {w' : mW} {a0 a1 a2 : Value} {a ci N : Nat} {T : u_T} {fs : List Value} (hm : mV mi') (hlink : Cond.methodLink mi.1.cls idx mi'.1 ∈ UW) (h : decode mi.2.1 pc = .ok (.invokevirtual idx, 3) ∧ pc + 3 = pc') (hd : d' + 1 ≤ d) (ho : w[a]? = some (.inr (ci, fs))) (hci : vwCl[ci]? = some (mi'.1.cls, T, N)) (hc : JR d' mi' [.ref a, a0, a1, a2] w r w') (hn : 3 = mi'.2.2.2.2) (he : (entL [.ref a, a0, a1, a2]).length ≤ mi'.2.2.1) (hr : (rest.map fun v => v.category).sum ≤ 8) (kk : J d mi pc' ls (r :: rest) w' Q) : J d mi pc ls (a2 :: a1 :: a0 :: .ref a :: rest) w Q :=
  j_callV (as := [a0, a1, a2]) (rest := rest) hm hlink h hd ho hci hc hn he hr (fun v u hvu => by obtain ⟨rfl, rfl⟩ := hvu; exact kk)
theorem j_V3U {mi' : MI} {rest : List Value} {d' idx : Nat} {r : Value} {w' : mW} {a0 a1 a2 : Value} {a ci N : Nat} {T : u_T} {fs : List Value} (hm : mV mi') (hlink : Cond.methodLink mi.1.cls idx mi'.1 ∈ UW) (h : decode mi.2.1 pc = .ok (.invokevirtual idx, 3) ∧ pc + 3 = pc') (hd : d' + 1 ≤ d) (ho : w[a]? = some (.inr (ci, fs))) (hci : vwCl[ci]? = some (mi'.1.cls, T, N)) (hc : JV d' mi' [.ref a, a0, a1, a2] w w') (hn : 3 = mi'.2.2.2.2) (he : (entL [.ref a, a0, a1, a2]).length ≤ mi'.2.2.1) (hr : (rest.map fun v => v.category).sum ≤ 8) (kk : J d mi pc' ls rest w' Q) : J d mi pc ls (a2 :: a1 :: a0 :: .ref a :: rest) w Q :=
  j_callV (as := [a0, a1, a2]) (rest := rest) hm hlink h hd ho hci hc hn he hr (fun v u hvu => by obtain ⟨rfl, rfl⟩ := hvu; exact kk)
theorem j_V3X {mi' : MI} {rest : List Value} {d' idx : Nat} {r : Value} {w' : mW} {a0 a1 a2 : Value} {a ci N : Nat} {T : u_T} {fs : List Value} (hm : mV mi') (hlink : Cond.methodLink mi.1.cls idx mi'.1 ∈ UW) (h : decode mi.2.1 pc = .ok (.invokevirtual idx, 3) ∧ pc + 3 = pc') (hd : d' + 1 ≤ d) (ho : w[a]? = some (.inr (ci, fs))) (hci : vwCl[ci]? = some (mi'.1.cls, T, N)) (hc : JX d' mi' [.ref a, a0, a1, a2] w Q') (hn : 3 = mi'.2.2.2.2) (he : (entL [.ref a, a0, a1, a2]).length ≤ mi'.2.2.1) (hr : (rest.map fun v => v.category).sum ≤ 8) (kk : ∀ v w', Q' v w' → J d mi pc' ls (v.toList ++ rest) w' Q) : J d mi pc ls (a2 :: a1 :: a0 :: .ref a :: rest) w Q :=
  j_callV (as := [a0, a1, a2]) (rest := rest) hm hlink h hd ho hci hc hn he hr kk
theorem j_S4R {mi' : MI} {rest : List Value} {d' idx : Nat} {r : Value} {w' : mW} {a0 a1 a2 a3 : Value}  (hm : mS mi') (hlink : Cond.methodLink mi.1.cls idx mi'.1 ∈ UW) (h : decode mi.2.1 pc = .ok (.invokestatic idx, 3) ∧ pc + 3 = pc') (hd : d' + 1 ≤ d)  (hc : JR d' mi' [a0, a1, a2, a3] w r w') (hn : 4 = mi'.2.2.2.2) (he : (entL [a0, a1, a2, a3]).length ≤ mi'.2.2.1) (hr : (rest.map fun v => v.category).sum ≤ 8) (kk : J d mi pc' ls (r :: rest) w' Q) : J d mi pc ls (a3 :: a2 :: a1 :: a0 :: rest) w Q :=
  j_callS (as := [a0, a1, a2, a3]) (rest := rest) hm hlink h hd hc hn he hr (fun v u hvu => by obtain ⟨rfl, rfl⟩ := hvu; exact kk)
theorem j_S4U {mi' : MI} {rest : List Value} {d' idx : Nat} {r : Value} {w' : mW} {a0 a1 a2 a3 : Value}  (hm : mS mi') (hlink : Cond.methodLink mi.1.cls idx mi'.1 ∈ UW) (h : decode mi.2.1 pc = .ok (.invokestatic idx, 3) ∧ pc + 3 = pc') (hd : d' + 1 ≤ d)  (hc : JV d' mi' [a0, a1, a2, a3] w w') (hn : 4 = mi'.2.2.2.2) (he : (entL [a0, a1, a2, a3]).length ≤ mi'.2.2.1) (hr : (rest.map fun v => v.category).sum ≤ 8) (kk : J d mi pc' ls rest w' Q) : J d mi pc ls (a3 :: a2 :: a1 :: a0 :: rest) w Q :=
  j_callS (as := [a0, a1, a2, a3]) (rest := rest) hm hlink h hd hc hn he hr (fun v u hvu => by obtain ⟨rfl, rfl⟩ := hvu; exact kk)
theorem j_S4X {mi' : MI} {rest : List Value} {d' idx : Nat} {r : Value} {w' : mW} {a0 a1 a2 a3 : Value}  (hm : mS mi') (hlink : Cond.methodLink mi.1.cls idx mi'.1 ∈ UW) (h : decode mi.2.1 pc = .ok (.invokestatic idx, 3) ∧ pc + 3 = pc') (hd : d' + 1 ≤ d)  (hc : JX d' mi' [a0, a1, a2, a3] w Q') (hn : 4 = mi'.2.2.2.2) (he : (entL [a0, a1, a2, a3]).length ≤ mi'.2.2.1) (hr : (rest.map fun v => v.category).sum ≤ 8) (kk : ∀ v w', Q' v w' → J d mi pc' ls (v.toList ++ rest) w' Q) : J d mi pc ls (a3 :: a2 :: a1 :: a0 :: rest) w Q :=
  j_callS (as := [a0, a1, a2, a3]) (rest := rest) hm hlink h hd hc hn he hr kk
theorem j_SN4R {mi' : MI} {rest : List Value} {d' idx : Nat} {r : Value} {w' : mW} {a0 a1 a2 a3 : Value}  (hm : mS mi') {host : String} (hlink : Cond.methodLinkNest mi.1.cls idx mi'.1 host ∈ NW) (h : decode mi.2.1 pc = .ok (.invokestatic idx, 3) ∧ pc + 3 = pc') (hd : d' + 1 ≤ d)  (hc : JR d' mi' [a0, a1, a2, a3] w r w') (hn : 4 = mi'.2.2.2.2) (he : (entL [a0, a1, a2, a3]).length ≤ mi'.2.2.1) (hr : (rest.map fun v => v.category).sum ≤ 8) (kk : J d mi pc' ls (r :: rest) w' Q) : J d mi pc ls (a3 :: a2 :: a1 :: a0 :: rest) w Q :=
  j_callSN (as := [a0, a1, a2, a3]) (rest := rest) hm hlink h hd hc hn he hr (fun v u hvu => by obtain ⟨rfl, rfl⟩ := hvu; exact kk)
theorem j_SN4U {mi' : MI} {rest : List Value} {d' idx : Nat} {r : Value} {w' : mW} {a0 a1 a2 a3 : Value}  (hm : mS mi') {host : String} (hlink : Cond.methodLinkNest mi.1.cls idx mi'.1 host ∈ NW) (h : decode mi.2.1 pc = .ok (.invokestatic idx, 3) ∧ pc + 3 = pc') (hd : d' + 1 ≤ d)  (hc : JV d' mi' [a0, a1, a2, a3] w w') (hn : 4 = mi'.2.2.2.2) (he : (entL [a0, a1, a2, a3]).length ≤ mi'.2.2.1) (hr : (rest.map fun v => v.category).sum ≤ 8) (kk : J d mi pc' ls rest w' Q) : J d mi pc ls (a3 :: a2 :: a1 :: a0 :: rest) w Q :=
  j_callSN (as := [a0, a1, a2, a3]) (rest := rest) hm hlink h hd hc hn he hr (fun v u hvu => by obtain ⟨rfl, rfl⟩ := hvu; exact kk)
theorem j_SN4X {mi' : MI} {rest : List Value} {d' idx : Nat} {r : Value} {w' : mW} {a0 a1 a2 a3 : Value}  (hm : mS mi') {host : String} (hlink : Cond.methodLinkNest mi.1.cls idx mi'.1 host ∈ NW) (h : decode mi.2.1 pc = .ok (.invokestatic idx, 3) ∧ pc + 3 = pc') (hd : d' + 1 ≤ d)  (hc : JX d' mi' [a0, a1, a2, a3] w Q') (hn : 4 = mi'.2.2.2.2) (he : (entL [a0, a1, a2, a3]).length ≤ mi'.2.2.1) (hr : (rest.map fun v => v.category).sum ≤ 8) (kk : ∀ v w', Q' v w' → J d mi pc' ls (v.toList ++ rest) w' Q) : J d mi pc ls (a3 :: a2 :: a1 :: a0 :: rest) w Q :=
  j_callSN (as := [a0, a1, a2, a3]) (rest := rest) hm hlink h hd hc hn he hr kk
theorem j_V4R {mi' : MI} {rest : List Value} {d' idx : Nat} {r : Value} {w' : mW} {a0 a1 a2 a3 : Value} {a ci N : Nat} {T : u_T} {fs : List Value} (hm : mV mi') (hlink : Cond.methodLink mi.1.cls idx mi'.1 ∈ UW) (h : decode mi.2.1 pc = .ok (.invokevirtual idx, 3) ∧ pc + 3 = pc') (hd : d' + 1 ≤ d) (ho : w[a]? = some (.inr (ci, fs))) (hci : vwCl[ci]? = some (mi'.1.cls, T, N)) (hc : JR d' mi' [.ref a, a0, a1, a2, a3] w r w') (hn : 4 = mi'.2.2.2.2) (he : (entL [.ref a, a0, a1, a2, a3]).length ≤ mi'.2.2.1) (hr : (rest.map fun v => v.category).sum ≤ 8) (kk : J d mi pc' ls (r :: rest) w' Q) : J d mi pc ls (a3 :: a2 :: a1 :: a0 :: .ref a :: rest) w Q :=
  j_callV (as := [a0, a1, a2, a3]) (rest := rest) hm hlink h hd ho hci hc hn he hr (fun v u hvu => by obtain ⟨rfl, rfl⟩ := hvu; exact kk)
theorem j_V4U {mi' : MI} {rest : List Value} {d' idx : Nat} {r : Value} {w' : mW} {a0 a1 a2 a3 : Value} {a ci N : Nat} {T : u_T} {fs : List Value} (hm : mV mi') (hlink : Cond.methodLink mi.1.cls idx mi'.1 ∈ UW) (h : decode mi.2.1 pc = .ok (.invokevirtual idx, 3) ∧ pc + 3 = pc') (hd : d' + 1 ≤ d) (ho : w[a]? = some (.inr (ci, fs))) (hci : vwCl[ci]? = some (mi'.1.cls, T, N)) (hc : JV d' mi' [.ref a, a0, a1, a2, a3] w w') (hn : 4 = mi'.2.2.2.2) (he : (entL [.ref a, a0, a1, a2, a3]).length ≤ mi'.2.2.1) (hr : (rest.map fun v => v.category).sum ≤ 8) (kk : J d mi pc' ls rest w' Q) : J d mi pc ls (a3 :: a2 :: a1 :: a0 :: .ref a :: rest) w Q :=
  j_callV (as := [a0, a1, a2, a3]) (rest := rest) hm hlink h hd ho hci hc hn he hr (fun v u hvu => by obtain ⟨rfl, rfl⟩ := hvu; exact kk)
theorem j_V4X {mi' : MI} {rest : List Value} {d' idx : Nat} {r : Value} {w' : mW} {a0 a1 a2 a3 : Value} {a ci N : Nat} {T : u_T} {fs : List Value} (hm : mV mi') (hlink : Cond.methodLink mi.1.cls idx mi'.1 ∈ UW) (h : decode mi.2.1 pc = .ok (.invokevirtual idx, 3) ∧ pc + 3 = pc') (hd : d' + 1 ≤ d) (ho : w[a]? = some (.inr (ci, fs))) (hci : vwCl[ci]? = some (mi'.1.cls, T, N)) (hc : JX d' mi' [.ref a, a0, a1, a2, a3] w Q') (hn : 4 = mi'.2.2.2.2) (he : (entL [.ref a, a0, a1, a2, a3]).length ≤ mi'.2.2.1) (hr : (rest.map fun v => v.category).sum ≤ 8) (kk : ∀ v w', Q' v w' → J d mi pc' ls (v.toList ++ rest) w' Q) : J d mi pc ls (a3 :: a2 :: a1 :: a0 :: .ref a :: rest) w Q :=
  j_callV (as := [a0, a1, a2, a3]) (rest := rest) hm hlink h hd ho hci hc hn he hr kk
theorem j_S5R {mi' : MI} {rest : List Value} {d' idx : Nat} {r : Value} {w' : mW} {a0 a1 a2 a3 a4 : Value}  (hm : mS mi') (hlink : Cond.methodLink mi.1.cls idx mi'.1 ∈ UW) (h : decode mi.2.1 pc = .ok (.invokestatic idx, 3) ∧ pc + 3 = pc') (hd : d' + 1 ≤ d)  (hc : JR d' mi' [a0, a1, a2, a3, a4] w r w') (hn : 5 = mi'.2.2.2.2) (he : (entL [a0, a1, a2, a3, a4]).length ≤ mi'.2.2.1) (hr : (rest.map fun v => v.category).sum ≤ 8) (kk : J d mi pc' ls (r :: rest) w' Q) : J d mi pc ls (a4 :: a3 :: a2 :: a1 :: a0 :: rest) w Q :=
  j_callS (as := [a0, a1, a2, a3, a4]) (rest := rest) hm hlink h hd hc hn he hr (fun v u hvu => by obtain ⟨rfl, rfl⟩ := hvu; exact kk)
theorem j_S5U {mi' : MI} {rest : List Value} {d' idx : Nat} {r : Value} {w' : mW} {a0 a1 a2 a3 a4 : Value}  (hm : mS mi') (hlink : Cond.methodLink mi.1.cls idx mi'.1 ∈ UW) (h : decode mi.2.1 pc = .ok (.invokestatic idx, 3) ∧ pc + 3 = pc') (hd : d' + 1 ≤ d)  (hc : JV d' mi' [a0, a1, a2, a3, a4] w w') (hn : 5 = mi'.2.2.2.2) (he : (entL [a0, a1, a2, a3, a4]).length ≤ mi'.2.2.1) (hr : (rest.map fun v => v.category).sum ≤ 8) (kk : J d mi pc' ls rest w' Q) : J d mi pc ls (a4 :: a3 :: a2 :: a1 :: a0 :: rest) w Q :=
  j_callS (as := [a0, a1, a2, a3, a4]) (rest := rest) hm hlink h hd hc hn he hr (fun v u hvu => by obtain ⟨rfl, rfl⟩ := hvu; exact kk)
theorem j_S5X {mi' : MI} {rest : List Value} {d' idx : Nat} {r : Value} {w' : mW} {a0 a1 a2 a3 a4 : Value}  (hm : mS mi') (hlink : Cond.methodLink mi.1.cls idx mi'.1 ∈ UW) (h : decode mi.2.1 pc = .ok (.invokestatic idx, 3) ∧ pc + 3 = pc') (hd : d' + 1 ≤ d)  (hc : JX d' mi' [a0, a1, a2, a3, a4] w Q') (hn : 5 = mi'.2.2.2.2) (he : (entL [a0, a1, a2, a3, a4]).length ≤ mi'.2.2.1) (hr : (rest.map fun v => v.category).sum ≤ 8) (kk : ∀ v w', Q' v w' → J d mi pc' ls (v.toList ++ rest) w' Q) : J d mi pc ls (a4 :: a3 :: a2 :: a1 :: a0 :: rest) w Q :=
  j_callS (as := [a0, a1, a2, a3, a4]) (rest := rest) hm hlink h hd hc hn he hr kk
theorem j_SN5R {mi' : MI} {rest : List Value} {d' idx : Nat} {r : Value} {w' : mW} {a0 a1 a2 a3 a4 : Value}  (hm : mS mi') {host : String} (hlink : Cond.methodLinkNest mi.1.cls idx mi'.1 host ∈ NW) (h : decode mi.2.1 pc = .ok (.invokestatic idx, 3) ∧ pc + 3 = pc') (hd : d' + 1 ≤ d)  (hc : JR d' mi' [a0, a1, a2, a3, a4] w r w') (hn : 5 = mi'.2.2.2.2) (he : (entL [a0, a1, a2, a3, a4]).length ≤ mi'.2.2.1) (hr : (rest.map fun v => v.category).sum ≤ 8) (kk : J d mi pc' ls (r :: rest) w' Q) : J d mi pc ls (a4 :: a3 :: a2 :: a1 :: a0 :: rest) w Q :=
  j_callSN (as := [a0, a1, a2, a3, a4]) (rest := rest) hm hlink h hd hc hn he hr (fun v u hvu => by obtain ⟨rfl, rfl⟩ := hvu; exact kk)
theorem j_SN5U {mi' : MI} {rest : List Value} {d' idx : Nat} {r : Value} {w' : mW} {a0 a1 a2 a3 a4 : Value}  (hm : mS mi') {host : String} (hlink : Cond.methodLinkNest mi.1.cls idx mi'.1 host ∈ NW) (h : decode mi.2.1 pc = .ok (.invokestatic idx, 3) ∧ pc + 3 = pc') (hd : d' + 1 ≤ d)  (hc : JV d' mi' [a0, a1, a2, a3, a4] w w') (hn : 5 = mi'.2.2.2.2) (he : (entL [a0, a1, a2, a3, a4]).length ≤ mi'.2.2.1) (hr : (rest.map fun v => v.category).sum ≤ 8) (kk : J d mi pc' ls rest w' Q) : J d mi pc ls (a4 :: a3 :: a2 :: a1 :: a0 :: rest) w Q :=
  j_callSN (as := [a0, a1, a2, a3, a4]) (rest := rest) hm hlink h hd hc hn he hr (fun v u hvu => by obtain ⟨rfl, rfl⟩ := hvu; exact kk)
theorem j_SN5X {mi' : MI} {rest : List Value} {d' idx : Nat} {r : Value} {w' : mW} {a0 a1 a2 a3 a4 : Value}  (hm : mS mi') {host : String} (hlink : Cond.methodLinkNest mi.1.cls idx mi'.1 host ∈ NW) (h : decode mi.2.1 pc = .ok (.invokestatic idx, 3) ∧ pc + 3 = pc') (hd : d' + 1 ≤ d)  (hc : JX d' mi' [a0, a1, a2, a3, a4] w Q') (hn : 5 = mi'.2.2.2.2) (he : (entL [a0, a1, a2, a3, a4]).length ≤ mi'.2.2.1) (hr : (rest.map fun v => v.category).sum ≤ 8) (kk : ∀ v w', Q' v w' → J d mi pc' ls (v.toList ++ rest) w' Q) : J d mi pc ls (a4 :: a3 :: a2 :: a1 :: a0 :: rest) w Q :=
  j_callSN (as := [a0, a1, a2, a3, a4]) (rest := rest) hm hlink h hd hc hn he hr kk
theorem j_V5R {mi' : MI} {rest : List Value} {d' idx : Nat} {r : Value} {w' : mW} {a0 a1 a2 a3 a4 : Value} {a ci N : Nat} {T : u_T} {fs : List Value} (hm : mV mi') (hlink : Cond.methodLink mi.1.cls idx mi'.1 ∈ UW) (h : decode mi.2.1 pc = .ok (.invokevirtual idx, 3) ∧ pc + 3 = pc') (hd : d' + 1 ≤ d) (ho : w[a]? = some (.inr (ci, fs))) (hci : vwCl[ci]? = some (mi'.1.cls, T, N)) (hc : JR d' mi' [.ref a, a0, a1, a2, a3, a4] w r w') (hn : 5 = mi'.2.2.2.2) (he : (entL [.ref a, a0, a1, a2, a3, a4]).length ≤ mi'.2.2.1) (hr : (rest.map fun v => v.category).sum ≤ 8) (kk : J d mi pc' ls (r :: rest) w' Q) : J d mi pc ls (a4 :: a3 :: a2 :: a1 :: a0 :: .ref a :: rest) w Q :=
  j_callV (as := [a0, a1, a2, a3, a4]) (rest := rest) hm hlink h hd ho hci hc hn he hr (fun v u hvu => by obtain ⟨rfl, rfl⟩ := hvu; exact kk)
theorem j_V5U {mi' : MI} {rest : List Value} {d' idx : Nat} {r : Value} {w' : mW} {a0 a1 a2 a3 a4 : Value} {a ci N : Nat} {T : u_T} {fs : List Value} (hm : mV mi') (hlink : Cond.methodLink mi.1.cls idx mi'.1 ∈ UW) (h : decode mi.2.1 pc = .ok (.invokevirtual idx, 3) ∧ pc + 3 = pc') (hd : d' + 1 ≤ d) (ho : w[a]? = some (.inr (ci, fs))) (hci : vwCl[ci]? = some (mi'.1.cls, T, N)) (hc : JV d' mi' [.ref a, a0, a1, a2, a3, a4] w w') (hn : 5 = mi'.2.2.2.2) (he : (entL [.ref a, a0, a1, a2, a3, a4]).length ≤ mi'.2.2.1) (hr : (rest.map fun v => v.category).sum ≤ 8) (kk : J d mi pc' ls rest w' Q) : J d mi pc ls (a4 :: a3 :: a2 :: a1 :: a0 :: .ref a :: rest) w Q :=
  j_callV (as := [a0, a1, a2, a3, a4]) (rest := rest) hm hlink h hd ho hci hc hn he hr (fun v u hvu => by obtain ⟨rfl, rfl⟩ := hvu; exact kk)
theorem j_V5X {mi' : MI} {rest : List Value} {d' idx : Nat} {r : Value} {w' : mW} {a0 a1 a2 a3 a4 : Value} {a ci N : Nat} {T : u_T} {fs : List Value} (hm : mV mi') (hlink : Cond.methodLink mi.1.cls idx mi'.1 ∈ UW) (h : decode mi.2.1 pc = .ok (.invokevirtual idx, 3) ∧ pc + 3 = pc') (hd : d' + 1 ≤ d) (ho : w[a]? = some (.inr (ci, fs))) (hci : vwCl[ci]? = some (mi'.1.cls, T, N)) (hc : JX d' mi' [.ref a, a0, a1, a2, a3, a4] w Q') (hn : 5 = mi'.2.2.2.2) (he : (entL [.ref a, a0, a1, a2, a3, a4]).length ≤ mi'.2.2.1) (hr : (rest.map fun v => v.category).sum ≤ 8) (kk : ∀ v w', Q' v w' → J d mi pc' ls (v.toList ++ rest) w' Q) : J d mi pc ls (a4 :: a3 :: a2 :: a1 :: a0 :: .ref a :: rest) w Q :=
  j_callV (as := [a0, a1, a2, a3, a4]) (rest := rest) hm hlink h hd ho hci hc hn he hr kk
theorem j_S6R {mi' : MI} {rest : List Value} {d' idx : Nat} {r : Value} {w' : mW} {a0 a1 a2 a3 a4 a5 : Value}  (hm : mS mi') (hlink : Cond.methodLink mi.1.cls idx mi'.1 ∈ UW) (h : decode mi.2.1 pc = .ok (.invokestatic idx, 3) ∧ pc + 3 = pc') (hd : d' + 1 ≤ d)  (hc : JR d' mi' [a0, a1, a2, a3, a4, a5] w r w') (hn : 6 = mi'.2.2.2.2) (he : (entL [a0, a1, a2, a3, a4, a5]).length ≤ mi'.2.2.1) (hr : (rest.map fun v => v.category).sum ≤ 8) (kk : J d mi pc' ls (r :: rest) w' Q) : J d mi pc ls (a5 :: a4 :: a3 :: a2 :: a1 :: a0 :: rest) w Q :=
  j_callS (as := [a0, a1, a2, a3, a4, a5]) (rest := rest) hm hlink h hd hc hn he hr (fun v u hvu => by obtain ⟨rfl, rfl⟩ := hvu; exact kk)
theorem j_S6U {mi' : MI} {rest : List Value} {d' idx : Nat} {r : Value} {w' : mW} {a0 a1 a2 a3 a4 a5 : Value}  (hm : mS mi') (hlink : Cond.methodLink mi.1.cls idx mi'.1 ∈ UW) (h : decode mi.2.1 pc = .ok (.invokestatic idx, 3) ∧ pc + 3 = pc') (hd : d' + 1 ≤ d)  (hc : JV d' mi' [a0, a1, a2, a3, a4, a5] w w') (hn : 6 = mi'.2.2.2.2) (he : (entL [a0, a1, a2, a3, a4, a5]).length ≤ mi'.2.2.1) (hr : (rest.map fun v => v.category).sum ≤ 8) (kk : J d mi pc' ls rest w' Q) : J d mi pc ls (a5 :: a4 :: a3 :: a2 :: a1 :: a0 :: rest) w Q :=
  j_callS (as := [a0, a1, a2, a3, a4, a5]) (rest := rest) hm hlink h hd hc hn he hr (fun v u hvu => by obtain ⟨rfl, rfl⟩ := hvu; exact kk)
theorem j_S6X {mi' : MI} {rest : List Value} {d' idx : Nat} {r : Value} {w' : mW} {a0 a1 a2 a3 a4 a5 : Value}  (hm : mS mi') (hlink : Cond.methodLink mi.1.cls idx mi'.1 ∈ UW) (h : decode mi.2.1 pc = .ok (.invokestatic idx, 3) ∧ pc + 3 = pc') (hd : d' + 1 ≤ d)  (hc : JX d' mi' [a0, a1, a2, a3, a4, a5] w Q') (hn : 6 = mi'.2.2.2.2) (he : (entL [a0, a1, a2, a3, a4, a5]).length ≤ mi'.2.2.1) (hr : (rest.map fun v => v.category).sum ≤ 8) (kk : ∀ v w', Q' v w' → J d mi pc' ls (v.toList ++ rest) w' Q) : J d mi pc ls (a5 :: a4 :: a3 :: a2 :: a1 :: a0 :: rest) w Q :=
  j_callS (as := [a0, a1, a2, a3, a4, a5]) (rest := rest) hm hlink h hd hc hn he hr kk
end JRules
end
section
theorem iX0_init_0 : decode cX0_init 0 = .ok (.aload_n 0, 1) ∧ 0 + 1 = 1 := ⟨by decide +kernel, rfl⟩
theorem iX0_init_1 : decode cX0_init 1 = .ok (.invokespecial 1, 3) ∧ 1 + 3 = 4 := ⟨by decide +kernel, rfl⟩
theorem iX0_init_4 : decode cX0_init 4 = .ok (.return_, 1) ∧ 4 + 1 = 5 := ⟨by decide +kernel, rfl⟩
theorem iX0_next_0 : decode cX0_next 0 = .ok (.aload_n 0, 1) ∧ 0 + 1 = 1 := ⟨by decide +kernel, rfl⟩
theorem iX0_next_1 : decode cX0_next 1 = .ok (.ldc2_w 7, 3) ∧ 1 + 3 = 4 := ⟨by decide +kernel, rfl⟩
theorem iX0_next_4 : decode cX0_next 4 = .ok (.aload_n 0, 1) ∧ 4 + 1 = 5 := ⟨by decide +kernel, rfl⟩
theorem iX0_next_5 : decode cX0_next 5 = .ok (.getfield 9, 3) ∧ 5 + 3 = 8 := ⟨by decide +kernel, rfl⟩
theorem iX0_next_8 : decode cX0_next 8 = .ok (.i2l, 1) ∧ 8 + 1 = 9 := ⟨by decide +kernel, rfl⟩
theorem iX0_next_9 : decode cX0_next 9 = .ok (.lmul, 1) ∧ 9 + 1 = 10 := ⟨by decide +kernel, rfl⟩
theorem iX0_next_10 : decode cX0_next 10 = .ok (.ldc2_w 15, 3) ∧ 10 + 3 = 13 := ⟨by decide +kernel, rfl⟩
theorem iX0_next_13 : decode cX0_next 13 = .ok (.ladd, 1) ∧ 13 + 1 = 14 := ⟨by decide +kernel, rfl⟩
theorem iX0_next_14 : decode cX0_next 14 = .ok (.ldc2_w 17, 3) ∧ 14 + 3 = 17 := ⟨by decide +kernel, rfl⟩
theorem iX0_next_17 : decode cX0_next 17 = .ok (.land, 1) ∧ 17 + 1 = 18 := ⟨by decide +kernel, rfl⟩
theorem iX0_next_18 : decode cX0_next 18 = .ok (.l2i, 1) ∧ 18 + 1 = 19 := ⟨by decide +kernel, rfl⟩
theorem iX0_next_19 : decode cX0_next 19 = .ok (.putfield 9, 3) ∧ 19 + 3 = 22 := ⟨by decide +kernel, rfl⟩
theorem iX0_next_22 : decode cX0_next 22 = .ok (.iload_n 1, 1) ∧ 22 + 1 = 23 := ⟨by decide +kernel, rfl⟩
theorem iX0_next_23 : decode cX0_next 23 = .ok (.ifCond .le 15, 3) ∧ 23 + 3 = 26 := ⟨by decide +kernel, rfl⟩
theorem iX0_next_26 : decode cX0_next 26 = .ok (.aload_n 0, 1) ∧ 26 + 1 = 27 := ⟨by decide +kernel, rfl⟩
theorem iX0_next_27 : decode cX0_next 27 = .ok (.getfield 9, 3) ∧ 27 + 3 = 30 := ⟨by decide +kernel, rfl⟩
theorem iX0_next_30 : decode cX0_next 30 = .ok (.ldc 19, 2) ∧ 30 + 2 = 32 := ⟨by decide +kernel, rfl⟩
theorem iX0_next_32 : decode cX0_next 32 = .ok (.idiv, 1) ∧ 32 + 1 = 33 := ⟨by decide +kernel, rfl⟩
theorem iX0_next_33 : decode cX0_next 33 = .ok (.iload_n 1, 1) ∧ 33 + 1 = 34 := ⟨by decide +kernel, rfl⟩
theorem iX0_next_34 : decode cX0_next 34 = .ok (.irem, 1) ∧ 34 + 1 = 35 := ⟨by decide +kernel, rfl⟩
theorem iX0_next_35 : decode cX0_next 35 = .ok (.goto 4, 3) ∧ 35 + 3 = 38 := ⟨by decide +kernel, rfl⟩
theorem iX0_next_38 : decode cX0_next 38 = .ok (.iconst 0, 1) ∧ 38 + 1 = 39 := ⟨by decide +kernel, rfl⟩
theorem iX0_next_39 : decode cX0_next 39 = .ok (.ireturn, 1) ∧ 39 + 1 = 40 := ⟨by decide +kernel, rfl⟩
theorem iX1_init_0 : decode cX1_init 0 = .ok (.aload_n 0, 1) ∧ 0 + 1 = 1 := ⟨by decide +kernel, rfl⟩
theorem iX1_init_1 : decode cX1_init 1 = .ok (.invokespecial 3, 3) ∧ 1 + 3 = 4 := ⟨by decide +kernel, rfl⟩
theorem iX1_init_4 : decode cX1_init 4 = .ok (.aload_n 0, 1) ∧ 4 + 1 = 5 := ⟨by decide +kernel, rfl⟩
theorem iX1_init_5 : decode cX1_init 5 = .ok (.iconst 5, 1) ∧ 5 + 1 = 6 := ⟨by decide +kernel, rfl⟩
theorem iX1_init_6 : decode cX1_init 6 = .ok (.bipush 12, 2) ∧ 6 + 2 = 8 := ⟨by decide +kernel, rfl⟩
theorem iX1_init_8 : decode cX1_init 8 = .ok (.multianewarray 9 2, 4) ∧ 8 + 4 = 12 := ⟨by decide +kernel, rfl⟩
theorem iX1_init_12 : decode cX1_init 12 = .ok (.putfield 11, 3) ∧ 12 + 3 = 15 := ⟨by decide +kernel, rfl⟩
theorem iX1_init_15 : decode cX1_init 15 = .ok (.return_, 1) ∧ 15 + 1 = 16 := ⟨by decide +kernel, rfl⟩
theorem iX1_lay_0 : decode cX1_lay 0 = .ok (.aload_n 0, 1) ∧ 0 + 1 = 1 := ⟨by decide +kernel, rfl⟩
theorem iX1_lay_1 : decode cX1_lay 1 = .ok (.iload_n 1, 1) ∧ 1 + 1 = 2 := ⟨by decide +kernel, rfl⟩
theorem iX1_lay_2 : decode cX1_lay 2 = .ok (.putfield 16, 3) ∧ 2 + 3 = 5 := ⟨by decide +kernel, rfl⟩
theorem iX1_lay_5 : decode cX1_lay 5 = .ok (.aload_n 0, 1) ∧ 5 + 1 = 6 := ⟨by decide +kernel, rfl⟩
theorem iX1_lay_6 : decode cX1_lay 6 = .ok (.iload_n 2, 1) ∧ 6 + 1 = 7 := ⟨by decide +kernel, rfl⟩
theorem iX1_lay_7 : decode cX1_lay 7 = .ok (.putfield 20, 3) ∧ 7 + 3 = 10 := ⟨by decide +kernel, rfl⟩
theorem iX1_lay_10 : decode cX1_lay 10 = .ok (.aload_n 0, 1) ∧ 10 + 1 = 11 := ⟨by decide +kernel, rfl⟩
theorem iX1_lay_11 : decode cX1_lay 11 = .ok (.aload_n 0, 1) ∧ 11 + 1 = 12 := ⟨by decide +kernel, rfl⟩
theorem iX1_lay_12 : decode cX1_lay 12 = .ok (.getfield 16, 3) ∧ 12 + 3 = 15 := ⟨by decide +kernel, rfl⟩
theorem iX1_lay_15 : decode cX1_lay 15 = .ok (.aload_n 0, 1) ∧ 15 + 1 = 16 := ⟨by decide +kernel, rfl⟩
theorem iX1_lay_16 : decode cX1_lay 16 = .ok (.getfield 20, 3) ∧ 16 + 3 = 19 := ⟨by decide +kernel, rfl⟩
theorem iX1_lay_19 : decode cX1_lay 19 = .ok (.imul, 1) ∧ 19 + 1 = 20 := ⟨by decide +kernel, rfl⟩
theorem iX1_lay_20 : decode cX1_lay 20 = .ok (.putfield 23, 3) ∧ 20 + 3 = 23 := ⟨by decide +kernel, rfl⟩
theorem iX1_lay_23 : decode cX1_lay 23 = .ok (.iconst 0, 1) ∧ 23 + 1 = 24 := ⟨by decide +kernel, rfl⟩
theorem iX1_lay_24 : decode cX1_lay 24 = .ok (.istore_n 3, 1) ∧ 24 + 1 = 25 := ⟨by decide +kernel, rfl⟩
theorem iX1_lay_25 : decode cX1_lay 25 = .ok (.iload_n 3, 1) ∧ 25 + 1 = 26 := ⟨by decide +kernel, rfl⟩
theorem iX1_lay_26 : decode cX1_lay 26 = .ok (.iconst 5, 1) ∧ 26 + 1 = 27 := ⟨by decide +kernel, rfl⟩
theorem iX1_lay_27 : decode cX1_lay 27 = .ok (.if_icmp .ge 41, 3) ∧ 27 + 3 = 30 := ⟨by decide +kernel, rfl⟩
theorem iX1_lay_30 : decode cX1_lay 30 = .ok (.iconst 0, 1) ∧ 30 + 1 = 31 := ⟨by decide +kernel, rfl⟩
theorem iX1_lay_31 : decode cX1_lay 31 = .ok (.istore 4, 2) ∧ 31 + 2 = 33 := ⟨by decide +kernel, rfl⟩
theorem iX1_lay_33 : decode cX1_lay 33 = .ok (.iload 4, 2) ∧ 33 + 2 = 35 := ⟨by decide +kernel, rfl⟩
theorem iX1_lay_35 : decode cX1_lay 35 = .ok (.bipush 12, 2) ∧ 35 + 2 = 37 := ⟨by decide +kernel, rfl⟩
theorem iX1_lay_37 : decode cX1_lay 37 = .ok (.if_icmp .ge 25, 3) ∧ 37 + 3 = 40 := ⟨by decide +kernel, rfl⟩
theorem iX1_lay_40 : decode cX1_lay 40 = .ok (.aload_n 0, 1) ∧ 40 + 1 = 41 := ⟨by decide +kernel, rfl⟩
theorem iX1_lay_41 : decode cX1_lay 41 = .ok (.getfield 11, 3) ∧ 41 + 3 = 44 := ⟨by decide +kernel, rfl⟩
theorem iX1_lay_44 : decode cX1_lay 44 = .ok (.iload_n 3, 1) ∧ 44 + 1 = 45 := ⟨by decide +kernel, rfl⟩
theorem iX1_lay_45 : decode cX1_lay 45 = .ok (.aaload, 1) ∧ 45 + 1 = 46 := ⟨by decide +kernel, rfl⟩
theorem iX1_lay_46 : decode cX1_lay 46 = .ok (.iload 4, 2) ∧ 46 + 2 = 48 := ⟨by decide +kernel, rfl⟩
theorem iX1_lay_48 : decode cX1_lay 48 = .ok (.aload_n 0, 1) ∧ 48 + 1 = 49 := ⟨by decide +kernel, rfl⟩
theorem iX1_lay_49 : decode cX1_lay 49 = .ok (.iload_n 3, 1) ∧ 49 + 1 = 50 := ⟨by decide +kernel, rfl⟩
theorem iX1_lay_50 : decode cX1_lay 50 = .ok (.iload 4, 2) ∧ 50 + 2 = 52 := ⟨by decide +kernel, rfl⟩
theorem iX1_lay_52 : decode cX1_lay 52 = .ok (.invokevirtual 26, 3) ∧ 52 + 3 = 55 := ⟨by decide +kernel, rfl⟩
theorem iX1_lay_55 : decode cX1_lay 55 = .ok (.iastore, 1) ∧ 55 + 1 = 56 := ⟨by decide +kernel, rfl⟩
theorem iX1_lay_56 : decode cX1_lay 56 = .ok (.iinc 4 1, 3) ∧ 56 + 3 = 59 := ⟨by decide +kernel, rfl⟩
theorem iX1_lay_59 : decode cX1_lay 59 = .ok (.goto (-26), 3) ∧ 59 + 3 = 62 := ⟨by decide +kernel, rfl⟩
theorem iX1_lay_62 : decode cX1_lay 62 = .ok (.iinc 3 1, 3) ∧ 62 + 3 = 65 := ⟨by decide +kernel, rfl⟩
theorem iX1_lay_65 : decode cX1_lay 65 = .ok (.goto (-40), 3) ∧ 65 + 3 = 68 := ⟨by decide +kernel, rfl⟩
theorem iX1_lay_68 : decode cX1_lay 68 = .ok (.return_, 1) ∧ 68 + 1 = 69 := ⟨by decide +kernel, rfl⟩
theorem iX1_hasCell_0 : decode cX1_hasCell 0 = .ok (.iload_n 1, 1) ∧ 0 + 1 = 1 := ⟨by decide +kernel, rfl⟩
theorem iX1_hasCell_1 : decode cX1_hasCell 1 = .ok (.ifCond .lt 15, 3) ∧ 1 + 3 = 4 := ⟨by decide +kernel, rfl⟩
theorem iX1_hasCell_4 : decode cX1_hasCell 4 = .ok (.iload_n 1, 1) ∧ 4 + 1 = 5 := ⟨by decide +kernel, rfl⟩
theorem iX1_hasCell_5 : decode cX1_hasCell 5 = .ok (.aload_n 0, 1) ∧ 5 + 1 = 6 := ⟨by decide +kernel, rfl⟩
theorem iX1_hasCell_6 : decode cX1_hasCell 6 = .ok (.getfield 23, 3) ∧ 6 + 3 = 9 := ⟨by decide +kernel, rfl⟩
theorem iX1_hasCell_9 : decode cX1_hasCell 9 = .ok (.if_icmp .ge 7, 3) ∧ 9 + 3 = 12 := ⟨by decide +kernel, rfl⟩
theorem iX1_hasCell_12 : decode cX1_hasCell 12 = .ok (.iconst 1, 1) ∧ 12 + 1 = 13 := ⟨by decide +kernel, rfl⟩
theorem iX1_hasCell_13 : decode cX1_hasCell 13 = .ok (.goto 4, 3) ∧ 13 + 3 = 16 := ⟨by decide +kernel, rfl⟩
theorem iX1_hasCell_16 : decode cX1_hasCell 16 = .ok (.iconst 0, 1) ∧ 16 + 1 = 17 := ⟨by decide +kernel, rfl⟩
theorem iX1_hasCell_17 : decode cX1_hasCell 17 = .ok (.ireturn, 1) ∧ 17 + 1 = 18 := ⟨by decide +kernel, rfl⟩
theorem iX1_fanOf_0 : decode cX1_fanOf 0 = .ok (.aload_n 0, 1) ∧ 0 + 1 = 1 := ⟨by decide +kernel, rfl⟩
theorem iX1_fanOf_1 : decode cX1_fanOf 1 = .ok (.getfield 11, 3) ∧ 1 + 3 = 4 := ⟨by decide +kernel, rfl⟩
theorem iX1_fanOf_4 : decode cX1_fanOf 4 = .ok (.iload_n 1, 1) ∧ 4 + 1 = 5 := ⟨by decide +kernel, rfl⟩
theorem iX1_fanOf_5 : decode cX1_fanOf 5 = .ok (.invokestatic 30, 3) ∧ 5 + 3 = 8 := ⟨by decide +kernel, rfl⟩
theorem iX1_fanOf_8 : decode cX1_fanOf 8 = .ok (.ifCond .eq 7, 3) ∧ 8 + 3 = 11 := ⟨by decide +kernel, rfl⟩
theorem iX1_fanOf_11 : decode cX1_fanOf 11 = .ok (.iload_n 1, 1) ∧ 11 + 1 = 12 := ⟨by decide +kernel, rfl⟩
theorem iX1_fanOf_12 : decode cX1_fanOf 12 = .ok (.goto 4, 3) ∧ 12 + 3 = 15 := ⟨by decide +kernel, rfl⟩
theorem iX1_fanOf_15 : decode cX1_fanOf 15 = .ok (.iconst 0, 1) ∧ 15 + 1 = 16 := ⟨by decide +kernel, rfl⟩
theorem iX1_fanOf_16 : decode cX1_fanOf 16 = .ok (.aaload, 1) ∧ 16 + 1 = 17 := ⟨by decide +kernel, rfl⟩
theorem iX1_fanOf_17 : decode cX1_fanOf 17 = .ok (.areturn, 1) ∧ 17 + 1 = 18 := ⟨by decide +kernel, rfl⟩
theorem iX1_fanFrom_0 : decode cX1_fanFrom 0 = .ok (.iconst 0, 1) ∧ 0 + 1 = 1 := ⟨by decide +kernel, rfl⟩
theorem iX1_fanFrom_1 : decode cX1_fanFrom 1 = .ok (.istore_n 3, 1) ∧ 1 + 1 = 2 := ⟨by decide +kernel, rfl⟩
theorem iX1_fanFrom_2 : decode cX1_fanFrom 2 = .ok (.aload_n 0, 1) ∧ 2 + 1 = 3 := ⟨by decide +kernel, rfl⟩
theorem iX1_fanFrom_3 : decode cX1_fanFrom 3 = .ok (.getfield 20, 3) ∧ 3 + 3 = 6 := ⟨by decide +kernel, rfl⟩
theorem iX1_fanFrom_6 : decode cX1_fanFrom 6 = .ok (.ifCond .le 11, 3) ∧ 6 + 3 = 9 := ⟨by decide +kernel, rfl⟩
theorem iX1_fanFrom_9 : decode cX1_fanFrom 9 = .ok (.iload_n 2, 1) ∧ 9 + 1 = 10 := ⟨by decide +kernel, rfl⟩
theorem iX1_fanFrom_10 : decode cX1_fanFrom 10 = .ok (.aload_n 0, 1) ∧ 10 + 1 = 11 := ⟨by decide +kernel, rfl⟩
theorem iX1_fanFrom_11 : decode cX1_fanFrom 11 = .ok (.getfield 23, 3) ∧ 11 + 3 = 14 := ⟨by decide +kernel, rfl⟩
theorem iX1_fanFrom_14 : decode cX1_fanFrom 14 = .ok (.if_icmp .lt 5, 3) ∧ 14 + 3 = 17 := ⟨by decide +kernel, rfl⟩
theorem iX1_fanFrom_17 : decode cX1_fanFrom 17 = .ok (.iload_n 3, 1) ∧ 17 + 1 = 18 := ⟨by decide +kernel, rfl⟩
theorem iX1_fanFrom_18 : decode cX1_fanFrom 18 = .ok (.ireturn, 1) ∧ 18 + 1 = 19 := ⟨by decide +kernel, rfl⟩
theorem iX1_fanFrom_19 : decode cX1_fanFrom 19 = .ok (.iconst 0, 1) ∧ 19 + 1 = 20 := ⟨by decide +kernel, rfl⟩
theorem iX1_fanFrom_20 : decode cX1_fanFrom 20 = .ok (.istore 4, 2) ∧ 20 + 2 = 22 := ⟨by decide +kernel, rfl⟩
theorem iX1_fanFrom_22 : decode cX1_fanFrom 22 = .ok (.iload 4, 2) ∧ 22 + 2 = 24 := ⟨by decide +kernel, rfl⟩
theorem iX1_fanFrom_24 : decode cX1_fanFrom 24 = .ok (.aload_n 0, 1) ∧ 24 + 1 = 25 := ⟨by decide +kernel, rfl⟩
theorem iX1_fanFrom_25 : decode cX1_fanFrom 25 = .ok (.getfield 23, 3) ∧ 25 + 3 = 28 := ⟨by decide +kernel, rfl⟩
theorem iX1_fanFrom_28 : decode cX1_fanFrom 28 = .ok (.if_icmp .ge 72, 3) ∧ 28 + 3 = 31 := ⟨by decide +kernel, rfl⟩
theorem iX1_fanFrom_31 : decode cX1_fanFrom 31 = .ok (.iload 4, 2) ∧ 31 + 2 = 33 := ⟨by decide +kernel, rfl⟩
theorem iX1_fanFrom_33 : decode cX1_fanFrom 33 = .ok (.bipush 12, 2) ∧ 33 + 2 = 35 := ⟨by decide +kernel, rfl⟩
theorem iX1_fanFrom_35 : decode cX1_fanFrom 35 = .ok (.if_icmp .ge 65, 3) ∧ 35 + 3 = 38 := ⟨by decide +kernel, rfl⟩
theorem iX1_fanFrom_38 : decode cX1_fanFrom 38 = .ok (.iload_n 2, 1) ∧ 38 + 1 = 39 := ⟨by decide +kernel, rfl⟩
theorem iX1_fanFrom_39 : decode cX1_fanFrom 39 = .ok (.aload_n 0, 1) ∧ 39 + 1 = 40 := ⟨by decide +kernel, rfl⟩
theorem iX1_fanFrom_40 : decode cX1_fanFrom 40 = .ok (.getfield 20, 3) ∧ 40 + 3 = 43 := ⟨by decide +kernel, rfl⟩
theorem iX1_fanFrom_43 : decode cX1_fanFrom 43 = .ok (.idiv, 1) ∧ 43 + 1 = 44 := ⟨by decide +kernel, rfl⟩
theorem iX1_fanFrom_44 : decode cX1_fanFrom 44 = .ok (.iload 4, 2) ∧ 44 + 2 = 46 := ⟨by decide +kernel, rfl⟩
theorem iX1_fanFrom_46 : decode cX1_fanFrom 46 = .ok (.aload_n 0, 1) ∧ 46 + 1 = 47 := ⟨by decide +kernel, rfl⟩
theorem iX1_fanFrom_47 : decode cX1_fanFrom 47 = .ok (.getfield 20, 3) ∧ 47 + 3 = 50 := ⟨by decide +kernel, rfl⟩
theorem iX1_fanFrom_50 : decode cX1_fanFrom 50 = .ok (.idiv, 1) ∧ 50 + 1 = 51 := ⟨by decide +kernel, rfl⟩
theorem iX1_fanFrom_51 : decode cX1_fanFrom 51 = .ok (.isub, 1) ∧ 51 + 1 = 52 := ⟨by decide +kernel, rfl⟩
theorem iX1_fanFrom_52 : decode cX1_fanFrom 52 = .ok (.invokestatic 34, 3) ∧ 52 + 3 = 55 := ⟨by decide +kernel, rfl⟩
theorem iX1_fanFrom_55 : decode cX1_fanFrom 55 = .ok (.istore 5, 2) ∧ 55 + 2 = 57 := ⟨by decide +kernel, rfl⟩
theorem iX1_fanFrom_57 : decode cX1_fanFrom 57 = .ok (.iload_n 2, 1) ∧ 57 + 1 = 58 := ⟨by decide +kernel, rfl⟩
theorem iX1_fanFrom_58 : decode cX1_fanFrom 58 = .ok (.aload_n 0, 1) ∧ 58 + 1 = 59 := ⟨by decide +kernel, rfl⟩
theorem iX1_fanFrom_59 : decode cX1_fanFrom 59 = .ok (.getfield 20, 3) ∧ 59 + 3 = 62 := ⟨by decide +kernel, rfl⟩
theorem iX1_fanFrom_62 : decode cX1_fanFrom 62 = .ok (.irem, 1) ∧ 62 + 1 = 63 := ⟨by decide +kernel, rfl⟩
theorem iX1_fanFrom_63 : decode cX1_fanFrom 63 = .ok (.iload 4, 2) ∧ 63 + 2 = 65 := ⟨by decide +kernel, rfl⟩
theorem iX1_fanFrom_65 : decode cX1_fanFrom 65 = .ok (.aload_n 0, 1) ∧ 65 + 1 = 66 := ⟨by decide +kernel, rfl⟩
theorem iX1_fanFrom_66 : decode cX1_fanFrom 66 = .ok (.getfield 20, 3) ∧ 66 + 3 = 69 := ⟨by decide +kernel, rfl⟩
theorem iX1_fanFrom_69 : decode cX1_fanFrom 69 = .ok (.irem, 1) ∧ 69 + 1 = 70 := ⟨by decide +kernel, rfl⟩
theorem iX1_fanFrom_70 : decode cX1_fanFrom 70 = .ok (.isub, 1) ∧ 70 + 1 = 71 := ⟨by decide +kernel, rfl⟩
theorem iX1_fanFrom_71 : decode cX1_fanFrom 71 = .ok (.invokestatic 34, 3) ∧ 71 + 3 = 74 := ⟨by decide +kernel, rfl⟩
theorem iX1_fanFrom_74 : decode cX1_fanFrom 74 = .ok (.istore 6, 2) ∧ 74 + 2 = 76 := ⟨by decide +kernel, rfl⟩
theorem iX1_fanFrom_76 : decode cX1_fanFrom 76 = .ok (.iload_n 1, 1) ∧ 76 + 1 = 77 := ⟨by decide +kernel, rfl⟩
theorem iX1_fanFrom_77 : decode cX1_fanFrom 77 = .ok (.iload 5, 2) ∧ 77 + 2 = 79 := ⟨by decide +kernel, rfl⟩
theorem iX1_fanFrom_79 : decode cX1_fanFrom 79 = .ok (.iload 6, 2) ∧ 79 + 2 = 81 := ⟨by decide +kernel, rfl⟩
theorem iX1_fanFrom_81 : decode cX1_fanFrom 81 = .ok (.invokestatic 40, 3) ∧ 81 + 3 = 84 := ⟨by decide +kernel, rfl⟩
theorem iX1_fanFrom_84 : decode cX1_fanFrom 84 = .ok (.ifCond .eq 10, 3) ∧ 84 + 3 = 87 := ⟨by decide +kernel, rfl⟩
theorem iX1_fanFrom_87 : decode cX1_fanFrom 87 = .ok (.iload_n 3, 1) ∧ 87 + 1 = 88 := ⟨by decide +kernel, rfl⟩
theorem iX1_fanFrom_88 : decode cX1_fanFrom 88 = .ok (.iconst 1, 1) ∧ 88 + 1 = 89 := ⟨by decide +kernel, rfl⟩
theorem iX1_fanFrom_89 : decode cX1_fanFrom 89 = .ok (.iload 4, 2) ∧ 89 + 2 = 91 := ⟨by decide +kernel, rfl⟩
theorem iX1_fanFrom_91 : decode cX1_fanFrom 91 = .ok (.ishl, 1) ∧ 91 + 1 = 92 := ⟨by decide +kernel, rfl⟩
theorem iX1_fanFrom_92 : decode cX1_fanFrom 92 = .ok (.ior, 1) ∧ 92 + 1 = 93 := ⟨by decide +kernel, rfl⟩
theorem iX1_fanFrom_93 : decode cX1_fanFrom 93 = .ok (.istore_n 3, 1) ∧ 93 + 1 = 94 := ⟨by decide +kernel, rfl⟩
theorem iX1_fanFrom_94 : decode cX1_fanFrom 94 = .ok (.iinc 4 1, 3) ∧ 94 + 3 = 97 := ⟨by decide +kernel, rfl⟩
theorem iX1_fanFrom_97 : decode cX1_fanFrom 97 = .ok (.goto (-75), 3) ∧ 97 + 3 = 100 := ⟨by decide +kernel, rfl⟩
theorem iX1_fanFrom_100 : decode cX1_fanFrom 100 = .ok (.iload_n 3, 1) ∧ 100 + 1 = 101 := ⟨by decide +kernel, rfl⟩
theorem iX1_fanFrom_101 : decode cX1_fanFrom 101 = .ok (.ireturn, 1) ∧ 101 + 1 = 102 := ⟨by decide +kernel, rfl⟩
theorem iX1_spread_0 : decode cX1_spread 0 = .ok (.iconst 0, 1) ∧ 0 + 1 = 1 := ⟨by decide +kernel, rfl⟩
theorem iX1_spread_1 : decode cX1_spread 1 = .ok (.istore_n 2, 1) ∧ 1 + 1 = 2 := ⟨by decide +kernel, rfl⟩
theorem iX1_spread_2 : decode cX1_spread 2 = .ok (.iconst 0, 1) ∧ 2 + 1 = 3 := ⟨by decide +kernel, rfl⟩
theorem iX1_spread_3 : decode cX1_spread 3 = .ok (.istore_n 3, 1) ∧ 3 + 1 = 4 := ⟨by decide +kernel, rfl⟩
theorem iX1_spread_4 : decode cX1_spread 4 = .ok (.iload_n 3, 1) ∧ 4 + 1 = 5 := ⟨by decide +kernel, rfl⟩
theorem iX1_spread_5 : decode cX1_spread 5 = .ok (.aload_n 0, 1) ∧ 5 + 1 = 6 := ⟨by decide +kernel, rfl⟩
theorem iX1_spread_6 : decode cX1_spread 6 = .ok (.arraylength, 1) ∧ 6 + 1 = 7 := ⟨by decide +kernel, rfl⟩
theorem iX1_spread_7 : decode cX1_spread 7 = .ok (.if_icmp .ge 24, 3) ∧ 7 + 3 = 10 := ⟨by decide +kernel, rfl⟩
theorem iX1_spread_10 : decode cX1_spread 10 = .ok (.iload_n 1, 1) ∧ 10 + 1 = 11 := ⟨by decide +kernel, rfl⟩
theorem iX1_spread_11 : decode cX1_spread 11 = .ok (.iload_n 3, 1) ∧ 11 + 1 = 12 := ⟨by decide +kernel, rfl⟩
theorem iX1_spread_12 : decode cX1_spread 12 = .ok (.ishr, 1) ∧ 12 + 1 = 13 := ⟨by decide +kernel, rfl⟩
theorem iX1_spread_13 : decode cX1_spread 13 = .ok (.iconst 1, 1) ∧ 13 + 1 = 14 := ⟨by decide +kernel, rfl⟩
theorem iX1_spread_14 : decode cX1_spread 14 = .ok (.iand, 1) ∧ 14 + 1 = 15 := ⟨by decide +kernel, rfl⟩
theorem iX1_spread_15 : decode cX1_spread 15 = .ok (.iconst 1, 1) ∧ 15 + 1 = 16 := ⟨by decide +kernel, rfl⟩
theorem iX1_spread_16 : decode cX1_spread 16 = .ok (.if_icmp .ne 9, 3) ∧ 16 + 3 = 19 := ⟨by decide +kernel, rfl⟩
theorem iX1_spread_19 : decode cX1_spread 19 = .ok (.iload_n 2, 1) ∧ 19 + 1 = 20 := ⟨by decide +kernel, rfl⟩
theorem iX1_spread_20 : decode cX1_spread 20 = .ok (.aload_n 0, 1) ∧ 20 + 1 = 21 := ⟨by decide +kernel, rfl⟩
theorem iX1_spread_21 : decode cX1_spread 21 = .ok (.iload_n 3, 1) ∧ 21 + 1 = 22 := ⟨by decide +kernel, rfl⟩
theorem iX1_spread_22 : decode cX1_spread 22 = .ok (.iaload, 1) ∧ 22 + 1 = 23 := ⟨by decide +kernel, rfl⟩
theorem iX1_spread_23 : decode cX1_spread 23 = .ok (.ior, 1) ∧ 23 + 1 = 24 := ⟨by decide +kernel, rfl⟩
theorem iX1_spread_24 : decode cX1_spread 24 = .ok (.istore_n 2, 1) ∧ 24 + 1 = 25 := ⟨by decide +kernel, rfl⟩
theorem iX1_spread_25 : decode cX1_spread 25 = .ok (.iinc 3 1, 3) ∧ 25 + 3 = 28 := ⟨by decide +kernel, rfl⟩
theorem iX1_spread_28 : decode cX1_spread 28 = .ok (.goto (-24), 3) ∧ 28 + 3 = 31 := ⟨by decide +kernel, rfl⟩
theorem iX1_spread_31 : decode cX1_spread 31 = .ok (.iload_n 2, 1) ∧ 31 + 1 = 32 := ⟨by decide +kernel, rfl⟩
theorem iX1_spread_32 : decode cX1_spread 32 = .ok (.ireturn, 1) ∧ 32 + 1 = 33 := ⟨by decide +kernel, rfl⟩
theorem iX1_partAround_0 : decode cX1_partAround 0 = .ok (.iload_n 2, 1) ∧ 0 + 1 = 1 := ⟨by decide +kernel, rfl⟩
theorem iX1_partAround_1 : decode cX1_partAround 1 = .ok (.istore_n 3, 1) ∧ 1 + 1 = 2 := ⟨by decide +kernel, rfl⟩
theorem iX1_partAround_2 : decode cX1_partAround 2 = .ok (.iconst 0, 1) ∧ 2 + 1 = 3 := ⟨by decide +kernel, rfl⟩
theorem iX1_partAround_3 : decode cX1_partAround 3 = .ok (.istore 4, 2) ∧ 3 + 2 = 5 := ⟨by decide +kernel, rfl⟩
theorem iX1_partAround_5 : decode cX1_partAround 5 = .ok (.iload 4, 2) ∧ 5 + 2 = 7 := ⟨by decide +kernel, rfl⟩
theorem iX1_partAround_7 : decode cX1_partAround 7 = .ok (.bipush 12, 2) ∧ 7 + 2 = 9 := ⟨by decide +kernel, rfl⟩
theorem iX1_partAround_9 : decode cX1_partAround 9 = .ok (.if_icmp .ge 31, 3) ∧ 9 + 3 = 12 := ⟨by decide +kernel, rfl⟩
theorem iX1_partAround_12 : decode cX1_partAround 12 = .ok (.iload_n 3, 1) ∧ 12 + 1 = 13 := ⟨by decide +kernel, rfl⟩
theorem iX1_partAround_13 : decode cX1_partAround 13 = .ok (.aload_n 0, 1) ∧ 13 + 1 = 14 := ⟨by decide +kernel, rfl⟩
theorem iX1_partAround_14 : decode cX1_partAround 14 = .ok (.iload_n 3, 1) ∧ 14 + 1 = 15 := ⟨by decide +kernel, rfl⟩
theorem iX1_partAround_15 : decode cX1_partAround 15 = .ok (.invokestatic 44, 3) ∧ 15 + 3 = 18 := ⟨by decide +kernel, rfl⟩
theorem iX1_partAround_18 : decode cX1_partAround 18 = .ok (.iload_n 1, 1) ∧ 18 + 1 = 19 := ⟨by decide +kernel, rfl⟩
theorem iX1_partAround_19 : decode cX1_partAround 19 = .ok (.iand, 1) ∧ 19 + 1 = 20 := ⟨by decide +kernel, rfl⟩
theorem iX1_partAround_20 : decode cX1_partAround 20 = .ok (.ior, 1) ∧ 20 + 1 = 21 := ⟨by decide +kernel, rfl⟩
theorem iX1_partAround_21 : decode cX1_partAround 21 = .ok (.istore 5, 2) ∧ 21 + 2 = 23 := ⟨by decide +kernel, rfl⟩
theorem iX1_partAround_23 : decode cX1_partAround 23 = .ok (.iload 5, 2) ∧ 23 + 2 = 25 := ⟨by decide +kernel, rfl⟩
theorem iX1_partAround_25 : decode cX1_partAround 25 = .ok (.iload_n 3, 1) ∧ 25 + 1 = 26 := ⟨by decide +kernel, rfl⟩
theorem iX1_partAround_26 : decode cX1_partAround 26 = .ok (.if_icmp .ne 5, 3) ∧ 26 + 3 = 29 := ⟨by decide +kernel, rfl⟩
theorem iX1_partAround_29 : decode cX1_partAround 29 = .ok (.iload_n 3, 1) ∧ 29 + 1 = 30 := ⟨by decide +kernel, rfl⟩
theorem iX1_partAround_30 : decode cX1_partAround 30 = .ok (.ireturn, 1) ∧ 30 + 1 = 31 := ⟨by decide +kernel, rfl⟩
theorem iX1_partAround_31 : decode cX1_partAround 31 = .ok (.iload 5, 2) ∧ 31 + 2 = 33 := ⟨by decide +kernel, rfl⟩
theorem iX1_partAround_33 : decode cX1_partAround 33 = .ok (.istore_n 3, 1) ∧ 33 + 1 = 34 := ⟨by decide +kernel, rfl⟩
theorem iX1_partAround_34 : decode cX1_partAround 34 = .ok (.iinc 4 1, 3) ∧ 34 + 3 = 37 := ⟨by decide +kernel, rfl⟩
theorem iX1_partAround_37 : decode cX1_partAround 37 = .ok (.goto (-32), 3) ∧ 37 + 3 = 40 := ⟨by decide +kernel, rfl⟩
theorem iX1_partAround_40 : decode cX1_partAround 40 = .ok (.iload_n 3, 1) ∧ 40 + 1 = 41 := ⟨by decide +kernel, rfl⟩
theorem iX1_partAround_41 : decode cX1_partAround 41 = .ok (.ireturn, 1) ∧ 41 + 1 = 42 := ⟨by decide +kernel, rfl⟩
theorem iX1_partCount_0 : decode cX1_partCount 0 = .ok (.iload_n 1, 1) ∧ 0 + 1 = 1 := ⟨by decide +kernel, rfl⟩
theorem iX1_partCount_1 : decode cX1_partCount 1 = .ok (.istore_n 2, 1) ∧ 1 + 1 = 2 := ⟨by decide +kernel, rfl⟩
theorem iX1_partCount_2 : decode cX1_partCount 2 = .ok (.iconst 0, 1) ∧ 2 + 1 = 3 := ⟨by decide +kernel, rfl⟩
theorem iX1_partCount_3 : decode cX1_partCount 3 = .ok (.istore_n 3, 1) ∧ 3 + 1 = 4 := ⟨by decide +kernel, rfl⟩
theorem iX1_partCount_4 : decode cX1_partCount 4 = .ok (.iconst 0, 1) ∧ 4 + 1 = 5 := ⟨by decide +kernel, rfl⟩
theorem iX1_partCount_5 : decode cX1_partCount 5 = .ok (.istore 4, 2) ∧ 5 + 2 = 7 := ⟨by decide +kernel, rfl⟩
theorem iX1_partCount_7 : decode cX1_partCount 7 = .ok (.iload 4, 2) ∧ 7 + 2 = 9 := ⟨by decide +kernel, rfl⟩
theorem iX1_partCount_9 : decode cX1_partCount 9 = .ok (.bipush 12, 2) ∧ 9 + 2 = 11 := ⟨by decide +kernel, rfl⟩
theorem iX1_partCount_11 : decode cX1_partCount 11 = .ok (.if_icmp .ge 32, 3) ∧ 11 + 3 = 14 := ⟨by decide +kernel, rfl⟩
theorem iX1_partCount_14 : decode cX1_partCount 14 = .ok (.iload_n 2, 1) ∧ 14 + 1 = 15 := ⟨by decide +kernel, rfl⟩
theorem iX1_partCount_15 : decode cX1_partCount 15 = .ok (.ifCond .eq 28, 3) ∧ 15 + 3 = 18 := ⟨by decide +kernel, rfl⟩
theorem iX1_partCount_18 : decode cX1_partCount 18 = .ok (.iload_n 2, 1) ∧ 18 + 1 = 19 := ⟨by decide +kernel, rfl⟩
theorem iX1_partCount_19 : decode cX1_partCount 19 = .ok (.aload_n 0, 1) ∧ 19 + 1 = 20 := ⟨by decide +kernel, rfl⟩
theorem iX1_partCount_20 : decode cX1_partCount 20 = .ok (.iload_n 1, 1) ∧ 20 + 1 = 21 := ⟨by decide +kernel, rfl⟩
theorem iX1_partCount_21 : decode cX1_partCount 21 = .ok (.iconst 1, 1) ∧ 21 + 1 = 22 := ⟨by decide +kernel, rfl⟩
theorem iX1_partCount_22 : decode cX1_partCount 22 = .ok (.iload_n 2, 1) ∧ 22 + 1 = 23 := ⟨by decide +kernel, rfl⟩
theorem iX1_partCount_23 : decode cX1_partCount 23 = .ok (.invokestatic 48, 3) ∧ 23 + 3 = 26 := ⟨by decide +kernel, rfl⟩
theorem iX1_partCount_26 : decode cX1_partCount 26 = .ok (.ishl, 1) ∧ 26 + 1 = 27 := ⟨by decide +kernel, rfl⟩
theorem iX1_partCount_27 : decode cX1_partCount 27 = .ok (.invokestatic 51, 3) ∧ 27 + 3 = 30 := ⟨by decide +kernel, rfl⟩
theorem iX1_partCount_30 : decode cX1_partCount 30 = .ok (.iconst (-1), 1) ∧ 30 + 1 = 31 := ⟨by decide +kernel, rfl⟩
theorem iX1_partCount_31 : decode cX1_partCount 31 = .ok (.ixor, 1) ∧ 31 + 1 = 32 := ⟨by decide +kernel, rfl⟩
theorem iX1_partCount_32 : decode cX1_partCount 32 = .ok (.iand, 1) ∧ 32 + 1 = 33 := ⟨by decide +kernel, rfl⟩
theorem iX1_partCount_33 : decode cX1_partCount 33 = .ok (.istore_n 2, 1) ∧ 33 + 1 = 34 := ⟨by decide +kernel, rfl⟩
theorem iX1_partCount_34 : decode cX1_partCount 34 = .ok (.iinc 3 1, 3) ∧ 34 + 3 = 37 := ⟨by decide +kernel, rfl⟩
theorem iX1_partCount_37 : decode cX1_partCount 37 = .ok (.iinc 4 1, 3) ∧ 37 + 3 = 40 := ⟨by decide +kernel, rfl⟩
theorem iX1_partCount_40 : decode cX1_partCount 40 = .ok (.goto (-33), 3) ∧ 40 + 3 = 43 := ⟨by decide +kernel, rfl⟩
theorem iX1_partCount_43 : decode cX1_partCount 43 = .ok (.iload_n 3, 1) ∧ 43 + 1 = 44 := ⟨by decide +kernel, rfl⟩
theorem iX1_partCount_44 : decode cX1_partCount 44 = .ok (.ireturn, 1) ∧ 44 + 1 = 45 := ⟨by decide +kernel, rfl⟩
theorem iX1_isTwoShaded_0 : decode cX1_isTwoShaded 0 = .ok (.iload_n 1, 1) ∧ 0 + 1 = 1 := ⟨by decide +kernel, rfl⟩
theorem iX1_isTwoShaded_1 : decode cX1_isTwoShaded 1 = .ok (.istore_n 2, 1) ∧ 1 + 1 = 2 := ⟨by decide +kernel, rfl⟩
theorem iX1_isTwoShaded_2 : decode cX1_isTwoShaded 2 = .ok (.iconst 0, 1) ∧ 2 + 1 = 3 := ⟨by decide +kernel, rfl⟩
theorem iX1_isTwoShaded_3 : decode cX1_isTwoShaded 3 = .ok (.istore_n 3, 1) ∧ 3 + 1 = 4 := ⟨by decide +kernel, rfl⟩
theorem iX1_isTwoShaded_4 : decode cX1_isTwoShaded 4 = .ok (.iload_n 3, 1) ∧ 4 + 1 = 5 := ⟨by decide +kernel, rfl⟩
theorem iX1_isTwoShaded_5 : decode cX1_isTwoShaded 5 = .ok (.bipush 12, 2) ∧ 5 + 2 = 7 := ⟨by decide +kernel, rfl⟩
theorem iX1_isTwoShaded_7 : decode cX1_isTwoShaded 7 = .ok (.if_icmp .ge 86, 3) ∧ 7 + 3 = 10 := ⟨by decide +kernel, rfl⟩
theorem iX1_isTwoShaded_10 : decode cX1_isTwoShaded 10 = .ok (.iload_n 2, 1) ∧ 10 + 1 = 11 := ⟨by decide +kernel, rfl⟩
theorem iX1_isTwoShaded_11 : decode cX1_isTwoShaded 11 = .ok (.ifCond .eq 82, 3) ∧ 11 + 3 = 14 := ⟨by decide +kernel, rfl⟩
theorem iX1_isTwoShaded_14 : decode cX1_isTwoShaded 14 = .ok (.iconst 1, 1) ∧ 14 + 1 = 15 := ⟨by decide +kernel, rfl⟩
theorem iX1_isTwoShaded_15 : decode cX1_isTwoShaded 15 = .ok (.iload_n 2, 1) ∧ 15 + 1 = 16 := ⟨by decide +kernel, rfl⟩
theorem iX1_isTwoShaded_16 : decode cX1_isTwoShaded 16 = .ok (.invokestatic 48, 3) ∧ 16 + 3 = 19 := ⟨by decide +kernel, rfl⟩
theorem iX1_isTwoShaded_19 : decode cX1_isTwoShaded 19 = .ok (.ishl, 1) ∧ 19 + 1 = 20 := ⟨by decide +kernel, rfl⟩
theorem iX1_isTwoShaded_20 : decode cX1_isTwoShaded 20 = .ok (.istore 4, 2) ∧ 20 + 2 = 22 := ⟨by decide +kernel, rfl⟩
theorem iX1_isTwoShaded_22 : decode cX1_isTwoShaded 22 = .ok (.iconst 0, 1) ∧ 22 + 1 = 23 := ⟨by decide +kernel, rfl⟩
theorem iX1_isTwoShaded_23 : decode cX1_isTwoShaded 23 = .ok (.istore 5, 2) ∧ 23 + 2 = 25 := ⟨by decide +kernel, rfl⟩
theorem iX1_isTwoShaded_25 : decode cX1_isTwoShaded 25 = .ok (.iconst 0, 1) ∧ 25 + 1 = 26 := ⟨by decide +kernel, rfl⟩
theorem iX1_isTwoShaded_26 : decode cX1_isTwoShaded 26 = .ok (.istore 6, 2) ∧ 26 + 2 = 28 := ⟨by decide +kernel, rfl⟩
theorem iX1_isTwoShaded_28 : decode cX1_isTwoShaded 28 = .ok (.iload 6, 2) ∧ 28 + 2 = 30 := ⟨by decide +kernel, rfl⟩
theorem iX1_isTwoShaded_30 : decode cX1_isTwoShaded 30 = .ok (.bipush 12, 2) ∧ 30 + 2 = 32 := ⟨by decide +kernel, rfl⟩
theorem iX1_isTwoShaded_32 : decode cX1_isTwoShaded 32 = .ok (.if_icmp .ge 35, 3) ∧ 32 + 3 = 35 := ⟨by decide +kernel, rfl⟩
theorem iX1_isTwoShaded_35 : decode cX1_isTwoShaded 35 = .ok (.iload 5, 2) ∧ 35 + 2 = 37 := ⟨by decide +kernel, rfl⟩
theorem iX1_isTwoShaded_37 : decode cX1_isTwoShaded 37 = .ok (.aload_n 0, 1) ∧ 37 + 1 = 38 := ⟨by decide +kernel, rfl⟩
theorem iX1_isTwoShaded_38 : decode cX1_isTwoShaded 38 = .ok (.iload 4, 2) ∧ 38 + 2 = 40 := ⟨by decide +kernel, rfl⟩
theorem iX1_isTwoShaded_40 : decode cX1_isTwoShaded 40 = .ok (.invokestatic 44, 3) ∧ 40 + 3 = 43 := ⟨by decide +kernel, rfl⟩
theorem iX1_isTwoShaded_43 : decode cX1_isTwoShaded 43 = .ok (.iload_n 1, 1) ∧ 43 + 1 = 44 := ⟨by decide +kernel, rfl⟩
theorem iX1_isTwoShaded_44 : decode cX1_isTwoShaded 44 = .ok (.iand, 1) ∧ 44 + 1 = 45 := ⟨by decide +kernel, rfl⟩
theorem iX1_isTwoShaded_45 : decode cX1_isTwoShaded 45 = .ok (.ior, 1) ∧ 45 + 1 = 46 := ⟨by decide +kernel, rfl⟩
theorem iX1_isTwoShaded_46 : decode cX1_isTwoShaded 46 = .ok (.istore 5, 2) ∧ 46 + 2 = 48 := ⟨by decide +kernel, rfl⟩
theorem iX1_isTwoShaded_48 : decode cX1_isTwoShaded 48 = .ok (.iload 4, 2) ∧ 48 + 2 = 50 := ⟨by decide +kernel, rfl⟩
theorem iX1_isTwoShaded_50 : decode cX1_isTwoShaded 50 = .ok (.aload_n 0, 1) ∧ 50 + 1 = 51 := ⟨by decide +kernel, rfl⟩
theorem iX1_isTwoShaded_51 : decode cX1_isTwoShaded 51 = .ok (.iload 5, 2) ∧ 51 + 2 = 53 := ⟨by decide +kernel, rfl⟩
theorem iX1_isTwoShaded_53 : decode cX1_isTwoShaded 53 = .ok (.invokestatic 44, 3) ∧ 53 + 3 = 56 := ⟨by decide +kernel, rfl⟩
theorem iX1_isTwoShaded_56 : decode cX1_isTwoShaded 56 = .ok (.iload_n 1, 1) ∧ 56 + 1 = 57 := ⟨by decide +kernel, rfl⟩
theorem iX1_isTwoShaded_57 : decode cX1_isTwoShaded 57 = .ok (.iand, 1) ∧ 57 + 1 = 58 := ⟨by decide +kernel, rfl⟩
theorem iX1_isTwoShaded_58 : decode cX1_isTwoShaded 58 = .ok (.ior, 1) ∧ 58 + 1 = 59 := ⟨by decide +kernel, rfl⟩
theorem iX1_isTwoShaded_59 : decode cX1_isTwoShaded 59 = .ok (.istore 4, 2) ∧ 59 + 2 = 61 := ⟨by decide +kernel, rfl⟩
theorem iX1_isTwoShaded_61 : decode cX1_isTwoShaded 61 = .ok (.iinc 6 1, 3) ∧ 61 + 3 = 64 := ⟨by decide +kernel, rfl⟩
theorem iX1_isTwoShaded_64 : decode cX1_isTwoShaded 64 = .ok (.goto (-36), 3) ∧ 64 + 3 = 67 := ⟨by decide +kernel, rfl⟩
theorem iX1_isTwoShaded_67 : decode cX1_isTwoShaded 67 = .ok (.iload 4, 2) ∧ 67 + 2 = 69 := ⟨by decide +kernel, rfl⟩
theorem iX1_isTwoShaded_69 : decode cX1_isTwoShaded 69 = .ok (.iload 5, 2) ∧ 69 + 2 = 71 := ⟨by decide +kernel, rfl⟩
theorem iX1_isTwoShaded_71 : decode cX1_isTwoShaded 71 = .ok (.iand, 1) ∧ 71 + 1 = 72 := ⟨by decide +kernel, rfl⟩
theorem iX1_isTwoShaded_72 : decode cX1_isTwoShaded 72 = .ok (.ifCond .eq 5, 3) ∧ 72 + 3 = 75 := ⟨by decide +kernel, rfl⟩
theorem iX1_isTwoShaded_75 : decode cX1_isTwoShaded 75 = .ok (.iconst 0, 1) ∧ 75 + 1 = 76 := ⟨by decide +kernel, rfl⟩
theorem iX1_isTwoShaded_76 : decode cX1_isTwoShaded 76 = .ok (.ireturn, 1) ∧ 76 + 1 = 77 := ⟨by decide +kernel, rfl⟩
theorem iX1_isTwoShaded_77 : decode cX1_isTwoShaded 77 = .ok (.iload_n 2, 1) ∧ 77 + 1 = 78 := ⟨by decide +kernel, rfl⟩
theorem iX1_isTwoShaded_78 : decode cX1_isTwoShaded 78 = .ok (.iload 4, 2) ∧ 78 + 2 = 80 := ⟨by decide +kernel, rfl⟩
theorem iX1_isTwoShaded_80 : decode cX1_isTwoShaded 80 = .ok (.iload 5, 2) ∧ 80 + 2 = 82 := ⟨by decide +kernel, rfl⟩
theorem iX1_isTwoShaded_82 : decode cX1_isTwoShaded 82 = .ok (.ior, 1) ∧ 82 + 1 = 83 := ⟨by decide +kernel, rfl⟩
theorem iX1_isTwoShaded_83 : decode cX1_isTwoShaded 83 = .ok (.iconst (-1), 1) ∧ 83 + 1 = 84 := ⟨by decide +kernel, rfl⟩
theorem iX1_isTwoShaded_84 : decode cX1_isTwoShaded 84 = .ok (.ixor, 1) ∧ 84 + 1 = 85 := ⟨by decide +kernel, rfl⟩
theorem iX1_isTwoShaded_85 : decode cX1_isTwoShaded 85 = .ok (.iand, 1) ∧ 85 + 1 = 86 := ⟨by decide +kernel, rfl⟩
theorem iX1_isTwoShaded_86 : decode cX1_isTwoShaded 86 = .ok (.istore_n 2, 1) ∧ 86 + 1 = 87 := ⟨by decide +kernel, rfl⟩
theorem iX1_isTwoShaded_87 : decode cX1_isTwoShaded 87 = .ok (.iinc 3 1, 3) ∧ 87 + 3 = 90 := ⟨by decide +kernel, rfl⟩
theorem iX1_isTwoShaded_90 : decode cX1_isTwoShaded 90 = .ok (.goto (-86), 3) ∧ 90 + 3 = 93 := ⟨by decide +kernel, rfl⟩
theorem iX1_isTwoShaded_93 : decode cX1_isTwoShaded 93 = .ok (.iconst 1, 1) ∧ 93 + 1 = 94 := ⟨by decide +kernel, rfl⟩
theorem iX1_isTwoShaded_94 : decode cX1_isTwoShaded 94 = .ok (.ireturn, 1) ∧ 94 + 1 = 95 := ⟨by decide +kernel, rfl⟩
theorem iX1_mostInPeace_0 : decode cX1_mostInPeace 0 = .ok (.iload_n 1, 1) ∧ 0 + 1 = 1 := ⟨by decide +kernel, rfl⟩
theorem iX1_mostInPeace_1 : decode cX1_mostInPeace 1 = .ok (.ifCond .eq 13, 3) ∧ 1 + 3 = 4 := ⟨by decide +kernel, rfl⟩
theorem iX1_mostInPeace_4 : decode cX1_mostInPeace 4 = .ok (.iload_n 2, 1) ∧ 4 + 1 = 5 := ⟨by decide +kernel, rfl⟩
theorem iX1_mostInPeace_5 : decode cX1_mostInPeace 5 = .ok (.ifCond .lt 9, 3) ∧ 5 + 3 = 8 := ⟨by decide +kernel, rfl⟩
theorem iX1_mostInPeace_8 : decode cX1_mostInPeace 8 = .ok (.iload_n 2, 1) ∧ 8 + 1 = 9 := ⟨by decide +kernel, rfl⟩
theorem iX1_mostInPeace_9 : decode cX1_mostInPeace 9 = .ok (.aload_n 0, 1) ∧ 9 + 1 = 10 := ⟨by decide +kernel, rfl⟩
theorem iX1_mostInPeace_10 : decode cX1_mostInPeace 10 = .ok (.arraylength, 1) ∧ 10 + 1 = 11 := ⟨by decide +kernel, rfl⟩
theorem iX1_mostInPeace_11 : decode cX1_mostInPeace 11 = .ok (.if_icmp .lt 5, 3) ∧ 11 + 3 = 14 := ⟨by decide +kernel, rfl⟩
theorem iX1_mostInPeace_14 : decode cX1_mostInPeace 14 = .ok (.iconst 0, 1) ∧ 14 + 1 = 15 := ⟨by decide +kernel, rfl⟩
theorem iX1_mostInPeace_15 : decode cX1_mostInPeace 15 = .ok (.ireturn, 1) ∧ 15 + 1 = 16 := ⟨by decide +kernel, rfl⟩
theorem iX1_mostInPeace_16 : decode cX1_mostInPeace 16 = .ok (.iload_n 1, 1) ∧ 16 + 1 = 17 := ⟨by decide +kernel, rfl⟩
theorem iX1_mostInPeace_17 : decode cX1_mostInPeace 17 = .ok (.iload_n 2, 1) ∧ 17 + 1 = 18 := ⟨by decide +kernel, rfl⟩
theorem iX1_mostInPeace_18 : decode cX1_mostInPeace 18 = .ok (.invokestatic 55, 3) ∧ 18 + 3 = 21 := ⟨by decide +kernel, rfl⟩
theorem iX1_mostInPeace_21 : decode cX1_mostInPeace 21 = .ok (.ifCond .ne 12, 3) ∧ 21 + 3 = 24 := ⟨by decide +kernel, rfl⟩
theorem iX1_mostInPeace_24 : decode cX1_mostInPeace 24 = .ok (.aload_n 0, 1) ∧ 24 + 1 = 25 := ⟨by decide +kernel, rfl⟩
theorem iX1_mostInPeace_25 : decode cX1_mostInPeace 25 = .ok (.iload_n 1, 1) ∧ 25 + 1 = 26 := ⟨by decide +kernel, rfl⟩
theorem iX1_mostInPeace_26 : decode cX1_mostInPeace 26 = .ok (.iload_n 2, 1) ∧ 26 + 1 = 27 := ⟨by decide +kernel, rfl⟩
theorem iX1_mostInPeace_27 : decode cX1_mostInPeace 27 = .ok (.iconst 1, 1) ∧ 27 + 1 = 28 := ⟨by decide +kernel, rfl⟩
theorem iX1_mostInPeace_28 : decode cX1_mostInPeace 28 = .ok (.isub, 1) ∧ 28 + 1 = 29 := ⟨by decide +kernel, rfl⟩
theorem iX1_mostInPeace_29 : decode cX1_mostInPeace 29 = .ok (.invokestatic 59, 3) ∧ 29 + 3 = 32 := ⟨by decide +kernel, rfl⟩
theorem iX1_mostInPeace_32 : decode cX1_mostInPeace 32 = .ok (.ireturn, 1) ∧ 32 + 1 = 33 := ⟨by decide +kernel, rfl⟩
theorem iX1_mostInPeace_33 : decode cX1_mostInPeace 33 = .ok (.iconst 1, 1) ∧ 33 + 1 = 34 := ⟨by decide +kernel, rfl⟩
theorem iX1_mostInPeace_34 : decode cX1_mostInPeace 34 = .ok (.iload_n 2, 1) ∧ 34 + 1 = 35 := ⟨by decide +kernel, rfl⟩
theorem iX1_mostInPeace_35 : decode cX1_mostInPeace 35 = .ok (.ishl, 1) ∧ 35 + 1 = 36 := ⟨by decide +kernel, rfl⟩
theorem iX1_mostInPeace_36 : decode cX1_mostInPeace 36 = .ok (.istore_n 3, 1) ∧ 36 + 1 = 37 := ⟨by decide +kernel, rfl⟩
theorem iX1_mostInPeace_37 : decode cX1_mostInPeace 37 = .ok (.iload_n 1, 1) ∧ 37 + 1 = 38 := ⟨by decide +kernel, rfl⟩
theorem iX1_mostInPeace_38 : decode cX1_mostInPeace 38 = .ok (.iload_n 3, 1) ∧ 38 + 1 = 39 := ⟨by decide +kernel, rfl⟩
theorem iX1_mostInPeace_39 : decode cX1_mostInPeace 39 = .ok (.iconst (-1), 1) ∧ 39 + 1 = 40 := ⟨by decide +kernel, rfl⟩
theorem iX1_mostInPeace_40 : decode cX1_mostInPeace 40 = .ok (.ixor, 1) ∧ 40 + 1 = 41 := ⟨by decide +kernel, rfl⟩
theorem iX1_mostInPeace_41 : decode cX1_mostInPeace 41 = .ok (.iand, 1) ∧ 41 + 1 = 42 := ⟨by decide +kernel, rfl⟩
theorem iX1_mostInPeace_42 : decode cX1_mostInPeace 42 = .ok (.istore 4, 2) ∧ 42 + 2 = 44 := ⟨by decide +kernel, rfl⟩
theorem iX1_mostInPeace_44 : decode cX1_mostInPeace 44 = .ok (.iload_n 3, 1) ∧ 44 + 1 = 45 := ⟨by decide +kernel, rfl⟩
theorem iX1_mostInPeace_45 : decode cX1_mostInPeace 45 = .ok (.aload_n 0, 1) ∧ 45 + 1 = 46 := ⟨by decide +kernel, rfl⟩
theorem iX1_mostInPeace_46 : decode cX1_mostInPeace 46 = .ok (.iload 4, 2) ∧ 46 + 2 = 48 := ⟨by decide +kernel, rfl⟩
theorem iX1_mostInPeace_48 : decode cX1_mostInPeace 48 = .ok (.aload_n 0, 1) ∧ 48 + 1 = 49 := ⟨by decide +kernel, rfl⟩
theorem iX1_mostInPeace_49 : decode cX1_mostInPeace 49 = .ok (.iload_n 2, 1) ∧ 49 + 1 = 50 := ⟨by decide +kernel, rfl⟩
theorem iX1_mostInPeace_50 : decode cX1_mostInPeace 50 = .ok (.iaload, 1) ∧ 50 + 1 = 51 := ⟨by decide +kernel, rfl⟩
theorem iX1_mostInPeace_51 : decode cX1_mostInPeace 51 = .ok (.iconst (-1), 1) ∧ 51 + 1 = 52 := ⟨by decide +kernel, rfl⟩
theorem iX1_mostInPeace_52 : decode cX1_mostInPeace 52 = .ok (.ixor, 1) ∧ 52 + 1 = 53 := ⟨by decide +kernel, rfl⟩
theorem iX1_mostInPeace_53 : decode cX1_mostInPeace 53 = .ok (.iand, 1) ∧ 53 + 1 = 54 := ⟨by decide +kernel, rfl⟩
theorem iX1_mostInPeace_54 : decode cX1_mostInPeace 54 = .ok (.iload_n 2, 1) ∧ 54 + 1 = 55 := ⟨by decide +kernel, rfl⟩
theorem iX1_mostInPeace_55 : decode cX1_mostInPeace 55 = .ok (.iconst 1, 1) ∧ 55 + 1 = 56 := ⟨by decide +kernel, rfl⟩
theorem iX1_mostInPeace_56 : decode cX1_mostInPeace 56 = .ok (.isub, 1) ∧ 56 + 1 = 57 := ⟨by decide +kernel, rfl⟩
theorem iX1_mostInPeace_57 : decode cX1_mostInPeace 57 = .ok (.invokestatic 59, 3) ∧ 57 + 3 = 60 := ⟨by decide +kernel, rfl⟩
theorem iX1_mostInPeace_60 : decode cX1_mostInPeace 60 = .ok (.ior, 1) ∧ 60 + 1 = 61 := ⟨by decide +kernel, rfl⟩
theorem iX1_mostInPeace_61 : decode cX1_mostInPeace 61 = .ok (.istore 5, 2) ∧ 61 + 2 = 63 := ⟨by decide +kernel, rfl⟩
theorem iX1_mostInPeace_63 : decode cX1_mostInPeace 63 = .ok (.iload 4, 2) ∧ 63 + 2 = 65 := ⟨by decide +kernel, rfl⟩
theorem iX1_mostInPeace_65 : decode cX1_mostInPeace 65 = .ok (.aload_n 0, 1) ∧ 65 + 1 = 66 := ⟨by decide +kernel, rfl⟩
theorem iX1_mostInPeace_66 : decode cX1_mostInPeace 66 = .ok (.iload_n 2, 1) ∧ 66 + 1 = 67 := ⟨by decide +kernel, rfl⟩
theorem iX1_mostInPeace_67 : decode cX1_mostInPeace 67 = .ok (.iaload, 1) ∧ 67 + 1 = 68 := ⟨by decide +kernel, rfl⟩
theorem iX1_mostInPeace_68 : decode cX1_mostInPeace 68 = .ok (.iand, 1) ∧ 68 + 1 = 69 := ⟨by decide +kernel, rfl⟩
theorem iX1_mostInPeace_69 : decode cX1_mostInPeace 69 = .ok (.ifCond .ne 6, 3) ∧ 69 + 3 = 72 := ⟨by decide +kernel, rfl⟩
theorem iX1_mostInPeace_72 : decode cX1_mostInPeace 72 = .ok (.iload 5, 2) ∧ 72 + 2 = 74 := ⟨by decide +kernel, rfl⟩
theorem iX1_mostInPeace_74 : decode cX1_mostInPeace 74 = .ok (.ireturn, 1) ∧ 74 + 1 = 75 := ⟨by decide +kernel, rfl⟩
theorem iX1_mostInPeace_75 : decode cX1_mostInPeace 75 = .ok (.aload_n 0, 1) ∧ 75 + 1 = 76 := ⟨by decide +kernel, rfl⟩
theorem iX1_mostInPeace_76 : decode cX1_mostInPeace 76 = .ok (.iload 4, 2) ∧ 76 + 2 = 78 := ⟨by decide +kernel, rfl⟩
theorem iX1_mostInPeace_78 : decode cX1_mostInPeace 78 = .ok (.iload_n 2, 1) ∧ 78 + 1 = 79 := ⟨by decide +kernel, rfl⟩
theorem iX1_mostInPeace_79 : decode cX1_mostInPeace 79 = .ok (.iconst 1, 1) ∧ 79 + 1 = 80 := ⟨by decide +kernel, rfl⟩
theorem iX1_mostInPeace_80 : decode cX1_mostInPeace 80 = .ok (.isub, 1) ∧ 80 + 1 = 81 := ⟨by decide +kernel, rfl⟩
theorem iX1_mostInPeace_81 : decode cX1_mostInPeace 81 = .ok (.invokestatic 59, 3) ∧ 81 + 3 = 84 := ⟨by decide +kernel, rfl⟩
theorem iX1_mostInPeace_84 : decode cX1_mostInPeace 84 = .ok (.istore 6, 2) ∧ 84 + 2 = 86 := ⟨by decide +kernel, rfl⟩
theorem iX1_mostInPeace_86 : decode cX1_mostInPeace 86 = .ok (.iload 5, 2) ∧ 86 + 2 = 88 := ⟨by decide +kernel, rfl⟩
theorem iX1_mostInPeace_88 : decode cX1_mostInPeace 88 = .ok (.iload 6, 2) ∧ 88 + 2 = 90 := ⟨by decide +kernel, rfl⟩
theorem iX1_mostInPeace_90 : decode cX1_mostInPeace 90 = .ok (.invokestatic 62, 3) ∧ 90 + 3 = 93 := ⟨by decide +kernel, rfl⟩
theorem iX1_mostInPeace_93 : decode cX1_mostInPeace 93 = .ok (.ifCond .eq 8, 3) ∧ 93 + 3 = 96 := ⟨by decide +kernel, rfl⟩
theorem iX1_mostInPeace_96 : decode cX1_mostInPeace 96 = .ok (.iload 5, 2) ∧ 96 + 2 = 98 := ⟨by decide +kernel, rfl⟩
theorem iX1_mostInPeace_98 : decode cX1_mostInPeace 98 = .ok (.goto 5, 3) ∧ 98 + 3 = 101 := ⟨by decide +kernel, rfl⟩
theorem iX1_mostInPeace_101 : decode cX1_mostInPeace 101 = .ok (.iload 6, 2) ∧ 101 + 2 = 103 := ⟨by decide +kernel, rfl⟩
theorem iX1_mostInPeace_103 : decode cX1_mostInPeace 103 = .ok (.ireturn, 1) ∧ 103 + 1 = 104 := ⟨by decide +kernel, rfl⟩
theorem iX1_isLarger_0 : decode cX1_isLarger 0 = .ok (.iload_n 0, 1) ∧ 0 + 1 = 1 := ⟨by decide +kernel, rfl⟩
theorem iX1_isLarger_1 : decode cX1_isLarger 1 = .ok (.invokestatic 65, 3) ∧ 1 + 3 = 4 := ⟨by decide +kernel, rfl⟩
theorem iX1_isLarger_4 : decode cX1_isLarger 4 = .ok (.iload_n 1, 1) ∧ 4 + 1 = 5 := ⟨by decide +kernel, rfl⟩
theorem iX1_isLarger_5 : decode cX1_isLarger 5 = .ok (.invokestatic 65, 3) ∧ 5 + 3 = 8 := ⟨by decide +kernel, rfl⟩
theorem iX1_isLarger_8 : decode cX1_isLarger 8 = .ok (.if_icmp .le 7, 3) ∧ 8 + 3 = 11 := ⟨by decide +kernel, rfl⟩
theorem iX1_isLarger_11 : decode cX1_isLarger 11 = .ok (.iconst 1, 1) ∧ 11 + 1 = 12 := ⟨by decide +kernel, rfl⟩
theorem iX1_isLarger_12 : decode cX1_isLarger 12 = .ok (.goto 4, 3) ∧ 12 + 3 = 15 := ⟨by decide +kernel, rfl⟩
theorem iX1_isLarger_15 : decode cX1_isLarger 15 = .ok (.iconst 0, 1) ∧ 15 + 1 = 16 := ⟨by decide +kernel, rfl⟩
theorem iX1_isLarger_16 : decode cX1_isLarger 16 = .ok (.ireturn, 1) ∧ 16 + 1 = 17 := ⟨by decide +kernel, rfl⟩
theorem iX1_fewestGuards_0 : decode cX1_fewestGuards 0 = .ok (.iload_n 1, 1) ∧ 0 + 1 = 1 := ⟨by decide +kernel, rfl⟩
theorem iX1_fewestGuards_1 : decode cX1_fewestGuards 1 = .ok (.iload_n 3, 1) ∧ 1 + 1 = 2 := ⟨by decide +kernel, rfl⟩
theorem iX1_fewestGuards_2 : decode cX1_fewestGuards 2 = .ok (.iconst (-1), 1) ∧ 2 + 1 = 3 := ⟨by decide +kernel, rfl⟩
theorem iX1_fewestGuards_3 : decode cX1_fewestGuards 3 = .ok (.ixor, 1) ∧ 3 + 1 = 4 := ⟨by decide +kernel, rfl⟩
theorem iX1_fewestGuards_4 : decode cX1_fewestGuards 4 = .ok (.iand, 1) ∧ 4 + 1 = 5 := ⟨by decide +kernel, rfl⟩
theorem iX1_fewestGuards_5 : decode cX1_fewestGuards 5 = .ok (.istore 6, 2) ∧ 5 + 2 = 7 := ⟨by decide +kernel, rfl⟩
theorem iX1_fewestGuards_7 : decode cX1_fewestGuards 7 = .ok (.iload 6, 2) ∧ 7 + 2 = 9 := ⟨by decide +kernel, rfl⟩
theorem iX1_fewestGuards_9 : decode cX1_fewestGuards 9 = .ok (.ifCond .ne 46, 3) ∧ 9 + 3 = 12 := ⟨by decide +kernel, rfl⟩
theorem iX1_fewestGuards_12 : decode cX1_fewestGuards 12 = .ok (.iload 4, 2) ∧ 12 + 2 = 14 := ⟨by decide +kernel, rfl⟩
theorem iX1_fewestGuards_14 : decode cX1_fewestGuards 14 = .ok (.iload_n 2, 1) ∧ 14 + 1 = 15 := ⟨by decide +kernel, rfl⟩
theorem iX1_fewestGuards_15 : decode cX1_fewestGuards 15 = .ok (.invokestatic 62, 3) ∧ 15 + 3 = 18 := ⟨by decide +kernel, rfl⟩
theorem iX1_fewestGuards_18 : decode cX1_fewestGuards 18 = .ok (.ifCond .ne 18, 3) ∧ 18 + 3 = 21 := ⟨by decide +kernel, rfl⟩
theorem iX1_fewestGuards_21 : decode cX1_fewestGuards 21 = .ok (.iload_n 2, 1) ∧ 21 + 1 = 22 := ⟨by decide +kernel, rfl⟩
theorem iX1_fewestGuards_22 : decode cX1_fewestGuards 22 = .ok (.iload 4, 2) ∧ 22 + 2 = 24 := ⟨by decide +kernel, rfl⟩
theorem iX1_fewestGuards_24 : decode cX1_fewestGuards 24 = .ok (.invokestatic 62, 3) ∧ 24 + 3 = 27 := ⟨by decide +kernel, rfl⟩
theorem iX1_fewestGuards_27 : decode cX1_fewestGuards 27 = .ok (.ifCond .ne 13, 3) ∧ 27 + 3 = 30 := ⟨by decide +kernel, rfl⟩
theorem iX1_fewestGuards_30 : decode cX1_fewestGuards 30 = .ok (.iload_n 2, 1) ∧ 30 + 1 = 31 := ⟨by decide +kernel, rfl⟩
theorem iX1_fewestGuards_31 : decode cX1_fewestGuards 31 = .ok (.iload 4, 2) ∧ 31 + 2 = 33 := ⟨by decide +kernel, rfl⟩
theorem iX1_fewestGuards_33 : decode cX1_fewestGuards 33 = .ok (.if_icmp .ge 7, 3) ∧ 33 + 3 = 36 := ⟨by decide +kernel, rfl⟩
theorem iX1_fewestGuards_36 : decode cX1_fewestGuards 36 = .ok (.iconst 1, 1) ∧ 36 + 1 = 37 := ⟨by decide +kernel, rfl⟩
theorem iX1_fewestGuards_37 : decode cX1_fewestGuards 37 = .ok (.goto 4, 3) ∧ 37 + 3 = 40 := ⟨by decide +kernel, rfl⟩
theorem iX1_fewestGuards_40 : decode cX1_fewestGuards 40 = .ok (.iconst 0, 1) ∧ 40 + 1 = 41 := ⟨by decide +kernel, rfl⟩
theorem iX1_fewestGuards_41 : decode cX1_fewestGuards 41 = .ok (.istore 7, 2) ∧ 41 + 2 = 43 := ⟨by decide +kernel, rfl⟩
theorem iX1_fewestGuards_43 : decode cX1_fewestGuards 43 = .ok (.iload 7, 2) ∧ 43 + 2 = 45 := ⟨by decide +kernel, rfl⟩
theorem iX1_fewestGuards_45 : decode cX1_fewestGuards 45 = .ok (.ifCond .eq 7, 3) ∧ 45 + 3 = 48 := ⟨by decide +kernel, rfl⟩
theorem iX1_fewestGuards_48 : decode cX1_fewestGuards 48 = .ok (.iload_n 2, 1) ∧ 48 + 1 = 49 := ⟨by decide +kernel, rfl⟩
theorem iX1_fewestGuards_49 : decode cX1_fewestGuards 49 = .ok (.goto 5, 3) ∧ 49 + 3 = 52 := ⟨by decide +kernel, rfl⟩
theorem iX1_fewestGuards_52 : decode cX1_fewestGuards 52 = .ok (.iload 4, 2) ∧ 52 + 2 = 54 := ⟨by decide +kernel, rfl⟩
theorem iX1_fewestGuards_54 : decode cX1_fewestGuards 54 = .ok (.ireturn, 1) ∧ 54 + 1 = 55 := ⟨by decide +kernel, rfl⟩
theorem iX1_fewestGuards_55 : decode cX1_fewestGuards 55 = .ok (.iload 4, 2) ∧ 55 + 2 = 57 := ⟨by decide +kernel, rfl⟩
theorem iX1_fewestGuards_57 : decode cX1_fewestGuards 57 = .ok (.iload_n 2, 1) ∧ 57 + 1 = 58 := ⟨by decide +kernel, rfl⟩
theorem iX1_fewestGuards_58 : decode cX1_fewestGuards 58 = .ok (.invokestatic 62, 3) ∧ 58 + 3 = 61 := ⟨by decide +kernel, rfl⟩
theorem iX1_fewestGuards_61 : decode cX1_fewestGuards 61 = .ok (.ifCond .eq 10, 3) ∧ 61 + 3 = 64 := ⟨by decide +kernel, rfl⟩
theorem iX1_fewestGuards_64 : decode cX1_fewestGuards 64 = .ok (.iload 5, 2) ∧ 64 + 2 = 66 := ⟨by decide +kernel, rfl⟩
theorem iX1_fewestGuards_66 : decode cX1_fewestGuards 66 = .ok (.bipush 12, 2) ∧ 66 + 2 = 68 := ⟨by decide +kernel, rfl⟩
theorem iX1_fewestGuards_68 : decode cX1_fewestGuards 68 = .ok (.if_icmp .lt 6, 3) ∧ 68 + 3 = 71 := ⟨by decide +kernel, rfl⟩
theorem iX1_fewestGuards_71 : decode cX1_fewestGuards 71 = .ok (.iload 4, 2) ∧ 71 + 2 = 73 := ⟨by decide +kernel, rfl⟩
theorem iX1_fewestGuards_73 : decode cX1_fewestGuards 73 = .ok (.ireturn, 1) ∧ 73 + 1 = 74 := ⟨by decide +kernel, rfl⟩
theorem iX1_fewestGuards_74 : decode cX1_fewestGuards 74 = .ok (.iload 6, 2) ∧ 74 + 2 = 76 := ⟨by decide +kernel, rfl⟩
theorem iX1_fewestGuards_76 : decode cX1_fewestGuards 76 = .ok (.invokestatic 48, 3) ∧ 76 + 3 = 79 := ⟨by decide +kernel, rfl⟩
theorem iX1_fewestGuards_79 : decode cX1_fewestGuards 79 = .ok (.istore 7, 2) ∧ 79 + 2 = 81 := ⟨by decide +kernel, rfl⟩
theorem iX1_fewestGuards_81 : decode cX1_fewestGuards 81 = .ok (.iconst 1, 1) ∧ 81 + 1 = 82 := ⟨by decide +kernel, rfl⟩
theorem iX1_fewestGuards_82 : decode cX1_fewestGuards 82 = .ok (.iload 7, 2) ∧ 82 + 2 = 84 := ⟨by decide +kernel, rfl⟩
theorem iX1_fewestGuards_84 : decode cX1_fewestGuards 84 = .ok (.ishl, 1) ∧ 84 + 1 = 85 := ⟨by decide +kernel, rfl⟩
theorem iX1_fewestGuards_85 : decode cX1_fewestGuards 85 = .ok (.aload_n 0, 1) ∧ 85 + 1 = 86 := ⟨by decide +kernel, rfl⟩
theorem iX1_fewestGuards_86 : decode cX1_fewestGuards 86 = .ok (.iconst 1, 1) ∧ 86 + 1 = 87 := ⟨by decide +kernel, rfl⟩
theorem iX1_fewestGuards_87 : decode cX1_fewestGuards 87 = .ok (.iload 7, 2) ∧ 87 + 2 = 89 := ⟨by decide +kernel, rfl⟩
theorem iX1_fewestGuards_89 : decode cX1_fewestGuards 89 = .ok (.ishl, 1) ∧ 89 + 1 = 90 := ⟨by decide +kernel, rfl⟩
theorem iX1_fewestGuards_90 : decode cX1_fewestGuards 90 = .ok (.invokestatic 44, 3) ∧ 90 + 3 = 93 := ⟨by decide +kernel, rfl⟩
theorem iX1_fewestGuards_93 : decode cX1_fewestGuards 93 = .ok (.ior, 1) ∧ 93 + 1 = 94 := ⟨by decide +kernel, rfl⟩
theorem iX1_fewestGuards_94 : decode cX1_fewestGuards 94 = .ok (.iload_n 1, 1) ∧ 94 + 1 = 95 := ⟨by decide +kernel, rfl⟩
theorem iX1_fewestGuards_95 : decode cX1_fewestGuards 95 = .ok (.iand, 1) ∧ 95 + 1 = 96 := ⟨by decide +kernel, rfl⟩
theorem iX1_fewestGuards_96 : decode cX1_fewestGuards 96 = .ok (.istore 8, 2) ∧ 96 + 2 = 98 := ⟨by decide +kernel, rfl⟩
theorem iX1_fewestGuards_98 : decode cX1_fewestGuards 98 = .ok (.iload 4, 2) ∧ 98 + 2 = 100 := ⟨by decide +kernel, rfl⟩
theorem iX1_fewestGuards_100 : decode cX1_fewestGuards 100 = .ok (.istore 9, 2) ∧ 100 + 2 = 102 := ⟨by decide +kernel, rfl⟩
theorem iX1_fewestGuards_102 : decode cX1_fewestGuards 102 = .ok (.iconst 0, 1) ∧ 102 + 1 = 103 := ⟨by decide +kernel, rfl⟩
theorem iX1_fewestGuards_103 : decode cX1_fewestGuards 103 = .ok (.istore 10, 2) ∧ 103 + 2 = 105 := ⟨by decide +kernel, rfl⟩
theorem iX1_fewestGuards_105 : decode cX1_fewestGuards 105 = .ok (.iload 10, 2) ∧ 105 + 2 = 107 := ⟨by decide +kernel, rfl⟩
theorem iX1_fewestGuards_107 : decode cX1_fewestGuards 107 = .ok (.aload_n 0, 1) ∧ 107 + 1 = 108 := ⟨by decide +kernel, rfl⟩
theorem iX1_fewestGuards_108 : decode cX1_fewestGuards 108 = .ok (.arraylength, 1) ∧ 108 + 1 = 109 := ⟨by decide +kernel, rfl⟩
theorem iX1_fewestGuards_109 : decode cX1_fewestGuards 109 = .ok (.if_icmp .ge 53, 3) ∧ 109 + 3 = 112 := ⟨by decide +kernel, rfl⟩
theorem iX1_fewestGuards_112 : decode cX1_fewestGuards 112 = .ok (.iload 8, 2) ∧ 112 + 2 = 114 := ⟨by decide +kernel, rfl⟩
theorem iX1_fewestGuards_114 : decode cX1_fewestGuards 114 = .ok (.iload 10, 2) ∧ 114 + 2 = 116 := ⟨by decide +kernel, rfl⟩
theorem iX1_fewestGuards_116 : decode cX1_fewestGuards 116 = .ok (.invokestatic 55, 3) ∧ 116 + 3 = 119 := ⟨by decide +kernel, rfl⟩
theorem iX1_fewestGuards_119 : decode cX1_fewestGuards 119 = .ok (.ifCond .eq 37, 3) ∧ 119 + 3 = 122 := ⟨by decide +kernel, rfl⟩
theorem iX1_fewestGuards_122 : decode cX1_fewestGuards 122 = .ok (.iload_n 3, 1) ∧ 122 + 1 = 123 := ⟨by decide +kernel, rfl⟩
theorem iX1_fewestGuards_123 : decode cX1_fewestGuards 123 = .ok (.aload_n 0, 1) ∧ 123 + 1 = 124 := ⟨by decide +kernel, rfl⟩
theorem iX1_fewestGuards_124 : decode cX1_fewestGuards 124 = .ok (.iload 10, 2) ∧ 124 + 2 = 126 := ⟨by decide +kernel, rfl⟩
theorem iX1_fewestGuards_126 : decode cX1_fewestGuards 126 = .ok (.iaload, 1) ∧ 126 + 1 = 127 := ⟨by decide +kernel, rfl⟩
theorem iX1_fewestGuards_127 : decode cX1_fewestGuards 127 = .ok (.ior, 1) ∧ 127 + 1 = 128 := ⟨by decide +kernel, rfl⟩
theorem iX1_fewestGuards_128 : decode cX1_fewestGuards 128 = .ok (.iconst 1, 1) ∧ 128 + 1 = 129 := ⟨by decide +kernel, rfl⟩
theorem iX1_fewestGuards_129 : decode cX1_fewestGuards 129 = .ok (.iload 10, 2) ∧ 129 + 2 = 131 := ⟨by decide +kernel, rfl⟩
theorem iX1_fewestGuards_131 : decode cX1_fewestGuards 131 = .ok (.ishl, 1) ∧ 131 + 1 = 132 := ⟨by decide +kernel, rfl⟩
theorem iX1_fewestGuards_132 : decode cX1_fewestGuards 132 = .ok (.ior, 1) ∧ 132 + 1 = 133 := ⟨by decide +kernel, rfl⟩
theorem iX1_fewestGuards_133 : decode cX1_fewestGuards 133 = .ok (.istore 11, 2) ∧ 133 + 2 = 135 := ⟨by decide +kernel, rfl⟩
theorem iX1_fewestGuards_135 : decode cX1_fewestGuards 135 = .ok (.aload_n 0, 1) ∧ 135 + 1 = 136 := ⟨by decide +kernel, rfl⟩
theorem iX1_fewestGuards_136 : decode cX1_fewestGuards 136 = .ok (.iload_n 1, 1) ∧ 136 + 1 = 137 := ⟨by decide +kernel, rfl⟩
theorem iX1_fewestGuards_137 : decode cX1_fewestGuards 137 = .ok (.iload_n 2, 1) ∧ 137 + 1 = 138 := ⟨by decide +kernel, rfl⟩
theorem iX1_fewestGuards_138 : decode cX1_fewestGuards 138 = .ok (.iconst 1, 1) ∧ 138 + 1 = 139 := ⟨by decide +kernel, rfl⟩
theorem iX1_fewestGuards_139 : decode cX1_fewestGuards 139 = .ok (.iload 10, 2) ∧ 139 + 2 = 141 := ⟨by decide +kernel, rfl⟩
theorem iX1_fewestGuards_141 : decode cX1_fewestGuards 141 = .ok (.ishl, 1) ∧ 141 + 1 = 142 := ⟨by decide +kernel, rfl⟩
theorem iX1_fewestGuards_142 : decode cX1_fewestGuards 142 = .ok (.ior, 1) ∧ 142 + 1 = 143 := ⟨by decide +kernel, rfl⟩
theorem iX1_fewestGuards_143 : decode cX1_fewestGuards 143 = .ok (.iload 11, 2) ∧ 143 + 2 = 145 := ⟨by decide +kernel, rfl⟩
theorem iX1_fewestGuards_145 : decode cX1_fewestGuards 145 = .ok (.iload 9, 2) ∧ 145 + 2 = 147 := ⟨by decide +kernel, rfl⟩
theorem iX1_fewestGuards_147 : decode cX1_fewestGuards 147 = .ok (.iload 5, 2) ∧ 147 + 2 = 149 := ⟨by decide +kernel, rfl⟩
theorem iX1_fewestGuards_149 : decode cX1_fewestGuards 149 = .ok (.iconst 1, 1) ∧ 149 + 1 = 150 := ⟨by decide +kernel, rfl⟩
theorem iX1_fewestGuards_150 : decode cX1_fewestGuards 150 = .ok (.iadd, 1) ∧ 150 + 1 = 151 := ⟨by decide +kernel, rfl⟩
theorem iX1_fewestGuards_151 : decode cX1_fewestGuards 151 = .ok (.invokestatic 70, 3) ∧ 151 + 3 = 154 := ⟨by decide +kernel, rfl⟩
theorem iX1_fewestGuards_154 : decode cX1_fewestGuards 154 = .ok (.istore 9, 2) ∧ 154 + 2 = 156 := ⟨by decide +kernel, rfl⟩
theorem iX1_fewestGuards_156 : decode cX1_fewestGuards 156 = .ok (.iinc 10 1, 3) ∧ 156 + 3 = 159 := ⟨by decide +kernel, rfl⟩
theorem iX1_fewestGuards_159 : decode cX1_fewestGuards 159 = .ok (.goto (-54), 3) ∧ 159 + 3 = 162 := ⟨by decide +kernel, rfl⟩
theorem iX1_fewestGuards_162 : decode cX1_fewestGuards 162 = .ok (.iload 9, 2) ∧ 162 + 2 = 164 := ⟨by decide +kernel, rfl⟩
theorem iX1_fewestGuards_164 : decode cX1_fewestGuards 164 = .ok (.ireturn, 1) ∧ 164 + 1 = 165 := ⟨by decide +kernel, rfl⟩
theorem iX2_init_0 : decode cX2_init 0 = .ok (.aload_n 0, 1) ∧ 0 + 1 = 1 := ⟨by decide +kernel, rfl⟩
theorem iX2_init_1 : decode cX2_init 1 = .ok (.invokespecial 3, 3) ∧ 1 + 3 = 4 := ⟨by decide +kernel, rfl⟩
theorem iX2_init_4 : decode cX2_init 4 = .ok (.aload_n 0, 1) ∧ 4 + 1 = 5 := ⟨by decide +kernel, rfl⟩
theorem iX2_init_5 : decode cX2_init 5 = .ok (.bipush 30, 2) ∧ 5 + 2 = 7 := ⟨by decide +kernel, rfl⟩
theorem iX2_init_7 : decode cX2_init 7 = .ok (.newarray .int, 2) ∧ 7 + 2 = 9 := ⟨by decide +kernel, rfl⟩
theorem iX2_init_9 : decode cX2_init 9 = .ok (.putfield 9, 3) ∧ 9 + 3 = 12 := ⟨by decide +kernel, rfl⟩
theorem iX2_init_12 : decode cX2_init 12 = .ok (.return_, 1) ∧ 12 + 1 = 13 := ⟨by decide +kernel, rfl⟩
theorem iX2_put_0 : decode cX2_put 0 = .ok (.aload_n 0, 1) ∧ 0 + 1 = 1 := ⟨by decide +kernel, rfl⟩
theorem iX2_put_1 : decode cX2_put 1 = .ok (.getfield 15, 3) ∧ 1 + 3 = 4 := ⟨by decide +kernel, rfl⟩
theorem iX2_put_4 : decode cX2_put 4 = .ok (.ifCond .lt 12, 3) ∧ 4 + 3 = 7 := ⟨by decide +kernel, rfl⟩
theorem iX2_put_7 : decode cX2_put 7 = .ok (.aload_n 0, 1) ∧ 7 + 1 = 8 := ⟨by decide +kernel, rfl⟩
theorem iX2_put_8 : decode cX2_put 8 = .ok (.getfield 15, 3) ∧ 8 + 3 = 11 := ⟨by decide +kernel, rfl⟩
theorem iX2_put_11 : decode cX2_put 11 = .ok (.bipush 30, 2) ∧ 11 + 2 = 13 := ⟨by decide +kernel, rfl⟩
theorem iX2_put_13 : decode cX2_put 13 = .ok (.if_icmp .lt 5, 3) ∧ 13 + 3 = 16 := ⟨by decide +kernel, rfl⟩
theorem iX2_put_16 : decode cX2_put 16 = .ok (.iconst 0, 1) ∧ 16 + 1 = 17 := ⟨by decide +kernel, rfl⟩
theorem iX2_put_17 : decode cX2_put 17 = .ok (.ireturn, 1) ∧ 17 + 1 = 18 := ⟨by decide +kernel, rfl⟩
theorem iX2_put_18 : decode cX2_put 18 = .ok (.aload_n 0, 1) ∧ 18 + 1 = 19 := ⟨by decide +kernel, rfl⟩
theorem iX2_put_19 : decode cX2_put 19 = .ok (.getfield 9, 3) ∧ 19 + 3 = 22 := ⟨by decide +kernel, rfl⟩
theorem iX2_put_22 : decode cX2_put 22 = .ok (.aload_n 0, 1) ∧ 22 + 1 = 23 := ⟨by decide +kernel, rfl⟩
theorem iX2_put_23 : decode cX2_put 23 = .ok (.getfield 15, 3) ∧ 23 + 3 = 26 := ⟨by decide +kernel, rfl⟩
theorem iX2_put_26 : decode cX2_put 26 = .ok (.iload_n 1, 1) ∧ 26 + 1 = 27 := ⟨by decide +kernel, rfl⟩
theorem iX2_put_27 : decode cX2_put 27 = .ok (.iastore, 1) ∧ 27 + 1 = 28 := ⟨by decide +kernel, rfl⟩
theorem iX2_put_28 : decode cX2_put 28 = .ok (.aload_n 0, 1) ∧ 28 + 1 = 29 := ⟨by decide +kernel, rfl⟩
theorem iX2_put_29 : decode cX2_put 29 = .ok (.dup, 1) ∧ 29 + 1 = 30 := ⟨by decide +kernel, rfl⟩
theorem iX2_put_30 : decode cX2_put 30 = .ok (.getfield 15, 3) ∧ 30 + 3 = 33 := ⟨by decide +kernel, rfl⟩
theorem iX2_put_33 : decode cX2_put 33 = .ok (.iconst 1, 1) ∧ 33 + 1 = 34 := ⟨by decide +kernel, rfl⟩
theorem iX2_put_34 : decode cX2_put 34 = .ok (.iadd, 1) ∧ 34 + 1 = 35 := ⟨by decide +kernel, rfl⟩
theorem iX2_put_35 : decode cX2_put 35 = .ok (.putfield 15, 3) ∧ 35 + 3 = 38 := ⟨by decide +kernel, rfl⟩
theorem iX2_put_38 : decode cX2_put 38 = .ok (.aload_n 0, 1) ∧ 38 + 1 = 39 := ⟨by decide +kernel, rfl⟩
theorem iX2_put_39 : decode cX2_put 39 = .ok (.getfield 15, 3) ∧ 39 + 3 = 42 := ⟨by decide +kernel, rfl⟩
theorem iX2_put_42 : decode cX2_put 42 = .ok (.iconst 2, 1) ∧ 42 + 1 = 43 := ⟨by decide +kernel, rfl⟩
theorem iX2_put_43 : decode cX2_put 43 = .ok (.if_icmp .ne 16, 3) ∧ 43 + 3 = 46 := ⟨by decide +kernel, rfl⟩
theorem iX2_put_46 : decode cX2_put 46 = .ok (.aload_n 0, 1) ∧ 46 + 1 = 47 := ⟨by decide +kernel, rfl⟩
theorem iX2_put_47 : decode cX2_put 47 = .ok (.aload_n 0, 1) ∧ 47 + 1 = 48 := ⟨by decide +kernel, rfl⟩
theorem iX2_put_48 : decode cX2_put 48 = .ok (.invokevirtual 19, 3) ∧ 48 + 3 = 51 := ⟨by decide +kernel, rfl⟩
theorem iX2_put_51 : decode cX2_put 51 = .ok (.aload_n 0, 1) ∧ 51 + 1 = 52 := ⟨by decide +kernel, rfl⟩
theorem iX2_put_52 : decode cX2_put 52 = .ok (.invokevirtual 23, 3) ∧ 52 + 3 = 55 := ⟨by decide +kernel, rfl⟩
theorem iX2_put_55 : decode cX2_put 55 = .ok (.imul, 1) ∧ 55 + 1 = 56 := ⟨by decide +kernel, rfl⟩
theorem iX2_put_56 : decode cX2_put 56 = .ok (.putfield 26, 3) ∧ 56 + 3 = 59 := ⟨by decide +kernel, rfl⟩
theorem iX2_put_59 : decode cX2_put 59 = .ok (.iconst 1, 1) ∧ 59 + 1 = 60 := ⟨by decide +kernel, rfl⟩
theorem iX2_put_60 : decode cX2_put 60 = .ok (.ireturn, 1) ∧ 60 + 1 = 61 := ⟨by decide +kernel, rfl⟩
theorem iX2_clear_0 : decode cX2_clear 0 = .ok (.aload_n 0, 1) ∧ 0 + 1 = 1 := ⟨by decide +kernel, rfl⟩
theorem iX2_clear_1 : decode cX2_clear 1 = .ok (.getfield 15, 3) ∧ 1 + 3 = 4 := ⟨by decide +kernel, rfl⟩
theorem iX2_clear_4 : decode cX2_clear 4 = .ok (.istore_n 1, 1) ∧ 4 + 1 = 5 := ⟨by decide +kernel, rfl⟩
theorem iX2_clear_5 : decode cX2_clear 5 = .ok (.aload_n 0, 1) ∧ 5 + 1 = 6 := ⟨by decide +kernel, rfl⟩
theorem iX2_clear_6 : decode cX2_clear 6 = .ok (.iconst 0, 1) ∧ 6 + 1 = 7 := ⟨by decide +kernel, rfl⟩
theorem iX2_clear_7 : decode cX2_clear 7 = .ok (.putfield 15, 3) ∧ 7 + 3 = 10 := ⟨by decide +kernel, rfl⟩
theorem iX2_clear_10 : decode cX2_clear 10 = .ok (.aload_n 0, 1) ∧ 10 + 1 = 11 := ⟨by decide +kernel, rfl⟩
theorem iX2_clear_11 : decode cX2_clear 11 = .ok (.iconst 0, 1) ∧ 11 + 1 = 12 := ⟨by decide +kernel, rfl⟩
theorem iX2_clear_12 : decode cX2_clear 12 = .ok (.putfield 26, 3) ∧ 12 + 3 = 15 := ⟨by decide +kernel, rfl⟩
theorem iX2_clear_15 : decode cX2_clear 15 = .ok (.iload_n 1, 1) ∧ 15 + 1 = 16 := ⟨by decide +kernel, rfl⟩
theorem iX2_clear_16 : decode cX2_clear 16 = .ok (.ireturn, 1) ∧ 16 + 1 = 17 := ⟨by decide +kernel, rfl⟩
theorem iX2_at_0 : decode cX2_at 0 = .ok (.iload_n 1, 1) ∧ 0 + 1 = 1 := ⟨by decide +kernel, rfl⟩
theorem iX2_at_1 : decode cX2_at 1 = .ok (.ifCond .lt 26, 3) ∧ 1 + 3 = 4 := ⟨by decide +kernel, rfl⟩
theorem iX2_at_4 : decode cX2_at 4 = .ok (.iload_n 1, 1) ∧ 4 + 1 = 5 := ⟨by decide +kernel, rfl⟩
theorem iX2_at_5 : decode cX2_at 5 = .ok (.aload_n 0, 1) ∧ 5 + 1 = 6 := ⟨by decide +kernel, rfl⟩
theorem iX2_at_6 : decode cX2_at 6 = .ok (.getfield 15, 3) ∧ 6 + 3 = 9 := ⟨by decide +kernel, rfl⟩
theorem iX2_at_9 : decode cX2_at 9 = .ok (.if_icmp .ge 18, 3) ∧ 9 + 3 = 12 := ⟨by decide +kernel, rfl⟩
theorem iX2_at_12 : decode cX2_at 12 = .ok (.iload_n 1, 1) ∧ 12 + 1 = 13 := ⟨by decide +kernel, rfl⟩
theorem iX2_at_13 : decode cX2_at 13 = .ok (.bipush 30, 2) ∧ 13 + 2 = 15 := ⟨by decide +kernel, rfl⟩
theorem iX2_at_15 : decode cX2_at 15 = .ok (.if_icmp .ge 12, 3) ∧ 15 + 3 = 18 := ⟨by decide +kernel, rfl⟩
theorem iX2_at_18 : decode cX2_at 18 = .ok (.aload_n 0, 1) ∧ 18 + 1 = 19 := ⟨by decide +kernel, rfl⟩
theorem iX2_at_19 : decode cX2_at 19 = .ok (.getfield 9, 3) ∧ 19 + 3 = 22 := ⟨by decide +kernel, rfl⟩
theorem iX2_at_22 : decode cX2_at 22 = .ok (.iload_n 1, 1) ∧ 22 + 1 = 23 := ⟨by decide +kernel, rfl⟩
theorem iX2_at_23 : decode cX2_at 23 = .ok (.iaload, 1) ∧ 23 + 1 = 24 := ⟨by decide +kernel, rfl⟩
theorem iX2_at_24 : decode cX2_at 24 = .ok (.goto 4, 3) ∧ 24 + 3 = 27 := ⟨by decide +kernel, rfl⟩
theorem iX2_at_27 : decode cX2_at 27 = .ok (.iconst (-1), 1) ∧ 27 + 1 = 28 := ⟨by decide +kernel, rfl⟩
theorem iX2_at_28 : decode cX2_at 28 = .ok (.ireturn, 1) ∧ 28 + 1 = 29 := ⟨by decide +kernel, rfl⟩
theorem iX2_firstFault_0 : decode cX2_firstFault 0 = .ok (.iconst 0, 1) ∧ 0 + 1 = 1 := ⟨by decide +kernel, rfl⟩
theorem iX2_firstFault_1 : decode cX2_firstFault 1 = .ok (.istore_n 1, 1) ∧ 1 + 1 = 2 := ⟨by decide +kernel, rfl⟩
theorem iX2_firstFault_2 : decode cX2_firstFault 2 = .ok (.iload_n 1, 1) ∧ 2 + 1 = 3 := ⟨by decide +kernel, rfl⟩
theorem iX2_firstFault_3 : decode cX2_firstFault 3 = .ok (.aload_n 0, 1) ∧ 3 + 1 = 4 := ⟨by decide +kernel, rfl⟩
theorem iX2_firstFault_4 : decode cX2_firstFault 4 = .ok (.getfield 15, 3) ∧ 4 + 3 = 7 := ⟨by decide +kernel, rfl⟩
theorem iX2_firstFault_7 : decode cX2_firstFault 7 = .ok (.if_icmp .ge 19, 3) ∧ 7 + 3 = 10 := ⟨by decide +kernel, rfl⟩
theorem iX2_firstFault_10 : decode cX2_firstFault 10 = .ok (.aload_n 0, 1) ∧ 10 + 1 = 11 := ⟨by decide +kernel, rfl⟩
theorem iX2_firstFault_11 : decode cX2_firstFault 11 = .ok (.iload_n 1, 1) ∧ 11 + 1 = 12 := ⟨by decide +kernel, rfl⟩
theorem iX2_firstFault_12 : decode cX2_firstFault 12 = .ok (.invokevirtual 29, 3) ∧ 12 + 3 = 15 := ⟨by decide +kernel, rfl⟩
theorem iX2_firstFault_15 : decode cX2_firstFault 15 = .ok (.ifCond .ne 5, 3) ∧ 15 + 3 = 18 := ⟨by decide +kernel, rfl⟩
theorem iX2_firstFault_18 : decode cX2_firstFault 18 = .ok (.iload_n 1, 1) ∧ 18 + 1 = 19 := ⟨by decide +kernel, rfl⟩
theorem iX2_firstFault_19 : decode cX2_firstFault 19 = .ok (.ireturn, 1) ∧ 19 + 1 = 20 := ⟨by decide +kernel, rfl⟩
theorem iX2_firstFault_20 : decode cX2_firstFault 20 = .ok (.iinc 1 1, 3) ∧ 20 + 3 = 23 := ⟨by decide +kernel, rfl⟩
theorem iX2_firstFault_23 : decode cX2_firstFault 23 = .ok (.goto (-21), 3) ∧ 23 + 3 = 26 := ⟨by decide +kernel, rfl⟩
theorem iX2_firstFault_26 : decode cX2_firstFault 26 = .ok (.aload_n 0, 1) ∧ 26 + 1 = 27 := ⟨by decide +kernel, rfl⟩
theorem iX2_firstFault_27 : decode cX2_firstFault 27 = .ok (.getfield 15, 3) ∧ 27 + 3 = 30 := ⟨by decide +kernel, rfl⟩
theorem iX2_firstFault_30 : decode cX2_firstFault 30 = .ok (.ireturn, 1) ∧ 30 + 1 = 31 := ⟨by decide +kernel, rfl⟩
theorem iX2_isWhole_0 : decode cX2_isWhole 0 = .ok (.aload_n 0, 1) ∧ 0 + 1 = 1 := ⟨by decide +kernel, rfl⟩
theorem iX2_isWhole_1 : decode cX2_isWhole 1 = .ok (.getfield 15, 3) ∧ 1 + 3 = 4 := ⟨by decide +kernel, rfl⟩
theorem iX2_isWhole_4 : decode cX2_isWhole 4 = .ok (.aload_n 0, 1) ∧ 4 + 1 = 5 := ⟨by decide +kernel, rfl⟩
theorem iX2_isWhole_5 : decode cX2_isWhole 5 = .ok (.iconst 0, 1) ∧ 5 + 1 = 6 := ⟨by decide +kernel, rfl⟩
theorem iX2_isWhole_6 : decode cX2_isWhole 6 = .ok (.invokevirtual 33, 3) ∧ 6 + 3 = 9 := ⟨by decide +kernel, rfl⟩
theorem iX2_isWhole_9 : decode cX2_isWhole 9 = .ok (.isub, 1) ∧ 9 + 1 = 10 := ⟨by decide +kernel, rfl⟩
theorem iX2_isWhole_10 : decode cX2_isWhole 10 = .ok (.istore_n 1, 1) ∧ 10 + 1 = 11 := ⟨by decide +kernel, rfl⟩
theorem iX2_isWhole_11 : decode cX2_isWhole 11 = .ok (.aload_n 0, 1) ∧ 11 + 1 = 12 := ⟨by decide +kernel, rfl⟩
theorem iX2_isWhole_12 : decode cX2_isWhole 12 = .ok (.invokevirtual 37, 3) ∧ 12 + 3 = 15 := ⟨by decide +kernel, rfl⟩
theorem iX2_isWhole_15 : decode cX2_isWhole 15 = .ok (.aload_n 0, 1) ∧ 15 + 1 = 16 := ⟨by decide +kernel, rfl⟩
theorem iX2_isWhole_16 : decode cX2_isWhole 16 = .ok (.getfield 15, 3) ∧ 16 + 3 = 19 := ⟨by decide +kernel, rfl⟩
theorem iX2_isWhole_19 : decode cX2_isWhole 19 = .ok (.if_icmp .ne 18, 3) ∧ 19 + 3 = 22 := ⟨by decide +kernel, rfl⟩
theorem iX2_isWhole_22 : decode cX2_isWhole 22 = .ok (.iload_n 1, 1) ∧ 22 + 1 = 23 := ⟨by decide +kernel, rfl⟩
theorem iX2_isWhole_23 : decode cX2_isWhole 23 = .ok (.ifCond .le 14, 3) ∧ 23 + 3 = 26 := ⟨by decide +kernel, rfl⟩
theorem iX2_isWhole_26 : decode cX2_isWhole 26 = .ok (.iload_n 1, 1) ∧ 26 + 1 = 27 := ⟨by decide +kernel, rfl⟩
theorem iX2_isWhole_27 : decode cX2_isWhole 27 = .ok (.iconst 3, 1) ∧ 27 + 1 = 28 := ⟨by decide +kernel, rfl⟩
theorem iX2_isWhole_28 : decode cX2_isWhole 28 = .ok (.irem, 1) ∧ 28 + 1 = 29 := ⟨by decide +kernel, rfl⟩
theorem iX2_isWhole_29 : decode cX2_isWhole 29 = .ok (.iconst 2, 1) ∧ 29 + 1 = 30 := ⟨by decide +kernel, rfl⟩
theorem iX2_isWhole_30 : decode cX2_isWhole 30 = .ok (.if_icmp .ne 7, 3) ∧ 30 + 3 = 33 := ⟨by decide +kernel, rfl⟩
theorem iX2_isWhole_33 : decode cX2_isWhole 33 = .ok (.iconst 1, 1) ∧ 33 + 1 = 34 := ⟨by decide +kernel, rfl⟩
theorem iX2_isWhole_34 : decode cX2_isWhole 34 = .ok (.goto 4, 3) ∧ 34 + 3 = 37 := ⟨by decide +kernel, rfl⟩
theorem iX2_isWhole_37 : decode cX2_isWhole 37 = .ok (.iconst 0, 1) ∧ 37 + 1 = 38 := ⟨by decide +kernel, rfl⟩
theorem iX2_isWhole_38 : decode cX2_isWhole 38 = .ok (.ireturn, 1) ∧ 38 + 1 = 39 := ⟨by decide +kernel, rfl⟩
theorem iX2_rows_0 : decode cX2_rows 0 = .ok (.aload_n 0, 1) ∧ 0 + 1 = 1 := ⟨by decide +kernel, rfl⟩
theorem iX2_rows_1 : decode cX2_rows 1 = .ok (.iconst 0, 1) ∧ 1 + 1 = 2 := ⟨by decide +kernel, rfl⟩
theorem iX2_rows_2 : decode cX2_rows 2 = .ok (.invokevirtual 40, 3) ∧ 2 + 3 = 5 := ⟨by decide +kernel, rfl⟩
theorem iX2_rows_5 : decode cX2_rows 5 = .ok (.bipush 48, 2) ∧ 5 + 2 = 7 := ⟨by decide +kernel, rfl⟩
theorem iX2_rows_7 : decode cX2_rows 7 = .ok (.isub, 1) ∧ 7 + 1 = 8 := ⟨by decide +kernel, rfl⟩
theorem iX2_rows_8 : decode cX2_rows 8 = .ok (.ireturn, 1) ∧ 8 + 1 = 9 := ⟨by decide +kernel, rfl⟩
theorem iX2_columns_0 : decode cX2_columns 0 = .ok (.aload_n 0, 1) ∧ 0 + 1 = 1 := ⟨by decide +kernel, rfl⟩
theorem iX2_columns_1 : decode cX2_columns 1 = .ok (.iconst 1, 1) ∧ 1 + 1 = 2 := ⟨by decide +kernel, rfl⟩
theorem iX2_columns_2 : decode cX2_columns 2 = .ok (.invokevirtual 40, 3) ∧ 2 + 3 = 5 := ⟨by decide +kernel, rfl⟩
theorem iX2_columns_5 : decode cX2_columns 5 = .ok (.bipush 48, 2) ∧ 5 + 2 = 7 := ⟨by decide +kernel, rfl⟩
theorem iX2_columns_7 : decode cX2_columns 7 = .ok (.isub, 1) ∧ 7 + 1 = 8 := ⟨by decide +kernel, rfl⟩
theorem iX2_columns_8 : decode cX2_columns 8 = .ok (.ireturn, 1) ∧ 8 + 1 = 9 := ⟨by decide +kernel, rfl⟩
theorem iX2_freeCells_0 : decode cX2_freeCells 0 = .ok (.iconst 0, 1) ∧ 0 + 1 = 1 := ⟨by decide +kernel, rfl⟩
theorem iX2_freeCells_1 : decode cX2_freeCells 1 = .ok (.istore_n 1, 1) ∧ 1 + 1 = 2 := ⟨by decide +kernel, rfl⟩
theorem iX2_freeCells_2 : decode cX2_freeCells 2 = .ok (.iconst 0, 1) ∧ 2 + 1 = 3 := ⟨by decide +kernel, rfl⟩
theorem iX2_freeCells_3 : decode cX2_freeCells 3 = .ok (.istore_n 2, 1) ∧ 3 + 1 = 4 := ⟨by decide +kernel, rfl⟩
theorem iX2_freeCells_4 : decode cX2_freeCells 4 = .ok (.iload_n 2, 1) ∧ 4 + 1 = 5 := ⟨by decide +kernel, rfl⟩
theorem iX2_freeCells_5 : decode cX2_freeCells 5 = .ok (.aload_n 0, 1) ∧ 5 + 1 = 6 := ⟨by decide +kernel, rfl⟩
theorem iX2_freeCells_6 : decode cX2_freeCells 6 = .ok (.getfield 26, 3) ∧ 6 + 3 = 9 := ⟨by decide +kernel, rfl⟩
theorem iX2_freeCells_9 : decode cX2_freeCells 9 = .ok (.if_icmp .ge 27, 3) ∧ 9 + 3 = 12 := ⟨by decide +kernel, rfl⟩
theorem iX2_freeCells_12 : decode cX2_freeCells 12 = .ok (.aload_n 0, 1) ∧ 12 + 1 = 13 := ⟨by decide +kernel, rfl⟩
theorem iX2_freeCells_13 : decode cX2_freeCells 13 = .ok (.iconst 3, 1) ∧ 13 + 1 = 14 := ⟨by decide +kernel, rfl⟩
theorem iX2_freeCells_14 : decode cX2_freeCells 14 = .ok (.iload_n 2, 1) ∧ 14 + 1 = 15 := ⟨by decide +kernel, rfl⟩
theorem iX2_freeCells_15 : decode cX2_freeCells 15 = .ok (.iadd, 1) ∧ 15 + 1 = 16 := ⟨by decide +kernel, rfl⟩
theorem iX2_freeCells_16 : decode cX2_freeCells 16 = .ok (.invokevirtual 40, 3) ∧ 16 + 3 = 19 := ⟨by decide +kernel, rfl⟩
theorem iX2_freeCells_19 : decode cX2_freeCells 19 = .ok (.bipush 46, 2) ∧ 19 + 2 = 21 := ⟨by decide +kernel, rfl⟩
theorem iX2_freeCells_21 : decode cX2_freeCells 21 = .ok (.if_icmp .ne 9, 3) ∧ 21 + 3 = 24 := ⟨by decide +kernel, rfl⟩
theorem iX2_freeCells_24 : decode cX2_freeCells 24 = .ok (.iload_n 1, 1) ∧ 24 + 1 = 25 := ⟨by decide +kernel, rfl⟩
theorem iX2_freeCells_25 : decode cX2_freeCells 25 = .ok (.iconst 1, 1) ∧ 25 + 1 = 26 := ⟨by decide +kernel, rfl⟩
theorem iX2_freeCells_26 : decode cX2_freeCells 26 = .ok (.iload_n 2, 1) ∧ 26 + 1 = 27 := ⟨by decide +kernel, rfl⟩
theorem iX2_freeCells_27 : decode cX2_freeCells 27 = .ok (.ishl, 1) ∧ 27 + 1 = 28 := ⟨by decide +kernel, rfl⟩
theorem iX2_freeCells_28 : decode cX2_freeCells 28 = .ok (.ior, 1) ∧ 28 + 1 = 29 := ⟨by decide +kernel, rfl⟩
theorem iX2_freeCells_29 : decode cX2_freeCells 29 = .ok (.istore_n 1, 1) ∧ 29 + 1 = 30 := ⟨by decide +kernel, rfl⟩
theorem iX2_freeCells_30 : decode cX2_freeCells 30 = .ok (.iinc 2 1, 3) ∧ 30 + 3 = 33 := ⟨by decide +kernel, rfl⟩
theorem iX2_freeCells_33 : decode cX2_freeCells 33 = .ok (.goto (-29), 3) ∧ 33 + 3 = 36 := ⟨by decide +kernel, rfl⟩
theorem iX2_freeCells_36 : decode cX2_freeCells 36 = .ok (.iload_n 1, 1) ∧ 36 + 1 = 37 := ⟨by decide +kernel, rfl⟩
theorem iX2_freeCells_37 : decode cX2_freeCells 37 = .ok (.ireturn, 1) ∧ 37 + 1 = 38 := ⟨by decide +kernel, rfl⟩
theorem iX2_leapers_0 : decode cX2_leapers 0 = .ok (.aload_n 0, 1) ∧ 0 + 1 = 1 := ⟨by decide +kernel, rfl⟩
theorem iX2_leapers_1 : decode cX2_leapers 1 = .ok (.getfield 15, 3) ∧ 1 + 3 = 4 := ⟨by decide +kernel, rfl⟩
theorem iX2_leapers_4 : decode cX2_leapers 4 = .ok (.aload_n 0, 1) ∧ 4 + 1 = 5 := ⟨by decide +kernel, rfl⟩
theorem iX2_leapers_5 : decode cX2_leapers 5 = .ok (.iconst 0, 1) ∧ 5 + 1 = 6 := ⟨by decide +kernel, rfl⟩
theorem iX2_leapers_6 : decode cX2_leapers 6 = .ok (.invokevirtual 33, 3) ∧ 6 + 3 = 9 := ⟨by decide +kernel, rfl⟩
theorem iX2_leapers_9 : decode cX2_leapers 9 = .ok (.isub, 1) ∧ 9 + 1 = 10 := ⟨by decide +kernel, rfl⟩
theorem iX2_leapers_10 : decode cX2_leapers 10 = .ok (.iconst 1, 1) ∧ 10 + 1 = 11 := ⟨by decide +kernel, rfl⟩
theorem iX2_leapers_11 : decode cX2_leapers 11 = .ok (.iadd, 1) ∧ 11 + 1 = 12 := ⟨by decide +kernel, rfl⟩
theorem iX2_leapers_12 : decode cX2_leapers 12 = .ok (.iconst 3, 1) ∧ 12 + 1 = 13 := ⟨by decide +kernel, rfl⟩
theorem iX2_leapers_13 : decode cX2_leapers 13 = .ok (.idiv, 1) ∧ 13 + 1 = 14 := ⟨by decide +kernel, rfl⟩
theorem iX2_leapers_14 : decode cX2_leapers 14 = .ok (.ireturn, 1) ∧ 14 + 1 = 15 := ⟨by decide +kernel, rfl⟩
theorem iX2_kindOf_0 : decode cX2_kindOf 0 = .ok (.aload_n 0, 1) ∧ 0 + 1 = 1 := ⟨by decide +kernel, rfl⟩
theorem iX2_kindOf_1 : decode cX2_kindOf 1 = .ok (.aload_n 0, 1) ∧ 1 + 1 = 2 := ⟨by decide +kernel, rfl⟩
theorem iX2_kindOf_2 : decode cX2_kindOf 2 = .ok (.iload_n 1, 1) ∧ 2 + 1 = 3 := ⟨by decide +kernel, rfl⟩
theorem iX2_kindOf_3 : decode cX2_kindOf 3 = .ok (.invokevirtual 33, 3) ∧ 3 + 3 = 6 := ⟨by decide +kernel, rfl⟩
theorem iX2_kindOf_6 : decode cX2_kindOf 6 = .ok (.invokevirtual 40, 3) ∧ 6 + 3 = 9 := ⟨by decide +kernel, rfl⟩
theorem iX2_kindOf_9 : decode cX2_kindOf 9 = .ok (.invokestatic 43, 3) ∧ 9 + 3 = 12 := ⟨by decide +kernel, rfl⟩
theorem iX2_kindOf_12 : decode cX2_kindOf 12 = .ok (.ireturn, 1) ∧ 12 + 1 = 13 := ⟨by decide +kernel, rfl⟩
theorem iX2_standOf_0 : decode cX2_standOf 0 = .ok (.aload_n 0, 1) ∧ 0 + 1 = 1 := ⟨by decide +kernel, rfl⟩
theorem iX2_standOf_1 : decode cX2_standOf 1 = .ok (.aload_n 0, 1) ∧ 1 + 1 = 2 := ⟨by decide +kernel, rfl⟩
theorem iX2_standOf_2 : decode cX2_standOf 2 = .ok (.iload_n 1, 1) ∧ 2 + 1 = 3 := ⟨by decide +kernel, rfl⟩
theorem iX2_standOf_3 : decode cX2_standOf 3 = .ok (.invokevirtual 33, 3) ∧ 3 + 3 = 6 := ⟨by decide +kernel, rfl⟩
theorem iX2_standOf_6 : decode cX2_standOf 6 = .ok (.iconst 1, 1) ∧ 6 + 1 = 7 := ⟨by decide +kernel, rfl⟩
theorem iX2_standOf_7 : decode cX2_standOf 7 = .ok (.iadd, 1) ∧ 7 + 1 = 8 := ⟨by decide +kernel, rfl⟩
theorem iX2_standOf_8 : decode cX2_standOf 8 = .ok (.invokevirtual 40, 3) ∧ 8 + 3 = 11 := ⟨by decide +kernel, rfl⟩
theorem iX2_standOf_11 : decode cX2_standOf 11 = .ok (.bipush 97, 2) ∧ 11 + 2 = 13 := ⟨by decide +kernel, rfl⟩
theorem iX2_standOf_13 : decode cX2_standOf 13 = .ok (.isub, 1) ∧ 13 + 1 = 14 := ⟨by decide +kernel, rfl⟩
theorem iX2_standOf_14 : decode cX2_standOf 14 = .ok (.ireturn, 1) ∧ 14 + 1 = 15 := ⟨by decide +kernel, rfl⟩
theorem iX2_kindPlace_0 : decode cX2_kindPlace 0 = .ok (.iconst 3, 1) ∧ 0 + 1 = 1 := ⟨by decide +kernel, rfl⟩
theorem iX2_kindPlace_1 : decode cX2_kindPlace 1 = .ok (.aload_n 0, 1) ∧ 1 + 1 = 2 := ⟨by decide +kernel, rfl⟩
theorem iX2_kindPlace_2 : decode cX2_kindPlace 2 = .ok (.getfield 26, 3) ∧ 2 + 3 = 5 := ⟨by decide +kernel, rfl⟩
theorem iX2_kindPlace_5 : decode cX2_kindPlace 5 = .ok (.iadd, 1) ∧ 5 + 1 = 6 := ⟨by decide +kernel, rfl⟩
theorem iX2_kindPlace_6 : decode cX2_kindPlace 6 = .ok (.iconst 1, 1) ∧ 6 + 1 = 7 := ⟨by decide +kernel, rfl⟩
theorem iX2_kindPlace_7 : decode cX2_kindPlace 7 = .ok (.iadd, 1) ∧ 7 + 1 = 8 := ⟨by decide +kernel, rfl⟩
theorem iX2_kindPlace_8 : decode cX2_kindPlace 8 = .ok (.iconst 3, 1) ∧ 8 + 1 = 9 := ⟨by decide +kernel, rfl⟩
theorem iX2_kindPlace_9 : decode cX2_kindPlace 9 = .ok (.iload_n 1, 1) ∧ 9 + 1 = 10 := ⟨by decide +kernel, rfl⟩
theorem iX2_kindPlace_10 : decode cX2_kindPlace 10 = .ok (.imul, 1) ∧ 10 + 1 = 11 := ⟨by decide +kernel, rfl⟩
theorem iX2_kindPlace_11 : decode cX2_kindPlace 11 = .ok (.iadd, 1) ∧ 11 + 1 = 12 := ⟨by decide +kernel, rfl⟩
theorem iX2_kindPlace_12 : decode cX2_kindPlace 12 = .ok (.ireturn, 1) ∧ 12 + 1 = 13 := ⟨by decide +kernel, rfl⟩
theorem iX2_kindFor_0 : decode cX2_kindFor 0 = .ok (.ldc 46, 2) ∧ 0 + 2 = 2 := ⟨by decide +kernel, rfl⟩
theorem iX2_kindFor_2 : decode cX2_kindFor 2 = .ok (.iload_n 0, 1) ∧ 2 + 1 = 3 := ⟨by decide +kernel, rfl⟩
theorem iX2_kindFor_3 : decode cX2_kindFor 3 = .ok (.i2c, 1) ∧ 3 + 1 = 4 := ⟨by decide +kernel, rfl⟩
theorem iX2_kindFor_4 : decode cX2_kindFor 4 = .ok (.invokevirtual 48, 3) ∧ 4 + 3 = 7 := ⟨by decide +kernel, rfl⟩
theorem iX2_kindFor_7 : decode cX2_kindFor 7 = .ok (.ireturn, 1) ∧ 7 + 1 = 8 := ⟨by decide +kernel, rfl⟩
theorem iX2_fits_0 : decode cX2_fits 0 = .ok (.aload_n 0, 1) ∧ 0 + 1 = 1 := ⟨by decide +kernel, rfl⟩
theorem iX2_fits_1 : decode cX2_fits 1 = .ok (.iload_n 1, 1) ∧ 1 + 1 = 2 := ⟨by decide +kernel, rfl⟩
theorem iX2_fits_2 : decode cX2_fits 2 = .ok (.invokevirtual 40, 3) ∧ 2 + 3 = 5 := ⟨by decide +kernel, rfl⟩
theorem iX2_fits_5 : decode cX2_fits 5 = .ok (.istore_n 2, 1) ∧ 5 + 1 = 6 := ⟨by decide +kernel, rfl⟩
theorem iX2_fits_6 : decode cX2_fits 6 = .ok (.iload_n 1, 1) ∧ 6 + 1 = 7 := ⟨by decide +kernel, rfl⟩
theorem iX2_fits_7 : decode cX2_fits 7 = .ok (.ifCond .ne 21, 3) ∧ 7 + 3 = 10 := ⟨by decide +kernel, rfl⟩
theorem iX2_fits_10 : decode cX2_fits 10 = .ok (.iload_n 2, 1) ∧ 10 + 1 = 11 := ⟨by decide +kernel, rfl⟩
theorem iX2_fits_11 : decode cX2_fits 11 = .ok (.bipush 50, 2) ∧ 11 + 2 = 13 := ⟨by decide +kernel, rfl⟩
theorem iX2_fits_13 : decode cX2_fits 13 = .ok (.if_icmp .eq 9, 3) ∧ 13 + 3 = 16 := ⟨by decide +kernel, rfl⟩
theorem iX2_fits_16 : decode cX2_fits 16 = .ok (.iload_n 2, 1) ∧ 16 + 1 = 17 := ⟨by decide +kernel, rfl⟩
theorem iX2_fits_17 : decode cX2_fits 17 = .ok (.bipush 51, 2) ∧ 17 + 2 = 19 := ⟨by decide +kernel, rfl⟩
theorem iX2_fits_19 : decode cX2_fits 19 = .ok (.if_icmp .ne 7, 3) ∧ 19 + 3 = 22 := ⟨by decide +kernel, rfl⟩
theorem iX2_fits_22 : decode cX2_fits 22 = .ok (.iconst 1, 1) ∧ 22 + 1 = 23 := ⟨by decide +kernel, rfl⟩
theorem iX2_fits_23 : decode cX2_fits 23 = .ok (.goto 4, 3) ∧ 23 + 3 = 26 := ⟨by decide +kernel, rfl⟩
theorem iX2_fits_26 : decode cX2_fits 26 = .ok (.iconst 0, 1) ∧ 26 + 1 = 27 := ⟨by decide +kernel, rfl⟩
theorem iX2_fits_27 : decode cX2_fits 27 = .ok (.ireturn, 1) ∧ 27 + 1 = 28 := ⟨by decide +kernel, rfl⟩
theorem iX2_fits_28 : decode cX2_fits 28 = .ok (.iload_n 1, 1) ∧ 28 + 1 = 29 := ⟨by decide +kernel, rfl⟩
theorem iX2_fits_29 : decode cX2_fits 29 = .ok (.iconst 1, 1) ∧ 29 + 1 = 30 := ⟨by decide +kernel, rfl⟩
theorem iX2_fits_30 : decode cX2_fits 30 = .ok (.if_icmp .ne 21, 3) ∧ 30 + 3 = 33 := ⟨by decide +kernel, rfl⟩
theorem iX2_fits_33 : decode cX2_fits 33 = .ok (.iload_n 2, 1) ∧ 33 + 1 = 34 := ⟨by decide +kernel, rfl⟩
theorem iX2_fits_34 : decode cX2_fits 34 = .ok (.bipush 50, 2) ∧ 34 + 2 = 36 := ⟨by decide +kernel, rfl⟩
theorem iX2_fits_36 : decode cX2_fits 36 = .ok (.if_icmp .lt 13, 3) ∧ 36 + 3 = 39 := ⟨by decide +kernel, rfl⟩
theorem iX2_fits_39 : decode cX2_fits 39 = .ok (.iload_n 2, 1) ∧ 39 + 1 = 40 := ⟨by decide +kernel, rfl⟩
theorem iX2_fits_40 : decode cX2_fits 40 = .ok (.bipush 52, 2) ∧ 40 + 2 = 42 := ⟨by decide +kernel, rfl⟩
theorem iX2_fits_42 : decode cX2_fits 42 = .ok (.if_icmp .gt 7, 3) ∧ 42 + 3 = 45 := ⟨by decide +kernel, rfl⟩
theorem iX2_fits_45 : decode cX2_fits 45 = .ok (.iconst 1, 1) ∧ 45 + 1 = 46 := ⟨by decide +kernel, rfl⟩
theorem iX2_fits_46 : decode cX2_fits 46 = .ok (.goto 4, 3) ∧ 46 + 3 = 49 := ⟨by decide +kernel, rfl⟩
theorem iX2_fits_49 : decode cX2_fits 49 = .ok (.iconst 0, 1) ∧ 49 + 1 = 50 := ⟨by decide +kernel, rfl⟩
theorem iX2_fits_50 : decode cX2_fits 50 = .ok (.ireturn, 1) ∧ 50 + 1 = 51 := ⟨by decide +kernel, rfl⟩
theorem iX2_fits_51 : decode cX2_fits 51 = .ok (.iload_n 1, 1) ∧ 51 + 1 = 52 := ⟨by decide +kernel, rfl⟩
theorem iX2_fits_52 : decode cX2_fits 52 = .ok (.iconst 2, 1) ∧ 52 + 1 = 53 := ⟨by decide +kernel, rfl⟩
theorem iX2_fits_53 : decode cX2_fits 53 = .ok (.if_icmp .eq 13, 3) ∧ 53 + 3 = 56 := ⟨by decide +kernel, rfl⟩
theorem iX2_fits_56 : decode cX2_fits 56 = .ok (.iload_n 1, 1) ∧ 56 + 1 = 57 := ⟨by decide +kernel, rfl⟩
theorem iX2_fits_57 : decode cX2_fits 57 = .ok (.iconst 3, 1) ∧ 57 + 1 = 58 := ⟨by decide +kernel, rfl⟩
theorem iX2_fits_58 : decode cX2_fits 58 = .ok (.aload_n 0, 1) ∧ 58 + 1 = 59 := ⟨by decide +kernel, rfl⟩
theorem iX2_fits_59 : decode cX2_fits 59 = .ok (.getfield 26, 3) ∧ 59 + 3 = 62 := ⟨by decide +kernel, rfl⟩
theorem iX2_fits_62 : decode cX2_fits 62 = .ok (.iadd, 1) ∧ 62 + 1 = 63 := ⟨by decide +kernel, rfl⟩
theorem iX2_fits_63 : decode cX2_fits 63 = .ok (.if_icmp .ne 15, 3) ∧ 63 + 3 = 66 := ⟨by decide +kernel, rfl⟩
theorem iX2_fits_66 : decode cX2_fits 66 = .ok (.iload_n 2, 1) ∧ 66 + 1 = 67 := ⟨by decide +kernel, rfl⟩
theorem iX2_fits_67 : decode cX2_fits 67 = .ok (.bipush 59, 2) ∧ 67 + 2 = 69 := ⟨by decide +kernel, rfl⟩
theorem iX2_fits_69 : decode cX2_fits 69 = .ok (.if_icmp .ne 7, 3) ∧ 69 + 3 = 72 := ⟨by decide +kernel, rfl⟩
theorem iX2_fits_72 : decode cX2_fits 72 = .ok (.iconst 1, 1) ∧ 72 + 1 = 73 := ⟨by decide +kernel, rfl⟩
theorem iX2_fits_73 : decode cX2_fits 73 = .ok (.goto 4, 3) ∧ 73 + 3 = 76 := ⟨by decide +kernel, rfl⟩
theorem iX2_fits_76 : decode cX2_fits 76 = .ok (.iconst 0, 1) ∧ 76 + 1 = 77 := ⟨by decide +kernel, rfl⟩
theorem iX2_fits_77 : decode cX2_fits 77 = .ok (.ireturn, 1) ∧ 77 + 1 = 78 := ⟨by decide +kernel, rfl⟩
theorem iX2_fits_78 : decode cX2_fits 78 = .ok (.iload_n 1, 1) ∧ 78 + 1 = 79 := ⟨by decide +kernel, rfl⟩
theorem iX2_fits_79 : decode cX2_fits 79 = .ok (.iconst 3, 1) ∧ 79 + 1 = 80 := ⟨by decide +kernel, rfl⟩
theorem iX2_fits_80 : decode cX2_fits 80 = .ok (.aload_n 0, 1) ∧ 80 + 1 = 81 := ⟨by decide +kernel, rfl⟩
theorem iX2_fits_81 : decode cX2_fits 81 = .ok (.getfield 26, 3) ∧ 81 + 3 = 84 := ⟨by decide +kernel, rfl⟩
theorem iX2_fits_84 : decode cX2_fits 84 = .ok (.iadd, 1) ∧ 84 + 1 = 85 := ⟨by decide +kernel, rfl⟩
theorem iX2_fits_85 : decode cX2_fits 85 = .ok (.if_icmp .ge 21, 3) ∧ 85 + 3 = 88 := ⟨by decide +kernel, rfl⟩
theorem iX2_fits_88 : decode cX2_fits 88 = .ok (.iload_n 2, 1) ∧ 88 + 1 = 89 := ⟨by decide +kernel, rfl⟩
theorem iX2_fits_89 : decode cX2_fits 89 = .ok (.bipush 46, 2) ∧ 89 + 2 = 91 := ⟨by decide +kernel, rfl⟩
theorem iX2_fits_91 : decode cX2_fits 91 = .ok (.if_icmp .eq 9, 3) ∧ 91 + 3 = 94 := ⟨by decide +kernel, rfl⟩
theorem iX2_fits_94 : decode cX2_fits 94 = .ok (.iload_n 2, 1) ∧ 94 + 1 = 95 := ⟨by decide +kernel, rfl⟩
theorem iX2_fits_95 : decode cX2_fits 95 = .ok (.bipush 35, 2) ∧ 95 + 2 = 97 := ⟨by decide +kernel, rfl⟩
theorem iX2_fits_97 : decode cX2_fits 97 = .ok (.if_icmp .ne 7, 3) ∧ 97 + 3 = 100 := ⟨by decide +kernel, rfl⟩
theorem iX2_fits_100 : decode cX2_fits 100 = .ok (.iconst 1, 1) ∧ 100 + 1 = 101 := ⟨by decide +kernel, rfl⟩
theorem iX2_fits_101 : decode cX2_fits 101 = .ok (.goto 4, 3) ∧ 101 + 3 = 104 := ⟨by decide +kernel, rfl⟩
theorem iX2_fits_104 : decode cX2_fits 104 = .ok (.iconst 0, 1) ∧ 104 + 1 = 105 := ⟨by decide +kernel, rfl⟩
theorem iX2_fits_105 : decode cX2_fits 105 = .ok (.ireturn, 1) ∧ 105 + 1 = 106 := ⟨by decide +kernel, rfl⟩
theorem iX2_fits_106 : decode cX2_fits 106 = .ok (.iload_n 1, 1) ∧ 106 + 1 = 107 := ⟨by decide +kernel, rfl⟩
theorem iX2_fits_107 : decode cX2_fits 107 = .ok (.aload_n 0, 1) ∧ 107 + 1 = 108 := ⟨by decide +kernel, rfl⟩
theorem iX2_fits_108 : decode cX2_fits 108 = .ok (.iconst 0, 1) ∧ 108 + 1 = 109 := ⟨by decide +kernel, rfl⟩
theorem iX2_fits_109 : decode cX2_fits 109 = .ok (.invokevirtual 33, 3) ∧ 109 + 3 = 112 := ⟨by decide +kernel, rfl⟩
theorem iX2_fits_112 : decode cX2_fits 112 = .ok (.isub, 1) ∧ 112 + 1 = 113 := ⟨by decide +kernel, rfl⟩
theorem iX2_fits_113 : decode cX2_fits 113 = .ok (.iconst 3, 1) ∧ 113 + 1 = 114 := ⟨by decide +kernel, rfl⟩
theorem iX2_fits_114 : decode cX2_fits 114 = .ok (.idiv, 1) ∧ 114 + 1 = 115 := ⟨by decide +kernel, rfl⟩
theorem iX2_fits_115 : decode cX2_fits 115 = .ok (.istore_n 3, 1) ∧ 115 + 1 = 116 := ⟨by decide +kernel, rfl⟩
theorem iX2_fits_116 : decode cX2_fits 116 = .ok (.iload_n 1, 1) ∧ 116 + 1 = 117 := ⟨by decide +kernel, rfl⟩
theorem iX2_fits_117 : decode cX2_fits 117 = .ok (.aload_n 0, 1) ∧ 117 + 1 = 118 := ⟨by decide +kernel, rfl⟩
theorem iX2_fits_118 : decode cX2_fits 118 = .ok (.iconst 0, 1) ∧ 118 + 1 = 119 := ⟨by decide +kernel, rfl⟩
theorem iX2_fits_119 : decode cX2_fits 119 = .ok (.invokevirtual 33, 3) ∧ 119 + 3 = 122 := ⟨by decide +kernel, rfl⟩
theorem iX2_fits_122 : decode cX2_fits 122 = .ok (.isub, 1) ∧ 122 + 1 = 123 := ⟨by decide +kernel, rfl⟩
theorem iX2_fits_123 : decode cX2_fits 123 = .ok (.iconst 3, 1) ∧ 123 + 1 = 124 := ⟨by decide +kernel, rfl⟩
theorem iX2_fits_124 : decode cX2_fits 124 = .ok (.irem, 1) ∧ 124 + 1 = 125 := ⟨by decide +kernel, rfl⟩
theorem iX2_fits_125 : decode cX2_fits 125 = .ok (.istore 4, 2) ∧ 125 + 2 = 127 := ⟨by decide +kernel, rfl⟩
theorem iX2_fits_127 : decode cX2_fits 127 = .ok (.iload 4, 2) ∧ 127 + 2 = 129 := ⟨by decide +kernel, rfl⟩
theorem iX2_fits_129 : decode cX2_fits 129 = .ok (.ifCond .ne 16, 3) ∧ 129 + 3 = 132 := ⟨by decide +kernel, rfl⟩
theorem iX2_fits_132 : decode cX2_fits 132 = .ok (.iload_n 2, 1) ∧ 132 + 1 = 133 := ⟨by decide +kernel, rfl⟩
theorem iX2_fits_133 : decode cX2_fits 133 = .ok (.invokestatic 43, 3) ∧ 133 + 3 = 136 := ⟨by decide +kernel, rfl⟩
theorem iX2_fits_136 : decode cX2_fits 136 = .ok (.ifCond .lt 7, 3) ∧ 136 + 3 = 139 := ⟨by decide +kernel, rfl⟩
theorem iX2_fits_139 : decode cX2_fits 139 = .ok (.iconst 1, 1) ∧ 139 + 1 = 140 := ⟨by decide +kernel, rfl⟩
theorem iX2_fits_140 : decode cX2_fits 140 = .ok (.goto 4, 3) ∧ 140 + 3 = 143 := ⟨by decide +kernel, rfl⟩
theorem iX2_fits_143 : decode cX2_fits 143 = .ok (.iconst 0, 1) ∧ 143 + 1 = 144 := ⟨by decide +kernel, rfl⟩
theorem iX2_fits_144 : decode cX2_fits 144 = .ok (.ireturn, 1) ∧ 144 + 1 = 145 := ⟨by decide +kernel, rfl⟩
theorem iX2_fits_145 : decode cX2_fits 145 = .ok (.iload 4, 2) ∧ 145 + 2 = 147 := ⟨by decide +kernel, rfl⟩
theorem iX2_fits_147 : decode cX2_fits 147 = .ok (.iconst 1, 1) ∧ 147 + 1 = 148 := ⟨by decide +kernel, rfl⟩
theorem iX2_fits_148 : decode cX2_fits 148 = .ok (.if_icmp .ne 9, 3) ∧ 148 + 3 = 151 := ⟨by decide +kernel, rfl⟩
theorem iX2_fits_151 : decode cX2_fits 151 = .ok (.aload_n 0, 1) ∧ 151 + 1 = 152 := ⟨by decide +kernel, rfl⟩
theorem iX2_fits_152 : decode cX2_fits 152 = .ok (.iload_n 3, 1) ∧ 152 + 1 = 153 := ⟨by decide +kernel, rfl⟩
theorem iX2_fits_153 : decode cX2_fits 153 = .ok (.invokevirtual 53, 3) ∧ 153 + 3 = 156 := ⟨by decide +kernel, rfl⟩
theorem iX2_fits_156 : decode cX2_fits 156 = .ok (.ireturn, 1) ∧ 156 + 1 = 157 := ⟨by decide +kernel, rfl⟩
theorem iX2_fits_157 : decode cX2_fits 157 = .ok (.iload_n 2, 1) ∧ 157 + 1 = 158 := ⟨by decide +kernel, rfl⟩
theorem iX2_fits_158 : decode cX2_fits 158 = .ok (.bipush 44, 2) ∧ 158 + 2 = 160 := ⟨by decide +kernel, rfl⟩
theorem iX2_fits_160 : decode cX2_fits 160 = .ok (.if_icmp .ne 12, 3) ∧ 160 + 3 = 163 := ⟨by decide +kernel, rfl⟩
theorem iX2_fits_163 : decode cX2_fits 163 = .ok (.iload_n 3, 1) ∧ 163 + 1 = 164 := ⟨by decide +kernel, rfl⟩
theorem iX2_fits_164 : decode cX2_fits 164 = .ok (.iconst 3, 1) ∧ 164 + 1 = 165 := ⟨by decide +kernel, rfl⟩
theorem iX2_fits_165 : decode cX2_fits 165 = .ok (.if_icmp .ge 7, 3) ∧ 165 + 3 = 168 := ⟨by decide +kernel, rfl⟩
theorem iX2_fits_168 : decode cX2_fits 168 = .ok (.iconst 1, 1) ∧ 168 + 1 = 169 := ⟨by decide +kernel, rfl⟩
theorem iX2_fits_169 : decode cX2_fits 169 = .ok (.goto 4, 3) ∧ 169 + 3 = 172 := ⟨by decide +kernel, rfl⟩
theorem iX2_fits_172 : decode cX2_fits 172 = .ok (.iconst 0, 1) ∧ 172 + 1 = 173 := ⟨by decide +kernel, rfl⟩
theorem iX2_fits_173 : decode cX2_fits 173 = .ok (.ireturn, 1) ∧ 173 + 1 = 174 := ⟨by decide +kernel, rfl⟩
theorem iX2_isOpenTo_0 : decode cX2_isOpenTo 0 = .ok (.aload_n 0, 1) ∧ 0 + 1 = 1 := ⟨by decide +kernel, rfl⟩
theorem iX2_isOpenTo_1 : decode cX2_isOpenTo 1 = .ok (.iload_n 1, 1) ∧ 1 + 1 = 2 := ⟨by decide +kernel, rfl⟩
theorem iX2_isOpenTo_2 : decode cX2_isOpenTo 2 = .ok (.invokevirtual 56, 3) ∧ 2 + 3 = 5 := ⟨by decide +kernel, rfl⟩
theorem iX2_isOpenTo_5 : decode cX2_isOpenTo 5 = .ok (.istore_n 2, 1) ∧ 5 + 1 = 6 := ⟨by decide +kernel, rfl⟩
theorem iX2_isOpenTo_6 : decode cX2_isOpenTo 6 = .ok (.iload_n 2, 1) ∧ 6 + 1 = 7 := ⟨by decide +kernel, rfl⟩
theorem iX2_isOpenTo_7 : decode cX2_isOpenTo 7 = .ok (.ifCond .lt 23, 3) ∧ 7 + 3 = 10 := ⟨by decide +kernel, rfl⟩
theorem iX2_isOpenTo_10 : decode cX2_isOpenTo 10 = .ok (.iload_n 2, 1) ∧ 10 + 1 = 11 := ⟨by decide +kernel, rfl⟩
theorem iX2_isOpenTo_11 : decode cX2_isOpenTo 11 = .ok (.aload_n 0, 1) ∧ 11 + 1 = 12 := ⟨by decide +kernel, rfl⟩
theorem iX2_isOpenTo_12 : decode cX2_isOpenTo 12 = .ok (.getfield 26, 3) ∧ 12 + 3 = 15 := ⟨by decide +kernel, rfl⟩
theorem iX2_isOpenTo_15 : decode cX2_isOpenTo 15 = .ok (.if_icmp .ge 15, 3) ∧ 15 + 3 = 18 := ⟨by decide +kernel, rfl⟩
theorem iX2_isOpenTo_18 : decode cX2_isOpenTo 18 = .ok (.aload_n 0, 1) ∧ 18 + 1 = 19 := ⟨by decide +kernel, rfl⟩
theorem iX2_isOpenTo_19 : decode cX2_isOpenTo 19 = .ok (.iconst 3, 1) ∧ 19 + 1 = 20 := ⟨by decide +kernel, rfl⟩
theorem iX2_isOpenTo_20 : decode cX2_isOpenTo 20 = .ok (.iload_n 2, 1) ∧ 20 + 1 = 21 := ⟨by decide +kernel, rfl⟩
theorem iX2_isOpenTo_21 : decode cX2_isOpenTo 21 = .ok (.iadd, 1) ∧ 21 + 1 = 22 := ⟨by decide +kernel, rfl⟩
theorem iX2_isOpenTo_22 : decode cX2_isOpenTo 22 = .ok (.invokevirtual 40, 3) ∧ 22 + 3 = 25 := ⟨by decide +kernel, rfl⟩
theorem iX2_isOpenTo_25 : decode cX2_isOpenTo 25 = .ok (.bipush 46, 2) ∧ 25 + 2 = 27 := ⟨by decide +kernel, rfl⟩
theorem iX2_isOpenTo_27 : decode cX2_isOpenTo 27 = .ok (.if_icmp .eq 5, 3) ∧ 27 + 3 = 30 := ⟨by decide +kernel, rfl⟩
theorem iX2_isOpenTo_30 : decode cX2_isOpenTo 30 = .ok (.iconst 0, 1) ∧ 30 + 1 = 31 := ⟨by decide +kernel, rfl⟩
theorem iX2_isOpenTo_31 : decode cX2_isOpenTo 31 = .ok (.ireturn, 1) ∧ 31 + 1 = 32 := ⟨by decide +kernel, rfl⟩
theorem iX2_isOpenTo_32 : decode cX2_isOpenTo 32 = .ok (.iconst 0, 1) ∧ 32 + 1 = 33 := ⟨by decide +kernel, rfl⟩
theorem iX2_isOpenTo_33 : decode cX2_isOpenTo 33 = .ok (.istore_n 3, 1) ∧ 33 + 1 = 34 := ⟨by decide +kernel, rfl⟩
theorem iX2_isOpenTo_34 : decode cX2_isOpenTo 34 = .ok (.iload_n 3, 1) ∧ 34 + 1 = 35 := ⟨by decide +kernel, rfl⟩
theorem iX2_isOpenTo_35 : decode cX2_isOpenTo 35 = .ok (.iload_n 1, 1) ∧ 35 + 1 = 36 := ⟨by decide +kernel, rfl⟩
theorem iX2_isOpenTo_36 : decode cX2_isOpenTo 36 = .ok (.if_icmp .ge 25, 3) ∧ 36 + 3 = 39 := ⟨by decide +kernel, rfl⟩
theorem iX2_isOpenTo_39 : decode cX2_isOpenTo 39 = .ok (.iload_n 3, 1) ∧ 39 + 1 = 40 := ⟨by decide +kernel, rfl⟩
theorem iX2_isOpenTo_40 : decode cX2_isOpenTo 40 = .ok (.iconst 4, 1) ∧ 40 + 1 = 41 := ⟨by decide +kernel, rfl⟩
theorem iX2_isOpenTo_41 : decode cX2_isOpenTo 41 = .ok (.if_icmp .ge 20, 3) ∧ 41 + 3 = 44 := ⟨by decide +kernel, rfl⟩
theorem iX2_isOpenTo_44 : decode cX2_isOpenTo 44 = .ok (.aload_n 0, 1) ∧ 44 + 1 = 45 := ⟨by decide +kernel, rfl⟩
theorem iX2_isOpenTo_45 : decode cX2_isOpenTo 45 = .ok (.iload_n 3, 1) ∧ 45 + 1 = 46 := ⟨by decide +kernel, rfl⟩
theorem iX2_isOpenTo_46 : decode cX2_isOpenTo 46 = .ok (.invokevirtual 56, 3) ∧ 46 + 3 = 49 := ⟨by decide +kernel, rfl⟩
theorem iX2_isOpenTo_49 : decode cX2_isOpenTo 49 = .ok (.iload_n 2, 1) ∧ 49 + 1 = 50 := ⟨by decide +kernel, rfl⟩
theorem iX2_isOpenTo_50 : decode cX2_isOpenTo 50 = .ok (.if_icmp .ne 5, 3) ∧ 50 + 3 = 53 := ⟨by decide +kernel, rfl⟩
theorem iX2_isOpenTo_53 : decode cX2_isOpenTo 53 = .ok (.iconst 0, 1) ∧ 53 + 1 = 54 := ⟨by decide +kernel, rfl⟩
theorem iX2_isOpenTo_54 : decode cX2_isOpenTo 54 = .ok (.ireturn, 1) ∧ 54 + 1 = 55 := ⟨by decide +kernel, rfl⟩
theorem iX2_isOpenTo_55 : decode cX2_isOpenTo 55 = .ok (.iinc 3 1, 3) ∧ 55 + 3 = 58 := ⟨by decide +kernel, rfl⟩
theorem iX2_isOpenTo_58 : decode cX2_isOpenTo 58 = .ok (.goto (-24), 3) ∧ 58 + 3 = 61 := ⟨by decide +kernel, rfl⟩
theorem iX2_isOpenTo_61 : decode cX2_isOpenTo 61 = .ok (.iconst 1, 1) ∧ 61 + 1 = 62 := ⟨by decide +kernel, rfl⟩
theorem iX2_isOpenTo_62 : decode cX2_isOpenTo 62 = .ok (.ireturn, 1) ∧ 62 + 1 = 63 := ⟨by decide +kernel, rfl⟩
theorem iX3_init_0 : decode cX3_init 0 = .ok (.aload_n 0, 1) ∧ 0 + 1 = 1 := ⟨by decide +kernel, rfl⟩
theorem iX3_init_1 : decode cX3_init 1 = .ok (.invokespecial 3, 3) ∧ 1 + 3 = 4 := ⟨by decide +kernel, rfl⟩
theorem iX3_init_4 : decode cX3_init 4 = .ok (.aload_n 0, 1) ∧ 4 + 1 = 5 := ⟨by decide +kernel, rfl⟩
theorem iX3_init_5 : decode cX3_init 5 = .ok (.iconst 4, 1) ∧ 5 + 1 = 6 := ⟨by decide +kernel, rfl⟩
theorem iX3_init_6 : decode cX3_init 6 = .ok (.newarray .int, 2) ∧ 6 + 2 = 8 := ⟨by decide +kernel, rfl⟩
theorem iX3_init_8 : decode cX3_init 8 = .ok (.putfield 9, 3) ∧ 8 + 3 = 11 := ⟨by decide +kernel, rfl⟩
theorem iX3_init_11 : decode cX3_init 11 = .ok (.aload_n 0, 1) ∧ 11 + 1 = 12 := ⟨by decide +kernel, rfl⟩
theorem iX3_init_12 : decode cX3_init 12 = .ok (.iconst 4, 1) ∧ 12 + 1 = 13 := ⟨by decide +kernel, rfl⟩
theorem iX3_init_13 : decode cX3_init 13 = .ok (.newarray .int, 2) ∧ 13 + 2 = 15 := ⟨by decide +kernel, rfl⟩
theorem iX3_init_15 : decode cX3_init 15 = .ok (.putfield 15, 3) ∧ 15 + 3 = 18 := ⟨by decide +kernel, rfl⟩
theorem iX3_init_18 : decode cX3_init 18 = .ok (.aload_n 0, 1) ∧ 18 + 1 = 19 := ⟨by decide +kernel, rfl⟩
theorem iX3_init_19 : decode cX3_init 19 = .ok (.bipush 6, 2) ∧ 19 + 2 = 21 := ⟨by decide +kernel, rfl⟩
theorem iX3_init_21 : decode cX3_init 21 = .ok (.newarray .int, 2) ∧ 21 + 2 = 23 := ⟨by decide +kernel, rfl⟩
theorem iX3_init_23 : decode cX3_init 23 = .ok (.putfield 18, 3) ∧ 23 + 3 = 26 := ⟨by decide +kernel, rfl⟩
theorem iX3_init_26 : decode cX3_init 26 = .ok (.aload_n 0, 1) ∧ 26 + 1 = 27 := ⟨by decide +kernel, rfl⟩
theorem iX3_init_27 : decode cX3_init 27 = .ok (.bipush 6, 2) ∧ 27 + 2 = 29 := ⟨by decide +kernel, rfl⟩
theorem iX3_init_29 : decode cX3_init 29 = .ok (.newarray .int, 2) ∧ 29 + 2 = 31 := ⟨by decide +kernel, rfl⟩
theorem iX3_init_31 : decode cX3_init 31 = .ok (.putfield 21, 3) ∧ 31 + 3 = 34 := ⟨by decide +kernel, rfl⟩
theorem iX3_init_34 : decode cX3_init 34 = .ok (.return_, 1) ∧ 34 + 1 = 35 := ⟨by decide +kernel, rfl⟩
theorem iX3_isThere_0 : decode cX3_isThere 0 = .ok (.aload_n 0, 1) ∧ 0 + 1 = 1 := ⟨by decide +kernel, rfl⟩
theorem iX3_isThere_1 : decode cX3_isThere 1 = .ok (.getfield 24, 3) ∧ 1 + 3 = 4 := ⟨by decide +kernel, rfl⟩
theorem iX3_isThere_4 : decode cX3_isThere 4 = .ok (.ifCond .le 7, 3) ∧ 4 + 3 = 7 := ⟨by decide +kernel, rfl⟩
theorem iX3_isThere_7 : decode cX3_isThere 7 = .ok (.iconst 1, 1) ∧ 7 + 1 = 8 := ⟨by decide +kernel, rfl⟩
theorem iX3_isThere_8 : decode cX3_isThere 8 = .ok (.goto 4, 3) ∧ 8 + 3 = 11 := ⟨by decide +kernel, rfl⟩
theorem iX3_isThere_11 : decode cX3_isThere 11 = .ok (.iconst 0, 1) ∧ 11 + 1 = 12 := ⟨by decide +kernel, rfl⟩
theorem iX3_isThere_12 : decode cX3_isThere 12 = .ok (.ireturn, 1) ∧ 12 + 1 = 13 := ⟨by decide +kernel, rfl⟩
theorem iX3_hasLeaper_0 : decode cX3_hasLeaper 0 = .ok (.iload_n 1, 1) ∧ 0 + 1 = 1 := ⟨by decide +kernel, rfl⟩
theorem iX3_hasLeaper_1 : decode cX3_hasLeaper 1 = .ok (.ifCond .lt 20, 3) ∧ 1 + 3 = 4 := ⟨by decide +kernel, rfl⟩
theorem iX3_hasLeaper_4 : decode cX3_hasLeaper 4 = .ok (.iload_n 1, 1) ∧ 4 + 1 = 5 := ⟨by decide +kernel, rfl⟩
theorem iX3_hasLeaper_5 : decode cX3_hasLeaper 5 = .ok (.aload_n 0, 1) ∧ 5 + 1 = 6 := ⟨by decide +kernel, rfl⟩
theorem iX3_hasLeaper_6 : decode cX3_hasLeaper 6 = .ok (.getfield 24, 3) ∧ 6 + 3 = 9 := ⟨by decide +kernel, rfl⟩
theorem iX3_hasLeaper_9 : decode cX3_hasLeaper 9 = .ok (.if_icmp .ge 12, 3) ∧ 9 + 3 = 12 := ⟨by decide +kernel, rfl⟩
theorem iX3_hasLeaper_12 : decode cX3_hasLeaper 12 = .ok (.iload_n 1, 1) ∧ 12 + 1 = 13 := ⟨by decide +kernel, rfl⟩
theorem iX3_hasLeaper_13 : decode cX3_hasLeaper 13 = .ok (.iconst 4, 1) ∧ 13 + 1 = 14 := ⟨by decide +kernel, rfl⟩
theorem iX3_hasLeaper_14 : decode cX3_hasLeaper 14 = .ok (.if_icmp .ge 7, 3) ∧ 14 + 3 = 17 := ⟨by decide +kernel, rfl⟩
theorem iX3_hasLeaper_17 : decode cX3_hasLeaper 17 = .ok (.iconst 1, 1) ∧ 17 + 1 = 18 := ⟨by decide +kernel, rfl⟩
theorem iX3_hasLeaper_18 : decode cX3_hasLeaper 18 = .ok (.goto 4, 3) ∧ 18 + 3 = 21 := ⟨by decide +kernel, rfl⟩
theorem iX3_hasLeaper_21 : decode cX3_hasLeaper 21 = .ok (.iconst 0, 1) ∧ 21 + 1 = 22 := ⟨by decide +kernel, rfl⟩
theorem iX3_hasLeaper_22 : decode cX3_hasLeaper 22 = .ok (.ireturn, 1) ∧ 22 + 1 = 23 := ⟨by decide +kernel, rfl⟩
theorem iX3_kindOf_0 : decode cX3_kindOf 0 = .ok (.aload_n 0, 1) ∧ 0 + 1 = 1 := ⟨by decide +kernel, rfl⟩
theorem iX3_kindOf_1 : decode cX3_kindOf 1 = .ok (.iload_n 1, 1) ∧ 1 + 1 = 2 := ⟨by decide +kernel, rfl⟩
theorem iX3_kindOf_2 : decode cX3_kindOf 2 = .ok (.invokevirtual 28, 3) ∧ 2 + 3 = 5 := ⟨by decide +kernel, rfl⟩
theorem iX3_kindOf_5 : decode cX3_kindOf 5 = .ok (.ifCond .eq 12, 3) ∧ 5 + 3 = 8 := ⟨by decide +kernel, rfl⟩
theorem iX3_kindOf_8 : decode cX3_kindOf 8 = .ok (.aload_n 0, 1) ∧ 8 + 1 = 9 := ⟨by decide +kernel, rfl⟩
theorem iX3_kindOf_9 : decode cX3_kindOf 9 = .ok (.getfield 9, 3) ∧ 9 + 3 = 12 := ⟨by decide +kernel, rfl⟩
theorem iX3_kindOf_12 : decode cX3_kindOf 12 = .ok (.iload_n 1, 1) ∧ 12 + 1 = 13 := ⟨by decide +kernel, rfl⟩
theorem iX3_kindOf_13 : decode cX3_kindOf 13 = .ok (.iaload, 1) ∧ 13 + 1 = 14 := ⟨by decide +kernel, rfl⟩
theorem iX3_kindOf_14 : decode cX3_kindOf 14 = .ok (.goto 4, 3) ∧ 14 + 3 = 17 := ⟨by decide +kernel, rfl⟩
theorem iX3_kindOf_17 : decode cX3_kindOf 17 = .ok (.iconst (-1), 1) ∧ 17 + 1 = 18 := ⟨by decide +kernel, rfl⟩
theorem iX3_kindOf_18 : decode cX3_kindOf 18 = .ok (.ireturn, 1) ∧ 18 + 1 = 19 := ⟨by decide +kernel, rfl⟩
theorem iX3_standOf_0 : decode cX3_standOf 0 = .ok (.aload_n 0, 1) ∧ 0 + 1 = 1 := ⟨by decide +kernel, rfl⟩
theorem iX3_standOf_1 : decode cX3_standOf 1 = .ok (.iload_n 1, 1) ∧ 1 + 1 = 2 := ⟨by decide +kernel, rfl⟩
theorem iX3_standOf_2 : decode cX3_standOf 2 = .ok (.invokevirtual 28, 3) ∧ 2 + 3 = 5 := ⟨by decide +kernel, rfl⟩
theorem iX3_standOf_5 : decode cX3_standOf 5 = .ok (.ifCond .eq 12, 3) ∧ 5 + 3 = 8 := ⟨by decide +kernel, rfl⟩
theorem iX3_standOf_8 : decode cX3_standOf 8 = .ok (.aload_n 0, 1) ∧ 8 + 1 = 9 := ⟨by decide +kernel, rfl⟩
theorem iX3_standOf_9 : decode cX3_standOf 9 = .ok (.getfield 15, 3) ∧ 9 + 3 = 12 := ⟨by decide +kernel, rfl⟩
theorem iX3_standOf_12 : decode cX3_standOf 12 = .ok (.iload_n 1, 1) ∧ 12 + 1 = 13 := ⟨by decide +kernel, rfl⟩
theorem iX3_standOf_13 : decode cX3_standOf 13 = .ok (.iaload, 1) ∧ 13 + 1 = 14 := ⟨by decide +kernel, rfl⟩
theorem iX3_standOf_14 : decode cX3_standOf 14 = .ok (.goto 4, 3) ∧ 14 + 3 = 17 := ⟨by decide +kernel, rfl⟩
theorem iX3_standOf_17 : decode cX3_standOf 17 = .ok (.iconst (-1), 1) ∧ 17 + 1 = 18 := ⟨by decide +kernel, rfl⟩
theorem iX3_standOf_18 : decode cX3_standOf 18 = .ok (.ireturn, 1) ∧ 18 + 1 = 19 := ⟨by decide +kernel, rfl⟩
theorem iX3_empty_0 : decode cX3_empty 0 = .ok (.aload_n 0, 1) ∧ 0 + 1 = 1 := ⟨by decide +kernel, rfl⟩
theorem iX3_empty_1 : decode cX3_empty 1 = .ok (.getfield 32, 3) ∧ 1 + 3 = 4 := ⟨by decide +kernel, rfl⟩
theorem iX3_empty_4 : decode cX3_empty 4 = .ok (.istore_n 1, 1) ∧ 4 + 1 = 5 := ⟨by decide +kernel, rfl⟩
theorem iX3_empty_5 : decode cX3_empty 5 = .ok (.iconst 0, 1) ∧ 5 + 1 = 6 := ⟨by decide +kernel, rfl⟩
theorem iX3_empty_6 : decode cX3_empty 6 = .ok (.istore_n 2, 1) ∧ 6 + 1 = 7 := ⟨by decide +kernel, rfl⟩
theorem iX3_empty_7 : decode cX3_empty 7 = .ok (.iload_n 2, 1) ∧ 7 + 1 = 8 := ⟨by decide +kernel, rfl⟩
theorem iX3_empty_8 : decode cX3_empty 8 = .ok (.aload_n 0, 1) ∧ 8 + 1 = 9 := ⟨by decide +kernel, rfl⟩
theorem iX3_empty_9 : decode cX3_empty 9 = .ok (.getfield 24, 3) ∧ 9 + 3 = 12 := ⟨by decide +kernel, rfl⟩
theorem iX3_empty_12 : decode cX3_empty 12 = .ok (.if_icmp .ge 27, 3) ∧ 12 + 3 = 15 := ⟨by decide +kernel, rfl⟩
theorem iX3_empty_15 : decode cX3_empty 15 = .ok (.iload_n 2, 1) ∧ 15 + 1 = 16 := ⟨by decide +kernel, rfl⟩
theorem iX3_empty_16 : decode cX3_empty 16 = .ok (.iconst 4, 1) ∧ 16 + 1 = 17 := ⟨by decide +kernel, rfl⟩
theorem iX3_empty_17 : decode cX3_empty 17 = .ok (.if_icmp .ge 22, 3) ∧ 17 + 3 = 20 := ⟨by decide +kernel, rfl⟩
theorem iX3_empty_20 : decode cX3_empty 20 = .ok (.iload_n 1, 1) ∧ 20 + 1 = 21 := ⟨by decide +kernel, rfl⟩
theorem iX3_empty_21 : decode cX3_empty 21 = .ok (.iconst 1, 1) ∧ 21 + 1 = 22 := ⟨by decide +kernel, rfl⟩
theorem iX3_empty_22 : decode cX3_empty 22 = .ok (.aload_n 0, 1) ∧ 22 + 1 = 23 := ⟨by decide +kernel, rfl⟩
theorem iX3_empty_23 : decode cX3_empty 23 = .ok (.getfield 15, 3) ∧ 23 + 3 = 26 := ⟨by decide +kernel, rfl⟩
theorem iX3_empty_26 : decode cX3_empty 26 = .ok (.iload_n 2, 1) ∧ 26 + 1 = 27 := ⟨by decide +kernel, rfl⟩
theorem iX3_empty_27 : decode cX3_empty 27 = .ok (.iaload, 1) ∧ 27 + 1 = 28 := ⟨by decide +kernel, rfl⟩
theorem iX3_empty_28 : decode cX3_empty 28 = .ok (.ishl, 1) ∧ 28 + 1 = 29 := ⟨by decide +kernel, rfl⟩
theorem iX3_empty_29 : decode cX3_empty 29 = .ok (.iconst (-1), 1) ∧ 29 + 1 = 30 := ⟨by decide +kernel, rfl⟩
theorem iX3_empty_30 : decode cX3_empty 30 = .ok (.ixor, 1) ∧ 30 + 1 = 31 := ⟨by decide +kernel, rfl⟩
theorem iX3_empty_31 : decode cX3_empty 31 = .ok (.iand, 1) ∧ 31 + 1 = 32 := ⟨by decide +kernel, rfl⟩
theorem iX3_empty_32 : decode cX3_empty 32 = .ok (.istore_n 1, 1) ∧ 32 + 1 = 33 := ⟨by decide +kernel, rfl⟩
theorem iX3_empty_33 : decode cX3_empty 33 = .ok (.iinc 2 1, 3) ∧ 33 + 3 = 36 := ⟨by decide +kernel, rfl⟩
theorem iX3_empty_36 : decode cX3_empty 36 = .ok (.goto (-29), 3) ∧ 36 + 3 = 39 := ⟨by decide +kernel, rfl⟩
theorem iX3_empty_39 : decode cX3_empty 39 = .ok (.iload_n 1, 1) ∧ 39 + 1 = 40 := ⟨by decide +kernel, rfl⟩
theorem iX3_empty_40 : decode cX3_empty 40 = .ok (.ireturn, 1) ∧ 40 + 1 = 41 := ⟨by decide +kernel, rfl⟩
theorem iX3_whoStands_0 : decode cX3_whoStands 0 = .ok (.iconst 0, 1) ∧ 0 + 1 = 1 := ⟨by decide +kernel, rfl⟩
theorem iX3_whoStands_1 : decode cX3_whoStands 1 = .ok (.istore_n 2, 1) ∧ 1 + 1 = 2 := ⟨by decide +kernel, rfl⟩
theorem iX3_whoStands_2 : decode cX3_whoStands 2 = .ok (.iload_n 2, 1) ∧ 2 + 1 = 3 := ⟨by decide +kernel, rfl⟩
theorem iX3_whoStands_3 : decode cX3_whoStands 3 = .ok (.aload_n 0, 1) ∧ 3 + 1 = 4 := ⟨by decide +kernel, rfl⟩
theorem iX3_whoStands_4 : decode cX3_whoStands 4 = .ok (.getfield 24, 3) ∧ 4 + 3 = 7 := ⟨by decide +kernel, rfl⟩
theorem iX3_whoStands_7 : decode cX3_whoStands 7 = .ok (.if_icmp .ge 26, 3) ∧ 7 + 3 = 10 := ⟨by decide +kernel, rfl⟩
theorem iX3_whoStands_10 : decode cX3_whoStands 10 = .ok (.iload_n 2, 1) ∧ 10 + 1 = 11 := ⟨by decide +kernel, rfl⟩
theorem iX3_whoStands_11 : decode cX3_whoStands 11 = .ok (.iconst 4, 1) ∧ 11 + 1 = 12 := ⟨by decide +kernel, rfl⟩
theorem iX3_whoStands_12 : decode cX3_whoStands 12 = .ok (.if_icmp .ge 21, 3) ∧ 12 + 3 = 15 := ⟨by decide +kernel, rfl⟩
theorem iX3_whoStands_15 : decode cX3_whoStands 15 = .ok (.aload_n 0, 1) ∧ 15 + 1 = 16 := ⟨by decide +kernel, rfl⟩
theorem iX3_whoStands_16 : decode cX3_whoStands 16 = .ok (.getfield 15, 3) ∧ 16 + 3 = 19 := ⟨by decide +kernel, rfl⟩
theorem iX3_whoStands_19 : decode cX3_whoStands 19 = .ok (.iload_n 2, 1) ∧ 19 + 1 = 20 := ⟨by decide +kernel, rfl⟩
theorem iX3_whoStands_20 : decode cX3_whoStands 20 = .ok (.iaload, 1) ∧ 20 + 1 = 21 := ⟨by decide +kernel, rfl⟩
theorem iX3_whoStands_21 : decode cX3_whoStands 21 = .ok (.iload_n 1, 1) ∧ 21 + 1 = 22 := ⟨by decide +kernel, rfl⟩
theorem iX3_whoStands_22 : decode cX3_whoStands 22 = .ok (.if_icmp .ne 5, 3) ∧ 22 + 3 = 25 := ⟨by decide +kernel, rfl⟩
theorem iX3_whoStands_25 : decode cX3_whoStands 25 = .ok (.iload_n 2, 1) ∧ 25 + 1 = 26 := ⟨by decide +kernel, rfl⟩
theorem iX3_whoStands_26 : decode cX3_whoStands 26 = .ok (.ireturn, 1) ∧ 26 + 1 = 27 := ⟨by decide +kernel, rfl⟩
theorem iX3_whoStands_27 : decode cX3_whoStands 27 = .ok (.iinc 2 1, 3) ∧ 27 + 3 = 30 := ⟨by decide +kernel, rfl⟩
theorem iX3_whoStands_30 : decode cX3_whoStands 30 = .ok (.goto (-28), 3) ∧ 30 + 3 = 33 := ⟨by decide +kernel, rfl⟩
theorem iX3_whoStands_33 : decode cX3_whoStands 33 = .ok (.iconst (-1), 1) ∧ 33 + 1 = 34 := ⟨by decide +kernel, rfl⟩
theorem iX3_whoStands_34 : decode cX3_whoStands 34 = .ok (.ireturn, 1) ∧ 34 + 1 = 35 := ⟨by decide +kernel, rfl⟩
theorem iX3_note_0 : decode cX3_note 0 = .ok (.aload_n 0, 1) ∧ 0 + 1 = 1 := ⟨by decide +kernel, rfl⟩
theorem iX3_note_1 : decode cX3_note 1 = .ok (.getfield 35, 3) ∧ 1 + 3 = 4 := ⟨by decide +kernel, rfl⟩
theorem iX3_note_4 : decode cX3_note 4 = .ok (.ifCond .lt 12, 3) ∧ 4 + 3 = 7 := ⟨by decide +kernel, rfl⟩
theorem iX3_note_7 : decode cX3_note 7 = .ok (.aload_n 0, 1) ∧ 7 + 1 = 8 := ⟨by decide +kernel, rfl⟩
theorem iX3_note_8 : decode cX3_note 8 = .ok (.getfield 35, 3) ∧ 8 + 3 = 11 := ⟨by decide +kernel, rfl⟩
theorem iX3_note_11 : decode cX3_note 11 = .ok (.bipush 6, 2) ∧ 11 + 2 = 13 := ⟨by decide +kernel, rfl⟩
theorem iX3_note_13 : decode cX3_note 13 = .ok (.if_icmp .lt 5, 3) ∧ 13 + 3 = 16 := ⟨by decide +kernel, rfl⟩
theorem iX3_note_16 : decode cX3_note 16 = .ok (.iconst 0, 1) ∧ 16 + 1 = 17 := ⟨by decide +kernel, rfl⟩
theorem iX3_note_17 : decode cX3_note 17 = .ok (.ireturn, 1) ∧ 17 + 1 = 18 := ⟨by decide +kernel, rfl⟩
theorem iX3_note_18 : decode cX3_note 18 = .ok (.aload_n 0, 1) ∧ 18 + 1 = 19 := ⟨by decide +kernel, rfl⟩
theorem iX3_note_19 : decode cX3_note 19 = .ok (.getfield 18, 3) ∧ 19 + 3 = 22 := ⟨by decide +kernel, rfl⟩
theorem iX3_note_22 : decode cX3_note 22 = .ok (.aload_n 0, 1) ∧ 22 + 1 = 23 := ⟨by decide +kernel, rfl⟩
theorem iX3_note_23 : decode cX3_note 23 = .ok (.getfield 35, 3) ∧ 23 + 3 = 26 := ⟨by decide +kernel, rfl⟩
theorem iX3_note_26 : decode cX3_note 26 = .ok (.iload_n 1, 1) ∧ 26 + 1 = 27 := ⟨by decide +kernel, rfl⟩
theorem iX3_note_27 : decode cX3_note 27 = .ok (.iastore, 1) ∧ 27 + 1 = 28 := ⟨by decide +kernel, rfl⟩
theorem iX3_note_28 : decode cX3_note 28 = .ok (.aload_n 0, 1) ∧ 28 + 1 = 29 := ⟨by decide +kernel, rfl⟩
theorem iX3_note_29 : decode cX3_note 29 = .ok (.getfield 21, 3) ∧ 29 + 3 = 32 := ⟨by decide +kernel, rfl⟩
theorem iX3_note_32 : decode cX3_note 32 = .ok (.aload_n 0, 1) ∧ 32 + 1 = 33 := ⟨by decide +kernel, rfl⟩
theorem iX3_note_33 : decode cX3_note 33 = .ok (.getfield 35, 3) ∧ 33 + 3 = 36 := ⟨by decide +kernel, rfl⟩
theorem iX3_note_36 : decode cX3_note 36 = .ok (.iload_n 2, 1) ∧ 36 + 1 = 37 := ⟨by decide +kernel, rfl⟩
theorem iX3_note_37 : decode cX3_note 37 = .ok (.iastore, 1) ∧ 37 + 1 = 38 := ⟨by decide +kernel, rfl⟩
theorem iX3_note_38 : decode cX3_note 38 = .ok (.aload_n 0, 1) ∧ 38 + 1 = 39 := ⟨by decide +kernel, rfl⟩
theorem iX3_note_39 : decode cX3_note 39 = .ok (.dup, 1) ∧ 39 + 1 = 40 := ⟨by decide +kernel, rfl⟩
theorem iX3_note_40 : decode cX3_note 40 = .ok (.getfield 35, 3) ∧ 40 + 3 = 43 := ⟨by decide +kernel, rfl⟩
theorem iX3_note_43 : decode cX3_note 43 = .ok (.iconst 1, 1) ∧ 43 + 1 = 44 := ⟨by decide +kernel, rfl⟩
theorem iX3_note_44 : decode cX3_note 44 = .ok (.iadd, 1) ∧ 44 + 1 = 45 := ⟨by decide +kernel, rfl⟩
theorem iX3_note_45 : decode cX3_note 45 = .ok (.putfield 35, 3) ∧ 45 + 3 = 48 := ⟨by decide +kernel, rfl⟩
theorem iX3_note_48 : decode cX3_note 48 = .ok (.iconst 1, 1) ∧ 48 + 1 = 49 := ⟨by decide +kernel, rfl⟩
theorem iX3_note_49 : decode cX3_note 49 = .ok (.ireturn, 1) ∧ 49 + 1 = 50 := ⟨by decide +kernel, rfl⟩
theorem iX3_sorts_0 : decode cX3_sorts 0 = .ok (.bipush 31, 2) ∧ 0 + 2 = 2 := ⟨by decide +kernel, rfl⟩
theorem iX3_sorts_2 : decode cX3_sorts 2 = .ok (.istore_n 2, 1) ∧ 2 + 1 = 3 := ⟨by decide +kernel, rfl⟩
theorem iX3_sorts_3 : decode cX3_sorts 3 = .ok (.iconst 0, 1) ∧ 3 + 1 = 4 := ⟨by decide +kernel, rfl⟩
theorem iX3_sorts_4 : decode cX3_sorts 4 = .ok (.istore_n 3, 1) ∧ 4 + 1 = 5 := ⟨by decide +kernel, rfl⟩
theorem iX3_sorts_5 : decode cX3_sorts 5 = .ok (.iload_n 3, 1) ∧ 5 + 1 = 6 := ⟨by decide +kernel, rfl⟩
theorem iX3_sorts_6 : decode cX3_sorts 6 = .ok (.aload_n 0, 1) ∧ 6 + 1 = 7 := ⟨by decide +kernel, rfl⟩
theorem iX3_sorts_7 : decode cX3_sorts 7 = .ok (.getfield 35, 3) ∧ 7 + 3 = 10 := ⟨by decide +kernel, rfl⟩
theorem iX3_sorts_10 : decode cX3_sorts 10 = .ok (.if_icmp .ge 34, 3) ∧ 10 + 3 = 13 := ⟨by decide +kernel, rfl⟩
theorem iX3_sorts_13 : decode cX3_sorts 13 = .ok (.iload_n 3, 1) ∧ 13 + 1 = 14 := ⟨by decide +kernel, rfl⟩
theorem iX3_sorts_14 : decode cX3_sorts 14 = .ok (.bipush 6, 2) ∧ 14 + 2 = 16 := ⟨by decide +kernel, rfl⟩
theorem iX3_sorts_16 : decode cX3_sorts 16 = .ok (.if_icmp .ge 28, 3) ∧ 16 + 3 = 19 := ⟨by decide +kernel, rfl⟩
theorem iX3_sorts_19 : decode cX3_sorts 19 = .ok (.aload_n 0, 1) ∧ 19 + 1 = 20 := ⟨by decide +kernel, rfl⟩
theorem iX3_sorts_20 : decode cX3_sorts 20 = .ok (.getfield 18, 3) ∧ 20 + 3 = 23 := ⟨by decide +kernel, rfl⟩
theorem iX3_sorts_23 : decode cX3_sorts 23 = .ok (.iload_n 3, 1) ∧ 23 + 1 = 24 := ⟨by decide +kernel, rfl⟩
theorem iX3_sorts_24 : decode cX3_sorts 24 = .ok (.iaload, 1) ∧ 24 + 1 = 25 := ⟨by decide +kernel, rfl⟩
theorem iX3_sorts_25 : decode cX3_sorts 25 = .ok (.iload_n 1, 1) ∧ 25 + 1 = 26 := ⟨by decide +kernel, rfl⟩
theorem iX3_sorts_26 : decode cX3_sorts 26 = .ok (.if_icmp .ne 12, 3) ∧ 26 + 3 = 29 := ⟨by decide +kernel, rfl⟩
theorem iX3_sorts_29 : decode cX3_sorts 29 = .ok (.iload_n 2, 1) ∧ 29 + 1 = 30 := ⟨by decide +kernel, rfl⟩
theorem iX3_sorts_30 : decode cX3_sorts 30 = .ok (.aload_n 0, 1) ∧ 30 + 1 = 31 := ⟨by decide +kernel, rfl⟩
theorem iX3_sorts_31 : decode cX3_sorts 31 = .ok (.getfield 21, 3) ∧ 31 + 3 = 34 := ⟨by decide +kernel, rfl⟩
theorem iX3_sorts_34 : decode cX3_sorts 34 = .ok (.iload_n 3, 1) ∧ 34 + 1 = 35 := ⟨by decide +kernel, rfl⟩
theorem iX3_sorts_35 : decode cX3_sorts 35 = .ok (.iaload, 1) ∧ 35 + 1 = 36 := ⟨by decide +kernel, rfl⟩
theorem iX3_sorts_36 : decode cX3_sorts 36 = .ok (.iand, 1) ∧ 36 + 1 = 37 := ⟨by decide +kernel, rfl⟩
theorem iX3_sorts_37 : decode cX3_sorts 37 = .ok (.istore_n 2, 1) ∧ 37 + 1 = 38 := ⟨by decide +kernel, rfl⟩
theorem iX3_sorts_38 : decode cX3_sorts 38 = .ok (.iinc 3 1, 3) ∧ 38 + 3 = 41 := ⟨by decide +kernel, rfl⟩
theorem iX3_sorts_41 : decode cX3_sorts 41 = .ok (.goto (-36), 3) ∧ 41 + 3 = 44 := ⟨by decide +kernel, rfl⟩
theorem iX3_sorts_44 : decode cX3_sorts 44 = .ok (.iload_n 2, 1) ∧ 44 + 1 = 45 := ⟨by decide +kernel, rfl⟩
theorem iX3_sorts_45 : decode cX3_sorts 45 = .ok (.ireturn, 1) ∧ 45 + 1 = 46 := ⟨by decide +kernel, rfl⟩
theorem iX3_copy_0 : decode cX3_copy 0 = .ok (.aload_n 0, 1) ∧ 0 + 1 = 1 := ⟨by decide +kernel, rfl⟩
theorem iX3_copy_1 : decode cX3_copy 1 = .ok (.aload_n 1, 1) ∧ 1 + 1 = 2 := ⟨by decide +kernel, rfl⟩
theorem iX3_copy_2 : decode cX3_copy 2 = .ok (.getfield 32, 3) ∧ 2 + 3 = 5 := ⟨by decide +kernel, rfl⟩
theorem iX3_copy_5 : decode cX3_copy 5 = .ok (.putfield 32, 3) ∧ 5 + 3 = 8 := ⟨by decide +kernel, rfl⟩
theorem iX3_copy_8 : decode cX3_copy 8 = .ok (.aload_n 0, 1) ∧ 8 + 1 = 9 := ⟨by decide +kernel, rfl⟩
theorem iX3_copy_9 : decode cX3_copy 9 = .ok (.aload_n 1, 1) ∧ 9 + 1 = 10 := ⟨by decide +kernel, rfl⟩
theorem iX3_copy_10 : decode cX3_copy 10 = .ok (.getfield 24, 3) ∧ 10 + 3 = 13 := ⟨by decide +kernel, rfl⟩
theorem iX3_copy_13 : decode cX3_copy 13 = .ok (.putfield 24, 3) ∧ 13 + 3 = 16 := ⟨by decide +kernel, rfl⟩
theorem iX3_copy_16 : decode cX3_copy 16 = .ok (.aload_n 0, 1) ∧ 16 + 1 = 17 := ⟨by decide +kernel, rfl⟩
theorem iX3_copy_17 : decode cX3_copy 17 = .ok (.aload_n 1, 1) ∧ 17 + 1 = 18 := ⟨by decide +kernel, rfl⟩
theorem iX3_copy_18 : decode cX3_copy 18 = .ok (.getfield 38, 3) ∧ 18 + 3 = 21 := ⟨by decide +kernel, rfl⟩
theorem iX3_copy_21 : decode cX3_copy 21 = .ok (.putfield 38, 3) ∧ 21 + 3 = 24 := ⟨by decide +kernel, rfl⟩
theorem iX3_copy_24 : decode cX3_copy 24 = .ok (.aload_n 0, 1) ∧ 24 + 1 = 25 := ⟨by decide +kernel, rfl⟩
theorem iX3_copy_25 : decode cX3_copy 25 = .ok (.aload_n 1, 1) ∧ 25 + 1 = 26 := ⟨by decide +kernel, rfl⟩
theorem iX3_copy_26 : decode cX3_copy 26 = .ok (.getfield 35, 3) ∧ 26 + 3 = 29 := ⟨by decide +kernel, rfl⟩
theorem iX3_copy_29 : decode cX3_copy 29 = .ok (.putfield 35, 3) ∧ 29 + 3 = 32 := ⟨by decide +kernel, rfl⟩
theorem iX3_copy_32 : decode cX3_copy 32 = .ok (.iconst 0, 1) ∧ 32 + 1 = 33 := ⟨by decide +kernel, rfl⟩
theorem iX3_copy_33 : decode cX3_copy 33 = .ok (.istore_n 2, 1) ∧ 33 + 1 = 34 := ⟨by decide +kernel, rfl⟩
theorem iX3_copy_34 : decode cX3_copy 34 = .ok (.iload_n 2, 1) ∧ 34 + 1 = 35 := ⟨by decide +kernel, rfl⟩
theorem iX3_copy_35 : decode cX3_copy 35 = .ok (.iconst 4, 1) ∧ 35 + 1 = 36 := ⟨by decide +kernel, rfl⟩
theorem iX3_copy_36 : decode cX3_copy 36 = .ok (.if_icmp .ge 33, 3) ∧ 36 + 3 = 39 := ⟨by decide +kernel, rfl⟩
theorem iX3_copy_39 : decode cX3_copy 39 = .ok (.aload_n 0, 1) ∧ 39 + 1 = 40 := ⟨by decide +kernel, rfl⟩
theorem iX3_copy_40 : decode cX3_copy 40 = .ok (.getfield 9, 3) ∧ 40 + 3 = 43 := ⟨by decide +kernel, rfl⟩
theorem iX3_copy_43 : decode cX3_copy 43 = .ok (.iload_n 2, 1) ∧ 43 + 1 = 44 := ⟨by decide +kernel, rfl⟩
theorem iX3_copy_44 : decode cX3_copy 44 = .ok (.aload_n 1, 1) ∧ 44 + 1 = 45 := ⟨by decide +kernel, rfl⟩
theorem iX3_copy_45 : decode cX3_copy 45 = .ok (.getfield 9, 3) ∧ 45 + 3 = 48 := ⟨by decide +kernel, rfl⟩
theorem iX3_copy_48 : decode cX3_copy 48 = .ok (.iload_n 2, 1) ∧ 48 + 1 = 49 := ⟨by decide +kernel, rfl⟩
theorem iX3_copy_49 : decode cX3_copy 49 = .ok (.iaload, 1) ∧ 49 + 1 = 50 := ⟨by decide +kernel, rfl⟩
theorem iX3_copy_50 : decode cX3_copy 50 = .ok (.iastore, 1) ∧ 50 + 1 = 51 := ⟨by decide +kernel, rfl⟩
theorem iX3_copy_51 : decode cX3_copy 51 = .ok (.aload_n 0, 1) ∧ 51 + 1 = 52 := ⟨by decide +kernel, rfl⟩
theorem iX3_copy_52 : decode cX3_copy 52 = .ok (.getfield 15, 3) ∧ 52 + 3 = 55 := ⟨by decide +kernel, rfl⟩
theorem iX3_copy_55 : decode cX3_copy 55 = .ok (.iload_n 2, 1) ∧ 55 + 1 = 56 := ⟨by decide +kernel, rfl⟩
theorem iX3_copy_56 : decode cX3_copy 56 = .ok (.aload_n 1, 1) ∧ 56 + 1 = 57 := ⟨by decide +kernel, rfl⟩
theorem iX3_copy_57 : decode cX3_copy 57 = .ok (.getfield 15, 3) ∧ 57 + 3 = 60 := ⟨by decide +kernel, rfl⟩
theorem iX3_copy_60 : decode cX3_copy 60 = .ok (.iload_n 2, 1) ∧ 60 + 1 = 61 := ⟨by decide +kernel, rfl⟩
theorem iX3_copy_61 : decode cX3_copy 61 = .ok (.iaload, 1) ∧ 61 + 1 = 62 := ⟨by decide +kernel, rfl⟩
theorem iX3_copy_62 : decode cX3_copy 62 = .ok (.iastore, 1) ∧ 62 + 1 = 63 := ⟨by decide +kernel, rfl⟩
theorem iX3_copy_63 : decode cX3_copy 63 = .ok (.iinc 2 1, 3) ∧ 63 + 3 = 66 := ⟨by decide +kernel, rfl⟩
theorem iX3_copy_66 : decode cX3_copy 66 = .ok (.goto (-32), 3) ∧ 66 + 3 = 69 := ⟨by decide +kernel, rfl⟩
theorem iX3_copy_69 : decode cX3_copy 69 = .ok (.iconst 0, 1) ∧ 69 + 1 = 70 := ⟨by decide +kernel, rfl⟩
theorem iX3_copy_70 : decode cX3_copy 70 = .ok (.istore_n 2, 1) ∧ 70 + 1 = 71 := ⟨by decide +kernel, rfl⟩
theorem iX3_copy_71 : decode cX3_copy 71 = .ok (.iload_n 2, 1) ∧ 71 + 1 = 72 := ⟨by decide +kernel, rfl⟩
theorem iX3_copy_72 : decode cX3_copy 72 = .ok (.bipush 6, 2) ∧ 72 + 2 = 74 := ⟨by decide +kernel, rfl⟩
theorem iX3_copy_74 : decode cX3_copy 74 = .ok (.if_icmp .ge 33, 3) ∧ 74 + 3 = 77 := ⟨by decide +kernel, rfl⟩
theorem iX3_copy_77 : decode cX3_copy 77 = .ok (.aload_n 0, 1) ∧ 77 + 1 = 78 := ⟨by decide +kernel, rfl⟩
theorem iX3_copy_78 : decode cX3_copy 78 = .ok (.getfield 18, 3) ∧ 78 + 3 = 81 := ⟨by decide +kernel, rfl⟩
theorem iX3_copy_81 : decode cX3_copy 81 = .ok (.iload_n 2, 1) ∧ 81 + 1 = 82 := ⟨by decide +kernel, rfl⟩
theorem iX3_copy_82 : decode cX3_copy 82 = .ok (.aload_n 1, 1) ∧ 82 + 1 = 83 := ⟨by decide +kernel, rfl⟩
theorem iX3_copy_83 : decode cX3_copy 83 = .ok (.getfield 18, 3) ∧ 83 + 3 = 86 := ⟨by decide +kernel, rfl⟩
theorem iX3_copy_86 : decode cX3_copy 86 = .ok (.iload_n 2, 1) ∧ 86 + 1 = 87 := ⟨by decide +kernel, rfl⟩
theorem iX3_copy_87 : decode cX3_copy 87 = .ok (.iaload, 1) ∧ 87 + 1 = 88 := ⟨by decide +kernel, rfl⟩
theorem iX3_copy_88 : decode cX3_copy 88 = .ok (.iastore, 1) ∧ 88 + 1 = 89 := ⟨by decide +kernel, rfl⟩
theorem iX3_copy_89 : decode cX3_copy 89 = .ok (.aload_n 0, 1) ∧ 89 + 1 = 90 := ⟨by decide +kernel, rfl⟩
theorem iX3_copy_90 : decode cX3_copy 90 = .ok (.getfield 21, 3) ∧ 90 + 3 = 93 := ⟨by decide +kernel, rfl⟩
theorem iX3_copy_93 : decode cX3_copy 93 = .ok (.iload_n 2, 1) ∧ 93 + 1 = 94 := ⟨by decide +kernel, rfl⟩
theorem iX3_copy_94 : decode cX3_copy 94 = .ok (.aload_n 1, 1) ∧ 94 + 1 = 95 := ⟨by decide +kernel, rfl⟩
theorem iX3_copy_95 : decode cX3_copy 95 = .ok (.getfield 21, 3) ∧ 95 + 3 = 98 := ⟨by decide +kernel, rfl⟩
theorem iX3_copy_98 : decode cX3_copy 98 = .ok (.iload_n 2, 1) ∧ 98 + 1 = 99 := ⟨by decide +kernel, rfl⟩
theorem iX3_copy_99 : decode cX3_copy 99 = .ok (.iaload, 1) ∧ 99 + 1 = 100 := ⟨by decide +kernel, rfl⟩
theorem iX3_copy_100 : decode cX3_copy 100 = .ok (.iastore, 1) ∧ 100 + 1 = 101 := ⟨by decide +kernel, rfl⟩
theorem iX3_copy_101 : decode cX3_copy 101 = .ok (.iinc 2 1, 3) ∧ 101 + 3 = 104 := ⟨by decide +kernel, rfl⟩
theorem iX3_copy_104 : decode cX3_copy 104 = .ok (.goto (-33), 3) ∧ 104 + 3 = 107 := ⟨by decide +kernel, rfl⟩
theorem iX3_copy_107 : decode cX3_copy 107 = .ok (.return_, 1) ∧ 107 + 1 = 108 := ⟨by decide +kernel, rfl⟩
theorem iX4_init_0 : decode cX4_init 0 = .ok (.aload_n 0, 1) ∧ 0 + 1 = 1 := ⟨by decide +kernel, rfl⟩
theorem iX4_init_1 : decode cX4_init 1 = .ok (.invokespecial 3, 3) ∧ 1 + 3 = 4 := ⟨by decide +kernel, rfl⟩
theorem iX4_init_4 : decode cX4_init 4 = .ok (.aload_n 0, 1) ∧ 4 + 1 = 5 := ⟨by decide +kernel, rfl⟩
theorem iX4_init_5 : decode cX4_init 5 = .ok (.sipush 4096, 3) ∧ 5 + 3 = 8 := ⟨by decide +kernel, rfl⟩
theorem iX4_init_8 : decode cX4_init 8 = .ok (.newarray .int, 2) ∧ 8 + 2 = 10 := ⟨by decide +kernel, rfl⟩
theorem iX4_init_10 : decode cX4_init 10 = .ok (.putfield 9, 3) ∧ 10 + 3 = 13 := ⟨by decide +kernel, rfl⟩
theorem iX4_init_13 : decode cX4_init 13 = .ok (.aload_n 0, 1) ∧ 13 + 1 = 14 := ⟨by decide +kernel, rfl⟩
theorem iX4_init_14 : decode cX4_init 14 = .ok (.bipush 13, 2) ∧ 14 + 2 = 16 := ⟨by decide +kernel, rfl⟩
theorem iX4_init_16 : decode cX4_init 16 = .ok (.newarray .int, 2) ∧ 16 + 2 = 18 := ⟨by decide +kernel, rfl⟩
theorem iX4_init_18 : decode cX4_init 18 = .ok (.putfield 15, 3) ∧ 18 + 3 = 21 := ⟨by decide +kernel, rfl⟩
theorem iX4_init_21 : decode cX4_init 21 = .ok (.aload_n 0, 1) ∧ 21 + 1 = 22 := ⟨by decide +kernel, rfl⟩
theorem iX4_init_22 : decode cX4_init 22 = .ok (.bipush 12, 2) ∧ 22 + 2 = 24 := ⟨by decide +kernel, rfl⟩
theorem iX4_init_24 : decode cX4_init 24 = .ok (.newarray .int, 2) ∧ 24 + 2 = 26 := ⟨by decide +kernel, rfl⟩
theorem iX4_init_26 : decode cX4_init 26 = .ok (.putfield 18, 3) ∧ 26 + 3 = 29 := ⟨by decide +kernel, rfl⟩
theorem iX4_init_29 : decode cX4_init 29 = .ok (.aload_n 0, 1) ∧ 29 + 1 = 30 := ⟨by decide +kernel, rfl⟩
theorem iX4_init_30 : decode cX4_init 30 = .ok (.bipush 12, 2) ∧ 30 + 2 = 32 := ⟨by decide +kernel, rfl⟩
theorem iX4_init_32 : decode cX4_init 32 = .ok (.newarray .int, 2) ∧ 32 + 2 = 34 := ⟨by decide +kernel, rfl⟩
theorem iX4_init_34 : decode cX4_init 34 = .ok (.putfield 21, 3) ∧ 34 + 3 = 37 := ⟨by decide +kernel, rfl⟩
theorem iX4_init_37 : decode cX4_init 37 = .ok (.aload_n 0, 1) ∧ 37 + 1 = 38 := ⟨by decide +kernel, rfl⟩
theorem iX4_init_38 : decode cX4_init 38 = .ok (.bipush 12, 2) ∧ 38 + 2 = 40 := ⟨by decide +kernel, rfl⟩
theorem iX4_init_40 : decode cX4_init 40 = .ok (.newarray .int, 2) ∧ 40 + 2 = 42 := ⟨by decide +kernel, rfl⟩
theorem iX4_init_42 : decode cX4_init 42 = .ok (.putfield 24, 3) ∧ 42 + 3 = 45 := ⟨by decide +kernel, rfl⟩
theorem iX4_init_45 : decode cX4_init 45 = .ok (.aload_n 0, 1) ∧ 45 + 1 = 46 := ⟨by decide +kernel, rfl⟩
theorem iX4_init_46 : decode cX4_init 46 = .ok (.bipush 12, 2) ∧ 46 + 2 = 48 := ⟨by decide +kernel, rfl⟩
theorem iX4_init_48 : decode cX4_init 48 = .ok (.newarray .int, 2) ∧ 48 + 2 = 50 := ⟨by decide +kernel, rfl⟩
theorem iX4_init_50 : decode cX4_init 50 = .ok (.putfield 27, 3) ∧ 50 + 3 = 53 := ⟨by decide +kernel, rfl⟩
theorem iX4_init_53 : decode cX4_init 53 = .ok (.return_, 1) ∧ 53 + 1 = 54 := ⟨by decide +kernel, rfl⟩
theorem iX4_fewest_0 : decode cX4_fewest 0 = .ok (.iconst 1, 1) ∧ 0 + 1 = 1 := ⟨by decide +kernel, rfl⟩
theorem iX4_fewest_1 : decode cX4_fewest 1 = .ok (.iload_n 1, 1) ∧ 1 + 1 = 2 := ⟨by decide +kernel, rfl⟩
theorem iX4_fewest_2 : decode cX4_fewest 2 = .ok (.ishl, 1) ∧ 2 + 1 = 3 := ⟨by decide +kernel, rfl⟩
theorem iX4_fewest_3 : decode cX4_fewest 3 = .ok (.istore 4, 2) ∧ 3 + 2 = 5 := ⟨by decide +kernel, rfl⟩
theorem iX4_fewest_5 : decode cX4_fewest 5 = .ok (.iconst 0, 1) ∧ 5 + 1 = 6 := ⟨by decide +kernel, rfl⟩
theorem iX4_fewest_6 : decode cX4_fewest 6 = .ok (.istore 5, 2) ∧ 6 + 2 = 8 := ⟨by decide +kernel, rfl⟩
theorem iX4_fewest_8 : decode cX4_fewest 8 = .ok (.iload 5, 2) ∧ 8 + 2 = 10 := ⟨by decide +kernel, rfl⟩
theorem iX4_fewest_10 : decode cX4_fewest 10 = .ok (.bipush 12, 2) ∧ 10 + 2 = 12 := ⟨by decide +kernel, rfl⟩
theorem iX4_fewest_12 : decode cX4_fewest 12 = .ok (.if_icmp .ge 34, 3) ∧ 12 + 3 = 15 := ⟨by decide +kernel, rfl⟩
theorem iX4_fewest_15 : decode cX4_fewest 15 = .ok (.iload 4, 2) ∧ 15 + 2 = 17 := ⟨by decide +kernel, rfl⟩
theorem iX4_fewest_17 : decode cX4_fewest 17 = .ok (.iload_n 2, 1) ∧ 17 + 1 = 18 := ⟨by decide +kernel, rfl⟩
theorem iX4_fewest_18 : decode cX4_fewest 18 = .ok (.invokestatic 30, 3) ∧ 18 + 3 = 21 := ⟨by decide +kernel, rfl⟩
theorem iX4_fewest_21 : decode cX4_fewest 21 = .ok (.ifCond .eq 6, 3) ∧ 21 + 3 = 24 := ⟨by decide +kernel, rfl⟩
theorem iX4_fewest_24 : decode cX4_fewest 24 = .ok (.iload 5, 2) ∧ 24 + 2 = 26 := ⟨by decide +kernel, rfl⟩
theorem iX4_fewest_26 : decode cX4_fewest 26 = .ok (.ireturn, 1) ∧ 26 + 1 = 27 := ⟨by decide +kernel, rfl⟩
theorem iX4_fewest_27 : decode cX4_fewest 27 = .ok (.iload 4, 2) ∧ 27 + 2 = 29 := ⟨by decide +kernel, rfl⟩
theorem iX4_fewest_29 : decode cX4_fewest 29 = .ok (.aload_n 0, 1) ∧ 29 + 1 = 30 := ⟨by decide +kernel, rfl⟩
theorem iX4_fewest_30 : decode cX4_fewest 30 = .ok (.iload 4, 2) ∧ 30 + 2 = 32 := ⟨by decide +kernel, rfl⟩
theorem iX4_fewest_32 : decode cX4_fewest 32 = .ok (.invokestatic 34, 3) ∧ 32 + 3 = 35 := ⟨by decide +kernel, rfl⟩
theorem iX4_fewest_35 : decode cX4_fewest 35 = .ok (.iload_n 3, 1) ∧ 35 + 1 = 36 := ⟨by decide +kernel, rfl⟩
theorem iX4_fewest_36 : decode cX4_fewest 36 = .ok (.iand, 1) ∧ 36 + 1 = 37 := ⟨by decide +kernel, rfl⟩
theorem iX4_fewest_37 : decode cX4_fewest 37 = .ok (.ior, 1) ∧ 37 + 1 = 38 := ⟨by decide +kernel, rfl⟩
theorem iX4_fewest_38 : decode cX4_fewest 38 = .ok (.istore 4, 2) ∧ 38 + 2 = 40 := ⟨by decide +kernel, rfl⟩
theorem iX4_fewest_40 : decode cX4_fewest 40 = .ok (.iinc 5 1, 3) ∧ 40 + 3 = 43 := ⟨by decide +kernel, rfl⟩
theorem iX4_fewest_43 : decode cX4_fewest 43 = .ok (.goto (-35), 3) ∧ 43 + 3 = 46 := ⟨by decide +kernel, rfl⟩
theorem iX4_fewest_46 : decode cX4_fewest 46 = .ok (.iconst (-1), 1) ∧ 46 + 1 = 47 := ⟨by decide +kernel, rfl⟩
theorem iX4_fewest_47 : decode cX4_fewest 47 = .ok (.ireturn, 1) ∧ 47 + 1 = 48 := ⟨by decide +kernel, rfl⟩
theorem iX4_longest_0 : decode cX4_longest 0 = .ok (.aload_n 0, 1) ∧ 0 + 1 = 1 := ⟨by decide +kernel, rfl⟩
theorem iX4_longest_1 : decode cX4_longest 1 = .ok (.aload_n 1, 1) ∧ 1 + 1 = 2 := ⟨by decide +kernel, rfl⟩
theorem iX4_longest_2 : decode cX4_longest 2 = .ok (.iload_n 2, 1) ∧ 2 + 1 = 3 := ⟨by decide +kernel, rfl⟩
theorem iX4_longest_3 : decode cX4_longest 3 = .ok (.iload_n 3, 1) ∧ 3 + 1 = 4 := ⟨by decide +kernel, rfl⟩
theorem iX4_longest_4 : decode cX4_longest 4 = .ok (.invokevirtual 40, 3) ∧ 4 + 3 = 7 := ⟨by decide +kernel, rfl⟩
theorem iX4_longest_7 : decode cX4_longest 7 = .ok (.iconst 1, 1) ∧ 7 + 1 = 8 := ⟨by decide +kernel, rfl⟩
theorem iX4_longest_8 : decode cX4_longest 8 = .ok (.aload_n 0, 1) ∧ 8 + 1 = 9 := ⟨by decide +kernel, rfl⟩
theorem iX4_longest_9 : decode cX4_longest 9 = .ok (.invokevirtual 44, 3) ∧ 9 + 3 = 12 := ⟨by decide +kernel, rfl⟩
theorem iX4_longest_12 : decode cX4_longest 12 = .ok (.iadd, 1) ∧ 12 + 1 = 13 := ⟨by decide +kernel, rfl⟩
theorem iX4_longest_13 : decode cX4_longest 13 = .ok (.ireturn, 1) ∧ 13 + 1 = 14 := ⟨by decide +kernel, rfl⟩
theorem iX4_firstOfLongest_0 : decode cX4_firstOfLongest 0 = .ok (.aload_n 0, 1) ∧ 0 + 1 = 1 := ⟨by decide +kernel, rfl⟩
theorem iX4_firstOfLongest_1 : decode cX4_firstOfLongest 1 = .ok (.aload_n 1, 1) ∧ 1 + 1 = 2 := ⟨by decide +kernel, rfl⟩
theorem iX4_firstOfLongest_2 : decode cX4_firstOfLongest 2 = .ok (.iload_n 2, 1) ∧ 2 + 1 = 3 := ⟨by decide +kernel, rfl⟩
theorem iX4_firstOfLongest_3 : decode cX4_firstOfLongest 3 = .ok (.iload_n 3, 1) ∧ 3 + 1 = 4 := ⟨by decide +kernel, rfl⟩
theorem iX4_firstOfLongest_4 : decode cX4_firstOfLongest 4 = .ok (.invokevirtual 40, 3) ∧ 4 + 3 = 7 := ⟨by decide +kernel, rfl⟩
theorem iX4_firstOfLongest_7 : decode cX4_firstOfLongest 7 = .ok (.aload_n 0, 1) ∧ 7 + 1 = 8 := ⟨by decide +kernel, rfl⟩
theorem iX4_firstOfLongest_8 : decode cX4_firstOfLongest 8 = .ok (.getfield 15, 3) ∧ 8 + 3 = 11 := ⟨by decide +kernel, rfl⟩
theorem iX4_firstOfLongest_11 : decode cX4_firstOfLongest 11 = .ok (.aload_n 0, 1) ∧ 11 + 1 = 12 := ⟨by decide +kernel, rfl⟩
theorem iX4_firstOfLongest_12 : decode cX4_firstOfLongest 12 = .ok (.invokevirtual 44, 3) ∧ 12 + 3 = 15 := ⟨by decide +kernel, rfl⟩
theorem iX4_firstOfLongest_15 : decode cX4_firstOfLongest 15 = .ok (.iaload, 1) ∧ 15 + 1 = 16 := ⟨by decide +kernel, rfl⟩
theorem iX4_firstOfLongest_16 : decode cX4_firstOfLongest 16 = .ok (.invokestatic 48, 3) ∧ 16 + 3 = 19 := ⟨by decide +kernel, rfl⟩
theorem iX4_firstOfLongest_19 : decode cX4_firstOfLongest 19 = .ok (.ireturn, 1) ∧ 19 + 1 = 20 := ⟨by decide +kernel, rfl⟩
theorem iX4_mostBehind_0 : decode cX4_mostBehind 0 = .ok (.bipush 12, 2) ∧ 0 + 2 = 2 := ⟨by decide +kernel, rfl⟩
theorem iX4_mostBehind_2 : decode cX4_mostBehind 2 = .ok (.istore_n 1, 1) ∧ 2 + 1 = 3 := ⟨by decide +kernel, rfl⟩
theorem iX4_mostBehind_3 : decode cX4_mostBehind 3 = .ok (.iload_n 1, 1) ∧ 3 + 1 = 4 := ⟨by decide +kernel, rfl⟩
theorem iX4_mostBehind_4 : decode cX4_mostBehind 4 = .ok (.ifCond .le 20, 3) ∧ 4 + 3 = 7 := ⟨by decide +kernel, rfl⟩
theorem iX4_mostBehind_7 : decode cX4_mostBehind 7 = .ok (.aload_n 0, 1) ∧ 7 + 1 = 8 := ⟨by decide +kernel, rfl⟩
theorem iX4_mostBehind_8 : decode cX4_mostBehind 8 = .ok (.getfield 15, 3) ∧ 8 + 3 = 11 := ⟨by decide +kernel, rfl⟩
theorem iX4_mostBehind_11 : decode cX4_mostBehind 11 = .ok (.iload_n 1, 1) ∧ 11 + 1 = 12 := ⟨by decide +kernel, rfl⟩
theorem iX4_mostBehind_12 : decode cX4_mostBehind 12 = .ok (.iaload, 1) ∧ 12 + 1 = 13 := ⟨by decide +kernel, rfl⟩
theorem iX4_mostBehind_13 : decode cX4_mostBehind 13 = .ok (.ifCond .eq 5, 3) ∧ 13 + 3 = 16 := ⟨by decide +kernel, rfl⟩
theorem iX4_mostBehind_16 : decode cX4_mostBehind 16 = .ok (.iload_n 1, 1) ∧ 16 + 1 = 17 := ⟨by decide +kernel, rfl⟩
theorem iX4_mostBehind_17 : decode cX4_mostBehind 17 = .ok (.ireturn, 1) ∧ 17 + 1 = 18 := ⟨by decide +kernel, rfl⟩
theorem iX4_mostBehind_18 : decode cX4_mostBehind 18 = .ok (.iinc 1 (-1), 3) ∧ 18 + 3 = 21 := ⟨by decide +kernel, rfl⟩
theorem iX4_mostBehind_21 : decode cX4_mostBehind 21 = .ok (.goto (-18), 3) ∧ 21 + 3 = 24 := ⟨by decide +kernel, rfl⟩
theorem iX4_mostBehind_24 : decode cX4_mostBehind 24 = .ok (.iconst 0, 1) ∧ 24 + 1 = 25 := ⟨by decide +kernel, rfl⟩
theorem iX4_mostBehind_25 : decode cX4_mostBehind 25 = .ok (.ireturn, 1) ∧ 25 + 1 = 26 := ⟨by decide +kernel, rfl⟩
theorem iX4_findFirsts_0 : decode cX4_findFirsts 0 = .ok (.iload_n 2, 1) ∧ 0 + 1 = 1 := ⟨by decide +kernel, rfl⟩
theorem iX4_findFirsts_1 : decode cX4_findFirsts 1 = .ok (.ifCond .lt 15, 3) ∧ 1 + 3 = 4 := ⟨by decide +kernel, rfl⟩
theorem iX4_findFirsts_4 : decode cX4_findFirsts 4 = .ok (.iload_n 2, 1) ∧ 4 + 1 = 5 := ⟨by decide +kernel, rfl⟩
theorem iX4_findFirsts_5 : decode cX4_findFirsts 5 = .ok (.aload_n 1, 1) ∧ 5 + 1 = 6 := ⟨by decide +kernel, rfl⟩
theorem iX4_findFirsts_6 : decode cX4_findFirsts 6 = .ok (.arraylength, 1) ∧ 6 + 1 = 7 := ⟨by decide +kernel, rfl⟩
theorem iX4_findFirsts_7 : decode cX4_findFirsts 7 = .ok (.if_icmp .ge 9, 3) ∧ 7 + 3 = 10 := ⟨by decide +kernel, rfl⟩
theorem iX4_findFirsts_10 : decode cX4_findFirsts 10 = .ok (.aload_n 1, 1) ∧ 10 + 1 = 11 := ⟨by decide +kernel, rfl⟩
theorem iX4_findFirsts_11 : decode cX4_findFirsts 11 = .ok (.iload_n 2, 1) ∧ 11 + 1 = 12 := ⟨by decide +kernel, rfl⟩
theorem iX4_findFirsts_12 : decode cX4_findFirsts 12 = .ok (.iaload, 1) ∧ 12 + 1 = 13 := ⟨by decide +kernel, rfl⟩
theorem iX4_findFirsts_13 : decode cX4_findFirsts 13 = .ok (.goto 4, 3) ∧ 13 + 3 = 16 := ⟨by decide +kernel, rfl⟩
theorem iX4_findFirsts_16 : decode cX4_findFirsts 16 = .ok (.iconst 0, 1) ∧ 16 + 1 = 17 := ⟨by decide +kernel, rfl⟩
theorem iX4_findFirsts_17 : decode cX4_findFirsts 17 = .ok (.istore 4, 2) ∧ 17 + 2 = 19 := ⟨by decide +kernel, rfl⟩
theorem iX4_findFirsts_19 : decode cX4_findFirsts 19 = .ok (.aload_n 1, 1) ∧ 19 + 1 = 20 := ⟨by decide +kernel, rfl⟩
theorem iX4_findFirsts_20 : decode cX4_findFirsts 20 = .ok (.iload_n 3, 1) ∧ 20 + 1 = 21 := ⟨by decide +kernel, rfl⟩
theorem iX4_findFirsts_21 : decode cX4_findFirsts 21 = .ok (.iconst 1, 1) ∧ 21 + 1 = 22 := ⟨by decide +kernel, rfl⟩
theorem iX4_findFirsts_22 : decode cX4_findFirsts 22 = .ok (.iload_n 2, 1) ∧ 22 + 1 = 23 := ⟨by decide +kernel, rfl⟩
theorem iX4_findFirsts_23 : decode cX4_findFirsts 23 = .ok (.ishl, 1) ∧ 23 + 1 = 24 := ⟨by decide +kernel, rfl⟩
theorem iX4_findFirsts_24 : decode cX4_findFirsts 24 = .ok (.invokestatic 52, 3) ∧ 24 + 3 = 27 := ⟨by decide +kernel, rfl⟩
theorem iX4_findFirsts_27 : decode cX4_findFirsts 27 = .ok (.iload_n 3, 1) ∧ 27 + 1 = 28 := ⟨by decide +kernel, rfl⟩
theorem iX4_findFirsts_28 : decode cX4_findFirsts 28 = .ok (.iand, 1) ∧ 28 + 1 = 29 := ⟨by decide +kernel, rfl⟩
theorem iX4_findFirsts_29 : decode cX4_findFirsts 29 = .ok (.istore 5, 2) ∧ 29 + 2 = 31 := ⟨by decide +kernel, rfl⟩
theorem iX4_findFirsts_31 : decode cX4_findFirsts 31 = .ok (.iconst 0, 1) ∧ 31 + 1 = 32 := ⟨by decide +kernel, rfl⟩
theorem iX4_findFirsts_32 : decode cX4_findFirsts 32 = .ok (.istore 6, 2) ∧ 32 + 2 = 34 := ⟨by decide +kernel, rfl⟩
theorem iX4_findFirsts_34 : decode cX4_findFirsts 34 = .ok (.iload 6, 2) ∧ 34 + 2 = 36 := ⟨by decide +kernel, rfl⟩
theorem iX4_findFirsts_36 : decode cX4_findFirsts 36 = .ok (.bipush 12, 2) ∧ 36 + 2 = 38 := ⟨by decide +kernel, rfl⟩
theorem iX4_findFirsts_38 : decode cX4_findFirsts 38 = .ok (.if_icmp .gt 17, 3) ∧ 38 + 3 = 41 := ⟨by decide +kernel, rfl⟩
theorem iX4_findFirsts_41 : decode cX4_findFirsts 41 = .ok (.aload_n 0, 1) ∧ 41 + 1 = 42 := ⟨by decide +kernel, rfl⟩
theorem iX4_findFirsts_42 : decode cX4_findFirsts 42 = .ok (.getfield 15, 3) ∧ 42 + 3 = 45 := ⟨by decide +kernel, rfl⟩
theorem iX4_findFirsts_45 : decode cX4_findFirsts 45 = .ok (.iload 6, 2) ∧ 45 + 2 = 47 := ⟨by decide +kernel, rfl⟩
theorem iX4_findFirsts_47 : decode cX4_findFirsts 47 = .ok (.iconst 0, 1) ∧ 47 + 1 = 48 := ⟨by decide +kernel, rfl⟩
theorem iX4_findFirsts_48 : decode cX4_findFirsts 48 = .ok (.iastore, 1) ∧ 48 + 1 = 49 := ⟨by decide +kernel, rfl⟩
theorem iX4_findFirsts_49 : decode cX4_findFirsts 49 = .ok (.iinc 6 1, 3) ∧ 49 + 3 = 52 := ⟨by decide +kernel, rfl⟩
theorem iX4_findFirsts_52 : decode cX4_findFirsts 52 = .ok (.goto (-18), 3) ∧ 52 + 3 = 55 := ⟨by decide +kernel, rfl⟩
theorem iX4_findFirsts_55 : decode cX4_findFirsts 55 = .ok (.iconst 0, 1) ∧ 55 + 1 = 56 := ⟨by decide +kernel, rfl⟩
theorem iX4_findFirsts_56 : decode cX4_findFirsts 56 = .ok (.istore 6, 2) ∧ 56 + 2 = 58 := ⟨by decide +kernel, rfl⟩
theorem iX4_findFirsts_58 : decode cX4_findFirsts 58 = .ok (.iconst 0, 1) ∧ 58 + 1 = 59 := ⟨by decide +kernel, rfl⟩
theorem iX4_findFirsts_59 : decode cX4_findFirsts 59 = .ok (.istore 7, 2) ∧ 59 + 2 = 61 := ⟨by decide +kernel, rfl⟩
theorem iX4_findFirsts_61 : decode cX4_findFirsts 61 = .ok (.iload 7, 2) ∧ 61 + 2 = 63 := ⟨by decide +kernel, rfl⟩
theorem iX4_findFirsts_63 : decode cX4_findFirsts 63 = .ok (.aload_n 0, 1) ∧ 63 + 1 = 64 := ⟨by decide +kernel, rfl⟩
theorem iX4_findFirsts_64 : decode cX4_findFirsts 64 = .ok (.getfield 9, 3) ∧ 64 + 3 = 67 := ⟨by decide +kernel, rfl⟩
theorem iX4_findFirsts_67 : decode cX4_findFirsts 67 = .ok (.arraylength, 1) ∧ 67 + 1 = 68 := ⟨by decide +kernel, rfl⟩
theorem iX4_findFirsts_68 : decode cX4_findFirsts 68 = .ok (.if_icmp .ge 79, 3) ∧ 68 + 3 = 71 := ⟨by decide +kernel, rfl⟩
theorem iX4_findFirsts_71 : decode cX4_findFirsts 71 = .ok (.iload 6, 2) ∧ 71 + 2 = 73 := ⟨by decide +kernel, rfl⟩
theorem iX4_findFirsts_73 : decode cX4_findFirsts 73 = .ok (.iload 5, 2) ∧ 73 + 2 = 75 := ⟨by decide +kernel, rfl⟩
theorem iX4_findFirsts_75 : decode cX4_findFirsts 75 = .ok (.isub, 1) ∧ 75 + 1 = 76 := ⟨by decide +kernel, rfl⟩
theorem iX4_findFirsts_76 : decode cX4_findFirsts 76 = .ok (.iload 5, 2) ∧ 76 + 2 = 78 := ⟨by decide +kernel, rfl⟩
theorem iX4_findFirsts_78 : decode cX4_findFirsts 78 = .ok (.iand, 1) ∧ 78 + 1 = 79 := ⟨by decide +kernel, rfl⟩
theorem iX4_findFirsts_79 : decode cX4_findFirsts 79 = .ok (.istore 6, 2) ∧ 79 + 2 = 81 := ⟨by decide +kernel, rfl⟩
theorem iX4_findFirsts_81 : decode cX4_findFirsts 81 = .ok (.iload 6, 2) ∧ 81 + 2 = 83 := ⟨by decide +kernel, rfl⟩
theorem iX4_findFirsts_83 : decode cX4_findFirsts 83 = .ok (.ifCond .le 13, 3) ∧ 83 + 3 = 86 := ⟨by decide +kernel, rfl⟩
theorem iX4_findFirsts_86 : decode cX4_findFirsts 86 = .ok (.iload 6, 2) ∧ 86 + 2 = 88 := ⟨by decide +kernel, rfl⟩
theorem iX4_findFirsts_88 : decode cX4_findFirsts 88 = .ok (.aload_n 0, 1) ∧ 88 + 1 = 89 := ⟨by decide +kernel, rfl⟩
theorem iX4_findFirsts_89 : decode cX4_findFirsts 89 = .ok (.getfield 9, 3) ∧ 89 + 3 = 92 := ⟨by decide +kernel, rfl⟩
theorem iX4_findFirsts_92 : decode cX4_findFirsts 92 = .ok (.arraylength, 1) ∧ 92 + 1 = 93 := ⟨by decide +kernel, rfl⟩
theorem iX4_findFirsts_93 : decode cX4_findFirsts 93 = .ok (.if_icmp .lt 4, 3) ∧ 93 + 3 = 96 := ⟨by decide +kernel, rfl⟩
theorem iX4_findFirsts_96 : decode cX4_findFirsts 96 = .ok (.return_, 1) ∧ 96 + 1 = 97 := ⟨by decide +kernel, rfl⟩
theorem iX4_findFirsts_97 : decode cX4_findFirsts 97 = .ok (.aload_n 0, 1) ∧ 97 + 1 = 98 := ⟨by decide +kernel, rfl⟩
theorem iX4_findFirsts_98 : decode cX4_findFirsts 98 = .ok (.aload_n 1, 1) ∧ 98 + 1 = 99 := ⟨by decide +kernel, rfl⟩
theorem iX4_findFirsts_99 : decode cX4_findFirsts 99 = .ok (.iload 6, 2) ∧ 99 + 2 = 101 := ⟨by decide +kernel, rfl⟩
theorem iX4_findFirsts_101 : decode cX4_findFirsts 101 = .ok (.invokevirtual 56, 3) ∧ 101 + 3 = 104 := ⟨by decide +kernel, rfl⟩
theorem iX4_findFirsts_104 : decode cX4_findFirsts 104 = .ok (.istore 8, 2) ∧ 104 + 2 = 106 := ⟨by decide +kernel, rfl⟩
theorem iX4_findFirsts_106 : decode cX4_findFirsts 106 = .ok (.aload_n 0, 1) ∧ 106 + 1 = 107 := ⟨by decide +kernel, rfl⟩
theorem iX4_findFirsts_107 : decode cX4_findFirsts 107 = .ok (.getfield 9, 3) ∧ 107 + 3 = 110 := ⟨by decide +kernel, rfl⟩
theorem iX4_findFirsts_110 : decode cX4_findFirsts 110 = .ok (.iload 6, 2) ∧ 110 + 2 = 112 := ⟨by decide +kernel, rfl⟩
theorem iX4_findFirsts_112 : decode cX4_findFirsts 112 = .ok (.iload 8, 2) ∧ 112 + 2 = 114 := ⟨by decide +kernel, rfl⟩
theorem iX4_findFirsts_114 : decode cX4_findFirsts 114 = .ok (.iastore, 1) ∧ 114 + 1 = 115 := ⟨by decide +kernel, rfl⟩
theorem iX4_findFirsts_115 : decode cX4_findFirsts 115 = .ok (.iload 8, 2) ∧ 115 + 2 = 117 := ⟨by decide +kernel, rfl⟩
theorem iX4_findFirsts_117 : decode cX4_findFirsts 117 = .ok (.iload 4, 2) ∧ 117 + 2 = 119 := ⟨by decide +kernel, rfl⟩
theorem iX4_findFirsts_119 : decode cX4_findFirsts 119 = .ok (.iand, 1) ∧ 119 + 1 = 120 := ⟨by decide +kernel, rfl⟩
theorem iX4_findFirsts_120 : decode cX4_findFirsts 120 = .ok (.ifCond .eq 21, 3) ∧ 120 + 3 = 123 := ⟨by decide +kernel, rfl⟩
theorem iX4_findFirsts_123 : decode cX4_findFirsts 123 = .ok (.aload_n 0, 1) ∧ 123 + 1 = 124 := ⟨by decide +kernel, rfl⟩
theorem iX4_findFirsts_124 : decode cX4_findFirsts 124 = .ok (.getfield 15, 3) ∧ 124 + 3 = 127 := ⟨by decide +kernel, rfl⟩
theorem iX4_findFirsts_127 : decode cX4_findFirsts 127 = .ok (.iload 6, 2) ∧ 127 + 2 = 129 := ⟨by decide +kernel, rfl⟩
theorem iX4_findFirsts_129 : decode cX4_findFirsts 129 = .ok (.invokestatic 59, 3) ∧ 129 + 3 = 132 := ⟨by decide +kernel, rfl⟩
theorem iX4_findFirsts_132 : decode cX4_findFirsts 132 = .ok (.dup2, 1) ∧ 132 + 1 = 133 := ⟨by decide +kernel, rfl⟩
theorem iX4_findFirsts_133 : decode cX4_findFirsts 133 = .ok (.iaload, 1) ∧ 133 + 1 = 134 := ⟨by decide +kernel, rfl⟩
theorem iX4_findFirsts_134 : decode cX4_findFirsts 134 = .ok (.iload 8, 2) ∧ 134 + 2 = 136 := ⟨by decide +kernel, rfl⟩
theorem iX4_findFirsts_136 : decode cX4_findFirsts 136 = .ok (.iload 4, 2) ∧ 136 + 2 = 138 := ⟨by decide +kernel, rfl⟩
theorem iX4_findFirsts_138 : decode cX4_findFirsts 138 = .ok (.iand, 1) ∧ 138 + 1 = 139 := ⟨by decide +kernel, rfl⟩
theorem iX4_findFirsts_139 : decode cX4_findFirsts 139 = .ok (.ior, 1) ∧ 139 + 1 = 140 := ⟨by decide +kernel, rfl⟩
theorem iX4_findFirsts_140 : decode cX4_findFirsts 140 = .ok (.iastore, 1) ∧ 140 + 1 = 141 := ⟨by decide +kernel, rfl⟩
theorem iX4_findFirsts_141 : decode cX4_findFirsts 141 = .ok (.iinc 7 1, 3) ∧ 141 + 3 = 144 := ⟨by decide +kernel, rfl⟩
theorem iX4_findFirsts_144 : decode cX4_findFirsts 144 = .ok (.goto (-83), 3) ∧ 144 + 3 = 147 := ⟨by decide +kernel, rfl⟩
theorem iX4_findFirsts_147 : decode cX4_findFirsts 147 = .ok (.return_, 1) ∧ 147 + 1 = 148 := ⟨by decide +kernel, rfl⟩
theorem iX4_startsOf_0 : decode cX4_startsOf 0 = .ok (.iconst 0, 1) ∧ 0 + 1 = 1 := ⟨by decide +kernel, rfl⟩
theorem iX4_startsOf_1 : decode cX4_startsOf 1 = .ok (.istore_n 3, 1) ∧ 1 + 1 = 2 := ⟨by decide +kernel, rfl⟩
theorem iX4_startsOf_2 : decode cX4_startsOf 2 = .ok (.iconst 0, 1) ∧ 2 + 1 = 3 := ⟨by decide +kernel, rfl⟩
theorem iX4_startsOf_3 : decode cX4_startsOf 3 = .ok (.istore 4, 2) ∧ 3 + 2 = 5 := ⟨by decide +kernel, rfl⟩
theorem iX4_startsOf_5 : decode cX4_startsOf 5 = .ok (.iload 4, 2) ∧ 5 + 2 = 7 := ⟨by decide +kernel, rfl⟩
theorem iX4_startsOf_7 : decode cX4_startsOf 7 = .ok (.aload_n 1, 1) ∧ 7 + 1 = 8 := ⟨by decide +kernel, rfl⟩
theorem iX4_startsOf_8 : decode cX4_startsOf 8 = .ok (.arraylength, 1) ∧ 8 + 1 = 9 := ⟨by decide +kernel, rfl⟩
theorem iX4_startsOf_9 : decode cX4_startsOf 9 = .ok (.if_icmp .ge 70, 3) ∧ 9 + 3 = 12 := ⟨by decide +kernel, rfl⟩
theorem iX4_startsOf_12 : decode cX4_startsOf 12 = .ok (.iload_n 2, 1) ∧ 12 + 1 = 13 := ⟨by decide +kernel, rfl⟩
theorem iX4_startsOf_13 : decode cX4_startsOf 13 = .ok (.iload 4, 2) ∧ 13 + 2 = 15 := ⟨by decide +kernel, rfl⟩
theorem iX4_startsOf_15 : decode cX4_startsOf 15 = .ok (.invokestatic 30, 3) ∧ 15 + 3 = 18 := ⟨by decide +kernel, rfl⟩
theorem iX4_startsOf_18 : decode cX4_startsOf 18 = .ok (.ifCond .eq 55, 3) ∧ 18 + 3 = 21 := ⟨by decide +kernel, rfl⟩
theorem iX4_startsOf_21 : decode cX4_startsOf 21 = .ok (.iload_n 2, 1) ∧ 21 + 1 = 22 := ⟨by decide +kernel, rfl⟩
theorem iX4_startsOf_22 : decode cX4_startsOf 22 = .ok (.iconst 1, 1) ∧ 22 + 1 = 23 := ⟨by decide +kernel, rfl⟩
theorem iX4_startsOf_23 : decode cX4_startsOf 23 = .ok (.iload 4, 2) ∧ 23 + 2 = 25 := ⟨by decide +kernel, rfl⟩
theorem iX4_startsOf_25 : decode cX4_startsOf 25 = .ok (.ishl, 1) ∧ 25 + 1 = 26 := ⟨by decide +kernel, rfl⟩
theorem iX4_startsOf_26 : decode cX4_startsOf 26 = .ok (.iconst (-1), 1) ∧ 26 + 1 = 27 := ⟨by decide +kernel, rfl⟩
theorem iX4_startsOf_27 : decode cX4_startsOf 27 = .ok (.ixor, 1) ∧ 27 + 1 = 28 := ⟨by decide +kernel, rfl⟩
theorem iX4_startsOf_28 : decode cX4_startsOf 28 = .ok (.iand, 1) ∧ 28 + 1 = 29 := ⟨by decide +kernel, rfl⟩
theorem iX4_startsOf_29 : decode cX4_startsOf 29 = .ok (.istore 5, 2) ∧ 29 + 2 = 31 := ⟨by decide +kernel, rfl⟩
theorem iX4_startsOf_31 : decode cX4_startsOf 31 = .ok (.iload 5, 2) ∧ 31 + 2 = 33 := ⟨by decide +kernel, rfl⟩
theorem iX4_startsOf_33 : decode cX4_startsOf 33 = .ok (.ifCond .eq 33, 3) ∧ 33 + 3 = 36 := ⟨by decide +kernel, rfl⟩
theorem iX4_startsOf_36 : decode cX4_startsOf 36 = .ok (.iload 5, 2) ∧ 36 + 2 = 38 := ⟨by decide +kernel, rfl⟩
theorem iX4_startsOf_38 : decode cX4_startsOf 38 = .ok (.ifCond .le 35, 3) ∧ 38 + 3 = 41 := ⟨by decide +kernel, rfl⟩
theorem iX4_startsOf_41 : decode cX4_startsOf 41 = .ok (.iload 5, 2) ∧ 41 + 2 = 43 := ⟨by decide +kernel, rfl⟩
theorem iX4_startsOf_43 : decode cX4_startsOf 43 = .ok (.aload_n 0, 1) ∧ 43 + 1 = 44 := ⟨by decide +kernel, rfl⟩
theorem iX4_startsOf_44 : decode cX4_startsOf 44 = .ok (.getfield 9, 3) ∧ 44 + 3 = 47 := ⟨by decide +kernel, rfl⟩
theorem iX4_startsOf_47 : decode cX4_startsOf 47 = .ok (.arraylength, 1) ∧ 47 + 1 = 48 := ⟨by decide +kernel, rfl⟩
theorem iX4_startsOf_48 : decode cX4_startsOf 48 = .ok (.if_icmp .ge 25, 3) ∧ 48 + 3 = 51 := ⟨by decide +kernel, rfl⟩
theorem iX4_startsOf_51 : decode cX4_startsOf 51 = .ok (.aload_n 0, 1) ∧ 51 + 1 = 52 := ⟨by decide +kernel, rfl⟩
theorem iX4_startsOf_52 : decode cX4_startsOf 52 = .ok (.getfield 9, 3) ∧ 52 + 3 = 55 := ⟨by decide +kernel, rfl⟩
theorem iX4_startsOf_55 : decode cX4_startsOf 55 = .ok (.iload 5, 2) ∧ 55 + 2 = 57 := ⟨by decide +kernel, rfl⟩
theorem iX4_startsOf_57 : decode cX4_startsOf 57 = .ok (.iaload, 1) ∧ 57 + 1 = 58 := ⟨by decide +kernel, rfl⟩
theorem iX4_startsOf_58 : decode cX4_startsOf 58 = .ok (.aload_n 1, 1) ∧ 58 + 1 = 59 := ⟨by decide +kernel, rfl⟩
theorem iX4_startsOf_59 : decode cX4_startsOf 59 = .ok (.iload 4, 2) ∧ 59 + 2 = 61 := ⟨by decide +kernel, rfl⟩
theorem iX4_startsOf_61 : decode cX4_startsOf 61 = .ok (.iaload, 1) ∧ 61 + 1 = 62 := ⟨by decide +kernel, rfl⟩
theorem iX4_startsOf_62 : decode cX4_startsOf 62 = .ok (.iand, 1) ∧ 62 + 1 = 63 := ⟨by decide +kernel, rfl⟩
theorem iX4_startsOf_63 : decode cX4_startsOf 63 = .ok (.ifCond .eq 10, 3) ∧ 63 + 3 = 66 := ⟨by decide +kernel, rfl⟩
theorem iX4_startsOf_66 : decode cX4_startsOf 66 = .ok (.iload_n 3, 1) ∧ 66 + 1 = 67 := ⟨by decide +kernel, rfl⟩
theorem iX4_startsOf_67 : decode cX4_startsOf 67 = .ok (.iconst 1, 1) ∧ 67 + 1 = 68 := ⟨by decide +kernel, rfl⟩
theorem iX4_startsOf_68 : decode cX4_startsOf 68 = .ok (.iload 4, 2) ∧ 68 + 2 = 70 := ⟨by decide +kernel, rfl⟩
theorem iX4_startsOf_70 : decode cX4_startsOf 70 = .ok (.ishl, 1) ∧ 70 + 1 = 71 := ⟨by decide +kernel, rfl⟩
theorem iX4_startsOf_71 : decode cX4_startsOf 71 = .ok (.ior, 1) ∧ 71 + 1 = 72 := ⟨by decide +kernel, rfl⟩
theorem iX4_startsOf_72 : decode cX4_startsOf 72 = .ok (.istore_n 3, 1) ∧ 72 + 1 = 73 := ⟨by decide +kernel, rfl⟩
theorem iX4_startsOf_73 : decode cX4_startsOf 73 = .ok (.iinc 4 1, 3) ∧ 73 + 3 = 76 := ⟨by decide +kernel, rfl⟩
theorem iX4_startsOf_76 : decode cX4_startsOf 76 = .ok (.goto (-71), 3) ∧ 76 + 3 = 79 := ⟨by decide +kernel, rfl⟩
theorem iX4_startsOf_79 : decode cX4_startsOf 79 = .ok (.iload_n 3, 1) ∧ 79 + 1 = 80 := ⟨by decide +kernel, rfl⟩
theorem iX4_startsOf_80 : decode cX4_startsOf 80 = .ok (.ireturn, 1) ∧ 80 + 1 = 81 := ⟨by decide +kernel, rfl⟩
theorem iX4_fewestToTrade_0 : decode cX4_fewestToTrade 0 = .ok (.iload_n 3, 1) ∧ 0 + 1 = 1 := ⟨by decide +kernel, rfl⟩
theorem iX4_fewestToTrade_1 : decode cX4_fewestToTrade 1 = .ok (.ifCond .lt 21, 3) ∧ 1 + 3 = 4 := ⟨by decide +kernel, rfl⟩
theorem iX4_fewestToTrade_4 : decode cX4_fewestToTrade 4 = .ok (.iload_n 3, 1) ∧ 4 + 1 = 5 := ⟨by decide +kernel, rfl⟩
theorem iX4_fewestToTrade_5 : decode cX4_fewestToTrade 5 = .ok (.bipush 12, 2) ∧ 5 + 2 = 7 := ⟨by decide +kernel, rfl⟩
theorem iX4_fewestToTrade_7 : decode cX4_fewestToTrade 7 = .ok (.if_icmp .ge 15, 3) ∧ 7 + 3 = 10 := ⟨by decide +kernel, rfl⟩
theorem iX4_fewestToTrade_10 : decode cX4_fewestToTrade 10 = .ok (.iload 4, 2) ∧ 10 + 2 = 12 := ⟨by decide +kernel, rfl⟩
theorem iX4_fewestToTrade_12 : decode cX4_fewestToTrade 12 = .ok (.ifCond .lt 10, 3) ∧ 12 + 3 = 15 := ⟨by decide +kernel, rfl⟩
theorem iX4_fewestToTrade_15 : decode cX4_fewestToTrade 15 = .ok (.iload 4, 2) ∧ 15 + 2 = 17 := ⟨by decide +kernel, rfl⟩
theorem iX4_fewestToTrade_17 : decode cX4_fewestToTrade 17 = .ok (.bipush 12, 2) ∧ 17 + 2 = 19 := ⟨by decide +kernel, rfl⟩
theorem iX4_fewestToTrade_19 : decode cX4_fewestToTrade 19 = .ok (.if_icmp .lt 5, 3) ∧ 19 + 3 = 22 := ⟨by decide +kernel, rfl⟩
theorem iX4_fewestToTrade_22 : decode cX4_fewestToTrade 22 = .ok (.iconst (-1), 1) ∧ 22 + 1 = 23 := ⟨by decide +kernel, rfl⟩
theorem iX4_fewestToTrade_23 : decode cX4_fewestToTrade 23 = .ok (.ireturn, 1) ∧ 23 + 1 = 24 := ⟨by decide +kernel, rfl⟩
theorem iX4_fewestToTrade_24 : decode cX4_fewestToTrade 24 = .ok (.iconst 0, 1) ∧ 24 + 1 = 25 := ⟨by decide +kernel, rfl⟩
theorem iX4_fewestToTrade_25 : decode cX4_fewestToTrade 25 = .ok (.istore 6, 2) ∧ 25 + 2 = 27 := ⟨by decide +kernel, rfl⟩
theorem iX4_fewestToTrade_27 : decode cX4_fewestToTrade 27 = .ok (.iload 6, 2) ∧ 27 + 2 = 29 := ⟨by decide +kernel, rfl⟩
theorem iX4_fewestToTrade_29 : decode cX4_fewestToTrade 29 = .ok (.bipush 12, 2) ∧ 29 + 2 = 31 := ⟨by decide +kernel, rfl⟩
theorem iX4_fewestToTrade_31 : decode cX4_fewestToTrade 31 = .ok (.if_icmp .ge 17, 3) ∧ 31 + 3 = 34 := ⟨by decide +kernel, rfl⟩
theorem iX4_fewestToTrade_34 : decode cX4_fewestToTrade 34 = .ok (.aload_n 0, 1) ∧ 34 + 1 = 35 := ⟨by decide +kernel, rfl⟩
theorem iX4_fewestToTrade_35 : decode cX4_fewestToTrade 35 = .ok (.getfield 18, 3) ∧ 35 + 3 = 38 := ⟨by decide +kernel, rfl⟩
theorem iX4_fewestToTrade_38 : decode cX4_fewestToTrade 38 = .ok (.iload 6, 2) ∧ 38 + 2 = 40 := ⟨by decide +kernel, rfl⟩
theorem iX4_fewestToTrade_40 : decode cX4_fewestToTrade 40 = .ok (.iconst 0, 1) ∧ 40 + 1 = 41 := ⟨by decide +kernel, rfl⟩
theorem iX4_fewestToTrade_41 : decode cX4_fewestToTrade 41 = .ok (.iastore, 1) ∧ 41 + 1 = 42 := ⟨by decide +kernel, rfl⟩
theorem iX4_fewestToTrade_42 : decode cX4_fewestToTrade 42 = .ok (.iinc 6 1, 3) ∧ 42 + 3 = 45 := ⟨by decide +kernel, rfl⟩
theorem iX4_fewestToTrade_45 : decode cX4_fewestToTrade 45 = .ok (.goto (-18), 3) ∧ 45 + 3 = 48 := ⟨by decide +kernel, rfl⟩
theorem iX4_fewestToTrade_48 : decode cX4_fewestToTrade 48 = .ok (.aload_n 0, 1) ∧ 48 + 1 = 49 := ⟨by decide +kernel, rfl⟩
theorem iX4_fewestToTrade_49 : decode cX4_fewestToTrade 49 = .ok (.getfield 18, 3) ∧ 49 + 3 = 52 := ⟨by decide +kernel, rfl⟩
theorem iX4_fewestToTrade_52 : decode cX4_fewestToTrade 52 = .ok (.iload_n 3, 1) ∧ 52 + 1 = 53 := ⟨by decide +kernel, rfl⟩
theorem iX4_fewestToTrade_53 : decode cX4_fewestToTrade 53 = .ok (.iconst 1, 1) ∧ 53 + 1 = 54 := ⟨by decide +kernel, rfl⟩
theorem iX4_fewestToTrade_54 : decode cX4_fewestToTrade 54 = .ok (.iload 4, 2) ∧ 54 + 2 = 56 := ⟨by decide +kernel, rfl⟩
theorem iX4_fewestToTrade_56 : decode cX4_fewestToTrade 56 = .ok (.ishl, 1) ∧ 56 + 1 = 57 := ⟨by decide +kernel, rfl⟩
theorem iX4_fewestToTrade_57 : decode cX4_fewestToTrade 57 = .ok (.iastore, 1) ∧ 57 + 1 = 58 := ⟨by decide +kernel, rfl⟩
theorem iX4_fewestToTrade_58 : decode cX4_fewestToTrade 58 = .ok (.iconst 0, 1) ∧ 58 + 1 = 59 := ⟨by decide +kernel, rfl⟩
theorem iX4_fewestToTrade_59 : decode cX4_fewestToTrade 59 = .ok (.istore 6, 2) ∧ 59 + 2 = 61 := ⟨by decide +kernel, rfl⟩
theorem iX4_fewestToTrade_61 : decode cX4_fewestToTrade 61 = .ok (.iload 6, 2) ∧ 61 + 2 = 63 := ⟨by decide +kernel, rfl⟩
theorem iX4_fewestToTrade_63 : decode cX4_fewestToTrade 63 = .ok (.sipush 144, 3) ∧ 63 + 3 = 66 := ⟨by decide +kernel, rfl⟩
theorem iX4_fewestToTrade_66 : decode cX4_fewestToTrade 66 = .ok (.if_icmp .ge 39, 3) ∧ 66 + 3 = 69 := ⟨by decide +kernel, rfl⟩
theorem iX4_fewestToTrade_69 : decode cX4_fewestToTrade 69 = .ok (.aload_n 0, 1) ∧ 69 + 1 = 70 := ⟨by decide +kernel, rfl⟩
theorem iX4_fewestToTrade_70 : decode cX4_fewestToTrade 70 = .ok (.getfield 18, 3) ∧ 70 + 3 = 73 := ⟨by decide +kernel, rfl⟩
theorem iX4_fewestToTrade_73 : decode cX4_fewestToTrade 73 = .ok (.iload 4, 2) ∧ 73 + 2 = 75 := ⟨by decide +kernel, rfl⟩
theorem iX4_fewestToTrade_75 : decode cX4_fewestToTrade 75 = .ok (.iaload, 1) ∧ 75 + 1 = 76 := ⟨by decide +kernel, rfl⟩
theorem iX4_fewestToTrade_76 : decode cX4_fewestToTrade 76 = .ok (.iload_n 3, 1) ∧ 76 + 1 = 77 := ⟨by decide +kernel, rfl⟩
theorem iX4_fewestToTrade_77 : decode cX4_fewestToTrade 77 = .ok (.invokestatic 30, 3) ∧ 77 + 3 = 80 := ⟨by decide +kernel, rfl⟩
theorem iX4_fewestToTrade_80 : decode cX4_fewestToTrade 80 = .ok (.ifCond .eq 6, 3) ∧ 80 + 3 = 83 := ⟨by decide +kernel, rfl⟩
theorem iX4_fewestToTrade_83 : decode cX4_fewestToTrade 83 = .ok (.iload 6, 2) ∧ 83 + 2 = 85 := ⟨by decide +kernel, rfl⟩
theorem iX4_fewestToTrade_85 : decode cX4_fewestToTrade 85 = .ok (.ireturn, 1) ∧ 85 + 1 = 86 := ⟨by decide +kernel, rfl⟩
theorem iX4_fewestToTrade_86 : decode cX4_fewestToTrade 86 = .ok (.aload_n 0, 1) ∧ 86 + 1 = 87 := ⟨by decide +kernel, rfl⟩
theorem iX4_fewestToTrade_87 : decode cX4_fewestToTrade 87 = .ok (.aload_n 1, 1) ∧ 87 + 1 = 88 := ⟨by decide +kernel, rfl⟩
theorem iX4_fewestToTrade_88 : decode cX4_fewestToTrade 88 = .ok (.aload_n 2, 1) ∧ 88 + 1 = 89 := ⟨by decide +kernel, rfl⟩
theorem iX4_fewestToTrade_89 : decode cX4_fewestToTrade 89 = .ok (.iload 5, 2) ∧ 89 + 2 = 91 := ⟨by decide +kernel, rfl⟩
theorem iX4_fewestToTrade_91 : decode cX4_fewestToTrade 91 = .ok (.invokevirtual 64, 3) ∧ 91 + 3 = 94 := ⟨by decide +kernel, rfl⟩
theorem iX4_fewestToTrade_94 : decode cX4_fewestToTrade 94 = .ok (.ifCond .ne 5, 3) ∧ 94 + 3 = 97 := ⟨by decide +kernel, rfl⟩
theorem iX4_fewestToTrade_97 : decode cX4_fewestToTrade 97 = .ok (.iconst (-1), 1) ∧ 97 + 1 = 98 := ⟨by decide +kernel, rfl⟩
theorem iX4_fewestToTrade_98 : decode cX4_fewestToTrade 98 = .ok (.ireturn, 1) ∧ 98 + 1 = 99 := ⟨by decide +kernel, rfl⟩
theorem iX4_fewestToTrade_99 : decode cX4_fewestToTrade 99 = .ok (.iinc 6 1, 3) ∧ 99 + 3 = 102 := ⟨by decide +kernel, rfl⟩
theorem iX4_fewestToTrade_102 : decode cX4_fewestToTrade 102 = .ok (.goto (-41), 3) ∧ 102 + 3 = 105 := ⟨by decide +kernel, rfl⟩
theorem iX4_fewestToTrade_105 : decode cX4_fewestToTrade 105 = .ok (.iconst (-1), 1) ∧ 105 + 1 = 106 := ⟨by decide +kernel, rfl⟩
theorem iX4_fewestToTrade_106 : decode cX4_fewestToTrade 106 = .ok (.ireturn, 1) ∧ 106 + 1 = 107 := ⟨by decide +kernel, rfl⟩
theorem iX4_spreadPairs_0 : decode cX4_spreadPairs 0 = .ok (.iconst 0, 1) ∧ 0 + 1 = 1 := ⟨by decide +kernel, rfl⟩
theorem iX4_spreadPairs_1 : decode cX4_spreadPairs 1 = .ok (.istore 4, 2) ∧ 1 + 2 = 3 := ⟨by decide +kernel, rfl⟩
theorem iX4_spreadPairs_3 : decode cX4_spreadPairs 3 = .ok (.iconst 0, 1) ∧ 3 + 1 = 4 := ⟨by decide +kernel, rfl⟩
theorem iX4_spreadPairs_4 : decode cX4_spreadPairs 4 = .ok (.istore 5, 2) ∧ 4 + 2 = 6 := ⟨by decide +kernel, rfl⟩
theorem iX4_spreadPairs_6 : decode cX4_spreadPairs 6 = .ok (.iload 5, 2) ∧ 6 + 2 = 8 := ⟨by decide +kernel, rfl⟩
theorem iX4_spreadPairs_8 : decode cX4_spreadPairs 8 = .ok (.bipush 12, 2) ∧ 8 + 2 = 10 := ⟨by decide +kernel, rfl⟩
theorem iX4_spreadPairs_10 : decode cX4_spreadPairs 10 = .ok (.if_icmp .ge 112, 3) ∧ 10 + 3 = 13 := ⟨by decide +kernel, rfl⟩
theorem iX4_spreadPairs_13 : decode cX4_spreadPairs 13 = .ok (.aload_n 0, 1) ∧ 13 + 1 = 14 := ⟨by decide +kernel, rfl⟩
theorem iX4_spreadPairs_14 : decode cX4_spreadPairs 14 = .ok (.getfield 21, 3) ∧ 14 + 3 = 17 := ⟨by decide +kernel, rfl⟩
theorem iX4_spreadPairs_17 : decode cX4_spreadPairs 17 = .ok (.iload 5, 2) ∧ 17 + 2 = 19 := ⟨by decide +kernel, rfl⟩
theorem iX4_spreadPairs_19 : decode cX4_spreadPairs 19 = .ok (.iconst 0, 1) ∧ 19 + 1 = 20 := ⟨by decide +kernel, rfl⟩
theorem iX4_spreadPairs_20 : decode cX4_spreadPairs 20 = .ok (.iastore, 1) ∧ 20 + 1 = 21 := ⟨by decide +kernel, rfl⟩
theorem iX4_spreadPairs_21 : decode cX4_spreadPairs 21 = .ok (.iload_n 3, 1) ∧ 21 + 1 = 22 := ⟨by decide +kernel, rfl⟩
theorem iX4_spreadPairs_22 : decode cX4_spreadPairs 22 = .ok (.iload 5, 2) ∧ 22 + 2 = 24 := ⟨by decide +kernel, rfl⟩
theorem iX4_spreadPairs_24 : decode cX4_spreadPairs 24 = .ok (.invokestatic 30, 3) ∧ 24 + 3 = 27 := ⟨by decide +kernel, rfl⟩
theorem iX4_spreadPairs_27 : decode cX4_spreadPairs 27 = .ok (.ifCond .eq 89, 3) ∧ 27 + 3 = 30 := ⟨by decide +kernel, rfl⟩
theorem iX4_spreadPairs_30 : decode cX4_spreadPairs 30 = .ok (.iload 5, 2) ∧ 30 + 2 = 32 := ⟨by decide +kernel, rfl⟩
theorem iX4_spreadPairs_32 : decode cX4_spreadPairs 32 = .ok (.aload_n 1, 1) ∧ 32 + 1 = 33 := ⟨by decide +kernel, rfl⟩
theorem iX4_spreadPairs_33 : decode cX4_spreadPairs 33 = .ok (.arraylength, 1) ∧ 33 + 1 = 34 := ⟨by decide +kernel, rfl⟩
theorem iX4_spreadPairs_34 : decode cX4_spreadPairs 34 = .ok (.if_icmp .ge 82, 3) ∧ 34 + 3 = 37 := ⟨by decide +kernel, rfl⟩
theorem iX4_spreadPairs_37 : decode cX4_spreadPairs 37 = .ok (.aload_n 0, 1) ∧ 37 + 1 = 38 := ⟨by decide +kernel, rfl⟩
theorem iX4_spreadPairs_38 : decode cX4_spreadPairs 38 = .ok (.getfield 18, 3) ∧ 38 + 3 = 41 := ⟨by decide +kernel, rfl⟩
theorem iX4_spreadPairs_41 : decode cX4_spreadPairs 41 = .ok (.iload 5, 2) ∧ 41 + 2 = 43 := ⟨by decide +kernel, rfl⟩
theorem iX4_spreadPairs_43 : decode cX4_spreadPairs 43 = .ok (.iaload, 1) ∧ 43 + 1 = 44 := ⟨by decide +kernel, rfl⟩
theorem iX4_spreadPairs_44 : decode cX4_spreadPairs 44 = .ok (.aload_n 2, 1) ∧ 44 + 1 = 45 := ⟨by decide +kernel, rfl⟩
theorem iX4_spreadPairs_45 : decode cX4_spreadPairs 45 = .ok (.aload_n 0, 1) ∧ 45 + 1 = 46 := ⟨by decide +kernel, rfl⟩
theorem iX4_spreadPairs_46 : decode cX4_spreadPairs 46 = .ok (.getfield 18, 3) ∧ 46 + 3 = 49 := ⟨by decide +kernel, rfl⟩
theorem iX4_spreadPairs_49 : decode cX4_spreadPairs 49 = .ok (.iload 5, 2) ∧ 49 + 2 = 51 := ⟨by decide +kernel, rfl⟩
theorem iX4_spreadPairs_51 : decode cX4_spreadPairs 51 = .ok (.iaload, 1) ∧ 51 + 1 = 52 := ⟨by decide +kernel, rfl⟩
theorem iX4_spreadPairs_52 : decode cX4_spreadPairs 52 = .ok (.invokestatic 34, 3) ∧ 52 + 3 = 55 := ⟨by decide +kernel, rfl⟩
theorem iX4_spreadPairs_55 : decode cX4_spreadPairs 55 = .ok (.ior, 1) ∧ 55 + 1 = 56 := ⟨by decide +kernel, rfl⟩
theorem iX4_spreadPairs_56 : decode cX4_spreadPairs 56 = .ok (.istore 6, 2) ∧ 56 + 2 = 58 := ⟨by decide +kernel, rfl⟩
theorem iX4_spreadPairs_58 : decode cX4_spreadPairs 58 = .ok (.iconst 0, 1) ∧ 58 + 1 = 59 := ⟨by decide +kernel, rfl⟩
theorem iX4_spreadPairs_59 : decode cX4_spreadPairs 59 = .ok (.istore 7, 2) ∧ 59 + 2 = 61 := ⟨by decide +kernel, rfl⟩
theorem iX4_spreadPairs_61 : decode cX4_spreadPairs 61 = .ok (.iload 7, 2) ∧ 61 + 2 = 63 := ⟨by decide +kernel, rfl⟩
theorem iX4_spreadPairs_63 : decode cX4_spreadPairs 63 = .ok (.bipush 12, 2) ∧ 63 + 2 = 65 := ⟨by decide +kernel, rfl⟩
theorem iX4_spreadPairs_65 : decode cX4_spreadPairs 65 = .ok (.if_icmp .ge 33, 3) ∧ 65 + 3 = 68 := ⟨by decide +kernel, rfl⟩
theorem iX4_spreadPairs_68 : decode cX4_spreadPairs 68 = .ok (.aload_n 1, 1) ∧ 68 + 1 = 69 := ⟨by decide +kernel, rfl⟩
theorem iX4_spreadPairs_69 : decode cX4_spreadPairs 69 = .ok (.iload 5, 2) ∧ 69 + 2 = 71 := ⟨by decide +kernel, rfl⟩
theorem iX4_spreadPairs_71 : decode cX4_spreadPairs 71 = .ok (.iaload, 1) ∧ 71 + 1 = 72 := ⟨by decide +kernel, rfl⟩
theorem iX4_spreadPairs_72 : decode cX4_spreadPairs 72 = .ok (.iload 7, 2) ∧ 72 + 2 = 74 := ⟨by decide +kernel, rfl⟩
theorem iX4_spreadPairs_74 : decode cX4_spreadPairs 74 = .ok (.invokestatic 30, 3) ∧ 74 + 3 = 77 := ⟨by decide +kernel, rfl⟩
theorem iX4_spreadPairs_77 : decode cX4_spreadPairs 77 = .ok (.ifCond .eq 15, 3) ∧ 77 + 3 = 80 := ⟨by decide +kernel, rfl⟩
theorem iX4_spreadPairs_80 : decode cX4_spreadPairs 80 = .ok (.iload 6, 2) ∧ 80 + 2 = 82 := ⟨by decide +kernel, rfl⟩
theorem iX4_spreadPairs_82 : decode cX4_spreadPairs 82 = .ok (.aload_n 0, 1) ∧ 82 + 1 = 83 := ⟨by decide +kernel, rfl⟩
theorem iX4_spreadPairs_83 : decode cX4_spreadPairs 83 = .ok (.getfield 18, 3) ∧ 83 + 3 = 86 := ⟨by decide +kernel, rfl⟩
theorem iX4_spreadPairs_86 : decode cX4_spreadPairs 86 = .ok (.iload 7, 2) ∧ 86 + 2 = 88 := ⟨by decide +kernel, rfl⟩
theorem iX4_spreadPairs_88 : decode cX4_spreadPairs 88 = .ok (.iaload, 1) ∧ 88 + 1 = 89 := ⟨by decide +kernel, rfl⟩
theorem iX4_spreadPairs_89 : decode cX4_spreadPairs 89 = .ok (.ior, 1) ∧ 89 + 1 = 90 := ⟨by decide +kernel, rfl⟩
theorem iX4_spreadPairs_90 : decode cX4_spreadPairs 90 = .ok (.istore 6, 2) ∧ 90 + 2 = 92 := ⟨by decide +kernel, rfl⟩
theorem iX4_spreadPairs_92 : decode cX4_spreadPairs 92 = .ok (.iinc 7 1, 3) ∧ 92 + 3 = 95 := ⟨by decide +kernel, rfl⟩
theorem iX4_spreadPairs_95 : decode cX4_spreadPairs 95 = .ok (.goto (-34), 3) ∧ 95 + 3 = 98 := ⟨by decide +kernel, rfl⟩
theorem iX4_spreadPairs_98 : decode cX4_spreadPairs 98 = .ok (.aload_n 0, 1) ∧ 98 + 1 = 99 := ⟨by decide +kernel, rfl⟩
theorem iX4_spreadPairs_99 : decode cX4_spreadPairs 99 = .ok (.getfield 21, 3) ∧ 99 + 3 = 102 := ⟨by decide +kernel, rfl⟩
theorem iX4_spreadPairs_102 : decode cX4_spreadPairs 102 = .ok (.iload 5, 2) ∧ 102 + 2 = 104 := ⟨by decide +kernel, rfl⟩
theorem iX4_spreadPairs_104 : decode cX4_spreadPairs 104 = .ok (.iload 6, 2) ∧ 104 + 2 = 106 := ⟨by decide +kernel, rfl⟩
theorem iX4_spreadPairs_106 : decode cX4_spreadPairs 106 = .ok (.iload_n 3, 1) ∧ 106 + 1 = 107 := ⟨by decide +kernel, rfl⟩
theorem iX4_spreadPairs_107 : decode cX4_spreadPairs 107 = .ok (.iand, 1) ∧ 107 + 1 = 108 := ⟨by decide +kernel, rfl⟩
theorem iX4_spreadPairs_108 : decode cX4_spreadPairs 108 = .ok (.iconst 1, 1) ∧ 108 + 1 = 109 := ⟨by decide +kernel, rfl⟩
theorem iX4_spreadPairs_109 : decode cX4_spreadPairs 109 = .ok (.iload 5, 2) ∧ 109 + 2 = 111 := ⟨by decide +kernel, rfl⟩
theorem iX4_spreadPairs_111 : decode cX4_spreadPairs 111 = .ok (.ishl, 1) ∧ 111 + 1 = 112 := ⟨by decide +kernel, rfl⟩
theorem iX4_spreadPairs_112 : decode cX4_spreadPairs 112 = .ok (.iconst (-1), 1) ∧ 112 + 1 = 113 := ⟨by decide +kernel, rfl⟩
theorem iX4_spreadPairs_113 : decode cX4_spreadPairs 113 = .ok (.ixor, 1) ∧ 113 + 1 = 114 := ⟨by decide +kernel, rfl⟩
theorem iX4_spreadPairs_114 : decode cX4_spreadPairs 114 = .ok (.iand, 1) ∧ 114 + 1 = 115 := ⟨by decide +kernel, rfl⟩
theorem iX4_spreadPairs_115 : decode cX4_spreadPairs 115 = .ok (.iastore, 1) ∧ 115 + 1 = 116 := ⟨by decide +kernel, rfl⟩
theorem iX4_spreadPairs_116 : decode cX4_spreadPairs 116 = .ok (.iinc 5 1, 3) ∧ 116 + 3 = 119 := ⟨by decide +kernel, rfl⟩
theorem iX4_spreadPairs_119 : decode cX4_spreadPairs 119 = .ok (.goto (-113), 3) ∧ 119 + 3 = 122 := ⟨by decide +kernel, rfl⟩
theorem iX4_spreadPairs_122 : decode cX4_spreadPairs 122 = .ok (.iconst 0, 1) ∧ 122 + 1 = 123 := ⟨by decide +kernel, rfl⟩
theorem iX4_spreadPairs_123 : decode cX4_spreadPairs 123 = .ok (.istore 5, 2) ∧ 123 + 2 = 125 := ⟨by decide +kernel, rfl⟩
theorem iX4_spreadPairs_125 : decode cX4_spreadPairs 125 = .ok (.iload 5, 2) ∧ 125 + 2 = 127 := ⟨by decide +kernel, rfl⟩
theorem iX4_spreadPairs_127 : decode cX4_spreadPairs 127 = .ok (.bipush 12, 2) ∧ 127 + 2 = 129 := ⟨by decide +kernel, rfl⟩
theorem iX4_spreadPairs_129 : decode cX4_spreadPairs 129 = .ok (.if_icmp .ge 43, 3) ∧ 129 + 3 = 132 := ⟨by decide +kernel, rfl⟩
theorem iX4_spreadPairs_132 : decode cX4_spreadPairs 132 = .ok (.aload_n 0, 1) ∧ 132 + 1 = 133 := ⟨by decide +kernel, rfl⟩
theorem iX4_spreadPairs_133 : decode cX4_spreadPairs 133 = .ok (.getfield 21, 3) ∧ 133 + 3 = 136 := ⟨by decide +kernel, rfl⟩
theorem iX4_spreadPairs_136 : decode cX4_spreadPairs 136 = .ok (.iload 5, 2) ∧ 136 + 2 = 138 := ⟨by decide +kernel, rfl⟩
theorem iX4_spreadPairs_138 : decode cX4_spreadPairs 138 = .ok (.iaload, 1) ∧ 138 + 1 = 139 := ⟨by decide +kernel, rfl⟩
theorem iX4_spreadPairs_139 : decode cX4_spreadPairs 139 = .ok (.aload_n 0, 1) ∧ 139 + 1 = 140 := ⟨by decide +kernel, rfl⟩
theorem iX4_spreadPairs_140 : decode cX4_spreadPairs 140 = .ok (.getfield 18, 3) ∧ 140 + 3 = 143 := ⟨by decide +kernel, rfl⟩
theorem iX4_spreadPairs_143 : decode cX4_spreadPairs 143 = .ok (.iload 5, 2) ∧ 143 + 2 = 145 := ⟨by decide +kernel, rfl⟩
theorem iX4_spreadPairs_145 : decode cX4_spreadPairs 145 = .ok (.iaload, 1) ∧ 145 + 1 = 146 := ⟨by decide +kernel, rfl⟩
theorem iX4_spreadPairs_146 : decode cX4_spreadPairs 146 = .ok (.if_icmp .eq 20, 3) ∧ 146 + 3 = 149 := ⟨by decide +kernel, rfl⟩
theorem iX4_spreadPairs_149 : decode cX4_spreadPairs 149 = .ok (.iconst 1, 1) ∧ 149 + 1 = 150 := ⟨by decide +kernel, rfl⟩
theorem iX4_spreadPairs_150 : decode cX4_spreadPairs 150 = .ok (.istore 4, 2) ∧ 150 + 2 = 152 := ⟨by decide +kernel, rfl⟩
theorem iX4_spreadPairs_152 : decode cX4_spreadPairs 152 = .ok (.aload_n 0, 1) ∧ 152 + 1 = 153 := ⟨by decide +kernel, rfl⟩
theorem iX4_spreadPairs_153 : decode cX4_spreadPairs 153 = .ok (.getfield 18, 3) ∧ 153 + 3 = 156 := ⟨by decide +kernel, rfl⟩
theorem iX4_spreadPairs_156 : decode cX4_spreadPairs 156 = .ok (.iload 5, 2) ∧ 156 + 2 = 158 := ⟨by decide +kernel, rfl⟩
theorem iX4_spreadPairs_158 : decode cX4_spreadPairs 158 = .ok (.aload_n 0, 1) ∧ 158 + 1 = 159 := ⟨by decide +kernel, rfl⟩
theorem iX4_spreadPairs_159 : decode cX4_spreadPairs 159 = .ok (.getfield 21, 3) ∧ 159 + 3 = 162 := ⟨by decide +kernel, rfl⟩
theorem iX4_spreadPairs_162 : decode cX4_spreadPairs 162 = .ok (.iload 5, 2) ∧ 162 + 2 = 164 := ⟨by decide +kernel, rfl⟩
theorem iX4_spreadPairs_164 : decode cX4_spreadPairs 164 = .ok (.iaload, 1) ∧ 164 + 1 = 165 := ⟨by decide +kernel, rfl⟩
theorem iX4_spreadPairs_165 : decode cX4_spreadPairs 165 = .ok (.iastore, 1) ∧ 165 + 1 = 166 := ⟨by decide +kernel, rfl⟩
theorem iX4_spreadPairs_166 : decode cX4_spreadPairs 166 = .ok (.iinc 5 1, 3) ∧ 166 + 3 = 169 := ⟨by decide +kernel, rfl⟩
theorem iX4_spreadPairs_169 : decode cX4_spreadPairs 169 = .ok (.goto (-44), 3) ∧ 169 + 3 = 172 := ⟨by decide +kernel, rfl⟩
theorem iX4_spreadPairs_172 : decode cX4_spreadPairs 172 = .ok (.iload 4, 2) ∧ 172 + 2 = 174 := ⟨by decide +kernel, rfl⟩
theorem iX4_spreadPairs_174 : decode cX4_spreadPairs 174 = .ok (.ireturn, 1) ∧ 174 + 1 = 175 := ⟨by decide +kernel, rfl⟩
theorem iX4_likelihood_0 : decode cX4_likelihood 0 = .ok (.iload_n 2, 1) ∧ 0 + 1 = 1 := ⟨by decide +kernel, rfl⟩
theorem iX4_likelihood_1 : decode cX4_likelihood 1 = .ok (.ifCond .lt 9, 3) ∧ 1 + 3 = 4 := ⟨by decide +kernel, rfl⟩
theorem iX4_likelihood_4 : decode cX4_likelihood 4 = .ok (.iload_n 2, 1) ∧ 4 + 1 = 5 := ⟨by decide +kernel, rfl⟩
theorem iX4_likelihood_5 : decode cX4_likelihood 5 = .ok (.bipush 12, 2) ∧ 5 + 2 = 7 := ⟨by decide +kernel, rfl⟩
theorem iX4_likelihood_7 : decode cX4_likelihood 7 = .ok (.if_icmp .lt 5, 3) ∧ 7 + 3 = 10 := ⟨by decide +kernel, rfl⟩
theorem iX4_likelihood_10 : decode cX4_likelihood 10 = .ok (.iconst 0, 1) ∧ 10 + 1 = 11 := ⟨by decide +kernel, rfl⟩
theorem iX4_likelihood_11 : decode cX4_likelihood 11 = .ok (.ireturn, 1) ∧ 11 + 1 = 12 := ⟨by decide +kernel, rfl⟩
theorem iX4_likelihood_12 : decode cX4_likelihood 12 = .ok (.iconst 0, 1) ∧ 12 + 1 = 13 := ⟨by decide +kernel, rfl⟩
theorem iX4_likelihood_13 : decode cX4_likelihood 13 = .ok (.istore 6, 2) ∧ 13 + 2 = 15 := ⟨by decide +kernel, rfl⟩
theorem iX4_likelihood_15 : decode cX4_likelihood 15 = .ok (.iload 6, 2) ∧ 15 + 2 = 17 := ⟨by decide +kernel, rfl⟩
theorem iX4_likelihood_17 : decode cX4_likelihood 17 = .ok (.bipush 12, 2) ∧ 17 + 2 = 19 := ⟨by decide +kernel, rfl⟩
theorem iX4_likelihood_19 : decode cX4_likelihood 19 = .ok (.if_icmp .ge 28, 3) ∧ 19 + 3 = 22 := ⟨by decide +kernel, rfl⟩
theorem iX4_likelihood_22 : decode cX4_likelihood 22 = .ok (.aload_n 0, 1) ∧ 22 + 1 = 23 := ⟨by decide +kernel, rfl⟩
theorem iX4_likelihood_23 : decode cX4_likelihood 23 = .ok (.getfield 24, 3) ∧ 23 + 3 = 26 := ⟨by decide +kernel, rfl⟩
theorem iX4_likelihood_26 : decode cX4_likelihood 26 = .ok (.iload 6, 2) ∧ 26 + 2 = 28 := ⟨by decide +kernel, rfl⟩
theorem iX4_likelihood_28 : decode cX4_likelihood 28 = .ok (.iload 6, 2) ∧ 28 + 2 = 30 := ⟨by decide +kernel, rfl⟩
theorem iX4_likelihood_30 : decode cX4_likelihood 30 = .ok (.iload_n 3, 1) ∧ 30 + 1 = 31 := ⟨by decide +kernel, rfl⟩
theorem iX4_likelihood_31 : decode cX4_likelihood 31 = .ok (.if_icmp .ne 8, 3) ∧ 31 + 3 = 34 := ⟨by decide +kernel, rfl⟩
theorem iX4_likelihood_34 : decode cX4_likelihood 34 = .ok (.ldc 68, 2) ∧ 34 + 2 = 36 := ⟨by decide +kernel, rfl⟩
theorem iX4_likelihood_36 : decode cX4_likelihood 36 = .ok (.goto 4, 3) ∧ 36 + 3 = 39 := ⟨by decide +kernel, rfl⟩
theorem iX4_likelihood_39 : decode cX4_likelihood 39 = .ok (.iconst 0, 1) ∧ 39 + 1 = 40 := ⟨by decide +kernel, rfl⟩
theorem iX4_likelihood_40 : decode cX4_likelihood 40 = .ok (.iastore, 1) ∧ 40 + 1 = 41 := ⟨by decide +kernel, rfl⟩
theorem iX4_likelihood_41 : decode cX4_likelihood 41 = .ok (.iinc 6 1, 3) ∧ 41 + 3 = 44 := ⟨by decide +kernel, rfl⟩
theorem iX4_likelihood_44 : decode cX4_likelihood 44 = .ok (.goto (-29), 3) ∧ 44 + 3 = 47 := ⟨by decide +kernel, rfl⟩
theorem iX4_likelihood_47 : decode cX4_likelihood 47 = .ok (.iconst 0, 1) ∧ 47 + 1 = 48 := ⟨by decide +kernel, rfl⟩
theorem iX4_likelihood_48 : decode cX4_likelihood 48 = .ok (.istore 6, 2) ∧ 48 + 2 = 50 := ⟨by decide +kernel, rfl⟩
theorem iX4_likelihood_50 : decode cX4_likelihood 50 = .ok (.iload 6, 2) ∧ 50 + 2 = 52 := ⟨by decide +kernel, rfl⟩
theorem iX4_likelihood_52 : decode cX4_likelihood 52 = .ok (.iload 5, 2) ∧ 52 + 2 = 54 := ⟨by decide +kernel, rfl⟩
theorem iX4_likelihood_54 : decode cX4_likelihood 54 = .ok (.if_icmp .ge 23, 3) ∧ 54 + 3 = 57 := ⟨by decide +kernel, rfl⟩
theorem iX4_likelihood_57 : decode cX4_likelihood 57 = .ok (.iload 6, 2) ∧ 57 + 2 = 59 := ⟨by decide +kernel, rfl⟩
theorem iX4_likelihood_59 : decode cX4_likelihood 59 = .ok (.bipush 6, 2) ∧ 59 + 2 = 61 := ⟨by decide +kernel, rfl⟩
theorem iX4_likelihood_61 : decode cX4_likelihood 61 = .ok (.if_icmp .ge 16, 3) ∧ 61 + 3 = 64 := ⟨by decide +kernel, rfl⟩
theorem iX4_likelihood_64 : decode cX4_likelihood 64 = .ok (.aload_n 0, 1) ∧ 64 + 1 = 65 := ⟨by decide +kernel, rfl⟩
theorem iX4_likelihood_65 : decode cX4_likelihood 65 = .ok (.aload_n 1, 1) ∧ 65 + 1 = 66 := ⟨by decide +kernel, rfl⟩
theorem iX4_likelihood_66 : decode cX4_likelihood 66 = .ok (.iload 4, 2) ∧ 66 + 2 = 68 := ⟨by decide +kernel, rfl⟩
theorem iX4_likelihood_68 : decode cX4_likelihood 68 = .ok (.invokevirtual 69, 3) ∧ 68 + 3 = 71 := ⟨by decide +kernel, rfl⟩
theorem iX4_likelihood_71 : decode cX4_likelihood 71 = .ok (.iinc 6 1, 3) ∧ 71 + 3 = 74 := ⟨by decide +kernel, rfl⟩
theorem iX4_likelihood_74 : decode cX4_likelihood 74 = .ok (.goto (-24), 3) ∧ 74 + 3 = 77 := ⟨by decide +kernel, rfl⟩
theorem iX4_likelihood_77 : decode cX4_likelihood 77 = .ok (.aload_n 0, 1) ∧ 77 + 1 = 78 := ⟨by decide +kernel, rfl⟩
theorem iX4_likelihood_78 : decode cX4_likelihood 78 = .ok (.getfield 24, 3) ∧ 78 + 3 = 81 := ⟨by decide +kernel, rfl⟩
theorem iX4_likelihood_81 : decode cX4_likelihood 81 = .ok (.iload_n 2, 1) ∧ 81 + 1 = 82 := ⟨by decide +kernel, rfl⟩
theorem iX4_likelihood_82 : decode cX4_likelihood 82 = .ok (.iaload, 1) ∧ 82 + 1 = 83 := ⟨by decide +kernel, rfl⟩
theorem iX4_likelihood_83 : decode cX4_likelihood 83 = .ok (.ireturn, 1) ∧ 83 + 1 = 84 := ⟨by decide +kernel, rfl⟩
theorem iX4_addLeap_0 : decode cX4_addLeap 0 = .ok (.iconst 0, 1) ∧ 0 + 1 = 1 := ⟨by decide +kernel, rfl⟩
theorem iX4_addLeap_1 : decode cX4_addLeap 1 = .ok (.istore_n 3, 1) ∧ 1 + 1 = 2 := ⟨by decide +kernel, rfl⟩
theorem iX4_addLeap_2 : decode cX4_addLeap 2 = .ok (.iload_n 3, 1) ∧ 2 + 1 = 3 := ⟨by decide +kernel, rfl⟩
theorem iX4_addLeap_3 : decode cX4_addLeap 3 = .ok (.bipush 12, 2) ∧ 3 + 2 = 5 := ⟨by decide +kernel, rfl⟩
theorem iX4_addLeap_5 : decode cX4_addLeap 5 = .ok (.if_icmp .ge 58, 3) ∧ 5 + 3 = 8 := ⟨by decide +kernel, rfl⟩
theorem iX4_addLeap_8 : decode cX4_addLeap 8 = .ok (.iload_n 3, 1) ∧ 8 + 1 = 9 := ⟨by decide +kernel, rfl⟩
theorem iX4_addLeap_9 : decode cX4_addLeap 9 = .ok (.aload_n 1, 1) ∧ 9 + 1 = 10 := ⟨by decide +kernel, rfl⟩
theorem iX4_addLeap_10 : decode cX4_addLeap 10 = .ok (.arraylength, 1) ∧ 10 + 1 = 11 := ⟨by decide +kernel, rfl⟩
theorem iX4_addLeap_11 : decode cX4_addLeap 11 = .ok (.if_icmp .ge 52, 3) ∧ 11 + 3 = 14 := ⟨by decide +kernel, rfl⟩
theorem iX4_addLeap_14 : decode cX4_addLeap 14 = .ok (.aload_n 1, 1) ∧ 14 + 1 = 15 := ⟨by decide +kernel, rfl⟩
theorem iX4_addLeap_15 : decode cX4_addLeap 15 = .ok (.iload_n 3, 1) ∧ 15 + 1 = 16 := ⟨by decide +kernel, rfl⟩
theorem iX4_addLeap_16 : decode cX4_addLeap 16 = .ok (.iaload, 1) ∧ 16 + 1 = 17 := ⟨by decide +kernel, rfl⟩
theorem iX4_addLeap_17 : decode cX4_addLeap 17 = .ok (.iload_n 2, 1) ∧ 17 + 1 = 18 := ⟨by decide +kernel, rfl⟩
theorem iX4_addLeap_18 : decode cX4_addLeap 18 = .ok (.iand, 1) ∧ 18 + 1 = 19 := ⟨by decide +kernel, rfl⟩
theorem iX4_addLeap_19 : decode cX4_addLeap 19 = .ok (.istore 4, 2) ∧ 19 + 2 = 21 := ⟨by decide +kernel, rfl⟩
theorem iX4_addLeap_21 : decode cX4_addLeap 21 = .ok (.iload 4, 2) ∧ 21 + 2 = 23 := ⟨by decide +kernel, rfl⟩
theorem iX4_addLeap_23 : decode cX4_addLeap 23 = .ok (.invokestatic 59, 3) ∧ 23 + 3 = 26 := ⟨by decide +kernel, rfl⟩
theorem iX4_addLeap_26 : decode cX4_addLeap 26 = .ok (.istore 5, 2) ∧ 26 + 2 = 28 := ⟨by decide +kernel, rfl⟩
theorem iX4_addLeap_28 : decode cX4_addLeap 28 = .ok (.aload_n 0, 1) ∧ 28 + 1 = 29 := ⟨by decide +kernel, rfl⟩
theorem iX4_addLeap_29 : decode cX4_addLeap 29 = .ok (.getfield 27, 3) ∧ 29 + 3 = 32 := ⟨by decide +kernel, rfl⟩
theorem iX4_addLeap_32 : decode cX4_addLeap 32 = .ok (.iload_n 3, 1) ∧ 32 + 1 = 33 := ⟨by decide +kernel, rfl⟩
theorem iX4_addLeap_33 : decode cX4_addLeap 33 = .ok (.iload 5, 2) ∧ 33 + 2 = 35 := ⟨by decide +kernel, rfl⟩
theorem iX4_addLeap_35 : decode cX4_addLeap 35 = .ok (.ifCond .le 15, 3) ∧ 35 + 3 = 38 := ⟨by decide +kernel, rfl⟩
theorem iX4_addLeap_38 : decode cX4_addLeap 38 = .ok (.aload_n 0, 1) ∧ 38 + 1 = 39 := ⟨by decide +kernel, rfl⟩
theorem iX4_addLeap_39 : decode cX4_addLeap 39 = .ok (.iload 4, 2) ∧ 39 + 2 = 41 := ⟨by decide +kernel, rfl⟩
theorem iX4_addLeap_41 : decode cX4_addLeap 41 = .ok (.invokevirtual 73, 3) ∧ 41 + 3 = 44 := ⟨by decide +kernel, rfl⟩
theorem iX4_addLeap_44 : decode cX4_addLeap 44 = .ok (.iload 5, 2) ∧ 44 + 2 = 46 := ⟨by decide +kernel, rfl⟩
theorem iX4_addLeap_46 : decode cX4_addLeap 46 = .ok (.idiv, 1) ∧ 46 + 1 = 47 := ⟨by decide +kernel, rfl⟩
theorem iX4_addLeap_47 : decode cX4_addLeap 47 = .ok (.goto 9, 3) ∧ 47 + 3 = 50 := ⟨by decide +kernel, rfl⟩
theorem iX4_addLeap_50 : decode cX4_addLeap 50 = .ok (.aload_n 0, 1) ∧ 50 + 1 = 51 := ⟨by decide +kernel, rfl⟩
theorem iX4_addLeap_51 : decode cX4_addLeap 51 = .ok (.getfield 24, 3) ∧ 51 + 3 = 54 := ⟨by decide +kernel, rfl⟩
theorem iX4_addLeap_54 : decode cX4_addLeap 54 = .ok (.iload_n 3, 1) ∧ 54 + 1 = 55 := ⟨by decide +kernel, rfl⟩
theorem iX4_addLeap_55 : decode cX4_addLeap 55 = .ok (.iaload, 1) ∧ 55 + 1 = 56 := ⟨by decide +kernel, rfl⟩
theorem iX4_addLeap_56 : decode cX4_addLeap 56 = .ok (.iastore, 1) ∧ 56 + 1 = 57 := ⟨by decide +kernel, rfl⟩
theorem iX4_addLeap_57 : decode cX4_addLeap 57 = .ok (.iinc 3 1, 3) ∧ 57 + 3 = 60 := ⟨by decide +kernel, rfl⟩
theorem iX4_addLeap_60 : decode cX4_addLeap 60 = .ok (.goto (-58), 3) ∧ 60 + 3 = 63 := ⟨by decide +kernel, rfl⟩
theorem iX4_addLeap_63 : decode cX4_addLeap 63 = .ok (.iconst 0, 1) ∧ 63 + 1 = 64 := ⟨by decide +kernel, rfl⟩
theorem iX4_addLeap_64 : decode cX4_addLeap 64 = .ok (.istore_n 3, 1) ∧ 64 + 1 = 65 := ⟨by decide +kernel, rfl⟩
theorem iX4_addLeap_65 : decode cX4_addLeap 65 = .ok (.iload_n 3, 1) ∧ 65 + 1 = 66 := ⟨by decide +kernel, rfl⟩
theorem iX4_addLeap_66 : decode cX4_addLeap 66 = .ok (.bipush 12, 2) ∧ 66 + 2 = 68 := ⟨by decide +kernel, rfl⟩
theorem iX4_addLeap_68 : decode cX4_addLeap 68 = .ok (.if_icmp .ge 21, 3) ∧ 68 + 3 = 71 := ⟨by decide +kernel, rfl⟩
theorem iX4_addLeap_71 : decode cX4_addLeap 71 = .ok (.aload_n 0, 1) ∧ 71 + 1 = 72 := ⟨by decide +kernel, rfl⟩
theorem iX4_addLeap_72 : decode cX4_addLeap 72 = .ok (.getfield 24, 3) ∧ 72 + 3 = 75 := ⟨by decide +kernel, rfl⟩
theorem iX4_addLeap_75 : decode cX4_addLeap 75 = .ok (.iload_n 3, 1) ∧ 75 + 1 = 76 := ⟨by decide +kernel, rfl⟩
theorem iX4_addLeap_76 : decode cX4_addLeap 76 = .ok (.aload_n 0, 1) ∧ 76 + 1 = 77 := ⟨by decide +kernel, rfl⟩
theorem iX4_addLeap_77 : decode cX4_addLeap 77 = .ok (.getfield 27, 3) ∧ 77 + 3 = 80 := ⟨by decide +kernel, rfl⟩
theorem iX4_addLeap_80 : decode cX4_addLeap 80 = .ok (.iload_n 3, 1) ∧ 80 + 1 = 81 := ⟨by decide +kernel, rfl⟩
theorem iX4_addLeap_81 : decode cX4_addLeap 81 = .ok (.iaload, 1) ∧ 81 + 1 = 82 := ⟨by decide +kernel, rfl⟩
theorem iX4_addLeap_82 : decode cX4_addLeap 82 = .ok (.iastore, 1) ∧ 82 + 1 = 83 := ⟨by decide +kernel, rfl⟩
theorem iX4_addLeap_83 : decode cX4_addLeap 83 = .ok (.iinc 3 1, 3) ∧ 83 + 3 = 86 := ⟨by decide +kernel, rfl⟩
theorem iX4_addLeap_86 : decode cX4_addLeap 86 = .ok (.goto (-21), 3) ∧ 86 + 3 = 89 := ⟨by decide +kernel, rfl⟩
theorem iX4_addLeap_89 : decode cX4_addLeap 89 = .ok (.return_, 1) ∧ 89 + 1 = 90 := ⟨by decide +kernel, rfl⟩
theorem iX4_sumOver_0 : decode cX4_sumOver 0 = .ok (.iconst 0, 1) ∧ 0 + 1 = 1 := ⟨by decide +kernel, rfl⟩
theorem iX4_sumOver_1 : decode cX4_sumOver 1 = .ok (.istore_n 2, 1) ∧ 1 + 1 = 2 := ⟨by decide +kernel, rfl⟩
theorem iX4_sumOver_2 : decode cX4_sumOver 2 = .ok (.iconst 0, 1) ∧ 2 + 1 = 3 := ⟨by decide +kernel, rfl⟩
theorem iX4_sumOver_3 : decode cX4_sumOver 3 = .ok (.istore_n 3, 1) ∧ 3 + 1 = 4 := ⟨by decide +kernel, rfl⟩
theorem iX4_sumOver_4 : decode cX4_sumOver 4 = .ok (.iload_n 3, 1) ∧ 4 + 1 = 5 := ⟨by decide +kernel, rfl⟩
theorem iX4_sumOver_5 : decode cX4_sumOver 5 = .ok (.bipush 12, 2) ∧ 5 + 2 = 7 := ⟨by decide +kernel, rfl⟩
theorem iX4_sumOver_7 : decode cX4_sumOver 7 = .ok (.if_icmp .ge 26, 3) ∧ 7 + 3 = 10 := ⟨by decide +kernel, rfl⟩
theorem iX4_sumOver_10 : decode cX4_sumOver 10 = .ok (.iload_n 1, 1) ∧ 10 + 1 = 11 := ⟨by decide +kernel, rfl⟩
theorem iX4_sumOver_11 : decode cX4_sumOver 11 = .ok (.iload_n 3, 1) ∧ 11 + 1 = 12 := ⟨by decide +kernel, rfl⟩
theorem iX4_sumOver_12 : decode cX4_sumOver 12 = .ok (.invokestatic 30, 3) ∧ 12 + 3 = 15 := ⟨by decide +kernel, rfl⟩
theorem iX4_sumOver_15 : decode cX4_sumOver 15 = .ok (.ifCond .eq 12, 3) ∧ 15 + 3 = 18 := ⟨by decide +kernel, rfl⟩
theorem iX4_sumOver_18 : decode cX4_sumOver 18 = .ok (.iload_n 2, 1) ∧ 18 + 1 = 19 := ⟨by decide +kernel, rfl⟩
theorem iX4_sumOver_19 : decode cX4_sumOver 19 = .ok (.aload_n 0, 1) ∧ 19 + 1 = 20 := ⟨by decide +kernel, rfl⟩
theorem iX4_sumOver_20 : decode cX4_sumOver 20 = .ok (.getfield 24, 3) ∧ 20 + 3 = 23 := ⟨by decide +kernel, rfl⟩
theorem iX4_sumOver_23 : decode cX4_sumOver 23 = .ok (.iload_n 3, 1) ∧ 23 + 1 = 24 := ⟨by decide +kernel, rfl⟩
theorem iX4_sumOver_24 : decode cX4_sumOver 24 = .ok (.iaload, 1) ∧ 24 + 1 = 25 := ⟨by decide +kernel, rfl⟩
theorem iX4_sumOver_25 : decode cX4_sumOver 25 = .ok (.iadd, 1) ∧ 25 + 1 = 26 := ⟨by decide +kernel, rfl⟩
theorem iX4_sumOver_26 : decode cX4_sumOver 26 = .ok (.istore_n 2, 1) ∧ 26 + 1 = 27 := ⟨by decide +kernel, rfl⟩
theorem iX4_sumOver_27 : decode cX4_sumOver 27 = .ok (.iinc 3 1, 3) ∧ 27 + 3 = 30 := ⟨by decide +kernel, rfl⟩
theorem iX4_sumOver_30 : decode cX4_sumOver 30 = .ok (.goto (-26), 3) ∧ 30 + 3 = 33 := ⟨by decide +kernel, rfl⟩
theorem iX4_sumOver_33 : decode cX4_sumOver 33 = .ok (.iload_n 2, 1) ∧ 33 + 1 = 34 := ⟨by decide +kernel, rfl⟩
theorem iX4_sumOver_34 : decode cX4_sumOver 34 = .ok (.ireturn, 1) ∧ 34 + 1 = 35 := ⟨by decide +kernel, rfl⟩
theorem iX5_init_0 : decode cX5_init 0 = .ok (.aload_n 0, 1) ∧ 0 + 1 = 1 := ⟨by decide +kernel, rfl⟩
theorem iX5_init_1 : decode cX5_init 1 = .ok (.invokespecial 1, 3) ∧ 1 + 3 = 4 := ⟨by decide +kernel, rfl⟩
theorem iX5_init_4 : decode cX5_init 4 = .ok (.aload_n 0, 1) ∧ 4 + 1 = 5 := ⟨by decide +kernel, rfl⟩
theorem iX5_init_5 : decode cX5_init 5 = .ok (.new 7, 3) ∧ 5 + 3 = 8 := ⟨by decide +kernel, rfl⟩
theorem iX5_init_8 : decode cX5_init 8 = .ok (.dup, 1) ∧ 8 + 1 = 9 := ⟨by decide +kernel, rfl⟩
theorem iX5_init_9 : decode cX5_init 9 = .ok (.invokespecial 9, 3) ∧ 9 + 3 = 12 := ⟨by decide +kernel, rfl⟩
theorem iX5_init_12 : decode cX5_init 12 = .ok (.putfield 10, 3) ∧ 12 + 3 = 15 := ⟨by decide +kernel, rfl⟩
theorem iX5_init_15 : decode cX5_init 15 = .ok (.aload_n 0, 1) ∧ 15 + 1 = 16 := ⟨by decide +kernel, rfl⟩
theorem iX5_init_16 : decode cX5_init 16 = .ok (.new 16, 3) ∧ 16 + 3 = 19 := ⟨by decide +kernel, rfl⟩
theorem iX5_init_19 : decode cX5_init 19 = .ok (.dup, 1) ∧ 19 + 1 = 20 := ⟨by decide +kernel, rfl⟩
theorem iX5_init_20 : decode cX5_init 20 = .ok (.invokespecial 18, 3) ∧ 20 + 3 = 23 := ⟨by decide +kernel, rfl⟩
theorem iX5_init_23 : decode cX5_init 23 = .ok (.putfield 19, 3) ∧ 23 + 3 = 26 := ⟨by decide +kernel, rfl⟩
theorem iX5_init_26 : decode cX5_init 26 = .ok (.aload_n 0, 1) ∧ 26 + 1 = 27 := ⟨by decide +kernel, rfl⟩
theorem iX5_init_27 : decode cX5_init 27 = .ok (.new 23, 3) ∧ 27 + 3 = 30 := ⟨by decide +kernel, rfl⟩
theorem iX5_init_30 : decode cX5_init 30 = .ok (.dup, 1) ∧ 30 + 1 = 31 := ⟨by decide +kernel, rfl⟩
theorem iX5_init_31 : decode cX5_init 31 = .ok (.invokespecial 25, 3) ∧ 31 + 3 = 34 := ⟨by decide +kernel, rfl⟩
theorem iX5_init_34 : decode cX5_init 34 = .ok (.putfield 26, 3) ∧ 34 + 3 = 37 := ⟨by decide +kernel, rfl⟩
theorem iX5_init_37 : decode cX5_init 37 = .ok (.aload_n 0, 1) ∧ 37 + 1 = 38 := ⟨by decide +kernel, rfl⟩
theorem iX5_init_38 : decode cX5_init 38 = .ok (.new 23, 3) ∧ 38 + 3 = 41 := ⟨by decide +kernel, rfl⟩
theorem iX5_init_41 : decode cX5_init 41 = .ok (.dup, 1) ∧ 41 + 1 = 42 := ⟨by decide +kernel, rfl⟩
theorem iX5_init_42 : decode cX5_init 42 = .ok (.invokespecial 25, 3) ∧ 42 + 3 = 45 := ⟨by decide +kernel, rfl⟩
theorem iX5_init_45 : decode cX5_init 45 = .ok (.putfield 30, 3) ∧ 45 + 3 = 48 := ⟨by decide +kernel, rfl⟩
theorem iX5_init_48 : decode cX5_init 48 = .ok (.aload_n 0, 1) ∧ 48 + 1 = 49 := ⟨by decide +kernel, rfl⟩
theorem iX5_init_49 : decode cX5_init 49 = .ok (.new 23, 3) ∧ 49 + 3 = 52 := ⟨by decide +kernel, rfl⟩
theorem iX5_init_52 : decode cX5_init 52 = .ok (.dup, 1) ∧ 52 + 1 = 53 := ⟨by decide +kernel, rfl⟩
theorem iX5_init_53 : decode cX5_init 53 = .ok (.invokespecial 25, 3) ∧ 53 + 3 = 56 := ⟨by decide +kernel, rfl⟩
theorem iX5_init_56 : decode cX5_init 56 = .ok (.putfield 33, 3) ∧ 56 + 3 = 59 := ⟨by decide +kernel, rfl⟩
theorem iX5_init_59 : decode cX5_init 59 = .ok (.aload_n 0, 1) ∧ 59 + 1 = 60 := ⟨by decide +kernel, rfl⟩
theorem iX5_init_60 : decode cX5_init 60 = .ok (.new 36, 3) ∧ 60 + 3 = 63 := ⟨by decide +kernel, rfl⟩
theorem iX5_init_63 : decode cX5_init 63 = .ok (.dup, 1) ∧ 63 + 1 = 64 := ⟨by decide +kernel, rfl⟩
theorem iX5_init_64 : decode cX5_init 64 = .ok (.invokespecial 38, 3) ∧ 64 + 3 = 67 := ⟨by decide +kernel, rfl⟩
theorem iX5_init_67 : decode cX5_init 67 = .ok (.putfield 39, 3) ∧ 67 + 3 = 70 := ⟨by decide +kernel, rfl⟩
theorem iX5_init_70 : decode cX5_init 70 = .ok (.aload_n 0, 1) ∧ 70 + 1 = 71 := ⟨by decide +kernel, rfl⟩
theorem iX5_init_71 : decode cX5_init 71 = .ok (.new 43, 3) ∧ 71 + 3 = 74 := ⟨by decide +kernel, rfl⟩
theorem iX5_init_74 : decode cX5_init 74 = .ok (.dup, 1) ∧ 74 + 1 = 75 := ⟨by decide +kernel, rfl⟩
theorem iX5_init_75 : decode cX5_init 75 = .ok (.invokespecial 45, 3) ∧ 75 + 3 = 78 := ⟨by decide +kernel, rfl⟩
theorem iX5_init_78 : decode cX5_init 78 = .ok (.putfield 46, 3) ∧ 78 + 3 = 81 := ⟨by decide +kernel, rfl⟩
theorem iX5_init_81 : decode cX5_init 81 = .ok (.aload_n 0, 1) ∧ 81 + 1 = 82 := ⟨by decide +kernel, rfl⟩
theorem iX5_init_82 : decode cX5_init 82 = .ok (.iconst 0, 1) ∧ 82 + 1 = 83 := ⟨by decide +kernel, rfl⟩
theorem iX5_init_83 : decode cX5_init 83 = .ok (.putfield 50, 3) ∧ 83 + 3 = 86 := ⟨by decide +kernel, rfl⟩
theorem iX5_init_86 : decode cX5_init 86 = .ok (.aload_n 0, 1) ∧ 86 + 1 = 87 := ⟨by decide +kernel, rfl⟩
theorem iX5_init_87 : decode cX5_init 87 = .ok (.iconst 0, 1) ∧ 87 + 1 = 88 := ⟨by decide +kernel, rfl⟩
theorem iX5_init_88 : decode cX5_init 88 = .ok (.putfield 54, 3) ∧ 88 + 3 = 91 := ⟨by decide +kernel, rfl⟩
theorem iX5_init_91 : decode cX5_init 91 = .ok (.return_, 1) ∧ 91 + 1 = 92 := ⟨by decide +kernel, rfl⟩
theorem iX5_letter_0 : decode cX5_letter 0 = .ok (.iload_n 1, 1) ∧ 0 + 1 = 1 := ⟨by decide +kernel, rfl⟩
theorem iX5_letter_1 : decode cX5_letter 1 = .ok (.bipush 32, 2) ∧ 1 + 2 = 3 := ⟨by decide +kernel, rfl⟩
theorem iX5_letter_3 : decode cX5_letter 3 = .ok (.if_icmp .lt 9, 3) ∧ 3 + 3 = 6 := ⟨by decide +kernel, rfl⟩
theorem iX5_letter_6 : decode cX5_letter 6 = .ok (.iload_n 1, 1) ∧ 6 + 1 = 7 := ⟨by decide +kernel, rfl⟩
theorem iX5_letter_7 : decode cX5_letter 7 = .ok (.bipush 126, 2) ∧ 7 + 2 = 9 := ⟨by decide +kernel, rfl⟩
theorem iX5_letter_9 : decode cX5_letter 9 = .ok (.if_icmp .le 6, 3) ∧ 9 + 3 = 12 := ⟨by decide +kernel, rfl⟩
theorem iX5_letter_12 : decode cX5_letter 12 = .ok (.bipush (-102), 2) ∧ 12 + 2 = 14 := ⟨by decide +kernel, rfl⟩
theorem iX5_letter_14 : decode cX5_letter 14 = .ok (.ireturn, 1) ∧ 14 + 1 = 15 := ⟨by decide +kernel, rfl⟩
theorem iX5_letter_15 : decode cX5_letter 15 = .ok (.aload_n 0, 1) ∧ 15 + 1 = 16 := ⟨by decide +kernel, rfl⟩
theorem iX5_letter_16 : decode cX5_letter 16 = .ok (.getfield 10, 3) ∧ 16 + 3 = 19 := ⟨by decide +kernel, rfl⟩
theorem iX5_letter_19 : decode cX5_letter 19 = .ok (.iload_n 1, 1) ∧ 19 + 1 = 20 := ⟨by decide +kernel, rfl⟩
theorem iX5_letter_20 : decode cX5_letter 20 = .ok (.invokevirtual 58, 3) ∧ 20 + 3 = 23 := ⟨by decide +kernel, rfl⟩
theorem iX5_letter_23 : decode cX5_letter 23 = .ok (.ifCond .eq 13, 3) ∧ 23 + 3 = 26 := ⟨by decide +kernel, rfl⟩
theorem iX5_letter_26 : decode cX5_letter 26 = .ok (.aload_n 0, 1) ∧ 26 + 1 = 27 := ⟨by decide +kernel, rfl⟩
theorem iX5_letter_27 : decode cX5_letter 27 = .ok (.getfield 10, 3) ∧ 27 + 3 = 30 := ⟨by decide +kernel, rfl⟩
theorem iX5_letter_30 : decode cX5_letter 30 = .ok (.getfield 62, 3) ∧ 30 + 3 = 33 := ⟨by decide +kernel, rfl⟩
theorem iX5_letter_33 : decode cX5_letter 33 = .ok (.goto 5, 3) ∧ 33 + 3 = 36 := ⟨by decide +kernel, rfl⟩
theorem iX5_letter_36 : decode cX5_letter 36 = .ok (.bipush (-104), 2) ∧ 36 + 2 = 38 := ⟨by decide +kernel, rfl⟩
theorem iX5_letter_38 : decode cX5_letter 38 = .ok (.ireturn, 1) ∧ 38 + 1 = 39 := ⟨by decide +kernel, rfl⟩
theorem iX5_blank_0 : decode cX5_blank 0 = .ok (.aload_n 0, 1) ∧ 0 + 1 = 1 := ⟨by decide +kernel, rfl⟩
theorem iX5_blank_1 : decode cX5_blank 1 = .ok (.getfield 10, 3) ∧ 1 + 3 = 4 := ⟨by decide +kernel, rfl⟩
theorem iX5_blank_4 : decode cX5_blank 4 = .ok (.invokevirtual 65, 3) ∧ 4 + 3 = 7 := ⟨by decide +kernel, rfl⟩
theorem iX5_blank_7 : decode cX5_blank 7 = .ok (.ireturn, 1) ∧ 7 + 1 = 8 := ⟨by decide +kernel, rfl⟩
theorem iX5_fault_0 : decode cX5_fault 0 = .ok (.aload_n 0, 1) ∧ 0 + 1 = 1 := ⟨by decide +kernel, rfl⟩
theorem iX5_fault_1 : decode cX5_fault 1 = .ok (.getfield 10, 3) ∧ 1 + 3 = 4 := ⟨by decide +kernel, rfl⟩
theorem iX5_fault_4 : decode cX5_fault 4 = .ok (.invokevirtual 69, 3) ∧ 4 + 3 = 7 := ⟨by decide +kernel, rfl⟩
theorem iX5_fault_7 : decode cX5_fault 7 = .ok (.ireturn, 1) ∧ 7 + 1 = 8 := ⟨by decide +kernel, rfl⟩
theorem iX5_board_0 : decode cX5_board 0 = .ok (.aload_n 0, 1) ∧ 0 + 1 = 1 := ⟨by decide +kernel, rfl⟩
theorem iX5_board_1 : decode cX5_board 1 = .ok (.getfield 10, 3) ∧ 1 + 3 = 4 := ⟨by decide +kernel, rfl⟩
theorem iX5_board_4 : decode cX5_board 4 = .ok (.invokevirtual 72, 3) ∧ 4 + 3 = 7 := ⟨by decide +kernel, rfl⟩
theorem iX5_board_7 : decode cX5_board 7 = .ok (.ifCond .ne 6, 3) ∧ 7 + 3 = 10 := ⟨by decide +kernel, rfl⟩
theorem iX5_board_10 : decode cX5_board 10 = .ok (.bipush (-103), 2) ∧ 10 + 2 = 12 := ⟨by decide +kernel, rfl⟩
theorem iX5_board_12 : decode cX5_board 12 = .ok (.ireturn, 1) ∧ 12 + 1 = 13 := ⟨by decide +kernel, rfl⟩
theorem iX5_board_13 : decode cX5_board 13 = .ok (.aload_n 0, 1) ∧ 13 + 1 = 14 := ⟨by decide +kernel, rfl⟩
theorem iX5_board_14 : decode cX5_board 14 = .ok (.getfield 19, 3) ∧ 14 + 3 = 17 := ⟨by decide +kernel, rfl⟩
theorem iX5_board_17 : decode cX5_board 17 = .ok (.aload_n 0, 1) ∧ 17 + 1 = 18 := ⟨by decide +kernel, rfl⟩
theorem iX5_board_18 : decode cX5_board 18 = .ok (.getfield 10, 3) ∧ 18 + 3 = 21 := ⟨by decide +kernel, rfl⟩
theorem iX5_board_21 : decode cX5_board 21 = .ok (.invokevirtual 76, 3) ∧ 21 + 3 = 24 := ⟨by decide +kernel, rfl⟩
theorem iX5_board_24 : decode cX5_board 24 = .ok (.aload_n 0, 1) ∧ 24 + 1 = 25 := ⟨by decide +kernel, rfl⟩
theorem iX5_board_25 : decode cX5_board 25 = .ok (.getfield 10, 3) ∧ 25 + 3 = 28 := ⟨by decide +kernel, rfl⟩
theorem iX5_board_28 : decode cX5_board 28 = .ok (.invokevirtual 79, 3) ∧ 28 + 3 = 31 := ⟨by decide +kernel, rfl⟩
theorem iX5_board_31 : decode cX5_board 31 = .ok (.invokevirtual 82, 3) ∧ 31 + 3 = 34 := ⟨by decide +kernel, rfl⟩
theorem iX5_board_34 : decode cX5_board 34 = .ok (.aload_n 0, 1) ∧ 34 + 1 = 35 := ⟨by decide +kernel, rfl⟩
theorem iX5_board_35 : decode cX5_board 35 = .ok (.getfield 26, 3) ∧ 35 + 3 = 38 := ⟨by decide +kernel, rfl⟩
theorem iX5_board_38 : decode cX5_board 38 = .ok (.aload_n 0, 1) ∧ 38 + 1 = 39 := ⟨by decide +kernel, rfl⟩
theorem iX5_board_39 : decode cX5_board 39 = .ok (.getfield 10, 3) ∧ 39 + 3 = 42 := ⟨by decide +kernel, rfl⟩
theorem iX5_board_42 : decode cX5_board 42 = .ok (.invokevirtual 86, 3) ∧ 42 + 3 = 45 := ⟨by decide +kernel, rfl⟩
theorem iX5_board_45 : decode cX5_board 45 = .ok (.putfield 89, 3) ∧ 45 + 3 = 48 := ⟨by decide +kernel, rfl⟩
theorem iX5_board_48 : decode cX5_board 48 = .ok (.aload_n 0, 1) ∧ 48 + 1 = 49 := ⟨by decide +kernel, rfl⟩
theorem iX5_board_49 : decode cX5_board 49 = .ok (.getfield 26, 3) ∧ 49 + 3 = 52 := ⟨by decide +kernel, rfl⟩
theorem iX5_board_52 : decode cX5_board 52 = .ok (.aload_n 0, 1) ∧ 52 + 1 = 53 := ⟨by decide +kernel, rfl⟩
theorem iX5_board_53 : decode cX5_board 53 = .ok (.getfield 10, 3) ∧ 53 + 3 = 56 := ⟨by decide +kernel, rfl⟩
theorem iX5_board_56 : decode cX5_board 56 = .ok (.invokevirtual 92, 3) ∧ 56 + 3 = 59 := ⟨by decide +kernel, rfl⟩
theorem iX5_board_59 : decode cX5_board 59 = .ok (.putfield 95, 3) ∧ 59 + 3 = 62 := ⟨by decide +kernel, rfl⟩
theorem iX5_board_62 : decode cX5_board 62 = .ok (.iconst 0, 1) ∧ 62 + 1 = 63 := ⟨by decide +kernel, rfl⟩
theorem iX5_board_63 : decode cX5_board 63 = .ok (.istore_n 1, 1) ∧ 63 + 1 = 64 := ⟨by decide +kernel, rfl⟩
theorem iX5_board_64 : decode cX5_board 64 = .ok (.iload_n 1, 1) ∧ 64 + 1 = 65 := ⟨by decide +kernel, rfl⟩
theorem iX5_board_65 : decode cX5_board 65 = .ok (.aload_n 0, 1) ∧ 65 + 1 = 66 := ⟨by decide +kernel, rfl⟩
theorem iX5_board_66 : decode cX5_board 66 = .ok (.getfield 26, 3) ∧ 66 + 3 = 69 := ⟨by decide +kernel, rfl⟩
theorem iX5_board_69 : decode cX5_board 69 = .ok (.getfield 95, 3) ∧ 69 + 3 = 72 := ⟨by decide +kernel, rfl⟩
theorem iX5_board_72 : decode cX5_board 72 = .ok (.if_icmp .ge 48, 3) ∧ 72 + 3 = 75 := ⟨by decide +kernel, rfl⟩
theorem iX5_board_75 : decode cX5_board 75 = .ok (.iload_n 1, 1) ∧ 75 + 1 = 76 := ⟨by decide +kernel, rfl⟩
theorem iX5_board_76 : decode cX5_board 76 = .ok (.iconst 4, 1) ∧ 76 + 1 = 77 := ⟨by decide +kernel, rfl⟩
theorem iX5_board_77 : decode cX5_board 77 = .ok (.if_icmp .ge 43, 3) ∧ 77 + 3 = 80 := ⟨by decide +kernel, rfl⟩
theorem iX5_board_80 : decode cX5_board 80 = .ok (.aload_n 0, 1) ∧ 80 + 1 = 81 := ⟨by decide +kernel, rfl⟩
theorem iX5_board_81 : decode cX5_board 81 = .ok (.getfield 26, 3) ∧ 81 + 3 = 84 := ⟨by decide +kernel, rfl⟩
theorem iX5_board_84 : decode cX5_board 84 = .ok (.getfield 97, 3) ∧ 84 + 3 = 87 := ⟨by decide +kernel, rfl⟩
theorem iX5_board_87 : decode cX5_board 87 = .ok (.iload_n 1, 1) ∧ 87 + 1 = 88 := ⟨by decide +kernel, rfl⟩
theorem iX5_board_88 : decode cX5_board 88 = .ok (.aload_n 0, 1) ∧ 88 + 1 = 89 := ⟨by decide +kernel, rfl⟩
theorem iX5_board_89 : decode cX5_board 89 = .ok (.getfield 10, 3) ∧ 89 + 3 = 92 := ⟨by decide +kernel, rfl⟩
theorem iX5_board_92 : decode cX5_board 92 = .ok (.iload_n 1, 1) ∧ 92 + 1 = 93 := ⟨by decide +kernel, rfl⟩
theorem iX5_board_93 : decode cX5_board 93 = .ok (.invokevirtual 101, 3) ∧ 93 + 3 = 96 := ⟨by decide +kernel, rfl⟩
theorem iX5_board_96 : decode cX5_board 96 = .ok (.iastore, 1) ∧ 96 + 1 = 97 := ⟨by decide +kernel, rfl⟩
theorem iX5_board_97 : decode cX5_board 97 = .ok (.aload_n 0, 1) ∧ 97 + 1 = 98 := ⟨by decide +kernel, rfl⟩
theorem iX5_board_98 : decode cX5_board 98 = .ok (.getfield 26, 3) ∧ 98 + 3 = 101 := ⟨by decide +kernel, rfl⟩
theorem iX5_board_101 : decode cX5_board 101 = .ok (.getfield 105, 3) ∧ 101 + 3 = 104 := ⟨by decide +kernel, rfl⟩
theorem iX5_board_104 : decode cX5_board 104 = .ok (.iload_n 1, 1) ∧ 104 + 1 = 105 := ⟨by decide +kernel, rfl⟩
theorem iX5_board_105 : decode cX5_board 105 = .ok (.aload_n 0, 1) ∧ 105 + 1 = 106 := ⟨by decide +kernel, rfl⟩
theorem iX5_board_106 : decode cX5_board 106 = .ok (.getfield 10, 3) ∧ 106 + 3 = 109 := ⟨by decide +kernel, rfl⟩
theorem iX5_board_109 : decode cX5_board 109 = .ok (.iload_n 1, 1) ∧ 109 + 1 = 110 := ⟨by decide +kernel, rfl⟩
theorem iX5_board_110 : decode cX5_board 110 = .ok (.invokevirtual 108, 3) ∧ 110 + 3 = 113 := ⟨by decide +kernel, rfl⟩
theorem iX5_board_113 : decode cX5_board 113 = .ok (.iastore, 1) ∧ 113 + 1 = 114 := ⟨by decide +kernel, rfl⟩
theorem iX5_board_114 : decode cX5_board 114 = .ok (.iinc 1 1, 3) ∧ 114 + 3 = 117 := ⟨by decide +kernel, rfl⟩
theorem iX5_board_117 : decode cX5_board 117 = .ok (.goto (-53), 3) ∧ 117 + 3 = 120 := ⟨by decide +kernel, rfl⟩
theorem iX5_board_120 : decode cX5_board 120 = .ok (.aload_n 0, 1) ∧ 120 + 1 = 121 := ⟨by decide +kernel, rfl⟩
theorem iX5_board_121 : decode cX5_board 121 = .ok (.getfield 26, 3) ∧ 121 + 3 = 124 := ⟨by decide +kernel, rfl⟩
theorem iX5_board_124 : decode cX5_board 124 = .ok (.iconst 0, 1) ∧ 124 + 1 = 125 := ⟨by decide +kernel, rfl⟩
theorem iX5_board_125 : decode cX5_board 125 = .ok (.putfield 111, 3) ∧ 125 + 3 = 128 := ⟨by decide +kernel, rfl⟩
theorem iX5_board_128 : decode cX5_board 128 = .ok (.aload_n 0, 1) ∧ 128 + 1 = 129 := ⟨by decide +kernel, rfl⟩
theorem iX5_board_129 : decode cX5_board 129 = .ok (.getfield 26, 3) ∧ 129 + 3 = 132 := ⟨by decide +kernel, rfl⟩
theorem iX5_board_132 : decode cX5_board 132 = .ok (.iconst 0, 1) ∧ 132 + 1 = 133 := ⟨by decide +kernel, rfl⟩
theorem iX5_board_133 : decode cX5_board 133 = .ok (.putfield 114, 3) ∧ 133 + 3 = 136 := ⟨by decide +kernel, rfl⟩
theorem iX5_board_136 : decode cX5_board 136 = .ok (.aload_n 0, 1) ∧ 136 + 1 = 137 := ⟨by decide +kernel, rfl⟩
theorem iX5_board_137 : decode cX5_board 137 = .ok (.iconst 0, 1) ∧ 137 + 1 = 138 := ⟨by decide +kernel, rfl⟩
theorem iX5_board_138 : decode cX5_board 138 = .ok (.putfield 50, 3) ∧ 138 + 3 = 141 := ⟨by decide +kernel, rfl⟩
theorem iX5_board_141 : decode cX5_board 141 = .ok (.aload_n 0, 1) ∧ 141 + 1 = 142 := ⟨by decide +kernel, rfl⟩
theorem iX5_board_142 : decode cX5_board 142 = .ok (.dup, 1) ∧ 142 + 1 = 143 := ⟨by decide +kernel, rfl⟩
theorem iX5_board_143 : decode cX5_board 143 = .ok (.getfield 54, 3) ∧ 143 + 3 = 146 := ⟨by decide +kernel, rfl⟩
theorem iX5_board_146 : decode cX5_board 146 = .ok (.iconst 1, 1) ∧ 146 + 1 = 147 := ⟨by decide +kernel, rfl⟩
theorem iX5_board_147 : decode cX5_board 147 = .ok (.iadd, 1) ∧ 147 + 1 = 148 := ⟨by decide +kernel, rfl⟩
theorem iX5_board_148 : decode cX5_board 148 = .ok (.putfield 54, 3) ∧ 148 + 3 = 151 := ⟨by decide +kernel, rfl⟩
theorem iX5_board_151 : decode cX5_board 151 = .ok (.aload_n 0, 1) ∧ 151 + 1 = 152 := ⟨by decide +kernel, rfl⟩
theorem iX5_board_152 : decode cX5_board 152 = .ok (.getfield 10, 3) ∧ 152 + 3 = 155 := ⟨by decide +kernel, rfl⟩
theorem iX5_board_155 : decode cX5_board 155 = .ok (.invokevirtual 65, 3) ∧ 155 + 3 = 158 := ⟨by decide +kernel, rfl⟩
theorem iX5_board_158 : decode cX5_board 158 = .ok (.pop, 1) ∧ 158 + 1 = 159 := ⟨by decide +kernel, rfl⟩
theorem iX5_board_159 : decode cX5_board 159 = .ok (.aload_n 0, 1) ∧ 159 + 1 = 160 := ⟨by decide +kernel, rfl⟩
theorem iX5_board_160 : decode cX5_board 160 = .ok (.getfield 19, 3) ∧ 160 + 3 = 163 := ⟨by decide +kernel, rfl⟩
theorem iX5_board_163 : decode cX5_board 163 = .ok (.getfield 117, 3) ∧ 163 + 3 = 166 := ⟨by decide +kernel, rfl⟩
theorem iX5_board_166 : decode cX5_board 166 = .ok (.ireturn, 1) ∧ 166 + 1 = 167 := ⟨by decide +kernel, rfl⟩
theorem iX5_leaper_0 : decode cX5_leaper 0 = .ok (.aload_n 0, 1) ∧ 0 + 1 = 1 := ⟨by decide +kernel, rfl⟩
theorem iX5_leaper_1 : decode cX5_leaper 1 = .ok (.getfield 26, 3) ∧ 1 + 3 = 4 := ⟨by decide +kernel, rfl⟩
theorem iX5_leaper_4 : decode cX5_leaper 4 = .ok (.iload_n 1, 1) ∧ 4 + 1 = 5 := ⟨by decide +kernel, rfl⟩
theorem iX5_leaper_5 : decode cX5_leaper 5 = .ok (.invokevirtual 120, 3) ∧ 5 + 3 = 8 := ⟨by decide +kernel, rfl⟩
theorem iX5_leaper_8 : decode cX5_leaper 8 = .ok (.ifCond .ne 6, 3) ∧ 8 + 3 = 11 := ⟨by decide +kernel, rfl⟩
theorem iX5_leaper_11 : decode cX5_leaper 11 = .ok (.bipush (-101), 2) ∧ 11 + 2 = 13 := ⟨by decide +kernel, rfl⟩
theorem iX5_leaper_13 : decode cX5_leaper 13 = .ok (.ireturn, 1) ∧ 13 + 1 = 14 := ⟨by decide +kernel, rfl⟩
theorem iX5_leaper_14 : decode cX5_leaper 14 = .ok (.iload_n 2, 1) ∧ 14 + 1 = 15 := ⟨by decide +kernel, rfl⟩
theorem iX5_leaper_15 : decode cX5_leaper 15 = .ok (.tableswitch 160 0 7 #[45, 54, 63, 73, 83, 92, 104, 132], 45) ∧ 15 + 45 = 60 := ⟨by decide +kernel, rfl⟩
theorem iX5_leaper_60 : decode cX5_leaper 60 = .ok (.aload_n 0, 1) ∧ 60 + 1 = 61 := ⟨by decide +kernel, rfl⟩
theorem iX5_leaper_61 : decode cX5_leaper 61 = .ok (.getfield 26, 3) ∧ 61 + 3 = 64 := ⟨by decide +kernel, rfl⟩
theorem iX5_leaper_64 : decode cX5_leaper 64 = .ok (.iload_n 1, 1) ∧ 64 + 1 = 65 := ⟨by decide +kernel, rfl⟩
theorem iX5_leaper_65 : decode cX5_leaper 65 = .ok (.invokevirtual 123, 3) ∧ 65 + 3 = 68 := ⟨by decide +kernel, rfl⟩
theorem iX5_leaper_68 : decode cX5_leaper 68 = .ok (.ireturn, 1) ∧ 68 + 1 = 69 := ⟨by decide +kernel, rfl⟩
theorem iX5_leaper_69 : decode cX5_leaper 69 = .ok (.aload_n 0, 1) ∧ 69 + 1 = 70 := ⟨by decide +kernel, rfl⟩
theorem iX5_leaper_70 : decode cX5_leaper 70 = .ok (.getfield 26, 3) ∧ 70 + 3 = 73 := ⟨by decide +kernel, rfl⟩
theorem iX5_leaper_73 : decode cX5_leaper 73 = .ok (.iload_n 1, 1) ∧ 73 + 1 = 74 := ⟨by decide +kernel, rfl⟩
theorem iX5_leaper_74 : decode cX5_leaper 74 = .ok (.invokevirtual 124, 3) ∧ 74 + 3 = 77 := ⟨by decide +kernel, rfl⟩
theorem iX5_leaper_77 : decode cX5_leaper 77 = .ok (.ireturn, 1) ∧ 77 + 1 = 78 := ⟨by decide +kernel, rfl⟩
theorem iX5_leaper_78 : decode cX5_leaper 78 = .ok (.aload_n 0, 1) ∧ 78 + 1 = 79 := ⟨by decide +kernel, rfl⟩
theorem iX5_leaper_79 : decode cX5_leaper 79 = .ok (.aload_n 0, 1) ∧ 79 + 1 = 80 := ⟨by decide +kernel, rfl⟩
theorem iX5_leaper_80 : decode cX5_leaper 80 = .ok (.getfield 26, 3) ∧ 80 + 3 = 83 := ⟨by decide +kernel, rfl⟩
theorem iX5_leaper_83 : decode cX5_leaper 83 = .ok (.iload_n 1, 1) ∧ 83 + 1 = 84 := ⟨by decide +kernel, rfl⟩
theorem iX5_leaper_84 : decode cX5_leaper 84 = .ok (.invokevirtual 125, 3) ∧ 84 + 3 = 87 := ⟨by decide +kernel, rfl⟩
theorem iX5_leaper_87 : decode cX5_leaper 87 = .ok (.ireturn, 1) ∧ 87 + 1 = 88 := ⟨by decide +kernel, rfl⟩
theorem iX5_leaper_88 : decode cX5_leaper 88 = .ok (.aload_n 0, 1) ∧ 88 + 1 = 89 := ⟨by decide +kernel, rfl⟩
theorem iX5_leaper_89 : decode cX5_leaper 89 = .ok (.aload_n 0, 1) ∧ 89 + 1 = 90 := ⟨by decide +kernel, rfl⟩
theorem iX5_leaper_90 : decode cX5_leaper 90 = .ok (.getfield 26, 3) ∧ 90 + 3 = 93 := ⟨by decide +kernel, rfl⟩
theorem iX5_leaper_93 : decode cX5_leaper 93 = .ok (.iload_n 1, 1) ∧ 93 + 1 = 94 := ⟨by decide +kernel, rfl⟩
theorem iX5_leaper_94 : decode cX5_leaper 94 = .ok (.invokevirtual 129, 3) ∧ 94 + 3 = 97 := ⟨by decide +kernel, rfl⟩
theorem iX5_leaper_97 : decode cX5_leaper 97 = .ok (.ireturn, 1) ∧ 97 + 1 = 98 := ⟨by decide +kernel, rfl⟩
theorem iX5_leaper_98 : decode cX5_leaper 98 = .ok (.aload_n 0, 1) ∧ 98 + 1 = 99 := ⟨by decide +kernel, rfl⟩
theorem iX5_leaper_99 : decode cX5_leaper 99 = .ok (.getfield 26, 3) ∧ 99 + 3 = 102 := ⟨by decide +kernel, rfl⟩
theorem iX5_leaper_102 : decode cX5_leaper 102 = .ok (.iload_n 1, 1) ∧ 102 + 1 = 103 := ⟨by decide +kernel, rfl⟩
theorem iX5_leaper_103 : decode cX5_leaper 103 = .ok (.invokevirtual 132, 3) ∧ 103 + 3 = 106 := ⟨by decide +kernel, rfl⟩
theorem iX5_leaper_106 : decode cX5_leaper 106 = .ok (.ireturn, 1) ∧ 106 + 1 = 107 := ⟨by decide +kernel, rfl⟩
theorem iX5_leaper_107 : decode cX5_leaper 107 = .ok (.aload_n 0, 1) ∧ 107 + 1 = 108 := ⟨by decide +kernel, rfl⟩
theorem iX5_leaper_108 : decode cX5_leaper 108 = .ok (.getfield 26, 3) ∧ 108 + 3 = 111 := ⟨by decide +kernel, rfl⟩
theorem iX5_leaper_111 : decode cX5_leaper 111 = .ok (.iload_n 1, 1) ∧ 111 + 1 = 112 := ⟨by decide +kernel, rfl⟩
theorem iX5_leaper_112 : decode cX5_leaper 112 = .ok (.invokevirtual 132, 3) ∧ 112 + 3 = 115 := ⟨by decide +kernel, rfl⟩
theorem iX5_leaper_115 : decode cX5_leaper 115 = .ok (.invokestatic 135, 3) ∧ 115 + 3 = 118 := ⟨by decide +kernel, rfl⟩
theorem iX5_leaper_118 : decode cX5_leaper 118 = .ok (.ireturn, 1) ∧ 118 + 1 = 119 := ⟨by decide +kernel, rfl⟩
theorem iX5_leaper_119 : decode cX5_leaper 119 = .ok (.aload_n 0, 1) ∧ 119 + 1 = 120 := ⟨by decide +kernel, rfl⟩
theorem iX5_leaper_120 : decode cX5_leaper 120 = .ok (.getfield 39, 3) ∧ 120 + 3 = 123 := ⟨by decide +kernel, rfl⟩
theorem iX5_leaper_123 : decode cX5_leaper 123 = .ok (.aload_n 0, 1) ∧ 123 + 1 = 124 := ⟨by decide +kernel, rfl⟩
theorem iX5_leaper_124 : decode cX5_leaper 124 = .ok (.iload_n 1, 1) ∧ 124 + 1 = 125 := ⟨by decide +kernel, rfl⟩
theorem iX5_leaper_125 : decode cX5_leaper 125 = .ok (.invokevirtual 138, 3) ∧ 125 + 3 = 128 := ⟨by decide +kernel, rfl⟩
theorem iX5_leaper_128 : decode cX5_leaper 128 = .ok (.aload_n 0, 1) ∧ 128 + 1 = 129 := ⟨by decide +kernel, rfl⟩
theorem iX5_leaper_129 : decode cX5_leaper 129 = .ok (.getfield 26, 3) ∧ 129 + 3 = 132 := ⟨by decide +kernel, rfl⟩
theorem iX5_leaper_132 : decode cX5_leaper 132 = .ok (.iload_n 1, 1) ∧ 132 + 1 = 133 := ⟨by decide +kernel, rfl⟩
theorem iX5_leaper_133 : decode cX5_leaper 133 = .ok (.invokevirtual 124, 3) ∧ 133 + 3 = 136 := ⟨by decide +kernel, rfl⟩
theorem iX5_leaper_136 : decode cX5_leaper 136 = .ok (.aload_n 0, 1) ∧ 136 + 1 = 137 := ⟨by decide +kernel, rfl⟩
theorem iX5_leaper_137 : decode cX5_leaper 137 = .ok (.getfield 26, 3) ∧ 137 + 3 = 140 := ⟨by decide +kernel, rfl⟩
theorem iX5_leaper_140 : decode cX5_leaper 140 = .ok (.invokevirtual 142, 3) ∧ 140 + 3 = 143 := ⟨by decide +kernel, rfl⟩
theorem iX5_leaper_143 : decode cX5_leaper 143 = .ok (.invokevirtual 145, 3) ∧ 143 + 3 = 146 := ⟨by decide +kernel, rfl⟩
theorem iX5_leaper_146 : decode cX5_leaper 146 = .ok (.ireturn, 1) ∧ 146 + 1 = 147 := ⟨by decide +kernel, rfl⟩
theorem iX5_leaper_147 : decode cX5_leaper 147 = .ok (.aload_n 0, 1) ∧ 147 + 1 = 148 := ⟨by decide +kernel, rfl⟩
theorem iX5_leaper_148 : decode cX5_leaper 148 = .ok (.getfield 39, 3) ∧ 148 + 3 = 151 := ⟨by decide +kernel, rfl⟩
theorem iX5_leaper_151 : decode cX5_leaper 151 = .ok (.aload_n 0, 1) ∧ 151 + 1 = 152 := ⟨by decide +kernel, rfl⟩
theorem iX5_leaper_152 : decode cX5_leaper 152 = .ok (.iload_n 1, 1) ∧ 152 + 1 = 153 := ⟨by decide +kernel, rfl⟩
theorem iX5_leaper_153 : decode cX5_leaper 153 = .ok (.invokevirtual 138, 3) ∧ 153 + 3 = 156 := ⟨by decide +kernel, rfl⟩
theorem iX5_leaper_156 : decode cX5_leaper 156 = .ok (.aload_n 0, 1) ∧ 156 + 1 = 157 := ⟨by decide +kernel, rfl⟩
theorem iX5_leaper_157 : decode cX5_leaper 157 = .ok (.getfield 26, 3) ∧ 157 + 3 = 160 := ⟨by decide +kernel, rfl⟩
theorem iX5_leaper_160 : decode cX5_leaper 160 = .ok (.iload_n 1, 1) ∧ 160 + 1 = 161 := ⟨by decide +kernel, rfl⟩
theorem iX5_leaper_161 : decode cX5_leaper 161 = .ok (.invokevirtual 124, 3) ∧ 161 + 3 = 164 := ⟨by decide +kernel, rfl⟩
theorem iX5_leaper_164 : decode cX5_leaper 164 = .ok (.aload_n 0, 1) ∧ 164 + 1 = 165 := ⟨by decide +kernel, rfl⟩
theorem iX5_leaper_165 : decode cX5_leaper 165 = .ok (.getfield 26, 3) ∧ 165 + 3 = 168 := ⟨by decide +kernel, rfl⟩
theorem iX5_leaper_168 : decode cX5_leaper 168 = .ok (.invokevirtual 142, 3) ∧ 168 + 3 = 171 := ⟨by decide +kernel, rfl⟩
theorem iX5_leaper_171 : decode cX5_leaper 171 = .ok (.invokevirtual 149, 3) ∧ 171 + 3 = 174 := ⟨by decide +kernel, rfl⟩
theorem iX5_leaper_174 : decode cX5_leaper 174 = .ok (.ireturn, 1) ∧ 174 + 1 = 175 := ⟨by decide +kernel, rfl⟩
theorem iX5_leaper_175 : decode cX5_leaper 175 = .ok (.bipush (-102), 2) ∧ 175 + 2 = 177 := ⟨by decide +kernel, rfl⟩
theorem iX5_leaper_177 : decode cX5_leaper 177 = .ok (.ireturn, 1) ∧ 177 + 1 = 178 := ⟨by decide +kernel, rfl⟩
theorem iX5_as_0 : decode cX5_as 0 = .ok (.aload_n 0, 1) ∧ 0 + 1 = 1 := ⟨by decide +kernel, rfl⟩
theorem iX5_as_1 : decode cX5_as 1 = .ok (.getfield 26, 3) ∧ 1 + 3 = 4 := ⟨by decide +kernel, rfl⟩
theorem iX5_as_4 : decode cX5_as 4 = .ok (.iload_n 1, 1) ∧ 4 + 1 = 5 := ⟨by decide +kernel, rfl⟩
theorem iX5_as_5 : decode cX5_as 5 = .ok (.invokevirtual 120, 3) ∧ 5 + 3 = 8 := ⟨by decide +kernel, rfl⟩
theorem iX5_as_8 : decode cX5_as 8 = .ok (.ifCond .ne 6, 3) ∧ 8 + 3 = 11 := ⟨by decide +kernel, rfl⟩
theorem iX5_as_11 : decode cX5_as 11 = .ok (.bipush (-101), 2) ∧ 11 + 2 = 13 := ⟨by decide +kernel, rfl⟩
theorem iX5_as_13 : decode cX5_as 13 = .ok (.ireturn, 1) ∧ 13 + 1 = 14 := ⟨by decide +kernel, rfl⟩
theorem iX5_as_14 : decode cX5_as 14 = .ok (.iload_n 2, 1) ∧ 14 + 1 = 15 := ⟨by decide +kernel, rfl⟩
theorem iX5_as_15 : decode cX5_as 15 = .ok (.invokestatic 152, 3) ∧ 15 + 3 = 18 := ⟨by decide +kernel, rfl⟩
theorem iX5_as_18 : decode cX5_as 18 = .ok (.ifCond .ne 6, 3) ∧ 18 + 3 = 21 := ⟨by decide +kernel, rfl⟩
theorem iX5_as_21 : decode cX5_as 21 = .ok (.bipush (-102), 2) ∧ 21 + 2 = 23 := ⟨by decide +kernel, rfl⟩
theorem iX5_as_23 : decode cX5_as 23 = .ok (.ireturn, 1) ∧ 23 + 1 = 24 := ⟨by decide +kernel, rfl⟩
theorem iX5_as_24 : decode cX5_as 24 = .ok (.aload_n 0, 1) ∧ 24 + 1 = 25 := ⟨by decide +kernel, rfl⟩
theorem iX5_as_25 : decode cX5_as 25 = .ok (.getfield 26, 3) ∧ 25 + 3 = 28 := ⟨by decide +kernel, rfl⟩
theorem iX5_as_28 : decode cX5_as 28 = .ok (.iload_n 1, 1) ∧ 28 + 1 = 29 := ⟨by decide +kernel, rfl⟩
theorem iX5_as_29 : decode cX5_as 29 = .ok (.invokevirtual 123, 3) ∧ 29 + 3 = 32 := ⟨by decide +kernel, rfl⟩
theorem iX5_as_32 : decode cX5_as 32 = .ok (.istore_n 3, 1) ∧ 32 + 1 = 33 := ⟨by decide +kernel, rfl⟩
theorem iX5_as_33 : decode cX5_as 33 = .ok (.iload_n 2, 1) ∧ 33 + 1 = 34 := ⟨by decide +kernel, rfl⟩
theorem iX5_as_34 : decode cX5_as 34 = .ok (.ifCond .eq 18, 3) ∧ 34 + 3 = 37 := ⟨by decide +kernel, rfl⟩
theorem iX5_as_37 : decode cX5_as 37 = .ok (.iload_n 2, 1) ∧ 37 + 1 = 38 := ⟨by decide +kernel, rfl⟩
theorem iX5_as_38 : decode cX5_as 38 = .ok (.iload_n 3, 1) ∧ 38 + 1 = 39 := ⟨by decide +kernel, rfl⟩
theorem iX5_as_39 : decode cX5_as 39 = .ok (.if_icmp .eq 13, 3) ∧ 39 + 3 = 42 := ⟨by decide +kernel, rfl⟩
theorem iX5_as_42 : decode cX5_as 42 = .ok (.iload_n 2, 1) ∧ 42 + 1 = 43 := ⟨by decide +kernel, rfl⟩
theorem iX5_as_43 : decode cX5_as 43 = .ok (.iconst 1, 1) ∧ 43 + 1 = 44 := ⟨by decide +kernel, rfl⟩
theorem iX5_as_44 : decode cX5_as 44 = .ok (.if_icmp .ne 12, 3) ∧ 44 + 3 = 47 := ⟨by decide +kernel, rfl⟩
theorem iX5_as_47 : decode cX5_as 47 = .ok (.iload_n 3, 1) ∧ 47 + 1 = 48 := ⟨by decide +kernel, rfl⟩
theorem iX5_as_48 : decode cX5_as 48 = .ok (.iconst 4, 1) ∧ 48 + 1 = 49 := ⟨by decide +kernel, rfl⟩
theorem iX5_as_49 : decode cX5_as 49 = .ok (.if_icmp .ne 7, 3) ∧ 49 + 3 = 52 := ⟨by decide +kernel, rfl⟩
theorem iX5_as_52 : decode cX5_as 52 = .ok (.iconst 1, 1) ∧ 52 + 1 = 53 := ⟨by decide +kernel, rfl⟩
theorem iX5_as_53 : decode cX5_as 53 = .ok (.goto 4, 3) ∧ 53 + 3 = 56 := ⟨by decide +kernel, rfl⟩
theorem iX5_as_56 : decode cX5_as 56 = .ok (.iconst 0, 1) ∧ 56 + 1 = 57 := ⟨by decide +kernel, rfl⟩
theorem iX5_as_57 : decode cX5_as 57 = .ok (.istore 4, 2) ∧ 57 + 2 = 59 := ⟨by decide +kernel, rfl⟩
theorem iX5_as_59 : decode cX5_as 59 = .ok (.iload 4, 2) ∧ 59 + 2 = 61 := ⟨by decide +kernel, rfl⟩
theorem iX5_as_61 : decode cX5_as 61 = .ok (.ifCond .eq 7, 3) ∧ 61 + 3 = 64 := ⟨by decide +kernel, rfl⟩
theorem iX5_as_64 : decode cX5_as 64 = .ok (.iload_n 1, 1) ∧ 64 + 1 = 65 := ⟨by decide +kernel, rfl⟩
theorem iX5_as_65 : decode cX5_as 65 = .ok (.goto 4, 3) ∧ 65 + 3 = 68 := ⟨by decide +kernel, rfl⟩
theorem iX5_as_68 : decode cX5_as 68 = .ok (.iconst (-1), 1) ∧ 68 + 1 = 69 := ⟨by decide +kernel, rfl⟩
theorem iX5_as_69 : decode cX5_as 69 = .ok (.ireturn, 1) ∧ 69 + 1 = 70 := ⟨by decide +kernel, rfl⟩
theorem iX5_cell_0 : decode cX5_cell 0 = .ok (.aload_n 0, 1) ∧ 0 + 1 = 1 := ⟨by decide +kernel, rfl⟩
theorem iX5_cell_1 : decode cX5_cell 1 = .ok (.getfield 19, 3) ∧ 1 + 3 = 4 := ⟨by decide +kernel, rfl⟩
theorem iX5_cell_4 : decode cX5_cell 4 = .ok (.iload_n 1, 1) ∧ 4 + 1 = 5 := ⟨by decide +kernel, rfl⟩
theorem iX5_cell_5 : decode cX5_cell 5 = .ok (.invokevirtual 155, 3) ∧ 5 + 3 = 8 := ⟨by decide +kernel, rfl⟩
theorem iX5_cell_8 : decode cX5_cell 8 = .ok (.ifCond .ne 6, 3) ∧ 8 + 3 = 11 := ⟨by decide +kernel, rfl⟩
theorem iX5_cell_11 : decode cX5_cell 11 = .ok (.bipush (-101), 2) ∧ 11 + 2 = 13 := ⟨by decide +kernel, rfl⟩
theorem iX5_cell_13 : decode cX5_cell 13 = .ok (.ireturn, 1) ∧ 13 + 1 = 14 := ⟨by decide +kernel, rfl⟩
theorem iX5_cell_14 : decode cX5_cell 14 = .ok (.iload_n 2, 1) ∧ 14 + 1 = 15 := ⟨by decide +kernel, rfl⟩
theorem iX5_cell_15 : decode cX5_cell 15 = .ok (.tableswitch 60 0 2 #[25, 45, 54], 25) ∧ 15 + 25 = 40 := ⟨by decide +kernel, rfl⟩
theorem iX5_cell_40 : decode cX5_cell 40 = .ok (.aload_n 0, 1) ∧ 40 + 1 = 41 := ⟨by decide +kernel, rfl⟩
theorem iX5_cell_41 : decode cX5_cell 41 = .ok (.getfield 26, 3) ∧ 41 + 3 = 44 := ⟨by decide +kernel, rfl⟩
theorem iX5_cell_44 : decode cX5_cell 44 = .ok (.getfield 89, 3) ∧ 44 + 3 = 47 := ⟨by decide +kernel, rfl⟩
theorem iX5_cell_47 : decode cX5_cell 47 = .ok (.iload_n 1, 1) ∧ 47 + 1 = 48 := ⟨by decide +kernel, rfl⟩
theorem iX5_cell_48 : decode cX5_cell 48 = .ok (.invokestatic 158, 3) ∧ 48 + 3 = 51 := ⟨by decide +kernel, rfl⟩
theorem iX5_cell_51 : decode cX5_cell 51 = .ok (.ifCond .eq 7, 3) ∧ 51 + 3 = 54 := ⟨by decide +kernel, rfl⟩
theorem iX5_cell_54 : decode cX5_cell 54 = .ok (.iconst 1, 1) ∧ 54 + 1 = 55 := ⟨by decide +kernel, rfl⟩
theorem iX5_cell_55 : decode cX5_cell 55 = .ok (.goto 4, 3) ∧ 55 + 3 = 58 := ⟨by decide +kernel, rfl⟩
theorem iX5_cell_58 : decode cX5_cell 58 = .ok (.iconst 0, 1) ∧ 58 + 1 = 59 := ⟨by decide +kernel, rfl⟩
theorem iX5_cell_59 : decode cX5_cell 59 = .ok (.ireturn, 1) ∧ 59 + 1 = 60 := ⟨by decide +kernel, rfl⟩
theorem iX5_cell_60 : decode cX5_cell 60 = .ok (.aload_n 0, 1) ∧ 60 + 1 = 61 := ⟨by decide +kernel, rfl⟩
theorem iX5_cell_61 : decode cX5_cell 61 = .ok (.getfield 26, 3) ∧ 61 + 3 = 64 := ⟨by decide +kernel, rfl⟩
theorem iX5_cell_64 : decode cX5_cell 64 = .ok (.iload_n 1, 1) ∧ 64 + 1 = 65 := ⟨by decide +kernel, rfl⟩
theorem iX5_cell_65 : decode cX5_cell 65 = .ok (.invokevirtual 162, 3) ∧ 65 + 3 = 68 := ⟨by decide +kernel, rfl⟩
theorem iX5_cell_68 : decode cX5_cell 68 = .ok (.ireturn, 1) ∧ 68 + 1 = 69 := ⟨by decide +kernel, rfl⟩
theorem iX5_cell_69 : decode cX5_cell 69 = .ok (.aload_n 0, 1) ∧ 69 + 1 = 70 := ⟨by decide +kernel, rfl⟩
theorem iX5_cell_70 : decode cX5_cell 70 = .ok (.iload_n 1, 1) ∧ 70 + 1 = 71 := ⟨by decide +kernel, rfl⟩
theorem iX5_cell_71 : decode cX5_cell 71 = .ok (.invokevirtual 165, 3) ∧ 71 + 3 = 74 := ⟨by decide +kernel, rfl⟩
theorem iX5_cell_74 : decode cX5_cell 74 = .ok (.ireturn, 1) ∧ 74 + 1 = 75 := ⟨by decide +kernel, rfl⟩
theorem iX5_cell_75 : decode cX5_cell 75 = .ok (.bipush (-102), 2) ∧ 75 + 2 = 77 := ⟨by decide +kernel, rfl⟩
theorem iX5_cell_77 : decode cX5_cell 77 = .ok (.ireturn, 1) ∧ 77 + 1 = 78 := ⟨by decide +kernel, rfl⟩
theorem iX5_leap_0 : decode cX5_leap 0 = .ok (.aload_n 0, 1) ∧ 0 + 1 = 1 := ⟨by decide +kernel, rfl⟩
theorem iX5_leap_1 : decode cX5_leap 1 = .ok (.getfield 26, 3) ∧ 1 + 3 = 4 := ⟨by decide +kernel, rfl⟩
theorem iX5_leap_4 : decode cX5_leap 4 = .ok (.iload_n 1, 1) ∧ 4 + 1 = 5 := ⟨by decide +kernel, rfl⟩
theorem iX5_leap_5 : decode cX5_leap 5 = .ok (.invokevirtual 120, 3) ∧ 5 + 3 = 8 := ⟨by decide +kernel, rfl⟩
theorem iX5_leap_8 : decode cX5_leap 8 = .ok (.ifCond .eq 14, 3) ∧ 8 + 3 = 11 := ⟨by decide +kernel, rfl⟩
theorem iX5_leap_11 : decode cX5_leap 11 = .ok (.aload_n 0, 1) ∧ 11 + 1 = 12 := ⟨by decide +kernel, rfl⟩
theorem iX5_leap_12 : decode cX5_leap 12 = .ok (.getfield 19, 3) ∧ 12 + 3 = 15 := ⟨by decide +kernel, rfl⟩
theorem iX5_leap_15 : decode cX5_leap 15 = .ok (.iload_n 2, 1) ∧ 15 + 1 = 16 := ⟨by decide +kernel, rfl⟩
theorem iX5_leap_16 : decode cX5_leap 16 = .ok (.invokevirtual 155, 3) ∧ 16 + 3 = 19 := ⟨by decide +kernel, rfl⟩
theorem iX5_leap_19 : decode cX5_leap 19 = .ok (.ifCond .ne 6, 3) ∧ 19 + 3 = 22 := ⟨by decide +kernel, rfl⟩
theorem iX5_leap_22 : decode cX5_leap 22 = .ok (.bipush (-101), 2) ∧ 22 + 2 = 24 := ⟨by decide +kernel, rfl⟩
theorem iX5_leap_24 : decode cX5_leap 24 = .ok (.ireturn, 1) ∧ 24 + 1 = 25 := ⟨by decide +kernel, rfl⟩
theorem iX5_leap_25 : decode cX5_leap 25 = .ok (.aload_n 0, 1) ∧ 25 + 1 = 26 := ⟨by decide +kernel, rfl⟩
theorem iX5_leap_26 : decode cX5_leap 26 = .ok (.aload_n 0, 1) ∧ 26 + 1 = 27 := ⟨by decide +kernel, rfl⟩
theorem iX5_leap_27 : decode cX5_leap 27 = .ok (.getfield 26, 3) ∧ 27 + 3 = 30 := ⟨by decide +kernel, rfl⟩
theorem iX5_leap_30 : decode cX5_leap 30 = .ok (.iload_n 1, 1) ∧ 30 + 1 = 31 := ⟨by decide +kernel, rfl⟩
theorem iX5_leap_31 : decode cX5_leap 31 = .ok (.invokevirtual 129, 3) ∧ 31 + 3 = 34 := ⟨by decide +kernel, rfl⟩
theorem iX5_leap_34 : decode cX5_leap 34 = .ok (.iload_n 2, 1) ∧ 34 + 1 = 35 := ⟨by decide +kernel, rfl⟩
theorem iX5_leap_35 : decode cX5_leap 35 = .ok (.invokestatic 158, 3) ∧ 35 + 3 = 38 := ⟨by decide +kernel, rfl⟩
theorem iX5_leap_38 : decode cX5_leap 38 = .ok (.ifCond .ne 6, 3) ∧ 38 + 3 = 41 := ⟨by decide +kernel, rfl⟩
theorem iX5_leap_41 : decode cX5_leap 41 = .ok (.bipush (-103), 2) ∧ 41 + 2 = 43 := ⟨by decide +kernel, rfl⟩
theorem iX5_leap_43 : decode cX5_leap 43 = .ok (.ireturn, 1) ∧ 43 + 1 = 44 := ⟨by decide +kernel, rfl⟩
theorem iX5_leap_44 : decode cX5_leap 44 = .ok (.aload_n 0, 1) ∧ 44 + 1 = 45 := ⟨by decide +kernel, rfl⟩
theorem iX5_leap_45 : decode cX5_leap 45 = .ok (.getfield 26, 3) ∧ 45 + 3 = 48 := ⟨by decide +kernel, rfl⟩
theorem iX5_leap_48 : decode cX5_leap 48 = .ok (.getfield 111, 3) ∧ 48 + 3 = 51 := ⟨by decide +kernel, rfl⟩
theorem iX5_leap_51 : decode cX5_leap 51 = .ok (.sipush 999, 3) ∧ 51 + 3 = 54 := ⟨by decide +kernel, rfl⟩
theorem iX5_leap_54 : decode cX5_leap 54 = .ok (.if_icmp .lt 6, 3) ∧ 54 + 3 = 57 := ⟨by decide +kernel, rfl⟩
theorem iX5_leap_57 : decode cX5_leap 57 = .ok (.bipush (-104), 2) ∧ 57 + 2 = 59 := ⟨by decide +kernel, rfl⟩
theorem iX5_leap_59 : decode cX5_leap 59 = .ok (.ireturn, 1) ∧ 59 + 1 = 60 := ⟨by decide +kernel, rfl⟩
theorem iX5_leap_60 : decode cX5_leap 60 = .ok (.aload_n 0, 1) ∧ 60 + 1 = 61 := ⟨by decide +kernel, rfl⟩
theorem iX5_leap_61 : decode cX5_leap 61 = .ok (.getfield 26, 3) ∧ 61 + 3 = 64 := ⟨by decide +kernel, rfl⟩
theorem iX5_leap_64 : decode cX5_leap 64 = .ok (.getfield 105, 3) ∧ 64 + 3 = 67 := ⟨by decide +kernel, rfl⟩
theorem iX5_leap_67 : decode cX5_leap 67 = .ok (.iload_n 1, 1) ∧ 67 + 1 = 68 := ⟨by decide +kernel, rfl⟩
theorem iX5_leap_68 : decode cX5_leap 68 = .ok (.iload_n 2, 1) ∧ 68 + 1 = 69 := ⟨by decide +kernel, rfl⟩
theorem iX5_leap_69 : decode cX5_leap 69 = .ok (.iastore, 1) ∧ 69 + 1 = 70 := ⟨by decide +kernel, rfl⟩
theorem iX5_leap_70 : decode cX5_leap 70 = .ok (.aload_n 0, 1) ∧ 70 + 1 = 71 := ⟨by decide +kernel, rfl⟩
theorem iX5_leap_71 : decode cX5_leap 71 = .ok (.getfield 26, 3) ∧ 71 + 3 = 74 := ⟨by decide +kernel, rfl⟩
theorem iX5_leap_74 : decode cX5_leap 74 = .ok (.dup, 1) ∧ 74 + 1 = 75 := ⟨by decide +kernel, rfl⟩
theorem iX5_leap_75 : decode cX5_leap 75 = .ok (.getfield 111, 3) ∧ 75 + 3 = 78 := ⟨by decide +kernel, rfl⟩
theorem iX5_leap_78 : decode cX5_leap 78 = .ok (.iconst 1, 1) ∧ 78 + 1 = 79 := ⟨by decide +kernel, rfl⟩
theorem iX5_leap_79 : decode cX5_leap 79 = .ok (.iadd, 1) ∧ 79 + 1 = 80 := ⟨by decide +kernel, rfl⟩
theorem iX5_leap_80 : decode cX5_leap 80 = .ok (.putfield 111, 3) ∧ 80 + 3 = 83 := ⟨by decide +kernel, rfl⟩
theorem iX5_leap_83 : decode cX5_leap 83 = .ok (.aload_n 0, 1) ∧ 83 + 1 = 84 := ⟨by decide +kernel, rfl⟩
theorem iX5_leap_84 : decode cX5_leap 84 = .ok (.getfield 26, 3) ∧ 84 + 3 = 87 := ⟨by decide +kernel, rfl⟩
theorem iX5_leap_87 : decode cX5_leap 87 = .ok (.getfield 111, 3) ∧ 87 + 3 = 90 := ⟨by decide +kernel, rfl⟩
theorem iX5_leap_90 : decode cX5_leap 90 = .ok (.ireturn, 1) ∧ 90 + 1 = 91 := ⟨by decide +kernel, rfl⟩
theorem iX5_dig_0 : decode cX5_dig 0 = .ok (.aload_n 0, 1) ∧ 0 + 1 = 1 := ⟨by decide +kernel, rfl⟩
theorem iX5_dig_1 : decode cX5_dig 1 = .ok (.getfield 19, 3) ∧ 1 + 3 = 4 := ⟨by decide +kernel, rfl⟩
theorem iX5_dig_4 : decode cX5_dig 4 = .ok (.iload_n 1, 1) ∧ 4 + 1 = 5 := ⟨by decide +kernel, rfl⟩
theorem iX5_dig_5 : decode cX5_dig 5 = .ok (.invokevirtual 155, 3) ∧ 5 + 3 = 8 := ⟨by decide +kernel, rfl⟩
theorem iX5_dig_8 : decode cX5_dig 8 = .ok (.ifCond .ne 6, 3) ∧ 8 + 3 = 11 := ⟨by decide +kernel, rfl⟩
theorem iX5_dig_11 : decode cX5_dig 11 = .ok (.bipush (-101), 2) ∧ 11 + 2 = 13 := ⟨by decide +kernel, rfl⟩
theorem iX5_dig_13 : decode cX5_dig 13 = .ok (.ireturn, 1) ∧ 13 + 1 = 14 := ⟨by decide +kernel, rfl⟩
theorem iX5_dig_14 : decode cX5_dig 14 = .ok (.aload_n 0, 1) ∧ 14 + 1 = 15 := ⟨by decide +kernel, rfl⟩
theorem iX5_dig_15 : decode cX5_dig 15 = .ok (.getfield 26, 3) ∧ 15 + 3 = 18 := ⟨by decide +kernel, rfl⟩
theorem iX5_dig_18 : decode cX5_dig 18 = .ok (.invokevirtual 142, 3) ∧ 18 + 3 = 21 := ⟨by decide +kernel, rfl⟩
theorem iX5_dig_21 : decode cX5_dig 21 = .ok (.iload_n 1, 1) ∧ 21 + 1 = 22 := ⟨by decide +kernel, rfl⟩
theorem iX5_dig_22 : decode cX5_dig 22 = .ok (.invokestatic 158, 3) ∧ 22 + 3 = 25 := ⟨by decide +kernel, rfl⟩
theorem iX5_dig_25 : decode cX5_dig 25 = .ok (.ifCond .ne 6, 3) ∧ 25 + 3 = 28 := ⟨by decide +kernel, rfl⟩
theorem iX5_dig_28 : decode cX5_dig 28 = .ok (.bipush (-103), 2) ∧ 28 + 2 = 30 := ⟨by decide +kernel, rfl⟩
theorem iX5_dig_30 : decode cX5_dig 30 = .ok (.ireturn, 1) ∧ 30 + 1 = 31 := ⟨by decide +kernel, rfl⟩
theorem iX5_dig_31 : decode cX5_dig 31 = .ok (.aload_n 0, 1) ∧ 31 + 1 = 32 := ⟨by decide +kernel, rfl⟩
theorem iX5_dig_32 : decode cX5_dig 32 = .ok (.getfield 26, 3) ∧ 32 + 3 = 35 := ⟨by decide +kernel, rfl⟩
theorem iX5_dig_35 : decode cX5_dig 35 = .ok (.dup, 1) ∧ 35 + 1 = 36 := ⟨by decide +kernel, rfl⟩
theorem iX5_dig_36 : decode cX5_dig 36 = .ok (.getfield 89, 3) ∧ 36 + 3 = 39 := ⟨by decide +kernel, rfl⟩
theorem iX5_dig_39 : decode cX5_dig 39 = .ok (.iconst 1, 1) ∧ 39 + 1 = 40 := ⟨by decide +kernel, rfl⟩
theorem iX5_dig_40 : decode cX5_dig 40 = .ok (.iload_n 1, 1) ∧ 40 + 1 = 41 := ⟨by decide +kernel, rfl⟩
theorem iX5_dig_41 : decode cX5_dig 41 = .ok (.ishl, 1) ∧ 41 + 1 = 42 := ⟨by decide +kernel, rfl⟩
theorem iX5_dig_42 : decode cX5_dig 42 = .ok (.iconst (-1), 1) ∧ 42 + 1 = 43 := ⟨by decide +kernel, rfl⟩
theorem iX5_dig_43 : decode cX5_dig 43 = .ok (.ixor, 1) ∧ 43 + 1 = 44 := ⟨by decide +kernel, rfl⟩
theorem iX5_dig_44 : decode cX5_dig 44 = .ok (.iand, 1) ∧ 44 + 1 = 45 := ⟨by decide +kernel, rfl⟩
theorem iX5_dig_45 : decode cX5_dig 45 = .ok (.putfield 89, 3) ∧ 45 + 3 = 48 := ⟨by decide +kernel, rfl⟩
theorem iX5_dig_48 : decode cX5_dig 48 = .ok (.aload_n 0, 1) ∧ 48 + 1 = 49 := ⟨by decide +kernel, rfl⟩
theorem iX5_dig_49 : decode cX5_dig 49 = .ok (.getfield 26, 3) ∧ 49 + 3 = 52 := ⟨by decide +kernel, rfl⟩
theorem iX5_dig_52 : decode cX5_dig 52 = .ok (.getfield 89, 3) ∧ 52 + 3 = 55 := ⟨by decide +kernel, rfl⟩
theorem iX5_dig_55 : decode cX5_dig 55 = .ok (.invokestatic 168, 3) ∧ 55 + 3 = 58 := ⟨by decide +kernel, rfl⟩
theorem iX5_dig_58 : decode cX5_dig 58 = .ok (.ireturn, 1) ∧ 58 + 1 = 59 := ⟨by decide +kernel, rfl⟩
theorem iX5_fill_0 : decode cX5_fill 0 = .ok (.aload_n 0, 1) ∧ 0 + 1 = 1 := ⟨by decide +kernel, rfl⟩
theorem iX5_fill_1 : decode cX5_fill 1 = .ok (.getfield 19, 3) ∧ 1 + 3 = 4 := ⟨by decide +kernel, rfl⟩
theorem iX5_fill_4 : decode cX5_fill 4 = .ok (.iload_n 1, 1) ∧ 4 + 1 = 5 := ⟨by decide +kernel, rfl⟩
theorem iX5_fill_5 : decode cX5_fill 5 = .ok (.invokevirtual 155, 3) ∧ 5 + 3 = 8 := ⟨by decide +kernel, rfl⟩
theorem iX5_fill_8 : decode cX5_fill 8 = .ok (.ifCond .ne 6, 3) ∧ 8 + 3 = 11 := ⟨by decide +kernel, rfl⟩
theorem iX5_fill_11 : decode cX5_fill 11 = .ok (.bipush (-101), 2) ∧ 11 + 2 = 13 := ⟨by decide +kernel, rfl⟩
theorem iX5_fill_13 : decode cX5_fill 13 = .ok (.ireturn, 1) ∧ 13 + 1 = 14 := ⟨by decide +kernel, rfl⟩
theorem iX5_fill_14 : decode cX5_fill 14 = .ok (.aload_n 0, 1) ∧ 14 + 1 = 15 := ⟨by decide +kernel, rfl⟩
theorem iX5_fill_15 : decode cX5_fill 15 = .ok (.getfield 26, 3) ∧ 15 + 3 = 18 := ⟨by decide +kernel, rfl⟩
theorem iX5_fill_18 : decode cX5_fill 18 = .ok (.getfield 89, 3) ∧ 18 + 3 = 21 := ⟨by decide +kernel, rfl⟩
theorem iX5_fill_21 : decode cX5_fill 21 = .ok (.iload_n 1, 1) ∧ 21 + 1 = 22 := ⟨by decide +kernel, rfl⟩
theorem iX5_fill_22 : decode cX5_fill 22 = .ok (.invokestatic 158, 3) ∧ 22 + 3 = 25 := ⟨by decide +kernel, rfl⟩
theorem iX5_fill_25 : decode cX5_fill 25 = .ok (.ifCond .eq 6, 3) ∧ 25 + 3 = 28 := ⟨by decide +kernel, rfl⟩
theorem iX5_fill_28 : decode cX5_fill 28 = .ok (.bipush (-103), 2) ∧ 28 + 2 = 30 := ⟨by decide +kernel, rfl⟩
theorem iX5_fill_30 : decode cX5_fill 30 = .ok (.ireturn, 1) ∧ 30 + 1 = 31 := ⟨by decide +kernel, rfl⟩
theorem iX5_fill_31 : decode cX5_fill 31 = .ok (.aload_n 0, 1) ∧ 31 + 1 = 32 := ⟨by decide +kernel, rfl⟩
theorem iX5_fill_32 : decode cX5_fill 32 = .ok (.getfield 26, 3) ∧ 32 + 3 = 35 := ⟨by decide +kernel, rfl⟩
theorem iX5_fill_35 : decode cX5_fill 35 = .ok (.dup, 1) ∧ 35 + 1 = 36 := ⟨by decide +kernel, rfl⟩
theorem iX5_fill_36 : decode cX5_fill 36 = .ok (.getfield 89, 3) ∧ 36 + 3 = 39 := ⟨by decide +kernel, rfl⟩
theorem iX5_fill_39 : decode cX5_fill 39 = .ok (.iconst 1, 1) ∧ 39 + 1 = 40 := ⟨by decide +kernel, rfl⟩
theorem iX5_fill_40 : decode cX5_fill 40 = .ok (.iload_n 1, 1) ∧ 40 + 1 = 41 := ⟨by decide +kernel, rfl⟩
theorem iX5_fill_41 : decode cX5_fill 41 = .ok (.ishl, 1) ∧ 41 + 1 = 42 := ⟨by decide +kernel, rfl⟩
theorem iX5_fill_42 : decode cX5_fill 42 = .ok (.ior, 1) ∧ 42 + 1 = 43 := ⟨by decide +kernel, rfl⟩
theorem iX5_fill_43 : decode cX5_fill 43 = .ok (.putfield 89, 3) ∧ 43 + 3 = 46 := ⟨by decide +kernel, rfl⟩
theorem iX5_fill_46 : decode cX5_fill 46 = .ok (.aload_n 0, 1) ∧ 46 + 1 = 47 := ⟨by decide +kernel, rfl⟩
theorem iX5_fill_47 : decode cX5_fill 47 = .ok (.getfield 26, 3) ∧ 47 + 3 = 50 := ⟨by decide +kernel, rfl⟩
theorem iX5_fill_50 : decode cX5_fill 50 = .ok (.getfield 89, 3) ∧ 50 + 3 = 53 := ⟨by decide +kernel, rfl⟩
theorem iX5_fill_53 : decode cX5_fill 53 = .ok (.invokestatic 168, 3) ∧ 53 + 3 = 56 := ⟨by decide +kernel, rfl⟩
theorem iX5_fill_56 : decode cX5_fill 56 = .ok (.ireturn, 1) ∧ 56 + 1 = 57 := ⟨by decide +kernel, rfl⟩
theorem iX5_be_0 : decode cX5_be 0 = .ok (.aload_n 0, 1) ∧ 0 + 1 = 1 := ⟨by decide +kernel, rfl⟩
theorem iX5_be_1 : decode cX5_be 1 = .ok (.getfield 26, 3) ∧ 1 + 3 = 4 := ⟨by decide +kernel, rfl⟩
theorem iX5_be_4 : decode cX5_be 4 = .ok (.iload_n 1, 1) ∧ 4 + 1 = 5 := ⟨by decide +kernel, rfl⟩
theorem iX5_be_5 : decode cX5_be 5 = .ok (.invokevirtual 120, 3) ∧ 5 + 3 = 8 := ⟨by decide +kernel, rfl⟩
theorem iX5_be_8 : decode cX5_be 8 = .ok (.ifCond .ne 6, 3) ∧ 8 + 3 = 11 := ⟨by decide +kernel, rfl⟩
theorem iX5_be_11 : decode cX5_be 11 = .ok (.bipush (-101), 2) ∧ 11 + 2 = 13 := ⟨by decide +kernel, rfl⟩
theorem iX5_be_13 : decode cX5_be 13 = .ok (.ireturn, 1) ∧ 13 + 1 = 14 := ⟨by decide +kernel, rfl⟩
theorem iX5_be_14 : decode cX5_be 14 = .ok (.iload_n 2, 1) ∧ 14 + 1 = 15 := ⟨by decide +kernel, rfl⟩
theorem iX5_be_15 : decode cX5_be 15 = .ok (.invokestatic 152, 3) ∧ 15 + 3 = 18 := ⟨by decide +kernel, rfl⟩
theorem iX5_be_18 : decode cX5_be 18 = .ok (.ifCond .ne 6, 3) ∧ 18 + 3 = 21 := ⟨by decide +kernel, rfl⟩
theorem iX5_be_21 : decode cX5_be 21 = .ok (.bipush (-102), 2) ∧ 21 + 2 = 23 := ⟨by decide +kernel, rfl⟩
theorem iX5_be_23 : decode cX5_be 23 = .ok (.ireturn, 1) ∧ 23 + 1 = 24 := ⟨by decide +kernel, rfl⟩
theorem iX5_be_24 : decode cX5_be 24 = .ok (.aload_n 0, 1) ∧ 24 + 1 = 25 := ⟨by decide +kernel, rfl⟩
theorem iX5_be_25 : decode cX5_be 25 = .ok (.getfield 26, 3) ∧ 25 + 3 = 28 := ⟨by decide +kernel, rfl⟩
theorem iX5_be_28 : decode cX5_be 28 = .ok (.iload_n 1, 1) ∧ 28 + 1 = 29 := ⟨by decide +kernel, rfl⟩
theorem iX5_be_29 : decode cX5_be 29 = .ok (.invokevirtual 123, 3) ∧ 29 + 3 = 32 := ⟨by decide +kernel, rfl⟩
theorem iX5_be_32 : decode cX5_be 32 = .ok (.istore_n 3, 1) ∧ 32 + 1 = 33 := ⟨by decide +kernel, rfl⟩
theorem iX5_be_33 : decode cX5_be 33 = .ok (.aload_n 0, 1) ∧ 33 + 1 = 34 := ⟨by decide +kernel, rfl⟩
theorem iX5_be_34 : decode cX5_be 34 = .ok (.getfield 26, 3) ∧ 34 + 3 = 37 := ⟨by decide +kernel, rfl⟩
theorem iX5_be_37 : decode cX5_be 37 = .ok (.getfield 97, 3) ∧ 37 + 3 = 40 := ⟨by decide +kernel, rfl⟩
theorem iX5_be_40 : decode cX5_be 40 = .ok (.iload_n 1, 1) ∧ 40 + 1 = 41 := ⟨by decide +kernel, rfl⟩
theorem iX5_be_41 : decode cX5_be 41 = .ok (.iload_n 2, 1) ∧ 41 + 1 = 42 := ⟨by decide +kernel, rfl⟩
theorem iX5_be_42 : decode cX5_be 42 = .ok (.iastore, 1) ∧ 42 + 1 = 43 := ⟨by decide +kernel, rfl⟩
theorem iX5_be_43 : decode cX5_be 43 = .ok (.iload_n 3, 1) ∧ 43 + 1 = 44 := ⟨by decide +kernel, rfl⟩
theorem iX5_be_44 : decode cX5_be 44 = .ok (.ireturn, 1) ∧ 44 + 1 = 45 := ⟨by decide +kernel, rfl⟩
theorem iX5_hops_0 : decode cX5_hops 0 = .ok (.aload_n 0, 1) ∧ 0 + 1 = 1 := ⟨by decide +kernel, rfl⟩
theorem iX5_hops_1 : decode cX5_hops 1 = .ok (.getfield 26, 3) ∧ 1 + 3 = 4 := ⟨by decide +kernel, rfl⟩
theorem iX5_hops_4 : decode cX5_hops 4 = .ok (.iload_n 1, 1) ∧ 4 + 1 = 5 := ⟨by decide +kernel, rfl⟩
theorem iX5_hops_5 : decode cX5_hops 5 = .ok (.invokevirtual 120, 3) ∧ 5 + 3 = 8 := ⟨by decide +kernel, rfl⟩
theorem iX5_hops_8 : decode cX5_hops 8 = .ok (.ifCond .eq 14, 3) ∧ 8 + 3 = 11 := ⟨by decide +kernel, rfl⟩
theorem iX5_hops_11 : decode cX5_hops 11 = .ok (.aload_n 0, 1) ∧ 11 + 1 = 12 := ⟨by decide +kernel, rfl⟩
theorem iX5_hops_12 : decode cX5_hops 12 = .ok (.getfield 19, 3) ∧ 12 + 3 = 15 := ⟨by decide +kernel, rfl⟩
theorem iX5_hops_15 : decode cX5_hops 15 = .ok (.iload_n 2, 1) ∧ 15 + 1 = 16 := ⟨by decide +kernel, rfl⟩
theorem iX5_hops_16 : decode cX5_hops 16 = .ok (.invokevirtual 155, 3) ∧ 16 + 3 = 19 := ⟨by decide +kernel, rfl⟩
theorem iX5_hops_19 : decode cX5_hops 19 = .ok (.ifCond .ne 6, 3) ∧ 19 + 3 = 22 := ⟨by decide +kernel, rfl⟩
theorem iX5_hops_22 : decode cX5_hops 22 = .ok (.bipush (-101), 2) ∧ 22 + 2 = 24 := ⟨by decide +kernel, rfl⟩
theorem iX5_hops_24 : decode cX5_hops 24 = .ok (.ireturn, 1) ∧ 24 + 1 = 25 := ⟨by decide +kernel, rfl⟩
theorem iX5_hops_25 : decode cX5_hops 25 = .ok (.aload_n 0, 1) ∧ 25 + 1 = 26 := ⟨by decide +kernel, rfl⟩
theorem iX5_hops_26 : decode cX5_hops 26 = .ok (.getfield 26, 3) ∧ 26 + 3 = 29 := ⟨by decide +kernel, rfl⟩
theorem iX5_hops_29 : decode cX5_hops 29 = .ok (.iload_n 1, 1) ∧ 29 + 1 = 30 := ⟨by decide +kernel, rfl⟩
theorem iX5_hops_30 : decode cX5_hops 30 = .ok (.invokevirtual 124, 3) ∧ 30 + 3 = 33 := ⟨by decide +kernel, rfl⟩
theorem iX5_hops_33 : decode cX5_hops 33 = .ok (.istore_n 3, 1) ∧ 33 + 1 = 34 := ⟨by decide +kernel, rfl⟩
theorem iX5_hops_34 : decode cX5_hops 34 = .ok (.aload_n 0, 1) ∧ 34 + 1 = 35 := ⟨by decide +kernel, rfl⟩
theorem iX5_hops_35 : decode cX5_hops 35 = .ok (.iload_n 1, 1) ∧ 35 + 1 = 36 := ⟨by decide +kernel, rfl⟩
theorem iX5_hops_36 : decode cX5_hops 36 = .ok (.invokevirtual 138, 3) ∧ 36 + 3 = 39 := ⟨by decide +kernel, rfl⟩
theorem iX5_hops_39 : decode cX5_hops 39 = .ok (.iload_n 3, 1) ∧ 39 + 1 = 40 := ⟨by decide +kernel, rfl⟩
theorem iX5_hops_40 : decode cX5_hops 40 = .ok (.iload_n 2, 1) ∧ 40 + 1 = 41 := ⟨by decide +kernel, rfl⟩
theorem iX5_hops_41 : decode cX5_hops 41 = .ok (.aload_n 0, 1) ∧ 41 + 1 = 42 := ⟨by decide +kernel, rfl⟩
theorem iX5_hops_42 : decode cX5_hops 42 = .ok (.getfield 26, 3) ∧ 42 + 3 = 45 := ⟨by decide +kernel, rfl⟩
theorem iX5_hops_45 : decode cX5_hops 45 = .ok (.invokevirtual 142, 3) ∧ 45 + 3 = 48 := ⟨by decide +kernel, rfl⟩
theorem iX5_hops_48 : decode cX5_hops 48 = .ok (.invokestatic 173, 3) ∧ 48 + 3 = 51 := ⟨by decide +kernel, rfl⟩
theorem iX5_hops_51 : decode cX5_hops 51 = .ok (.ireturn, 1) ∧ 51 + 1 = 52 := ⟨by decide +kernel, rfl⟩
theorem iX5_trade_0 : decode cX5_trade 0 = .ok (.aload_n 0, 1) ∧ 0 + 1 = 1 := ⟨by decide +kernel, rfl⟩
theorem iX5_trade_1 : decode cX5_trade 1 = .ok (.getfield 26, 3) ∧ 1 + 3 = 4 := ⟨by decide +kernel, rfl⟩
theorem iX5_trade_4 : decode cX5_trade 4 = .ok (.iload_n 1, 1) ∧ 4 + 1 = 5 := ⟨by decide +kernel, rfl⟩
theorem iX5_trade_5 : decode cX5_trade 5 = .ok (.invokevirtual 120, 3) ∧ 5 + 3 = 8 := ⟨by decide +kernel, rfl⟩
theorem iX5_trade_8 : decode cX5_trade 8 = .ok (.ifCond .eq 19, 3) ∧ 8 + 3 = 11 := ⟨by decide +kernel, rfl⟩
theorem iX5_trade_11 : decode cX5_trade 11 = .ok (.aload_n 0, 1) ∧ 11 + 1 = 12 := ⟨by decide +kernel, rfl⟩
theorem iX5_trade_12 : decode cX5_trade 12 = .ok (.getfield 26, 3) ∧ 12 + 3 = 15 := ⟨by decide +kernel, rfl⟩
theorem iX5_trade_15 : decode cX5_trade 15 = .ok (.iload_n 2, 1) ∧ 15 + 1 = 16 := ⟨by decide +kernel, rfl⟩
theorem iX5_trade_16 : decode cX5_trade 16 = .ok (.invokevirtual 120, 3) ∧ 16 + 3 = 19 := ⟨by decide +kernel, rfl⟩
theorem iX5_trade_19 : decode cX5_trade 19 = .ok (.ifCond .eq 8, 3) ∧ 19 + 3 = 22 := ⟨by decide +kernel, rfl⟩
theorem iX5_trade_22 : decode cX5_trade 22 = .ok (.iload_n 1, 1) ∧ 22 + 1 = 23 := ⟨by decide +kernel, rfl⟩
theorem iX5_trade_23 : decode cX5_trade 23 = .ok (.iload_n 2, 1) ∧ 23 + 1 = 24 := ⟨by decide +kernel, rfl⟩
theorem iX5_trade_24 : decode cX5_trade 24 = .ok (.if_icmp .ne 6, 3) ∧ 24 + 3 = 27 := ⟨by decide +kernel, rfl⟩
theorem iX5_trade_27 : decode cX5_trade 27 = .ok (.bipush (-101), 2) ∧ 27 + 2 = 29 := ⟨by decide +kernel, rfl⟩
theorem iX5_trade_29 : decode cX5_trade 29 = .ok (.ireturn, 1) ∧ 29 + 1 = 30 := ⟨by decide +kernel, rfl⟩
theorem iX5_trade_30 : decode cX5_trade 30 = .ok (.aload_n 0, 1) ∧ 30 + 1 = 31 := ⟨by decide +kernel, rfl⟩
theorem iX5_trade_31 : decode cX5_trade 31 = .ok (.getfield 26, 3) ∧ 31 + 3 = 34 := ⟨by decide +kernel, rfl⟩
theorem iX5_trade_34 : decode cX5_trade 34 = .ok (.iload_n 1, 1) ∧ 34 + 1 = 35 := ⟨by decide +kernel, rfl⟩
theorem iX5_trade_35 : decode cX5_trade 35 = .ok (.invokevirtual 124, 3) ∧ 35 + 3 = 38 := ⟨by decide +kernel, rfl⟩
theorem iX5_trade_38 : decode cX5_trade 38 = .ok (.istore_n 3, 1) ∧ 38 + 1 = 39 := ⟨by decide +kernel, rfl⟩
theorem iX5_trade_39 : decode cX5_trade 39 = .ok (.aload_n 0, 1) ∧ 39 + 1 = 40 := ⟨by decide +kernel, rfl⟩
theorem iX5_trade_40 : decode cX5_trade 40 = .ok (.getfield 26, 3) ∧ 40 + 3 = 43 := ⟨by decide +kernel, rfl⟩
theorem iX5_trade_43 : decode cX5_trade 43 = .ok (.iload_n 2, 1) ∧ 43 + 1 = 44 := ⟨by decide +kernel, rfl⟩
theorem iX5_trade_44 : decode cX5_trade 44 = .ok (.invokevirtual 124, 3) ∧ 44 + 3 = 47 := ⟨by decide +kernel, rfl⟩
theorem iX5_trade_47 : decode cX5_trade 47 = .ok (.istore 4, 2) ∧ 47 + 2 = 49 := ⟨by decide +kernel, rfl⟩
theorem iX5_trade_49 : decode cX5_trade 49 = .ok (.aload_n 0, 1) ∧ 49 + 1 = 50 := ⟨by decide +kernel, rfl⟩
theorem iX5_trade_50 : decode cX5_trade 50 = .ok (.getfield 26, 3) ∧ 50 + 3 = 53 := ⟨by decide +kernel, rfl⟩
theorem iX5_trade_53 : decode cX5_trade 53 = .ok (.invokevirtual 142, 3) ∧ 53 + 3 = 56 := ⟨by decide +kernel, rfl⟩
theorem iX5_trade_56 : decode cX5_trade 56 = .ok (.iconst 1, 1) ∧ 56 + 1 = 57 := ⟨by decide +kernel, rfl⟩
theorem iX5_trade_57 : decode cX5_trade 57 = .ok (.iload_n 3, 1) ∧ 57 + 1 = 58 := ⟨by decide +kernel, rfl⟩
theorem iX5_trade_58 : decode cX5_trade 58 = .ok (.ishl, 1) ∧ 58 + 1 = 59 := ⟨by decide +kernel, rfl⟩
theorem iX5_trade_59 : decode cX5_trade 59 = .ok (.ior, 1) ∧ 59 + 1 = 60 := ⟨by decide +kernel, rfl⟩
theorem iX5_trade_60 : decode cX5_trade 60 = .ok (.iconst 1, 1) ∧ 60 + 1 = 61 := ⟨by decide +kernel, rfl⟩
theorem iX5_trade_61 : decode cX5_trade 61 = .ok (.iload 4, 2) ∧ 61 + 2 = 63 := ⟨by decide +kernel, rfl⟩
theorem iX5_trade_63 : decode cX5_trade 63 = .ok (.ishl, 1) ∧ 63 + 1 = 64 := ⟨by decide +kernel, rfl⟩
theorem iX5_trade_64 : decode cX5_trade 64 = .ok (.ior, 1) ∧ 64 + 1 = 65 := ⟨by decide +kernel, rfl⟩
theorem iX5_trade_65 : decode cX5_trade 65 = .ok (.istore 5, 2) ∧ 65 + 2 = 67 := ⟨by decide +kernel, rfl⟩
theorem iX5_trade_67 : decode cX5_trade 67 = .ok (.aload_n 0, 1) ∧ 67 + 1 = 68 := ⟨by decide +kernel, rfl⟩
theorem iX5_trade_68 : decode cX5_trade 68 = .ok (.getfield 39, 3) ∧ 68 + 3 = 71 := ⟨by decide +kernel, rfl⟩
theorem iX5_trade_71 : decode cX5_trade 71 = .ok (.aload_n 0, 1) ∧ 71 + 1 = 72 := ⟨by decide +kernel, rfl⟩
theorem iX5_trade_72 : decode cX5_trade 72 = .ok (.iload_n 1, 1) ∧ 72 + 1 = 73 := ⟨by decide +kernel, rfl⟩
theorem iX5_trade_73 : decode cX5_trade 73 = .ok (.invokevirtual 138, 3) ∧ 73 + 3 = 76 := ⟨by decide +kernel, rfl⟩
theorem iX5_trade_76 : decode cX5_trade 76 = .ok (.aload_n 0, 1) ∧ 76 + 1 = 77 := ⟨by decide +kernel, rfl⟩
theorem iX5_trade_77 : decode cX5_trade 77 = .ok (.iload_n 2, 1) ∧ 77 + 1 = 78 := ⟨by decide +kernel, rfl⟩
theorem iX5_trade_78 : decode cX5_trade 78 = .ok (.invokevirtual 138, 3) ∧ 78 + 3 = 81 := ⟨by decide +kernel, rfl⟩
theorem iX5_trade_81 : decode cX5_trade 81 = .ok (.iload_n 3, 1) ∧ 81 + 1 = 82 := ⟨by decide +kernel, rfl⟩
theorem iX5_trade_82 : decode cX5_trade 82 = .ok (.iload 4, 2) ∧ 82 + 2 = 84 := ⟨by decide +kernel, rfl⟩
theorem iX5_trade_84 : decode cX5_trade 84 = .ok (.iload 5, 2) ∧ 84 + 2 = 86 := ⟨by decide +kernel, rfl⟩
theorem iX5_trade_86 : decode cX5_trade 86 = .ok (.invokevirtual 177, 3) ∧ 86 + 3 = 89 := ⟨by decide +kernel, rfl⟩
theorem iX5_trade_89 : decode cX5_trade 89 = .ok (.ireturn, 1) ∧ 89 + 1 = 90 := ⟨by decide +kernel, rfl⟩
theorem iX5_peace_0 : decode cX5_peace 0 = .ok (.iload_n 1, 1) ∧ 0 + 1 = 1 := ⟨by decide +kernel, rfl⟩
theorem iX5_peace_1 : decode cX5_peace 1 = .ok (.invokestatic 152, 3) ∧ 1 + 3 = 4 := ⟨by decide +kernel, rfl⟩
theorem iX5_peace_4 : decode cX5_peace 4 = .ok (.ifCond .eq 10, 3) ∧ 4 + 3 = 7 := ⟨by decide +kernel, rfl⟩
theorem iX5_peace_7 : decode cX5_peace 7 = .ok (.iload_n 2, 1) ∧ 7 + 1 = 8 := ⟨by decide +kernel, rfl⟩
theorem iX5_peace_8 : decode cX5_peace 8 = .ok (.invokestatic 181, 3) ∧ 8 + 3 = 11 := ⟨by decide +kernel, rfl⟩
theorem iX5_peace_11 : decode cX5_peace 11 = .ok (.ifCond .ne 6, 3) ∧ 11 + 3 = 14 := ⟨by decide +kernel, rfl⟩
theorem iX5_peace_14 : decode cX5_peace 14 = .ok (.bipush (-102), 2) ∧ 14 + 2 = 16 := ⟨by decide +kernel, rfl⟩
theorem iX5_peace_16 : decode cX5_peace 16 = .ok (.ireturn, 1) ∧ 16 + 1 = 17 := ⟨by decide +kernel, rfl⟩
theorem iX5_peace_17 : decode cX5_peace 17 = .ok (.aload_n 0, 1) ∧ 17 + 1 = 18 := ⟨by decide +kernel, rfl⟩
theorem iX5_peace_18 : decode cX5_peace 18 = .ok (.getfield 26, 3) ∧ 18 + 3 = 21 := ⟨by decide +kernel, rfl⟩
theorem iX5_peace_21 : decode cX5_peace 21 = .ok (.invokevirtual 184, 3) ∧ 21 + 3 = 24 := ⟨by decide +kernel, rfl⟩
theorem iX5_peace_24 : decode cX5_peace 24 = .ok (.ifCond .ne 6, 3) ∧ 24 + 3 = 27 := ⟨by decide +kernel, rfl⟩
theorem iX5_peace_27 : decode cX5_peace 27 = .ok (.bipush (-103), 2) ∧ 27 + 2 = 29 := ⟨by decide +kernel, rfl⟩
theorem iX5_peace_29 : decode cX5_peace 29 = .ok (.ireturn, 1) ∧ 29 + 1 = 30 := ⟨by decide +kernel, rfl⟩
theorem iX5_peace_30 : decode cX5_peace 30 = .ok (.aload_n 0, 1) ∧ 30 + 1 = 31 := ⟨by decide +kernel, rfl⟩
theorem iX5_peace_31 : decode cX5_peace 31 = .ok (.getfield 19, 3) ∧ 31 + 3 = 34 := ⟨by decide +kernel, rfl⟩
theorem iX5_peace_34 : decode cX5_peace 34 = .ok (.iload_n 1, 1) ∧ 34 + 1 = 35 := ⟨by decide +kernel, rfl⟩
theorem iX5_peace_35 : decode cX5_peace 35 = .ok (.invokevirtual 187, 3) ∧ 35 + 3 = 38 := ⟨by decide +kernel, rfl⟩
theorem iX5_peace_38 : decode cX5_peace 38 = .ok (.aload_n 0, 1) ∧ 38 + 1 = 39 := ⟨by decide +kernel, rfl⟩
theorem iX5_peace_39 : decode cX5_peace 39 = .ok (.getfield 26, 3) ∧ 39 + 3 = 42 := ⟨by decide +kernel, rfl⟩
theorem iX5_peace_42 : decode cX5_peace 42 = .ok (.getfield 89, 3) ∧ 42 + 3 = 45 := ⟨by decide +kernel, rfl⟩
theorem iX5_peace_45 : decode cX5_peace 45 = .ok (.bipush 11, 2) ∧ 45 + 2 = 47 := ⟨by decide +kernel, rfl⟩
theorem iX5_peace_47 : decode cX5_peace 47 = .ok (.invokestatic 190, 3) ∧ 47 + 3 = 50 := ⟨by decide +kernel, rfl⟩
theorem iX5_peace_50 : decode cX5_peace 50 = .ok (.istore_n 3, 1) ∧ 50 + 1 = 51 := ⟨by decide +kernel, rfl⟩
theorem iX5_peace_51 : decode cX5_peace 51 = .ok (.iload_n 2, 1) ∧ 51 + 1 = 52 := ⟨by decide +kernel, rfl⟩
theorem iX5_peace_52 : decode cX5_peace 52 = .ok (.ifCond .ne 10, 3) ∧ 52 + 3 = 55 := ⟨by decide +kernel, rfl⟩
theorem iX5_peace_55 : decode cX5_peace 55 = .ok (.iload_n 3, 1) ∧ 55 + 1 = 56 := ⟨by decide +kernel, rfl⟩
theorem iX5_peace_56 : decode cX5_peace 56 = .ok (.invokestatic 168, 3) ∧ 56 + 3 = 59 := ⟨by decide +kernel, rfl⟩
theorem iX5_peace_59 : decode cX5_peace 59 = .ok (.goto 4, 3) ∧ 59 + 3 = 62 := ⟨by decide +kernel, rfl⟩
theorem iX5_peace_62 : decode cX5_peace 62 = .ok (.iload_n 3, 1) ∧ 62 + 1 = 63 := ⟨by decide +kernel, rfl⟩
theorem iX5_peace_63 : decode cX5_peace 63 = .ok (.ireturn, 1) ∧ 63 + 1 = 64 := ⟨by decide +kernel, rfl⟩
theorem iX5_guard_0 : decode cX5_guard 0 = .ok (.iload_n 1, 1) ∧ 0 + 1 = 1 := ⟨by decide +kernel, rfl⟩
theorem iX5_guard_1 : decode cX5_guard 1 = .ok (.invokestatic 152, 3) ∧ 1 + 3 = 4 := ⟨by decide +kernel, rfl⟩
theorem iX5_guard_4 : decode cX5_guard 4 = .ok (.ifCond .eq 10, 3) ∧ 4 + 3 = 7 := ⟨by decide +kernel, rfl⟩
theorem iX5_guard_7 : decode cX5_guard 7 = .ok (.iload_n 2, 1) ∧ 7 + 1 = 8 := ⟨by decide +kernel, rfl⟩
theorem iX5_guard_8 : decode cX5_guard 8 = .ok (.invokestatic 181, 3) ∧ 8 + 3 = 11 := ⟨by decide +kernel, rfl⟩
theorem iX5_guard_11 : decode cX5_guard 11 = .ok (.ifCond .ne 6, 3) ∧ 11 + 3 = 14 := ⟨by decide +kernel, rfl⟩
theorem iX5_guard_14 : decode cX5_guard 14 = .ok (.bipush (-102), 2) ∧ 14 + 2 = 16 := ⟨by decide +kernel, rfl⟩
theorem iX5_guard_16 : decode cX5_guard 16 = .ok (.ireturn, 1) ∧ 16 + 1 = 17 := ⟨by decide +kernel, rfl⟩
theorem iX5_guard_17 : decode cX5_guard 17 = .ok (.aload_n 0, 1) ∧ 17 + 1 = 18 := ⟨by decide +kernel, rfl⟩
theorem iX5_guard_18 : decode cX5_guard 18 = .ok (.getfield 26, 3) ∧ 18 + 3 = 21 := ⟨by decide +kernel, rfl⟩
theorem iX5_guard_21 : decode cX5_guard 21 = .ok (.invokevirtual 184, 3) ∧ 21 + 3 = 24 := ⟨by decide +kernel, rfl⟩
theorem iX5_guard_24 : decode cX5_guard 24 = .ok (.ifCond .ne 6, 3) ∧ 24 + 3 = 27 := ⟨by decide +kernel, rfl⟩
theorem iX5_guard_27 : decode cX5_guard 27 = .ok (.bipush (-103), 2) ∧ 27 + 2 = 29 := ⟨by decide +kernel, rfl⟩
theorem iX5_guard_29 : decode cX5_guard 29 = .ok (.ireturn, 1) ∧ 29 + 1 = 30 := ⟨by decide +kernel, rfl⟩
theorem iX5_guard_30 : decode cX5_guard 30 = .ok (.aload_n 0, 1) ∧ 30 + 1 = 31 := ⟨by decide +kernel, rfl⟩
theorem iX5_guard_31 : decode cX5_guard 31 = .ok (.getfield 19, 3) ∧ 31 + 3 = 34 := ⟨by decide +kernel, rfl⟩
theorem iX5_guard_34 : decode cX5_guard 34 = .ok (.iload_n 1, 1) ∧ 34 + 1 = 35 := ⟨by decide +kernel, rfl⟩
theorem iX5_guard_35 : decode cX5_guard 35 = .ok (.invokevirtual 187, 3) ∧ 35 + 3 = 38 := ⟨by decide +kernel, rfl⟩
theorem iX5_guard_38 : decode cX5_guard 38 = .ok (.aload_n 0, 1) ∧ 38 + 1 = 39 := ⟨by decide +kernel, rfl⟩
theorem iX5_guard_39 : decode cX5_guard 39 = .ok (.getfield 26, 3) ∧ 39 + 3 = 42 := ⟨by decide +kernel, rfl⟩
theorem iX5_guard_42 : decode cX5_guard 42 = .ok (.getfield 89, 3) ∧ 42 + 3 = 45 := ⟨by decide +kernel, rfl⟩
theorem iX5_guard_45 : decode cX5_guard 45 = .ok (.iconst 0, 1) ∧ 45 + 1 = 46 := ⟨by decide +kernel, rfl⟩
theorem iX5_guard_46 : decode cX5_guard 46 = .ok (.iconst 0, 1) ∧ 46 + 1 = 47 := ⟨by decide +kernel, rfl⟩
theorem iX5_guard_47 : decode cX5_guard 47 = .ok (.aload_n 0, 1) ∧ 47 + 1 = 48 := ⟨by decide +kernel, rfl⟩
theorem iX5_guard_48 : decode cX5_guard 48 = .ok (.getfield 26, 3) ∧ 48 + 3 = 51 := ⟨by decide +kernel, rfl⟩
theorem iX5_guard_51 : decode cX5_guard 51 = .ok (.getfield 89, 3) ∧ 51 + 3 = 54 := ⟨by decide +kernel, rfl⟩
theorem iX5_guard_54 : decode cX5_guard 54 = .ok (.iconst 0, 1) ∧ 54 + 1 = 55 := ⟨by decide +kernel, rfl⟩
theorem iX5_guard_55 : decode cX5_guard 55 = .ok (.invokestatic 193, 3) ∧ 55 + 3 = 58 := ⟨by decide +kernel, rfl⟩
theorem iX5_guard_58 : decode cX5_guard 58 = .ok (.istore_n 3, 1) ∧ 58 + 1 = 59 := ⟨by decide +kernel, rfl⟩
theorem iX5_guard_59 : decode cX5_guard 59 = .ok (.iload_n 2, 1) ∧ 59 + 1 = 60 := ⟨by decide +kernel, rfl⟩
theorem iX5_guard_60 : decode cX5_guard 60 = .ok (.ifCond .ne 10, 3) ∧ 60 + 3 = 63 := ⟨by decide +kernel, rfl⟩
theorem iX5_guard_63 : decode cX5_guard 63 = .ok (.iload_n 3, 1) ∧ 63 + 1 = 64 := ⟨by decide +kernel, rfl⟩
theorem iX5_guard_64 : decode cX5_guard 64 = .ok (.invokestatic 168, 3) ∧ 64 + 3 = 67 := ⟨by decide +kernel, rfl⟩
theorem iX5_guard_67 : decode cX5_guard 67 = .ok (.goto 4, 3) ∧ 67 + 3 = 70 := ⟨by decide +kernel, rfl⟩
theorem iX5_guard_70 : decode cX5_guard 70 = .ok (.iload_n 3, 1) ∧ 70 + 1 = 71 := ⟨by decide +kernel, rfl⟩
theorem iX5_guard_71 : decode cX5_guard 71 = .ok (.ireturn, 1) ∧ 71 + 1 = 72 := ⟨by decide +kernel, rfl⟩
theorem iX5_parts_0 : decode cX5_parts 0 = .ok (.iload_n 1, 1) ∧ 0 + 1 = 1 := ⟨by decide +kernel, rfl⟩
theorem iX5_parts_1 : decode cX5_parts 1 = .ok (.invokestatic 152, 3) ∧ 1 + 3 = 4 := ⟨by decide +kernel, rfl⟩
theorem iX5_parts_4 : decode cX5_parts 4 = .ok (.ifCond .eq 10, 3) ∧ 4 + 3 = 7 := ⟨by decide +kernel, rfl⟩
theorem iX5_parts_7 : decode cX5_parts 7 = .ok (.iload_n 2, 1) ∧ 7 + 1 = 8 := ⟨by decide +kernel, rfl⟩
theorem iX5_parts_8 : decode cX5_parts 8 = .ok (.invokestatic 181, 3) ∧ 8 + 3 = 11 := ⟨by decide +kernel, rfl⟩
theorem iX5_parts_11 : decode cX5_parts 11 = .ok (.ifCond .ne 6, 3) ∧ 11 + 3 = 14 := ⟨by decide +kernel, rfl⟩
theorem iX5_parts_14 : decode cX5_parts 14 = .ok (.bipush (-102), 2) ∧ 14 + 2 = 16 := ⟨by decide +kernel, rfl⟩
theorem iX5_parts_16 : decode cX5_parts 16 = .ok (.ireturn, 1) ∧ 16 + 1 = 17 := ⟨by decide +kernel, rfl⟩
theorem iX5_parts_17 : decode cX5_parts 17 = .ok (.aload_n 0, 1) ∧ 17 + 1 = 18 := ⟨by decide +kernel, rfl⟩
theorem iX5_parts_18 : decode cX5_parts 18 = .ok (.getfield 26, 3) ∧ 18 + 3 = 21 := ⟨by decide +kernel, rfl⟩
theorem iX5_parts_21 : decode cX5_parts 21 = .ok (.invokevirtual 184, 3) ∧ 21 + 3 = 24 := ⟨by decide +kernel, rfl⟩
theorem iX5_parts_24 : decode cX5_parts 24 = .ok (.ifCond .ne 6, 3) ∧ 24 + 3 = 27 := ⟨by decide +kernel, rfl⟩
theorem iX5_parts_27 : decode cX5_parts 27 = .ok (.bipush (-103), 2) ∧ 27 + 2 = 29 := ⟨by decide +kernel, rfl⟩
theorem iX5_parts_29 : decode cX5_parts 29 = .ok (.ireturn, 1) ∧ 29 + 1 = 30 := ⟨by decide +kernel, rfl⟩
theorem iX5_parts_30 : decode cX5_parts 30 = .ok (.aload_n 0, 1) ∧ 30 + 1 = 31 := ⟨by decide +kernel, rfl⟩
theorem iX5_parts_31 : decode cX5_parts 31 = .ok (.getfield 19, 3) ∧ 31 + 3 = 34 := ⟨by decide +kernel, rfl⟩
theorem iX5_parts_34 : decode cX5_parts 34 = .ok (.iload_n 1, 1) ∧ 34 + 1 = 35 := ⟨by decide +kernel, rfl⟩
theorem iX5_parts_35 : decode cX5_parts 35 = .ok (.invokevirtual 187, 3) ∧ 35 + 3 = 38 := ⟨by decide +kernel, rfl⟩
theorem iX5_parts_38 : decode cX5_parts 38 = .ok (.astore_n 3, 1) ∧ 38 + 1 = 39 := ⟨by decide +kernel, rfl⟩
theorem iX5_parts_39 : decode cX5_parts 39 = .ok (.iload_n 2, 1) ∧ 39 + 1 = 40 := ⟨by decide +kernel, rfl⟩
theorem iX5_parts_40 : decode cX5_parts 40 = .ok (.ifCond .ne 15, 3) ∧ 40 + 3 = 43 := ⟨by decide +kernel, rfl⟩
theorem iX5_parts_43 : decode cX5_parts 43 = .ok (.aload_n 3, 1) ∧ 43 + 1 = 44 := ⟨by decide +kernel, rfl⟩
theorem iX5_parts_44 : decode cX5_parts 44 = .ok (.aload_n 0, 1) ∧ 44 + 1 = 45 := ⟨by decide +kernel, rfl⟩
theorem iX5_parts_45 : decode cX5_parts 45 = .ok (.getfield 26, 3) ∧ 45 + 3 = 48 := ⟨by decide +kernel, rfl⟩
theorem iX5_parts_48 : decode cX5_parts 48 = .ok (.getfield 89, 3) ∧ 48 + 3 = 51 := ⟨by decide +kernel, rfl⟩
theorem iX5_parts_51 : decode cX5_parts 51 = .ok (.invokestatic 197, 3) ∧ 51 + 3 = 54 := ⟨by decide +kernel, rfl⟩
theorem iX5_parts_54 : decode cX5_parts 54 = .ok (.ireturn, 1) ∧ 54 + 1 = 55 := ⟨by decide +kernel, rfl⟩
theorem iX5_parts_55 : decode cX5_parts 55 = .ok (.aload_n 3, 1) ∧ 55 + 1 = 56 := ⟨by decide +kernel, rfl⟩
theorem iX5_parts_56 : decode cX5_parts 56 = .ok (.aload_n 0, 1) ∧ 56 + 1 = 57 := ⟨by decide +kernel, rfl⟩
theorem iX5_parts_57 : decode cX5_parts 57 = .ok (.getfield 26, 3) ∧ 57 + 3 = 60 := ⟨by decide +kernel, rfl⟩
theorem iX5_parts_60 : decode cX5_parts 60 = .ok (.getfield 89, 3) ∧ 60 + 3 = 63 := ⟨by decide +kernel, rfl⟩
theorem iX5_parts_63 : decode cX5_parts 63 = .ok (.invokestatic 201, 3) ∧ 63 + 3 = 66 := ⟨by decide +kernel, rfl⟩
theorem iX5_parts_66 : decode cX5_parts 66 = .ok (.ifCond .eq 7, 3) ∧ 66 + 3 = 69 := ⟨by decide +kernel, rfl⟩
theorem iX5_parts_69 : decode cX5_parts 69 = .ok (.iconst 1, 1) ∧ 69 + 1 = 70 := ⟨by decide +kernel, rfl⟩
theorem iX5_parts_70 : decode cX5_parts 70 = .ok (.goto 4, 3) ∧ 70 + 3 = 73 := ⟨by decide +kernel, rfl⟩
theorem iX5_parts_73 : decode cX5_parts 73 = .ok (.iconst 0, 1) ∧ 73 + 1 = 74 := ⟨by decide +kernel, rfl⟩
theorem iX5_parts_74 : decode cX5_parts 74 = .ok (.ireturn, 1) ∧ 74 + 1 = 75 := ⟨by decide +kernel, rfl⟩
theorem iX5_chance_0 : decode cX5_chance 0 = .ok (.aload_n 0, 1) ∧ 0 + 1 = 1 := ⟨by decide +kernel, rfl⟩
theorem iX5_chance_1 : decode cX5_chance 1 = .ok (.getfield 26, 3) ∧ 1 + 3 = 4 := ⟨by decide +kernel, rfl⟩
theorem iX5_chance_4 : decode cX5_chance 4 = .ok (.iload_n 1, 1) ∧ 4 + 1 = 5 := ⟨by decide +kernel, rfl⟩
theorem iX5_chance_5 : decode cX5_chance 5 = .ok (.invokevirtual 120, 3) ∧ 5 + 3 = 8 := ⟨by decide +kernel, rfl⟩
theorem iX5_chance_8 : decode cX5_chance 8 = .ok (.ifCond .eq 14, 3) ∧ 8 + 3 = 11 := ⟨by decide +kernel, rfl⟩
theorem iX5_chance_11 : decode cX5_chance 11 = .ok (.aload_n 0, 1) ∧ 11 + 1 = 12 := ⟨by decide +kernel, rfl⟩
theorem iX5_chance_12 : decode cX5_chance 12 = .ok (.getfield 19, 3) ∧ 12 + 3 = 15 := ⟨by decide +kernel, rfl⟩
theorem iX5_chance_15 : decode cX5_chance 15 = .ok (.iload_n 2, 1) ∧ 15 + 1 = 16 := ⟨by decide +kernel, rfl⟩
theorem iX5_chance_16 : decode cX5_chance 16 = .ok (.invokevirtual 155, 3) ∧ 16 + 3 = 19 := ⟨by decide +kernel, rfl⟩
theorem iX5_chance_19 : decode cX5_chance 19 = .ok (.ifCond .ne 6, 3) ∧ 19 + 3 = 22 := ⟨by decide +kernel, rfl⟩
theorem iX5_chance_22 : decode cX5_chance 22 = .ok (.bipush (-101), 2) ∧ 22 + 2 = 24 := ⟨by decide +kernel, rfl⟩
theorem iX5_chance_24 : decode cX5_chance 24 = .ok (.ireturn, 1) ∧ 24 + 1 = 25 := ⟨by decide +kernel, rfl⟩
theorem iX5_chance_25 : decode cX5_chance 25 = .ok (.iload_n 3, 1) ∧ 25 + 1 = 26 := ⟨by decide +kernel, rfl⟩
theorem iX5_chance_26 : decode cX5_chance 26 = .ok (.ifCond .lt 9, 3) ∧ 26 + 3 = 29 := ⟨by decide +kernel, rfl⟩
theorem iX5_chance_29 : decode cX5_chance 29 = .ok (.iload_n 3, 1) ∧ 29 + 1 = 30 := ⟨by decide +kernel, rfl⟩
theorem iX5_chance_30 : decode cX5_chance 30 = .ok (.bipush 6, 2) ∧ 30 + 2 = 32 := ⟨by decide +kernel, rfl⟩
theorem iX5_chance_32 : decode cX5_chance 32 = .ok (.if_icmp .le 6, 3) ∧ 32 + 3 = 35 := ⟨by decide +kernel, rfl⟩
theorem iX5_chance_35 : decode cX5_chance 35 = .ok (.bipush (-102), 2) ∧ 35 + 2 = 37 := ⟨by decide +kernel, rfl⟩
theorem iX5_chance_37 : decode cX5_chance 37 = .ok (.ireturn, 1) ∧ 37 + 1 = 38 := ⟨by decide +kernel, rfl⟩
theorem iX5_chance_38 : decode cX5_chance 38 = .ok (.aload_n 0, 1) ∧ 38 + 1 = 39 := ⟨by decide +kernel, rfl⟩
theorem iX5_chance_39 : decode cX5_chance 39 = .ok (.getfield 26, 3) ∧ 39 + 3 = 42 := ⟨by decide +kernel, rfl⟩
theorem iX5_chance_42 : decode cX5_chance 42 = .ok (.iload_n 1, 1) ∧ 42 + 1 = 43 := ⟨by decide +kernel, rfl⟩
theorem iX5_chance_43 : decode cX5_chance 43 = .ok (.invokevirtual 124, 3) ∧ 43 + 3 = 46 := ⟨by decide +kernel, rfl⟩
theorem iX5_chance_46 : decode cX5_chance 46 = .ok (.istore 4, 2) ∧ 46 + 2 = 48 := ⟨by decide +kernel, rfl⟩
theorem iX5_chance_48 : decode cX5_chance 48 = .ok (.aload_n 0, 1) ∧ 48 + 1 = 49 := ⟨by decide +kernel, rfl⟩
theorem iX5_chance_49 : decode cX5_chance 49 = .ok (.getfield 26, 3) ∧ 49 + 3 = 52 := ⟨by decide +kernel, rfl⟩
theorem iX5_chance_52 : decode cX5_chance 52 = .ok (.invokevirtual 142, 3) ∧ 52 + 3 = 55 := ⟨by decide +kernel, rfl⟩
theorem iX5_chance_55 : decode cX5_chance 55 = .ok (.iconst 1, 1) ∧ 55 + 1 = 56 := ⟨by decide +kernel, rfl⟩
theorem iX5_chance_56 : decode cX5_chance 56 = .ok (.iload 4, 2) ∧ 56 + 2 = 58 := ⟨by decide +kernel, rfl⟩
theorem iX5_chance_58 : decode cX5_chance 58 = .ok (.ishl, 1) ∧ 58 + 1 = 59 := ⟨by decide +kernel, rfl⟩
theorem iX5_chance_59 : decode cX5_chance 59 = .ok (.ior, 1) ∧ 59 + 1 = 60 := ⟨by decide +kernel, rfl⟩
theorem iX5_chance_60 : decode cX5_chance 60 = .ok (.istore 5, 2) ∧ 60 + 2 = 62 := ⟨by decide +kernel, rfl⟩
theorem iX5_chance_62 : decode cX5_chance 62 = .ok (.aload_n 0, 1) ∧ 62 + 1 = 63 := ⟨by decide +kernel, rfl⟩
theorem iX5_chance_63 : decode cX5_chance 63 = .ok (.getfield 39, 3) ∧ 63 + 3 = 66 := ⟨by decide +kernel, rfl⟩
theorem iX5_chance_66 : decode cX5_chance 66 = .ok (.aload_n 0, 1) ∧ 66 + 1 = 67 := ⟨by decide +kernel, rfl⟩
theorem iX5_chance_67 : decode cX5_chance 67 = .ok (.iload_n 1, 1) ∧ 67 + 1 = 68 := ⟨by decide +kernel, rfl⟩
theorem iX5_chance_68 : decode cX5_chance 68 = .ok (.invokevirtual 138, 3) ∧ 68 + 3 = 71 := ⟨by decide +kernel, rfl⟩
theorem iX5_chance_71 : decode cX5_chance 71 = .ok (.iload 4, 2) ∧ 71 + 2 = 73 := ⟨by decide +kernel, rfl⟩
theorem iX5_chance_73 : decode cX5_chance 73 = .ok (.iload_n 2, 1) ∧ 73 + 1 = 74 := ⟨by decide +kernel, rfl⟩
theorem iX5_chance_74 : decode cX5_chance 74 = .ok (.iload 5, 2) ∧ 74 + 2 = 76 := ⟨by decide +kernel, rfl⟩
theorem iX5_chance_76 : decode cX5_chance 76 = .ok (.iload_n 3, 1) ∧ 76 + 1 = 77 := ⟨by decide +kernel, rfl⟩
theorem iX5_chance_77 : decode cX5_chance 77 = .ok (.invokevirtual 205, 3) ∧ 77 + 3 = 80 := ⟨by decide +kernel, rfl⟩
theorem iX5_chance_80 : decode cX5_chance 80 = .ok (.ireturn, 1) ∧ 80 + 1 = 81 := ⟨by decide +kernel, rfl⟩
theorem iX5_see_0 : decode cX5_see 0 = .ok (.aload_n 0, 1) ∧ 0 + 1 = 1 := ⟨by decide +kernel, rfl⟩
theorem iX5_see_1 : decode cX5_see 1 = .ok (.getfield 26, 3) ∧ 1 + 3 = 4 := ⟨by decide +kernel, rfl⟩
theorem iX5_see_4 : decode cX5_see 4 = .ok (.iload_n 1, 1) ∧ 4 + 1 = 5 := ⟨by decide +kernel, rfl⟩
theorem iX5_see_5 : decode cX5_see 5 = .ok (.invokevirtual 120, 3) ∧ 5 + 3 = 8 := ⟨by decide +kernel, rfl⟩
theorem iX5_see_8 : decode cX5_see 8 = .ok (.ifCond .ne 6, 3) ∧ 8 + 3 = 11 := ⟨by decide +kernel, rfl⟩
theorem iX5_see_11 : decode cX5_see 11 = .ok (.bipush (-101), 2) ∧ 11 + 2 = 13 := ⟨by decide +kernel, rfl⟩
theorem iX5_see_13 : decode cX5_see 13 = .ok (.ireturn, 1) ∧ 13 + 1 = 14 := ⟨by decide +kernel, rfl⟩
theorem iX5_see_14 : decode cX5_see 14 = .ok (.iload_n 2, 1) ∧ 14 + 1 = 15 := ⟨by decide +kernel, rfl⟩
theorem iX5_see_15 : decode cX5_see 15 = .ok (.ifCond .lt 17, 3) ∧ 15 + 3 = 18 := ⟨by decide +kernel, rfl⟩
theorem iX5_see_18 : decode cX5_see 18 = .ok (.iload_n 2, 1) ∧ 18 + 1 = 19 := ⟨by decide +kernel, rfl⟩
theorem iX5_see_19 : decode cX5_see 19 = .ok (.iconst 3, 1) ∧ 19 + 1 = 20 := ⟨by decide +kernel, rfl⟩
theorem iX5_see_20 : decode cX5_see 20 = .ok (.if_icmp .gt 12, 3) ∧ 20 + 3 = 23 := ⟨by decide +kernel, rfl⟩
theorem iX5_see_23 : decode cX5_see 23 = .ok (.iload_n 3, 1) ∧ 23 + 1 = 24 := ⟨by decide +kernel, rfl⟩
theorem iX5_see_24 : decode cX5_see 24 = .ok (.ifCond .lt 8, 3) ∧ 24 + 3 = 27 := ⟨by decide +kernel, rfl⟩
theorem iX5_see_27 : decode cX5_see 27 = .ok (.iload_n 3, 1) ∧ 27 + 1 = 28 := ⟨by decide +kernel, rfl⟩
theorem iX5_see_28 : decode cX5_see 28 = .ok (.iconst 3, 1) ∧ 28 + 1 = 29 := ⟨by decide +kernel, rfl⟩
theorem iX5_see_29 : decode cX5_see 29 = .ok (.if_icmp .le 6, 3) ∧ 29 + 3 = 32 := ⟨by decide +kernel, rfl⟩
theorem iX5_see_32 : decode cX5_see 32 = .ok (.bipush (-102), 2) ∧ 32 + 2 = 34 := ⟨by decide +kernel, rfl⟩
theorem iX5_see_34 : decode cX5_see 34 = .ok (.ireturn, 1) ∧ 34 + 1 = 35 := ⟨by decide +kernel, rfl⟩
theorem iX5_see_35 : decode cX5_see 35 = .ok (.iload_n 2, 1) ∧ 35 + 1 = 36 := ⟨by decide +kernel, rfl⟩
theorem iX5_see_36 : decode cX5_see 36 = .ok (.iload_n 3, 1) ∧ 36 + 1 = 37 := ⟨by decide +kernel, rfl⟩
theorem iX5_see_37 : decode cX5_see 37 = .ok (.invokestatic 209, 3) ∧ 37 + 3 = 40 := ⟨by decide +kernel, rfl⟩
theorem iX5_see_40 : decode cX5_see 40 = .ok (.istore 5, 2) ∧ 40 + 2 = 42 := ⟨by decide +kernel, rfl⟩
theorem iX5_see_42 : decode cX5_see 42 = .ok (.aload_n 0, 1) ∧ 42 + 1 = 43 := ⟨by decide +kernel, rfl⟩
theorem iX5_see_43 : decode cX5_see 43 = .ok (.getfield 26, 3) ∧ 43 + 3 = 46 := ⟨by decide +kernel, rfl⟩
theorem iX5_see_46 : decode cX5_see 46 = .ok (.iload_n 1, 1) ∧ 46 + 1 = 47 := ⟨by decide +kernel, rfl⟩
theorem iX5_see_47 : decode cX5_see 47 = .ok (.iload 4, 2) ∧ 47 + 2 = 49 := ⟨by decide +kernel, rfl⟩
theorem iX5_see_49 : decode cX5_see 49 = .ok (.ifCond .eq 8, 3) ∧ 49 + 3 = 52 := ⟨by decide +kernel, rfl⟩
theorem iX5_see_52 : decode cX5_see 52 = .ok (.iload 5, 2) ∧ 52 + 2 = 54 := ⟨by decide +kernel, rfl⟩
theorem iX5_see_54 : decode cX5_see 54 = .ok (.goto 10, 3) ∧ 54 + 3 = 57 := ⟨by decide +kernel, rfl⟩
theorem iX5_see_57 : decode cX5_see 57 = .ok (.bipush 31, 2) ∧ 57 + 2 = 59 := ⟨by decide +kernel, rfl⟩
theorem iX5_see_59 : decode cX5_see 59 = .ok (.iload 5, 2) ∧ 59 + 2 = 61 := ⟨by decide +kernel, rfl⟩
theorem iX5_see_61 : decode cX5_see 61 = .ok (.iconst (-1), 1) ∧ 61 + 1 = 62 := ⟨by decide +kernel, rfl⟩
theorem iX5_see_62 : decode cX5_see 62 = .ok (.ixor, 1) ∧ 62 + 1 = 63 := ⟨by decide +kernel, rfl⟩
theorem iX5_see_63 : decode cX5_see 63 = .ok (.iand, 1) ∧ 63 + 1 = 64 := ⟨by decide +kernel, rfl⟩
theorem iX5_see_64 : decode cX5_see 64 = .ok (.invokevirtual 213, 3) ∧ 64 + 3 = 67 := ⟨by decide +kernel, rfl⟩
theorem iX5_see_67 : decode cX5_see 67 = .ok (.ifCond .eq 13, 3) ∧ 67 + 3 = 70 := ⟨by decide +kernel, rfl⟩
theorem iX5_see_70 : decode cX5_see 70 = .ok (.aload_n 0, 1) ∧ 70 + 1 = 71 := ⟨by decide +kernel, rfl⟩
theorem iX5_see_71 : decode cX5_see 71 = .ok (.getfield 26, 3) ∧ 71 + 3 = 74 := ⟨by decide +kernel, rfl⟩
theorem iX5_see_74 : decode cX5_see 74 = .ok (.getfield 114, 3) ∧ 74 + 3 = 77 := ⟨by decide +kernel, rfl⟩
theorem iX5_see_77 : decode cX5_see 77 = .ok (.goto 5, 3) ∧ 77 + 3 = 80 := ⟨by decide +kernel, rfl⟩
theorem iX5_see_80 : decode cX5_see 80 = .ok (.bipush (-104), 2) ∧ 80 + 2 = 82 := ⟨by decide +kernel, rfl⟩
theorem iX5_see_82 : decode cX5_see 82 = .ok (.ireturn, 1) ∧ 82 + 1 = 83 := ⟨by decide +kernel, rfl⟩
theorem iX5_forget_0 : decode cX5_forget 0 = .ok (.aload_n 0, 1) ∧ 0 + 1 = 1 := ⟨by decide +kernel, rfl⟩
theorem iX5_forget_1 : decode cX5_forget 1 = .ok (.getfield 26, 3) ∧ 1 + 3 = 4 := ⟨by decide +kernel, rfl⟩
theorem iX5_forget_4 : decode cX5_forget 4 = .ok (.getfield 114, 3) ∧ 4 + 3 = 7 := ⟨by decide +kernel, rfl⟩
theorem iX5_forget_7 : decode cX5_forget 7 = .ok (.istore_n 1, 1) ∧ 7 + 1 = 8 := ⟨by decide +kernel, rfl⟩
theorem iX5_forget_8 : decode cX5_forget 8 = .ok (.aload_n 0, 1) ∧ 8 + 1 = 9 := ⟨by decide +kernel, rfl⟩
theorem iX5_forget_9 : decode cX5_forget 9 = .ok (.getfield 26, 3) ∧ 9 + 3 = 12 := ⟨by decide +kernel, rfl⟩
theorem iX5_forget_12 : decode cX5_forget 12 = .ok (.iconst 0, 1) ∧ 12 + 1 = 13 := ⟨by decide +kernel, rfl⟩
theorem iX5_forget_13 : decode cX5_forget 13 = .ok (.putfield 114, 3) ∧ 13 + 3 = 16 := ⟨by decide +kernel, rfl⟩
theorem iX5_forget_16 : decode cX5_forget 16 = .ok (.iload_n 1, 1) ∧ 16 + 1 = 17 := ⟨by decide +kernel, rfl⟩
theorem iX5_forget_17 : decode cX5_forget 17 = .ok (.ireturn, 1) ∧ 17 + 1 = 18 := ⟨by decide +kernel, rfl⟩
theorem iX5_walks_0 : decode cX5_walks 0 = .ok (.iload_n 1, 1) ∧ 0 + 1 = 1 := ⟨by decide +kernel, rfl⟩
theorem iX5_walks_1 : decode cX5_walks 1 = .ok (.iconst 1, 1) ∧ 1 + 1 = 2 := ⟨by decide +kernel, rfl⟩
theorem iX5_walks_2 : decode cX5_walks 2 = .ok (.if_icmp .lt 22, 3) ∧ 2 + 3 = 5 := ⟨by decide +kernel, rfl⟩
theorem iX5_walks_5 : decode cX5_walks 5 = .ok (.iload_n 1, 1) ∧ 5 + 1 = 6 := ⟨by decide +kernel, rfl⟩
theorem iX5_walks_6 : decode cX5_walks 6 = .ok (.bipush 60, 2) ∧ 6 + 2 = 8 := ⟨by decide +kernel, rfl⟩
theorem iX5_walks_8 : decode cX5_walks 8 = .ok (.if_icmp .gt 16, 3) ∧ 8 + 3 = 11 := ⟨by decide +kernel, rfl⟩
theorem iX5_walks_11 : decode cX5_walks 11 = .ok (.iload_n 2, 1) ∧ 11 + 1 = 12 := ⟨by decide +kernel, rfl⟩
theorem iX5_walks_12 : decode cX5_walks 12 = .ok (.ifCond .lt 12, 3) ∧ 12 + 3 = 15 := ⟨by decide +kernel, rfl⟩
theorem iX5_walks_15 : decode cX5_walks 15 = .ok (.iload_n 3, 1) ∧ 15 + 1 = 16 := ⟨by decide +kernel, rfl⟩
theorem iX5_walks_16 : decode cX5_walks 16 = .ok (.ifCond .lt 8, 3) ∧ 16 + 3 = 19 := ⟨by decide +kernel, rfl⟩
theorem iX5_walks_19 : decode cX5_walks 19 = .ok (.iload_n 3, 1) ∧ 19 + 1 = 20 := ⟨by decide +kernel, rfl⟩
theorem iX5_walks_20 : decode cX5_walks 20 = .ok (.iconst 2, 1) ∧ 20 + 1 = 21 := ⟨by decide +kernel, rfl⟩
theorem iX5_walks_21 : decode cX5_walks 21 = .ok (.if_icmp .le 6, 3) ∧ 21 + 3 = 24 := ⟨by decide +kernel, rfl⟩
theorem iX5_walks_24 : decode cX5_walks 24 = .ok (.bipush (-102), 2) ∧ 24 + 2 = 26 := ⟨by decide +kernel, rfl⟩
theorem iX5_walks_26 : decode cX5_walks 26 = .ok (.ireturn, 1) ∧ 26 + 1 = 27 := ⟨by decide +kernel, rfl⟩
theorem iX5_walks_27 : decode cX5_walks 27 = .ok (.aload_n 0, 1) ∧ 27 + 1 = 28 := ⟨by decide +kernel, rfl⟩
theorem iX5_walks_28 : decode cX5_walks 28 = .ok (.getfield 26, 3) ∧ 28 + 3 = 31 := ⟨by decide +kernel, rfl⟩
theorem iX5_walks_31 : decode cX5_walks 31 = .ok (.invokevirtual 184, 3) ∧ 31 + 3 = 34 := ⟨by decide +kernel, rfl⟩
theorem iX5_walks_34 : decode cX5_walks 34 = .ok (.ifCond .ne 6, 3) ∧ 34 + 3 = 37 := ⟨by decide +kernel, rfl⟩
theorem iX5_walks_37 : decode cX5_walks 37 = .ok (.bipush (-103), 2) ∧ 37 + 2 = 39 := ⟨by decide +kernel, rfl⟩
theorem iX5_walks_39 : decode cX5_walks 39 = .ok (.ireturn, 1) ∧ 39 + 1 = 40 := ⟨by decide +kernel, rfl⟩
theorem iX5_walks_40 : decode cX5_walks 40 = .ok (.aload_n 0, 1) ∧ 40 + 1 = 41 := ⟨by decide +kernel, rfl⟩
theorem iX5_walks_41 : decode cX5_walks 41 = .ok (.iload_n 1, 1) ∧ 41 + 1 = 42 := ⟨by decide +kernel, rfl⟩
theorem iX5_walks_42 : decode cX5_walks 42 = .ok (.iload_n 2, 1) ∧ 42 + 1 = 43 := ⟨by decide +kernel, rfl⟩
theorem iX5_walks_43 : decode cX5_walks 43 = .ok (.invokevirtual 216, 3) ∧ 43 + 3 = 46 := ⟨by decide +kernel, rfl⟩
theorem iX5_walks_46 : decode cX5_walks 46 = .ok (.iload_n 3, 1) ∧ 46 + 1 = 47 := ⟨by decide +kernel, rfl⟩
theorem iX5_walks_47 : decode cX5_walks 47 = .ok (.lookupswitch 42 #[(0, 25), (1, 33)], 25) ∧ 47 + 25 = 72 := ⟨by decide +kernel, rfl⟩
theorem iX5_walks_72 : decode cX5_walks 72 = .ok (.aload_n 0, 1) ∧ 72 + 1 = 73 := ⟨by decide +kernel, rfl⟩
theorem iX5_walks_73 : decode cX5_walks 73 = .ok (.getfield 33, 3) ∧ 73 + 3 = 76 := ⟨by decide +kernel, rfl⟩
theorem iX5_walks_76 : decode cX5_walks 76 = .ok (.getfield 111, 3) ∧ 76 + 3 = 79 := ⟨by decide +kernel, rfl⟩
theorem iX5_walks_79 : decode cX5_walks 79 = .ok (.ireturn, 1) ∧ 79 + 1 = 80 := ⟨by decide +kernel, rfl⟩
theorem iX5_walks_80 : decode cX5_walks 80 = .ok (.aload_n 0, 1) ∧ 80 + 1 = 81 := ⟨by decide +kernel, rfl⟩
theorem iX5_walks_81 : decode cX5_walks 81 = .ok (.aload_n 0, 1) ∧ 81 + 1 = 82 := ⟨by decide +kernel, rfl⟩
theorem iX5_walks_82 : decode cX5_walks 82 = .ok (.getfield 33, 3) ∧ 82 + 3 = 85 := ⟨by decide +kernel, rfl⟩
theorem iX5_walks_85 : decode cX5_walks 85 = .ok (.invokevirtual 219, 3) ∧ 85 + 3 = 88 := ⟨by decide +kernel, rfl⟩
theorem iX5_walks_88 : decode cX5_walks 88 = .ok (.ireturn, 1) ∧ 88 + 1 = 89 := ⟨by decide +kernel, rfl⟩
theorem iX5_walks_89 : decode cX5_walks 89 = .ok (.aload_n 0, 1) ∧ 89 + 1 = 90 := ⟨by decide +kernel, rfl⟩
theorem iX5_walks_90 : decode cX5_walks 90 = .ok (.getfield 46, 3) ∧ 90 + 3 = 93 := ⟨by decide +kernel, rfl⟩
theorem iX5_walks_93 : decode cX5_walks 93 = .ok (.getfield 223, 3) ∧ 93 + 3 = 96 := ⟨by decide +kernel, rfl⟩
theorem iX5_walks_96 : decode cX5_walks 96 = .ok (.ireturn, 1) ∧ 96 + 1 = 97 := ⟨by decide +kernel, rfl⟩
theorem iX5_image_0 : decode cX5_image 0 = .ok (.aload_n 0, 1) ∧ 0 + 1 = 1 := ⟨by decide +kernel, rfl⟩
theorem iX5_image_1 : decode cX5_image 1 = .ok (.getfield 26, 3) ∧ 1 + 3 = 4 := ⟨by decide +kernel, rfl⟩
theorem iX5_image_4 : decode cX5_image 4 = .ok (.invokevirtual 184, 3) ∧ 4 + 3 = 7 := ⟨by decide +kernel, rfl⟩
theorem iX5_image_7 : decode cX5_image 7 = .ok (.ifCond .ne 6, 3) ∧ 7 + 3 = 10 := ⟨by decide +kernel, rfl⟩
theorem iX5_image_10 : decode cX5_image 10 = .ok (.bipush (-103), 2) ∧ 10 + 2 = 12 := ⟨by decide +kernel, rfl⟩
theorem iX5_image_12 : decode cX5_image 12 = .ok (.ireturn, 1) ∧ 12 + 1 = 13 := ⟨by decide +kernel, rfl⟩
theorem iX5_image_13 : decode cX5_image 13 = .ok (.aload_n 0, 1) ∧ 13 + 1 = 14 := ⟨by decide +kernel, rfl⟩
theorem iX5_image_14 : decode cX5_image 14 = .ok (.getfield 30, 3) ∧ 14 + 3 = 17 := ⟨by decide +kernel, rfl⟩
theorem iX5_image_17 : decode cX5_image 17 = .ok (.aload_n 0, 1) ∧ 17 + 1 = 18 := ⟨by decide +kernel, rfl⟩
theorem iX5_image_18 : decode cX5_image 18 = .ok (.getfield 26, 3) ∧ 18 + 3 = 21 := ⟨by decide +kernel, rfl⟩
theorem iX5_image_21 : decode cX5_image 21 = .ok (.invokevirtual 226, 3) ∧ 21 + 3 = 24 := ⟨by decide +kernel, rfl⟩
theorem iX5_image_24 : decode cX5_image 24 = .ok (.aload_n 0, 1) ∧ 24 + 1 = 25 := ⟨by decide +kernel, rfl⟩
theorem iX5_image_25 : decode cX5_image 25 = .ok (.iconst 1, 1) ∧ 25 + 1 = 26 := ⟨by decide +kernel, rfl⟩
theorem iX5_image_26 : decode cX5_image 26 = .ok (.putfield 50, 3) ∧ 26 + 3 = 29 := ⟨by decide +kernel, rfl⟩
theorem iX5_image_29 : decode cX5_image 29 = .ok (.aload_n 0, 1) ∧ 29 + 1 = 30 := ⟨by decide +kernel, rfl⟩
theorem iX5_image_30 : decode cX5_image 30 = .ok (.getfield 30, 3) ∧ 30 + 3 = 33 := ⟨by decide +kernel, rfl⟩
theorem iX5_image_33 : decode cX5_image 33 = .ok (.getfield 111, 3) ∧ 33 + 3 = 36 := ⟨by decide +kernel, rfl⟩
theorem iX5_image_36 : decode cX5_image 36 = .ok (.ireturn, 1) ∧ 36 + 1 = 37 := ⟨by decide +kernel, rfl⟩
theorem iX5_restore_0 : decode cX5_restore 0 = .ok (.aload_n 0, 1) ∧ 0 + 1 = 1 := ⟨by decide +kernel, rfl⟩
theorem iX5_restore_1 : decode cX5_restore 1 = .ok (.getfield 50, 3) ∧ 1 + 3 = 4 := ⟨by decide +kernel, rfl⟩
theorem iX5_restore_4 : decode cX5_restore 4 = .ok (.ifCond .ne 6, 3) ∧ 4 + 3 = 7 := ⟨by decide +kernel, rfl⟩
theorem iX5_restore_7 : decode cX5_restore 7 = .ok (.bipush (-103), 2) ∧ 7 + 2 = 9 := ⟨by decide +kernel, rfl⟩
theorem iX5_restore_9 : decode cX5_restore 9 = .ok (.ireturn, 1) ∧ 9 + 1 = 10 := ⟨by decide +kernel, rfl⟩
theorem iX5_restore_10 : decode cX5_restore 10 = .ok (.aload_n 0, 1) ∧ 10 + 1 = 11 := ⟨by decide +kernel, rfl⟩
theorem iX5_restore_11 : decode cX5_restore 11 = .ok (.getfield 26, 3) ∧ 11 + 3 = 14 := ⟨by decide +kernel, rfl⟩
theorem iX5_restore_14 : decode cX5_restore 14 = .ok (.aload_n 0, 1) ∧ 14 + 1 = 15 := ⟨by decide +kernel, rfl⟩
theorem iX5_restore_15 : decode cX5_restore 15 = .ok (.getfield 30, 3) ∧ 15 + 3 = 18 := ⟨by decide +kernel, rfl⟩
theorem iX5_restore_18 : decode cX5_restore 18 = .ok (.invokevirtual 226, 3) ∧ 18 + 3 = 21 := ⟨by decide +kernel, rfl⟩
theorem iX5_restore_21 : decode cX5_restore 21 = .ok (.aload_n 0, 1) ∧ 21 + 1 = 22 := ⟨by decide +kernel, rfl⟩
theorem iX5_restore_22 : decode cX5_restore 22 = .ok (.getfield 26, 3) ∧ 22 + 3 = 25 := ⟨by decide +kernel, rfl⟩
theorem iX5_restore_25 : decode cX5_restore 25 = .ok (.getfield 111, 3) ∧ 25 + 3 = 28 := ⟨by decide +kernel, rfl⟩
theorem iX5_restore_28 : decode cX5_restore 28 = .ok (.ireturn, 1) ∧ 28 + 1 = 29 := ⟨by decide +kernel, rfl⟩
theorem iX5_count_0 : decode cX5_count 0 = .ok (.iload_n 1, 1) ∧ 0 + 1 = 1 := ⟨by decide +kernel, rfl⟩
theorem iX5_count_1 : decode cX5_count 1 = .ok (.tableswitch 124 0 8 #[51, 59, 67, 78, 86, 94, 103, 111, 119], 51) ∧ 1 + 51 = 52 := ⟨by decide +kernel, rfl⟩
theorem iX5_count_52 : decode cX5_count 52 = .ok (.aload_n 0, 1) ∧ 52 + 1 = 53 := ⟨by decide +kernel, rfl⟩
theorem iX5_count_53 : decode cX5_count 53 = .ok (.getfield 19, 3) ∧ 53 + 3 = 56 := ⟨by decide +kernel, rfl⟩
theorem iX5_count_56 : decode cX5_count 56 = .ok (.getfield 230, 3) ∧ 56 + 3 = 59 := ⟨by decide +kernel, rfl⟩
theorem iX5_count_59 : decode cX5_count 59 = .ok (.ireturn, 1) ∧ 59 + 1 = 60 := ⟨by decide +kernel, rfl⟩
theorem iX5_count_60 : decode cX5_count 60 = .ok (.aload_n 0, 1) ∧ 60 + 1 = 61 := ⟨by decide +kernel, rfl⟩
theorem iX5_count_61 : decode cX5_count 61 = .ok (.getfield 19, 3) ∧ 61 + 3 = 64 := ⟨by decide +kernel, rfl⟩
theorem iX5_count_64 : decode cX5_count 64 = .ok (.getfield 232, 3) ∧ 64 + 3 = 67 := ⟨by decide +kernel, rfl⟩
theorem iX5_count_67 : decode cX5_count 67 = .ok (.ireturn, 1) ∧ 67 + 1 = 68 := ⟨by decide +kernel, rfl⟩
theorem iX5_count_68 : decode cX5_count 68 = .ok (.aload_n 0, 1) ∧ 68 + 1 = 69 := ⟨by decide +kernel, rfl⟩
theorem iX5_count_69 : decode cX5_count 69 = .ok (.getfield 26, 3) ∧ 69 + 3 = 72 := ⟨by decide +kernel, rfl⟩
theorem iX5_count_72 : decode cX5_count 72 = .ok (.getfield 89, 3) ∧ 72 + 3 = 75 := ⟨by decide +kernel, rfl⟩
theorem iX5_count_75 : decode cX5_count 75 = .ok (.invokestatic 168, 3) ∧ 75 + 3 = 78 := ⟨by decide +kernel, rfl⟩
theorem iX5_count_78 : decode cX5_count 78 = .ok (.ireturn, 1) ∧ 78 + 1 = 79 := ⟨by decide +kernel, rfl⟩
theorem iX5_count_79 : decode cX5_count 79 = .ok (.aload_n 0, 1) ∧ 79 + 1 = 80 := ⟨by decide +kernel, rfl⟩
theorem iX5_count_80 : decode cX5_count 80 = .ok (.getfield 26, 3) ∧ 80 + 3 = 83 := ⟨by decide +kernel, rfl⟩
theorem iX5_count_83 : decode cX5_count 83 = .ok (.getfield 95, 3) ∧ 83 + 3 = 86 := ⟨by decide +kernel, rfl⟩
theorem iX5_count_86 : decode cX5_count 86 = .ok (.ireturn, 1) ∧ 86 + 1 = 87 := ⟨by decide +kernel, rfl⟩
theorem iX5_count_87 : decode cX5_count 87 = .ok (.aload_n 0, 1) ∧ 87 + 1 = 88 := ⟨by decide +kernel, rfl⟩
theorem iX5_count_88 : decode cX5_count 88 = .ok (.getfield 26, 3) ∧ 88 + 3 = 91 := ⟨by decide +kernel, rfl⟩
theorem iX5_count_91 : decode cX5_count 91 = .ok (.getfield 111, 3) ∧ 91 + 3 = 94 := ⟨by decide +kernel, rfl⟩
theorem iX5_count_94 : decode cX5_count 94 = .ok (.ireturn, 1) ∧ 94 + 1 = 95 := ⟨by decide +kernel, rfl⟩
theorem iX5_count_95 : decode cX5_count 95 = .ok (.aload_n 0, 1) ∧ 95 + 1 = 96 := ⟨by decide +kernel, rfl⟩
theorem iX5_count_96 : decode cX5_count 96 = .ok (.aload_n 0, 1) ∧ 96 + 1 = 97 := ⟨by decide +kernel, rfl⟩
theorem iX5_count_97 : decode cX5_count 97 = .ok (.getfield 26, 3) ∧ 97 + 3 = 100 := ⟨by decide +kernel, rfl⟩
theorem iX5_count_100 : decode cX5_count 100 = .ok (.invokevirtual 219, 3) ∧ 100 + 3 = 103 := ⟨by decide +kernel, rfl⟩
theorem iX5_count_103 : decode cX5_count 103 = .ok (.ireturn, 1) ∧ 103 + 1 = 104 := ⟨by decide +kernel, rfl⟩
theorem iX5_count_104 : decode cX5_count 104 = .ok (.aload_n 0, 1) ∧ 104 + 1 = 105 := ⟨by decide +kernel, rfl⟩
theorem iX5_count_105 : decode cX5_count 105 = .ok (.getfield 26, 3) ∧ 105 + 3 = 108 := ⟨by decide +kernel, rfl⟩
theorem iX5_count_108 : decode cX5_count 108 = .ok (.getfield 114, 3) ∧ 108 + 3 = 111 := ⟨by decide +kernel, rfl⟩
theorem iX5_count_111 : decode cX5_count 111 = .ok (.ireturn, 1) ∧ 111 + 1 = 112 := ⟨by decide +kernel, rfl⟩
theorem iX5_count_112 : decode cX5_count 112 = .ok (.aload_n 0, 1) ∧ 112 + 1 = 113 := ⟨by decide +kernel, rfl⟩
theorem iX5_count_113 : decode cX5_count 113 = .ok (.getfield 10, 3) ∧ 113 + 3 = 116 := ⟨by decide +kernel, rfl⟩
theorem iX5_count_116 : decode cX5_count 116 = .ok (.getfield 62, 3) ∧ 116 + 3 = 119 := ⟨by decide +kernel, rfl⟩
theorem iX5_count_119 : decode cX5_count 119 = .ok (.ireturn, 1) ∧ 119 + 1 = 120 := ⟨by decide +kernel, rfl⟩
theorem iX5_count_120 : decode cX5_count 120 = .ok (.aload_n 0, 1) ∧ 120 + 1 = 121 := ⟨by decide +kernel, rfl⟩
theorem iX5_count_121 : decode cX5_count 121 = .ok (.getfield 54, 3) ∧ 121 + 3 = 124 := ⟨by decide +kernel, rfl⟩
theorem iX5_count_124 : decode cX5_count 124 = .ok (.ireturn, 1) ∧ 124 + 1 = 125 := ⟨by decide +kernel, rfl⟩
theorem iX5_count_125 : decode cX5_count 125 = .ok (.bipush (-102), 2) ∧ 125 + 2 = 127 := ⟨by decide +kernel, rfl⟩
theorem iX5_count_127 : decode cX5_count 127 = .ok (.ireturn, 1) ∧ 127 + 1 = 128 := ⟨by decide +kernel, rfl⟩
theorem iX5_digest_0 : decode cX5_digest 0 = .ok (.ldc2_w 234, 3) ∧ 0 + 3 = 3 := ⟨by decide +kernel, rfl⟩
theorem iX5_digest_3 : decode cX5_digest 3 = .ok (.lstore_n 1, 1) ∧ 3 + 1 = 4 := ⟨by decide +kernel, rfl⟩
theorem iX5_digest_4 : decode cX5_digest 4 = .ok (.aload_n 0, 1) ∧ 4 + 1 = 5 := ⟨by decide +kernel, rfl⟩
theorem iX5_digest_5 : decode cX5_digest 5 = .ok (.lload_n 1, 1) ∧ 5 + 1 = 6 := ⟨by decide +kernel, rfl⟩
theorem iX5_digest_6 : decode cX5_digest 6 = .ok (.invokevirtual 236, 3) ∧ 6 + 3 = 9 := ⟨by decide +kernel, rfl⟩
theorem iX5_digest_9 : decode cX5_digest 9 = .ok (.lstore_n 1, 1) ∧ 9 + 1 = 10 := ⟨by decide +kernel, rfl⟩
theorem iX5_digest_10 : decode cX5_digest 10 = .ok (.aload_n 0, 1) ∧ 10 + 1 = 11 := ⟨by decide +kernel, rfl⟩
theorem iX5_digest_11 : decode cX5_digest 11 = .ok (.lload_n 1, 1) ∧ 11 + 1 = 12 := ⟨by decide +kernel, rfl⟩
theorem iX5_digest_12 : decode cX5_digest 12 = .ok (.invokevirtual 240, 3) ∧ 12 + 3 = 15 := ⟨by decide +kernel, rfl⟩
theorem iX5_digest_15 : decode cX5_digest 15 = .ok (.lstore_n 1, 1) ∧ 15 + 1 = 16 := ⟨by decide +kernel, rfl⟩
theorem iX5_digest_16 : decode cX5_digest 16 = .ok (.aload_n 0, 1) ∧ 16 + 1 = 17 := ⟨by decide +kernel, rfl⟩
theorem iX5_digest_17 : decode cX5_digest 17 = .ok (.getfield 26, 3) ∧ 17 + 3 = 20 := ⟨by decide +kernel, rfl⟩
theorem iX5_digest_20 : decode cX5_digest 20 = .ok (.invokevirtual 184, 3) ∧ 20 + 3 = 23 := ⟨by decide +kernel, rfl⟩
theorem iX5_digest_23 : decode cX5_digest 23 = .ok (.ifCond .eq 9, 3) ∧ 23 + 3 = 26 := ⟨by decide +kernel, rfl⟩
theorem iX5_digest_26 : decode cX5_digest 26 = .ok (.aload_n 0, 1) ∧ 26 + 1 = 27 := ⟨by decide +kernel, rfl⟩
theorem iX5_digest_27 : decode cX5_digest 27 = .ok (.lload_n 1, 1) ∧ 27 + 1 = 28 := ⟨by decide +kernel, rfl⟩
theorem iX5_digest_28 : decode cX5_digest 28 = .ok (.invokevirtual 243, 3) ∧ 28 + 3 = 31 := ⟨by decide +kernel, rfl⟩
theorem iX5_digest_31 : decode cX5_digest 31 = .ok (.lstore_n 1, 1) ∧ 31 + 1 = 32 := ⟨by decide +kernel, rfl⟩
theorem iX5_digest_32 : decode cX5_digest 32 = .ok (.aload_n 0, 1) ∧ 32 + 1 = 33 := ⟨by decide +kernel, rfl⟩
theorem iX5_digest_33 : decode cX5_digest 33 = .ok (.getfield 26, 3) ∧ 33 + 3 = 36 := ⟨by decide +kernel, rfl⟩
theorem iX5_digest_36 : decode cX5_digest 36 = .ok (.getfield 95, 3) ∧ 36 + 3 = 39 := ⟨by decide +kernel, rfl⟩
theorem iX5_digest_39 : decode cX5_digest 39 = .ok (.iconst 2, 1) ∧ 39 + 1 = 40 := ⟨by decide +kernel, rfl⟩
theorem iX5_digest_40 : decode cX5_digest 40 = .ok (.if_icmp .lt 15, 3) ∧ 40 + 3 = 43 := ⟨by decide +kernel, rfl⟩
theorem iX5_digest_43 : decode cX5_digest 43 = .ok (.lload_n 1, 1) ∧ 43 + 1 = 44 := ⟨by decide +kernel, rfl⟩
theorem iX5_digest_44 : decode cX5_digest 44 = .ok (.aload_n 0, 1) ∧ 44 + 1 = 45 := ⟨by decide +kernel, rfl⟩
theorem iX5_digest_45 : decode cX5_digest 45 = .ok (.iconst 0, 1) ∧ 45 + 1 = 46 := ⟨by decide +kernel, rfl⟩
theorem iX5_digest_46 : decode cX5_digest 46 = .ok (.iconst 1, 1) ∧ 46 + 1 = 47 := ⟨by decide +kernel, rfl⟩
theorem iX5_digest_47 : decode cX5_digest 47 = .ok (.invokevirtual 246, 3) ∧ 47 + 3 = 50 := ⟨by decide +kernel, rfl⟩
theorem iX5_digest_50 : decode cX5_digest 50 = .ok (.i2l, 1) ∧ 50 + 1 = 51 := ⟨by decide +kernel, rfl⟩
theorem iX5_digest_51 : decode cX5_digest 51 = .ok (.invokestatic 249, 3) ∧ 51 + 3 = 54 := ⟨by decide +kernel, rfl⟩
theorem iX5_digest_54 : decode cX5_digest 54 = .ok (.lstore_n 1, 1) ∧ 54 + 1 = 55 := ⟨by decide +kernel, rfl⟩
theorem iX5_digest_55 : decode cX5_digest 55 = .ok (.iconst 0, 1) ∧ 55 + 1 = 56 := ⟨by decide +kernel, rfl⟩
theorem iX5_digest_56 : decode cX5_digest 56 = .ok (.istore_n 3, 1) ∧ 56 + 1 = 57 := ⟨by decide +kernel, rfl⟩
theorem iX5_digest_57 : decode cX5_digest 57 = .ok (.iload_n 3, 1) ∧ 57 + 1 = 58 := ⟨by decide +kernel, rfl⟩
theorem iX5_digest_58 : decode cX5_digest 58 = .ok (.aload_n 0, 1) ∧ 58 + 1 = 59 := ⟨by decide +kernel, rfl⟩
theorem iX5_digest_59 : decode cX5_digest 59 = .ok (.getfield 10, 3) ∧ 59 + 3 = 62 := ⟨by decide +kernel, rfl⟩
theorem iX5_digest_62 : decode cX5_digest 62 = .ok (.getfield 62, 3) ∧ 62 + 3 = 65 := ⟨by decide +kernel, rfl⟩
theorem iX5_digest_65 : decode cX5_digest 65 = .ok (.if_icmp .ge 23, 3) ∧ 65 + 3 = 68 := ⟨by decide +kernel, rfl⟩
theorem iX5_digest_68 : decode cX5_digest 68 = .ok (.lload_n 1, 1) ∧ 68 + 1 = 69 := ⟨by decide +kernel, rfl⟩
theorem iX5_digest_69 : decode cX5_digest 69 = .ok (.aload_n 0, 1) ∧ 69 + 1 = 70 := ⟨by decide +kernel, rfl⟩
theorem iX5_digest_70 : decode cX5_digest 70 = .ok (.getfield 10, 3) ∧ 70 + 3 = 73 := ⟨by decide +kernel, rfl⟩
theorem iX5_digest_73 : decode cX5_digest 73 = .ok (.iload_n 3, 1) ∧ 73 + 1 = 74 := ⟨by decide +kernel, rfl⟩
theorem iX5_digest_74 : decode cX5_digest 74 = .ok (.invokevirtual 253, 3) ∧ 74 + 3 = 77 := ⟨by decide +kernel, rfl⟩
theorem iX5_digest_77 : decode cX5_digest 77 = .ok (.i2l, 1) ∧ 77 + 1 = 78 := ⟨by decide +kernel, rfl⟩
theorem iX5_digest_78 : decode cX5_digest 78 = .ok (.invokestatic 249, 3) ∧ 78 + 3 = 81 := ⟨by decide +kernel, rfl⟩
theorem iX5_digest_81 : decode cX5_digest 81 = .ok (.lstore_n 1, 1) ∧ 81 + 1 = 82 := ⟨by decide +kernel, rfl⟩
theorem iX5_digest_82 : decode cX5_digest 82 = .ok (.iinc 3 1, 3) ∧ 82 + 3 = 85 := ⟨by decide +kernel, rfl⟩
theorem iX5_digest_85 : decode cX5_digest 85 = .ok (.goto (-28), 3) ∧ 85 + 3 = 88 := ⟨by decide +kernel, rfl⟩
theorem iX5_digest_88 : decode cX5_digest 88 = .ok (.iconst 0, 1) ∧ 88 + 1 = 89 := ⟨by decide +kernel, rfl⟩
theorem iX5_digest_89 : decode cX5_digest 89 = .ok (.istore_n 3, 1) ∧ 89 + 1 = 90 := ⟨by decide +kernel, rfl⟩
theorem iX5_digest_90 : decode cX5_digest 90 = .ok (.iload_n 3, 1) ∧ 90 + 1 = 91 := ⟨by decide +kernel, rfl⟩
theorem iX5_digest_91 : decode cX5_digest 91 = .ok (.bipush 8, 2) ∧ 91 + 2 = 93 := ⟨by decide +kernel, rfl⟩
theorem iX5_digest_93 : decode cX5_digest 93 = .ok (.if_icmp .gt 20, 3) ∧ 93 + 3 = 96 := ⟨by decide +kernel, rfl⟩
theorem iX5_digest_96 : decode cX5_digest 96 = .ok (.lload_n 1, 1) ∧ 96 + 1 = 97 := ⟨by decide +kernel, rfl⟩
theorem iX5_digest_97 : decode cX5_digest 97 = .ok (.aload_n 0, 1) ∧ 97 + 1 = 98 := ⟨by decide +kernel, rfl⟩
theorem iX5_digest_98 : decode cX5_digest 98 = .ok (.iload_n 3, 1) ∧ 98 + 1 = 99 := ⟨by decide +kernel, rfl⟩
theorem iX5_digest_99 : decode cX5_digest 99 = .ok (.invokevirtual 256, 3) ∧ 99 + 3 = 102 := ⟨by decide +kernel, rfl⟩
theorem iX5_digest_102 : decode cX5_digest 102 = .ok (.i2l, 1) ∧ 102 + 1 = 103 := ⟨by decide +kernel, rfl⟩
theorem iX5_digest_103 : decode cX5_digest 103 = .ok (.invokestatic 249, 3) ∧ 103 + 3 = 106 := ⟨by decide +kernel, rfl⟩
theorem iX5_digest_106 : decode cX5_digest 106 = .ok (.lstore_n 1, 1) ∧ 106 + 1 = 107 := ⟨by decide +kernel, rfl⟩
theorem iX5_digest_107 : decode cX5_digest 107 = .ok (.iinc 3 1, 3) ∧ 107 + 3 = 110 := ⟨by decide +kernel, rfl⟩
theorem iX5_digest_110 : decode cX5_digest 110 = .ok (.goto (-20), 3) ∧ 110 + 3 = 113 := ⟨by decide +kernel, rfl⟩
theorem iX5_digest_113 : decode cX5_digest 113 = .ok (.lload_n 1, 1) ∧ 113 + 1 = 114 := ⟨by decide +kernel, rfl⟩
theorem iX5_digest_114 : decode cX5_digest 114 = .ok (.lreturn, 1) ∧ 114 + 1 = 115 := ⟨by decide +kernel, rfl⟩
theorem iX5_mix_0 : decode cX5_mix 0 = .ok (.ldc2_w 259, 3) ∧ 0 + 3 = 3 := ⟨by decide +kernel, rfl⟩
theorem iX5_mix_3 : decode cX5_mix 3 = .ok (.lload_n 0, 1) ∧ 3 + 1 = 4 := ⟨by decide +kernel, rfl⟩
theorem iX5_mix_4 : decode cX5_mix 4 = .ok (.lmul, 1) ∧ 4 + 1 = 5 := ⟨by decide +kernel, rfl⟩
theorem iX5_mix_5 : decode cX5_mix 5 = .ok (.lload_n 2, 1) ∧ 5 + 1 = 6 := ⟨by decide +kernel, rfl⟩
theorem iX5_mix_6 : decode cX5_mix 6 = .ok (.ladd, 1) ∧ 6 + 1 = 7 := ⟨by decide +kernel, rfl⟩
theorem iX5_mix_7 : decode cX5_mix 7 = .ok (.lreturn, 1) ∧ 7 + 1 = 8 := ⟨by decide +kernel, rfl⟩
theorem iX5_mixLeapers_0 : decode cX5_mixLeapers 0 = .ok (.lload_n 1, 1) ∧ 0 + 1 = 1 := ⟨by decide +kernel, rfl⟩
theorem iX5_mixLeapers_1 : decode cX5_mixLeapers 1 = .ok (.lstore_n 3, 1) ∧ 1 + 1 = 2 := ⟨by decide +kernel, rfl⟩
theorem iX5_mixLeapers_2 : decode cX5_mixLeapers 2 = .ok (.iconst 0, 1) ∧ 2 + 1 = 3 := ⟨by decide +kernel, rfl⟩
theorem iX5_mixLeapers_3 : decode cX5_mixLeapers 3 = .ok (.istore 5, 2) ∧ 3 + 2 = 5 := ⟨by decide +kernel, rfl⟩
theorem iX5_mixLeapers_5 : decode cX5_mixLeapers 5 = .ok (.iload 5, 2) ∧ 5 + 2 = 7 := ⟨by decide +kernel, rfl⟩
theorem iX5_mixLeapers_7 : decode cX5_mixLeapers 7 = .ok (.aload_n 0, 1) ∧ 7 + 1 = 8 := ⟨by decide +kernel, rfl⟩
theorem iX5_mixLeapers_8 : decode cX5_mixLeapers 8 = .ok (.getfield 26, 3) ∧ 8 + 3 = 11 := ⟨by decide +kernel, rfl⟩
theorem iX5_mixLeapers_11 : decode cX5_mixLeapers 11 = .ok (.getfield 95, 3) ∧ 11 + 3 = 14 := ⟨by decide +kernel, rfl⟩
theorem iX5_mixLeapers_14 : decode cX5_mixLeapers 14 = .ok (.if_icmp .ge 66, 3) ∧ 14 + 3 = 17 := ⟨by decide +kernel, rfl⟩
theorem iX5_mixLeapers_17 : decode cX5_mixLeapers 17 = .ok (.iconst 0, 1) ∧ 17 + 1 = 18 := ⟨by decide +kernel, rfl⟩
theorem iX5_mixLeapers_18 : decode cX5_mixLeapers 18 = .ok (.istore 6, 2) ∧ 18 + 2 = 20 := ⟨by decide +kernel, rfl⟩
theorem iX5_mixLeapers_20 : decode cX5_mixLeapers 20 = .ok (.iload 6, 2) ∧ 20 + 2 = 22 := ⟨by decide +kernel, rfl⟩
theorem iX5_mixLeapers_22 : decode cX5_mixLeapers 22 = .ok (.bipush 7, 2) ∧ 22 + 2 = 24 := ⟨by decide +kernel, rfl⟩
theorem iX5_mixLeapers_24 : decode cX5_mixLeapers 24 = .ok (.if_icmp .gt 23, 3) ∧ 24 + 3 = 27 := ⟨by decide +kernel, rfl⟩
theorem iX5_mixLeapers_27 : decode cX5_mixLeapers 27 = .ok (.lload_n 3, 1) ∧ 27 + 1 = 28 := ⟨by decide +kernel, rfl⟩
theorem iX5_mixLeapers_28 : decode cX5_mixLeapers 28 = .ok (.aload_n 0, 1) ∧ 28 + 1 = 29 := ⟨by decide +kernel, rfl⟩
theorem iX5_mixLeapers_29 : decode cX5_mixLeapers 29 = .ok (.iload 5, 2) ∧ 29 + 2 = 31 := ⟨by decide +kernel, rfl⟩
theorem iX5_mixLeapers_31 : decode cX5_mixLeapers 31 = .ok (.iload 6, 2) ∧ 31 + 2 = 33 := ⟨by decide +kernel, rfl⟩
theorem iX5_mixLeapers_33 : decode cX5_mixLeapers 33 = .ok (.invokevirtual 261, 3) ∧ 33 + 3 = 36 := ⟨by decide +kernel, rfl⟩
theorem iX5_mixLeapers_36 : decode cX5_mixLeapers 36 = .ok (.i2l, 1) ∧ 36 + 1 = 37 := ⟨by decide +kernel, rfl⟩
theorem iX5_mixLeapers_37 : decode cX5_mixLeapers 37 = .ok (.invokestatic 249, 3) ∧ 37 + 3 = 40 := ⟨by decide +kernel, rfl⟩
theorem iX5_mixLeapers_40 : decode cX5_mixLeapers 40 = .ok (.lstore_n 3, 1) ∧ 40 + 1 = 41 := ⟨by decide +kernel, rfl⟩
theorem iX5_mixLeapers_41 : decode cX5_mixLeapers 41 = .ok (.iinc 6 1, 3) ∧ 41 + 3 = 44 := ⟨by decide +kernel, rfl⟩
theorem iX5_mixLeapers_44 : decode cX5_mixLeapers 44 = .ok (.goto (-24), 3) ∧ 44 + 3 = 47 := ⟨by decide +kernel, rfl⟩
theorem iX5_mixLeapers_47 : decode cX5_mixLeapers 47 = .ok (.lload_n 3, 1) ∧ 47 + 1 = 48 := ⟨by decide +kernel, rfl⟩
theorem iX5_mixLeapers_48 : decode cX5_mixLeapers 48 = .ok (.aload_n 0, 1) ∧ 48 + 1 = 49 := ⟨by decide +kernel, rfl⟩
theorem iX5_mixLeapers_49 : decode cX5_mixLeapers 49 = .ok (.iload 5, 2) ∧ 49 + 2 = 51 := ⟨by decide +kernel, rfl⟩
theorem iX5_mixLeapers_51 : decode cX5_mixLeapers 51 = .ok (.iconst 0, 1) ∧ 51 + 1 = 52 := ⟨by decide +kernel, rfl⟩
theorem iX5_mixLeapers_52 : decode cX5_mixLeapers 52 = .ok (.invokevirtual 264, 3) ∧ 52 + 3 = 55 := ⟨by decide +kernel, rfl⟩
theorem iX5_mixLeapers_55 : decode cX5_mixLeapers 55 = .ok (.i2l, 1) ∧ 55 + 1 = 56 := ⟨by decide +kernel, rfl⟩
theorem iX5_mixLeapers_56 : decode cX5_mixLeapers 56 = .ok (.invokestatic 249, 3) ∧ 56 + 3 = 59 := ⟨by decide +kernel, rfl⟩
theorem iX5_mixLeapers_59 : decode cX5_mixLeapers 59 = .ok (.lstore_n 3, 1) ∧ 59 + 1 = 60 := ⟨by decide +kernel, rfl⟩
theorem iX5_mixLeapers_60 : decode cX5_mixLeapers 60 = .ok (.lload_n 3, 1) ∧ 60 + 1 = 61 := ⟨by decide +kernel, rfl⟩
theorem iX5_mixLeapers_61 : decode cX5_mixLeapers 61 = .ok (.aload_n 0, 1) ∧ 61 + 1 = 62 := ⟨by decide +kernel, rfl⟩
theorem iX5_mixLeapers_62 : decode cX5_mixLeapers 62 = .ok (.iload 5, 2) ∧ 62 + 2 = 64 := ⟨by decide +kernel, rfl⟩
theorem iX5_mixLeapers_64 : decode cX5_mixLeapers 64 = .ok (.iconst 3, 1) ∧ 64 + 1 = 65 := ⟨by decide +kernel, rfl⟩
theorem iX5_mixLeapers_65 : decode cX5_mixLeapers 65 = .ok (.iconst 3, 1) ∧ 65 + 1 = 66 := ⟨by decide +kernel, rfl⟩
theorem iX5_mixLeapers_66 : decode cX5_mixLeapers 66 = .ok (.invokevirtual 267, 3) ∧ 66 + 3 = 69 := ⟨by decide +kernel, rfl⟩
theorem iX5_mixLeapers_69 : decode cX5_mixLeapers 69 = .ok (.i2l, 1) ∧ 69 + 1 = 70 := ⟨by decide +kernel, rfl⟩
theorem iX5_mixLeapers_70 : decode cX5_mixLeapers 70 = .ok (.invokestatic 249, 3) ∧ 70 + 3 = 73 := ⟨by decide +kernel, rfl⟩
theorem iX5_mixLeapers_73 : decode cX5_mixLeapers 73 = .ok (.lstore_n 3, 1) ∧ 73 + 1 = 74 := ⟨by decide +kernel, rfl⟩
theorem iX5_mixLeapers_74 : decode cX5_mixLeapers 74 = .ok (.iinc 5 1, 3) ∧ 74 + 3 = 77 := ⟨by decide +kernel, rfl⟩
theorem iX5_mixLeapers_77 : decode cX5_mixLeapers 77 = .ok (.goto (-72), 3) ∧ 77 + 3 = 80 := ⟨by decide +kernel, rfl⟩
theorem iX5_mixLeapers_80 : decode cX5_mixLeapers 80 = .ok (.lload_n 3, 1) ∧ 80 + 1 = 81 := ⟨by decide +kernel, rfl⟩
theorem iX5_mixLeapers_81 : decode cX5_mixLeapers 81 = .ok (.lreturn, 1) ∧ 81 + 1 = 82 := ⟨by decide +kernel, rfl⟩
theorem iX5_mixCells_0 : decode cX5_mixCells 0 = .ok (.lload_n 1, 1) ∧ 0 + 1 = 1 := ⟨by decide +kernel, rfl⟩
theorem iX5_mixCells_1 : decode cX5_mixCells 1 = .ok (.lstore_n 3, 1) ∧ 1 + 1 = 2 := ⟨by decide +kernel, rfl⟩
theorem iX5_mixCells_2 : decode cX5_mixCells 2 = .ok (.iconst 0, 1) ∧ 2 + 1 = 3 := ⟨by decide +kernel, rfl⟩
theorem iX5_mixCells_3 : decode cX5_mixCells 3 = .ok (.istore 5, 2) ∧ 3 + 2 = 5 := ⟨by decide +kernel, rfl⟩
theorem iX5_mixCells_5 : decode cX5_mixCells 5 = .ok (.iload 5, 2) ∧ 5 + 2 = 7 := ⟨by decide +kernel, rfl⟩
theorem iX5_mixCells_7 : decode cX5_mixCells 7 = .ok (.aload_n 0, 1) ∧ 7 + 1 = 8 := ⟨by decide +kernel, rfl⟩
theorem iX5_mixCells_8 : decode cX5_mixCells 8 = .ok (.getfield 19, 3) ∧ 8 + 3 = 11 := ⟨by decide +kernel, rfl⟩
theorem iX5_mixCells_11 : decode cX5_mixCells 11 = .ok (.getfield 117, 3) ∧ 11 + 3 = 14 := ⟨by decide +kernel, rfl⟩
theorem iX5_mixCells_14 : decode cX5_mixCells 14 = .ok (.if_icmp .ge 38, 3) ∧ 14 + 3 = 17 := ⟨by decide +kernel, rfl⟩
theorem iX5_mixCells_17 : decode cX5_mixCells 17 = .ok (.iconst 0, 1) ∧ 17 + 1 = 18 := ⟨by decide +kernel, rfl⟩
theorem iX5_mixCells_18 : decode cX5_mixCells 18 = .ok (.istore 6, 2) ∧ 18 + 2 = 20 := ⟨by decide +kernel, rfl⟩
theorem iX5_mixCells_20 : decode cX5_mixCells 20 = .ok (.iload 6, 2) ∧ 20 + 2 = 22 := ⟨by decide +kernel, rfl⟩
theorem iX5_mixCells_22 : decode cX5_mixCells 22 = .ok (.iconst 2, 1) ∧ 22 + 1 = 23 := ⟨by decide +kernel, rfl⟩
theorem iX5_mixCells_23 : decode cX5_mixCells 23 = .ok (.if_icmp .gt 23, 3) ∧ 23 + 3 = 26 := ⟨by decide +kernel, rfl⟩
theorem iX5_mixCells_26 : decode cX5_mixCells 26 = .ok (.lload_n 3, 1) ∧ 26 + 1 = 27 := ⟨by decide +kernel, rfl⟩
theorem iX5_mixCells_27 : decode cX5_mixCells 27 = .ok (.aload_n 0, 1) ∧ 27 + 1 = 28 := ⟨by decide +kernel, rfl⟩
theorem iX5_mixCells_28 : decode cX5_mixCells 28 = .ok (.iload 5, 2) ∧ 28 + 2 = 30 := ⟨by decide +kernel, rfl⟩
theorem iX5_mixCells_30 : decode cX5_mixCells 30 = .ok (.iload 6, 2) ∧ 30 + 2 = 32 := ⟨by decide +kernel, rfl⟩
theorem iX5_mixCells_32 : decode cX5_mixCells 32 = .ok (.invokevirtual 271, 3) ∧ 32 + 3 = 35 := ⟨by decide +kernel, rfl⟩
theorem iX5_mixCells_35 : decode cX5_mixCells 35 = .ok (.i2l, 1) ∧ 35 + 1 = 36 := ⟨by decide +kernel, rfl⟩
theorem iX5_mixCells_36 : decode cX5_mixCells 36 = .ok (.invokestatic 249, 3) ∧ 36 + 3 = 39 := ⟨by decide +kernel, rfl⟩
theorem iX5_mixCells_39 : decode cX5_mixCells 39 = .ok (.lstore_n 3, 1) ∧ 39 + 1 = 40 := ⟨by decide +kernel, rfl⟩
theorem iX5_mixCells_40 : decode cX5_mixCells 40 = .ok (.iinc 6 1, 3) ∧ 40 + 3 = 43 := ⟨by decide +kernel, rfl⟩
theorem iX5_mixCells_43 : decode cX5_mixCells 43 = .ok (.goto (-23), 3) ∧ 43 + 3 = 46 := ⟨by decide +kernel, rfl⟩
theorem iX5_mixCells_46 : decode cX5_mixCells 46 = .ok (.iinc 5 1, 3) ∧ 46 + 3 = 49 := ⟨by decide +kernel, rfl⟩
theorem iX5_mixCells_49 : decode cX5_mixCells 49 = .ok (.goto (-44), 3) ∧ 49 + 3 = 52 := ⟨by decide +kernel, rfl⟩
theorem iX5_mixCells_52 : decode cX5_mixCells 52 = .ok (.lload_n 3, 1) ∧ 52 + 1 = 53 := ⟨by decide +kernel, rfl⟩
theorem iX5_mixCells_53 : decode cX5_mixCells 53 = .ok (.lreturn, 1) ∧ 53 + 1 = 54 := ⟨by decide +kernel, rfl⟩
theorem iX5_mixKinds_0 : decode cX5_mixKinds 0 = .ok (.lload_n 1, 1) ∧ 0 + 1 = 1 := ⟨by decide +kernel, rfl⟩
theorem iX5_mixKinds_1 : decode cX5_mixKinds 1 = .ok (.lstore_n 3, 1) ∧ 1 + 1 = 2 := ⟨by decide +kernel, rfl⟩
theorem iX5_mixKinds_2 : decode cX5_mixKinds 2 = .ok (.iconst 0, 1) ∧ 2 + 1 = 3 := ⟨by decide +kernel, rfl⟩
theorem iX5_mixKinds_3 : decode cX5_mixKinds 3 = .ok (.istore 5, 2) ∧ 3 + 2 = 5 := ⟨by decide +kernel, rfl⟩
theorem iX5_mixKinds_5 : decode cX5_mixKinds 5 = .ok (.iload 5, 2) ∧ 5 + 2 = 7 := ⟨by decide +kernel, rfl⟩
theorem iX5_mixKinds_7 : decode cX5_mixKinds 7 = .ok (.iconst 5, 1) ∧ 7 + 1 = 8 := ⟨by decide +kernel, rfl⟩
theorem iX5_mixKinds_8 : decode cX5_mixKinds 8 = .ok (.if_icmp .ge 87, 3) ∧ 8 + 3 = 11 := ⟨by decide +kernel, rfl⟩
theorem iX5_mixKinds_11 : decode cX5_mixKinds 11 = .ok (.lload_n 3, 1) ∧ 11 + 1 = 12 := ⟨by decide +kernel, rfl⟩
theorem iX5_mixKinds_12 : decode cX5_mixKinds 12 = .ok (.aload_n 0, 1) ∧ 12 + 1 = 13 := ⟨by decide +kernel, rfl⟩
theorem iX5_mixKinds_13 : decode cX5_mixKinds 13 = .ok (.iload 5, 2) ∧ 13 + 2 = 15 := ⟨by decide +kernel, rfl⟩
theorem iX5_mixKinds_15 : decode cX5_mixKinds 15 = .ok (.iconst 0, 1) ∧ 15 + 1 = 16 := ⟨by decide +kernel, rfl⟩
theorem iX5_mixKinds_16 : decode cX5_mixKinds 16 = .ok (.invokevirtual 274, 3) ∧ 16 + 3 = 19 := ⟨by decide +kernel, rfl⟩
theorem iX5_mixKinds_19 : decode cX5_mixKinds 19 = .ok (.i2l, 1) ∧ 19 + 1 = 20 := ⟨by decide +kernel, rfl⟩
theorem iX5_mixKinds_20 : decode cX5_mixKinds 20 = .ok (.invokestatic 249, 3) ∧ 20 + 3 = 23 := ⟨by decide +kernel, rfl⟩
theorem iX5_mixKinds_23 : decode cX5_mixKinds 23 = .ok (.lstore_n 3, 1) ∧ 23 + 1 = 24 := ⟨by decide +kernel, rfl⟩
theorem iX5_mixKinds_24 : decode cX5_mixKinds 24 = .ok (.lload_n 3, 1) ∧ 24 + 1 = 25 := ⟨by decide +kernel, rfl⟩
theorem iX5_mixKinds_25 : decode cX5_mixKinds 25 = .ok (.aload_n 0, 1) ∧ 25 + 1 = 26 := ⟨by decide +kernel, rfl⟩
theorem iX5_mixKinds_26 : decode cX5_mixKinds 26 = .ok (.iload 5, 2) ∧ 26 + 2 = 28 := ⟨by decide +kernel, rfl⟩
theorem iX5_mixKinds_28 : decode cX5_mixKinds 28 = .ok (.iconst 1, 1) ∧ 28 + 1 = 29 := ⟨by decide +kernel, rfl⟩
theorem iX5_mixKinds_29 : decode cX5_mixKinds 29 = .ok (.invokevirtual 274, 3) ∧ 29 + 3 = 32 := ⟨by decide +kernel, rfl⟩
theorem iX5_mixKinds_32 : decode cX5_mixKinds 32 = .ok (.i2l, 1) ∧ 32 + 1 = 33 := ⟨by decide +kernel, rfl⟩
theorem iX5_mixKinds_33 : decode cX5_mixKinds 33 = .ok (.invokestatic 249, 3) ∧ 33 + 3 = 36 := ⟨by decide +kernel, rfl⟩
theorem iX5_mixKinds_36 : decode cX5_mixKinds 36 = .ok (.lstore_n 3, 1) ∧ 36 + 1 = 37 := ⟨by decide +kernel, rfl⟩
theorem iX5_mixKinds_37 : decode cX5_mixKinds 37 = .ok (.lload_n 3, 1) ∧ 37 + 1 = 38 := ⟨by decide +kernel, rfl⟩
theorem iX5_mixKinds_38 : decode cX5_mixKinds 38 = .ok (.aload_n 0, 1) ∧ 38 + 1 = 39 := ⟨by decide +kernel, rfl⟩
theorem iX5_mixKinds_39 : decode cX5_mixKinds 39 = .ok (.iload 5, 2) ∧ 39 + 2 = 41 := ⟨by decide +kernel, rfl⟩
theorem iX5_mixKinds_41 : decode cX5_mixKinds 41 = .ok (.iconst 0, 1) ∧ 41 + 1 = 42 := ⟨by decide +kernel, rfl⟩
theorem iX5_mixKinds_42 : decode cX5_mixKinds 42 = .ok (.invokevirtual 277, 3) ∧ 42 + 3 = 45 := ⟨by decide +kernel, rfl⟩
theorem iX5_mixKinds_45 : decode cX5_mixKinds 45 = .ok (.i2l, 1) ∧ 45 + 1 = 46 := ⟨by decide +kernel, rfl⟩
theorem iX5_mixKinds_46 : decode cX5_mixKinds 46 = .ok (.invokestatic 249, 3) ∧ 46 + 3 = 49 := ⟨by decide +kernel, rfl⟩
theorem iX5_mixKinds_49 : decode cX5_mixKinds 49 = .ok (.lstore_n 3, 1) ∧ 49 + 1 = 50 := ⟨by decide +kernel, rfl⟩
theorem iX5_mixKinds_50 : decode cX5_mixKinds 50 = .ok (.lload_n 3, 1) ∧ 50 + 1 = 51 := ⟨by decide +kernel, rfl⟩
theorem iX5_mixKinds_51 : decode cX5_mixKinds 51 = .ok (.aload_n 0, 1) ∧ 51 + 1 = 52 := ⟨by decide +kernel, rfl⟩
theorem iX5_mixKinds_52 : decode cX5_mixKinds 52 = .ok (.iload 5, 2) ∧ 52 + 2 = 54 := ⟨by decide +kernel, rfl⟩
theorem iX5_mixKinds_54 : decode cX5_mixKinds 54 = .ok (.iconst 1, 1) ∧ 54 + 1 = 55 := ⟨by decide +kernel, rfl⟩
theorem iX5_mixKinds_55 : decode cX5_mixKinds 55 = .ok (.invokevirtual 277, 3) ∧ 55 + 3 = 58 := ⟨by decide +kernel, rfl⟩
theorem iX5_mixKinds_58 : decode cX5_mixKinds 58 = .ok (.i2l, 1) ∧ 58 + 1 = 59 := ⟨by decide +kernel, rfl⟩
theorem iX5_mixKinds_59 : decode cX5_mixKinds 59 = .ok (.invokestatic 249, 3) ∧ 59 + 3 = 62 := ⟨by decide +kernel, rfl⟩
theorem iX5_mixKinds_62 : decode cX5_mixKinds 62 = .ok (.lstore_n 3, 1) ∧ 62 + 1 = 63 := ⟨by decide +kernel, rfl⟩
theorem iX5_mixKinds_63 : decode cX5_mixKinds 63 = .ok (.lload_n 3, 1) ∧ 63 + 1 = 64 := ⟨by decide +kernel, rfl⟩
theorem iX5_mixKinds_64 : decode cX5_mixKinds 64 = .ok (.aload_n 0, 1) ∧ 64 + 1 = 65 := ⟨by decide +kernel, rfl⟩
theorem iX5_mixKinds_65 : decode cX5_mixKinds 65 = .ok (.iload 5, 2) ∧ 65 + 2 = 67 := ⟨by decide +kernel, rfl⟩
theorem iX5_mixKinds_67 : decode cX5_mixKinds 67 = .ok (.iconst 0, 1) ∧ 67 + 1 = 68 := ⟨by decide +kernel, rfl⟩
theorem iX5_mixKinds_68 : decode cX5_mixKinds 68 = .ok (.invokevirtual 280, 3) ∧ 68 + 3 = 71 := ⟨by decide +kernel, rfl⟩
theorem iX5_mixKinds_71 : decode cX5_mixKinds 71 = .ok (.i2l, 1) ∧ 71 + 1 = 72 := ⟨by decide +kernel, rfl⟩
theorem iX5_mixKinds_72 : decode cX5_mixKinds 72 = .ok (.invokestatic 249, 3) ∧ 72 + 3 = 75 := ⟨by decide +kernel, rfl⟩
theorem iX5_mixKinds_75 : decode cX5_mixKinds 75 = .ok (.lstore_n 3, 1) ∧ 75 + 1 = 76 := ⟨by decide +kernel, rfl⟩
theorem iX5_mixKinds_76 : decode cX5_mixKinds 76 = .ok (.lload_n 3, 1) ∧ 76 + 1 = 77 := ⟨by decide +kernel, rfl⟩
theorem iX5_mixKinds_77 : decode cX5_mixKinds 77 = .ok (.aload_n 0, 1) ∧ 77 + 1 = 78 := ⟨by decide +kernel, rfl⟩
theorem iX5_mixKinds_78 : decode cX5_mixKinds 78 = .ok (.iload 5, 2) ∧ 78 + 2 = 80 := ⟨by decide +kernel, rfl⟩
theorem iX5_mixKinds_80 : decode cX5_mixKinds 80 = .ok (.iconst 1, 1) ∧ 80 + 1 = 81 := ⟨by decide +kernel, rfl⟩
theorem iX5_mixKinds_81 : decode cX5_mixKinds 81 = .ok (.invokevirtual 280, 3) ∧ 81 + 3 = 84 := ⟨by decide +kernel, rfl⟩
theorem iX5_mixKinds_84 : decode cX5_mixKinds 84 = .ok (.i2l, 1) ∧ 84 + 1 = 85 := ⟨by decide +kernel, rfl⟩
theorem iX5_mixKinds_85 : decode cX5_mixKinds 85 = .ok (.invokestatic 249, 3) ∧ 85 + 3 = 88 := ⟨by decide +kernel, rfl⟩
theorem iX5_mixKinds_88 : decode cX5_mixKinds 88 = .ok (.lstore_n 3, 1) ∧ 88 + 1 = 89 := ⟨by decide +kernel, rfl⟩
theorem iX5_mixKinds_89 : decode cX5_mixKinds 89 = .ok (.iinc 5 1, 3) ∧ 89 + 3 = 92 := ⟨by decide +kernel, rfl⟩
theorem iX5_mixKinds_92 : decode cX5_mixKinds 92 = .ok (.goto (-87), 3) ∧ 92 + 3 = 95 := ⟨by decide +kernel, rfl⟩
theorem iX5_mixKinds_95 : decode cX5_mixKinds 95 = .ok (.lload_n 3, 1) ∧ 95 + 1 = 96 := ⟨by decide +kernel, rfl⟩
theorem iX5_mixKinds_96 : decode cX5_mixKinds 96 = .ok (.lreturn, 1) ∧ 96 + 1 = 97 := ⟨by decide +kernel, rfl⟩
theorem iX5_fanOfLeaper_0 : decode cX5_fanOfLeaper 0 = .ok (.aload_n 0, 1) ∧ 0 + 1 = 1 := ⟨by decide +kernel, rfl⟩
theorem iX5_fanOfLeaper_1 : decode cX5_fanOfLeaper 1 = .ok (.getfield 19, 3) ∧ 1 + 3 = 4 := ⟨by decide +kernel, rfl⟩
theorem iX5_fanOfLeaper_4 : decode cX5_fanOfLeaper 4 = .ok (.aload_n 0, 1) ∧ 4 + 1 = 5 := ⟨by decide +kernel, rfl⟩
theorem iX5_fanOfLeaper_5 : decode cX5_fanOfLeaper 5 = .ok (.getfield 26, 3) ∧ 5 + 3 = 8 := ⟨by decide +kernel, rfl⟩
theorem iX5_fanOfLeaper_8 : decode cX5_fanOfLeaper 8 = .ok (.iload_n 1, 1) ∧ 8 + 1 = 9 := ⟨by decide +kernel, rfl⟩
theorem iX5_fanOfLeaper_9 : decode cX5_fanOfLeaper 9 = .ok (.invokevirtual 123, 3) ∧ 9 + 3 = 12 := ⟨by decide +kernel, rfl⟩
theorem iX5_fanOfLeaper_12 : decode cX5_fanOfLeaper 12 = .ok (.invokevirtual 187, 3) ∧ 12 + 3 = 15 := ⟨by decide +kernel, rfl⟩
theorem iX5_fanOfLeaper_15 : decode cX5_fanOfLeaper 15 = .ok (.areturn, 1) ∧ 15 + 1 = 16 := ⟨by decide +kernel, rfl⟩
theorem iX5_watchedBy_0 : decode cX5_watchedBy 0 = .ok (.aload_n 0, 1) ∧ 0 + 1 = 1 := ⟨by decide +kernel, rfl⟩
theorem iX5_watchedBy_1 : decode cX5_watchedBy 1 = .ok (.getfield 19, 3) ∧ 1 + 3 = 4 := ⟨by decide +kernel, rfl⟩
theorem iX5_watchedBy_4 : decode cX5_watchedBy 4 = .ok (.aload_n 1, 1) ∧ 4 + 1 = 5 := ⟨by decide +kernel, rfl⟩
theorem iX5_watchedBy_5 : decode cX5_watchedBy 5 = .ok (.iload_n 2, 1) ∧ 5 + 1 = 6 := ⟨by decide +kernel, rfl⟩
theorem iX5_watchedBy_6 : decode cX5_watchedBy 6 = .ok (.invokevirtual 123, 3) ∧ 6 + 3 = 9 := ⟨by decide +kernel, rfl⟩
theorem iX5_watchedBy_9 : decode cX5_watchedBy 9 = .ok (.invokevirtual 187, 3) ∧ 9 + 3 = 12 := ⟨by decide +kernel, rfl⟩
theorem iX5_watchedBy_12 : decode cX5_watchedBy 12 = .ok (.astore_n 3, 1) ∧ 12 + 1 = 13 := ⟨by decide +kernel, rfl⟩
theorem iX5_watchedBy_13 : decode cX5_watchedBy 13 = .ok (.aload_n 1, 1) ∧ 13 + 1 = 14 := ⟨by decide +kernel, rfl⟩
theorem iX5_watchedBy_14 : decode cX5_watchedBy 14 = .ok (.iload_n 2, 1) ∧ 14 + 1 = 15 := ⟨by decide +kernel, rfl⟩
theorem iX5_watchedBy_15 : decode cX5_watchedBy 15 = .ok (.invokevirtual 124, 3) ∧ 15 + 3 = 18 := ⟨by decide +kernel, rfl⟩
theorem iX5_watchedBy_18 : decode cX5_watchedBy 18 = .ok (.istore 4, 2) ∧ 18 + 2 = 20 := ⟨by decide +kernel, rfl⟩
theorem iX5_watchedBy_20 : decode cX5_watchedBy 20 = .ok (.iload 4, 2) ∧ 20 + 2 = 22 := ⟨by decide +kernel, rfl⟩
theorem iX5_watchedBy_22 : decode cX5_watchedBy 22 = .ok (.ifCond .lt 22, 3) ∧ 22 + 3 = 25 := ⟨by decide +kernel, rfl⟩
theorem iX5_watchedBy_25 : decode cX5_watchedBy 25 = .ok (.iload 4, 2) ∧ 25 + 2 = 27 := ⟨by decide +kernel, rfl⟩
theorem iX5_watchedBy_27 : decode cX5_watchedBy 27 = .ok (.aload_n 3, 1) ∧ 27 + 1 = 28 := ⟨by decide +kernel, rfl⟩
theorem iX5_watchedBy_28 : decode cX5_watchedBy 28 = .ok (.arraylength, 1) ∧ 28 + 1 = 29 := ⟨by decide +kernel, rfl⟩
theorem iX5_watchedBy_29 : decode cX5_watchedBy 29 = .ok (.if_icmp .ge 15, 3) ∧ 29 + 3 = 32 := ⟨by decide +kernel, rfl⟩
theorem iX5_watchedBy_32 : decode cX5_watchedBy 32 = .ok (.aload_n 3, 1) ∧ 32 + 1 = 33 := ⟨by decide +kernel, rfl⟩
theorem iX5_watchedBy_33 : decode cX5_watchedBy 33 = .ok (.iload 4, 2) ∧ 33 + 2 = 35 := ⟨by decide +kernel, rfl⟩
theorem iX5_watchedBy_35 : decode cX5_watchedBy 35 = .ok (.iaload, 1) ∧ 35 + 1 = 36 := ⟨by decide +kernel, rfl⟩
theorem iX5_watchedBy_36 : decode cX5_watchedBy 36 = .ok (.aload_n 1, 1) ∧ 36 + 1 = 37 := ⟨by decide +kernel, rfl⟩
theorem iX5_watchedBy_37 : decode cX5_watchedBy 37 = .ok (.getfield 89, 3) ∧ 37 + 3 = 40 := ⟨by decide +kernel, rfl⟩
theorem iX5_watchedBy_40 : decode cX5_watchedBy 40 = .ok (.iand, 1) ∧ 40 + 1 = 41 := ⟨by decide +kernel, rfl⟩
theorem iX5_watchedBy_41 : decode cX5_watchedBy 41 = .ok (.goto 4, 3) ∧ 41 + 3 = 44 := ⟨by decide +kernel, rfl⟩
theorem iX5_watchedBy_44 : decode cX5_watchedBy 44 = .ok (.iconst 0, 1) ∧ 44 + 1 = 45 := ⟨by decide +kernel, rfl⟩
theorem iX5_watchedBy_45 : decode cX5_watchedBy 45 = .ok (.ireturn, 1) ∧ 45 + 1 = 46 := ⟨by decide +kernel, rfl⟩
theorem iX5_goals_0 : decode cX5_goals 0 = .ok (.aload_n 0, 1) ∧ 0 + 1 = 1 := ⟨by decide +kernel, rfl⟩
theorem iX5_goals_1 : decode cX5_goals 1 = .ok (.aload_n 1, 1) ∧ 1 + 1 = 2 := ⟨by decide +kernel, rfl⟩
theorem iX5_goals_2 : decode cX5_goals 2 = .ok (.iload_n 2, 1) ∧ 2 + 1 = 3 := ⟨by decide +kernel, rfl⟩
theorem iX5_goals_3 : decode cX5_goals 3 = .ok (.invokevirtual 125, 3) ∧ 3 + 3 = 6 := ⟨by decide +kernel, rfl⟩
theorem iX5_goals_6 : decode cX5_goals 6 = .ok (.aload_n 1, 1) ∧ 6 + 1 = 7 := ⟨by decide +kernel, rfl⟩
theorem iX5_goals_7 : decode cX5_goals 7 = .ok (.invokevirtual 142, 3) ∧ 7 + 3 = 10 := ⟨by decide +kernel, rfl⟩
theorem iX5_goals_10 : decode cX5_goals 10 = .ok (.iand, 1) ∧ 10 + 1 = 11 := ⟨by decide +kernel, rfl⟩
theorem iX5_goals_11 : decode cX5_goals 11 = .ok (.ireturn, 1) ∧ 11 + 1 = 12 := ⟨by decide +kernel, rfl⟩
theorem iX5_watchers_0 : decode cX5_watchers 0 = .ok (.iconst 0, 1) ∧ 0 + 1 = 1 := ⟨by decide +kernel, rfl⟩
theorem iX5_watchers_1 : decode cX5_watchers 1 = .ok (.istore_n 2, 1) ∧ 1 + 1 = 2 := ⟨by decide +kernel, rfl⟩
theorem iX5_watchers_2 : decode cX5_watchers 2 = .ok (.iconst 0, 1) ∧ 2 + 1 = 3 := ⟨by decide +kernel, rfl⟩
theorem iX5_watchers_3 : decode cX5_watchers 3 = .ok (.istore_n 3, 1) ∧ 3 + 1 = 4 := ⟨by decide +kernel, rfl⟩
theorem iX5_watchers_4 : decode cX5_watchers 4 = .ok (.iload_n 3, 1) ∧ 4 + 1 = 5 := ⟨by decide +kernel, rfl⟩
theorem iX5_watchers_5 : decode cX5_watchers 5 = .ok (.aload_n 0, 1) ∧ 5 + 1 = 6 := ⟨by decide +kernel, rfl⟩
theorem iX5_watchers_6 : decode cX5_watchers 6 = .ok (.getfield 26, 3) ∧ 6 + 3 = 9 := ⟨by decide +kernel, rfl⟩
theorem iX5_watchers_9 : decode cX5_watchers 9 = .ok (.getfield 95, 3) ∧ 9 + 3 = 12 := ⟨by decide +kernel, rfl⟩
theorem iX5_watchers_12 : decode cX5_watchers 12 = .ok (.if_icmp .ge 31, 3) ∧ 12 + 3 = 15 := ⟨by decide +kernel, rfl⟩
theorem iX5_watchers_15 : decode cX5_watchers 15 = .ok (.aload_n 0, 1) ∧ 15 + 1 = 16 := ⟨by decide +kernel, rfl⟩
theorem iX5_watchers_16 : decode cX5_watchers 16 = .ok (.aload_n 0, 1) ∧ 16 + 1 = 17 := ⟨by decide +kernel, rfl⟩
theorem iX5_watchers_17 : decode cX5_watchers 17 = .ok (.getfield 26, 3) ∧ 17 + 3 = 20 := ⟨by decide +kernel, rfl⟩
theorem iX5_watchers_20 : decode cX5_watchers 20 = .ok (.iload_n 3, 1) ∧ 20 + 1 = 21 := ⟨by decide +kernel, rfl⟩
theorem iX5_watchers_21 : decode cX5_watchers 21 = .ok (.invokevirtual 125, 3) ∧ 21 + 3 = 24 := ⟨by decide +kernel, rfl⟩
theorem iX5_watchers_24 : decode cX5_watchers 24 = .ok (.iload_n 1, 1) ∧ 24 + 1 = 25 := ⟨by decide +kernel, rfl⟩
theorem iX5_watchers_25 : decode cX5_watchers 25 = .ok (.invokestatic 158, 3) ∧ 25 + 3 = 28 := ⟨by decide +kernel, rfl⟩
theorem iX5_watchers_28 : decode cX5_watchers 28 = .ok (.ifCond .eq 9, 3) ∧ 28 + 3 = 31 := ⟨by decide +kernel, rfl⟩
theorem iX5_watchers_31 : decode cX5_watchers 31 = .ok (.iload_n 2, 1) ∧ 31 + 1 = 32 := ⟨by decide +kernel, rfl⟩
theorem iX5_watchers_32 : decode cX5_watchers 32 = .ok (.iconst 1, 1) ∧ 32 + 1 = 33 := ⟨by decide +kernel, rfl⟩
theorem iX5_watchers_33 : decode cX5_watchers 33 = .ok (.iload_n 3, 1) ∧ 33 + 1 = 34 := ⟨by decide +kernel, rfl⟩
theorem iX5_watchers_34 : decode cX5_watchers 34 = .ok (.ishl, 1) ∧ 34 + 1 = 35 := ⟨by decide +kernel, rfl⟩
theorem iX5_watchers_35 : decode cX5_watchers 35 = .ok (.ior, 1) ∧ 35 + 1 = 36 := ⟨by decide +kernel, rfl⟩
theorem iX5_watchers_36 : decode cX5_watchers 36 = .ok (.istore_n 2, 1) ∧ 36 + 1 = 37 := ⟨by decide +kernel, rfl⟩
theorem iX5_watchers_37 : decode cX5_watchers 37 = .ok (.iinc 3 1, 3) ∧ 37 + 3 = 40 := ⟨by decide +kernel, rfl⟩
theorem iX5_watchers_40 : decode cX5_watchers 40 = .ok (.goto (-36), 3) ∧ 40 + 3 = 43 := ⟨by decide +kernel, rfl⟩
theorem iX5_watchers_43 : decode cX5_watchers 43 = .ok (.iload_n 2, 1) ∧ 43 + 1 = 44 := ⟨by decide +kernel, rfl⟩
theorem iX5_watchers_44 : decode cX5_watchers 44 = .ok (.ireturn, 1) ∧ 44 + 1 = 45 := ⟨by decide +kernel, rfl⟩
theorem iX5_watchedEmpty_0 : decode cX5_watchedEmpty 0 = .ok (.iconst 0, 1) ∧ 0 + 1 = 1 := ⟨by decide +kernel, rfl⟩
theorem iX5_watchedEmpty_1 : decode cX5_watchedEmpty 1 = .ok (.istore_n 2, 1) ∧ 1 + 1 = 2 := ⟨by decide +kernel, rfl⟩
theorem iX5_watchedEmpty_2 : decode cX5_watchedEmpty 2 = .ok (.iconst 0, 1) ∧ 2 + 1 = 3 := ⟨by decide +kernel, rfl⟩
theorem iX5_watchedEmpty_3 : decode cX5_watchedEmpty 3 = .ok (.istore_n 3, 1) ∧ 3 + 1 = 4 := ⟨by decide +kernel, rfl⟩
theorem iX5_watchedEmpty_4 : decode cX5_watchedEmpty 4 = .ok (.iload_n 3, 1) ∧ 4 + 1 = 5 := ⟨by decide +kernel, rfl⟩
theorem iX5_watchedEmpty_5 : decode cX5_watchedEmpty 5 = .ok (.aload_n 1, 1) ∧ 5 + 1 = 6 := ⟨by decide +kernel, rfl⟩
theorem iX5_watchedEmpty_6 : decode cX5_watchedEmpty 6 = .ok (.getfield 95, 3) ∧ 6 + 3 = 9 := ⟨by decide +kernel, rfl⟩
theorem iX5_watchedEmpty_9 : decode cX5_watchedEmpty 9 = .ok (.if_icmp .ge 18, 3) ∧ 9 + 3 = 12 := ⟨by decide +kernel, rfl⟩
theorem iX5_watchedEmpty_12 : decode cX5_watchedEmpty 12 = .ok (.iload_n 2, 1) ∧ 12 + 1 = 13 := ⟨by decide +kernel, rfl⟩
theorem iX5_watchedEmpty_13 : decode cX5_watchedEmpty 13 = .ok (.aload_n 0, 1) ∧ 13 + 1 = 14 := ⟨by decide +kernel, rfl⟩
theorem iX5_watchedEmpty_14 : decode cX5_watchedEmpty 14 = .ok (.aload_n 1, 1) ∧ 14 + 1 = 15 := ⟨by decide +kernel, rfl⟩
theorem iX5_watchedEmpty_15 : decode cX5_watchedEmpty 15 = .ok (.iload_n 3, 1) ∧ 15 + 1 = 16 := ⟨by decide +kernel, rfl⟩
theorem iX5_watchedEmpty_16 : decode cX5_watchedEmpty 16 = .ok (.invokevirtual 129, 3) ∧ 16 + 3 = 19 := ⟨by decide +kernel, rfl⟩
theorem iX5_watchedEmpty_19 : decode cX5_watchedEmpty 19 = .ok (.ior, 1) ∧ 19 + 1 = 20 := ⟨by decide +kernel, rfl⟩
theorem iX5_watchedEmpty_20 : decode cX5_watchedEmpty 20 = .ok (.istore_n 2, 1) ∧ 20 + 1 = 21 := ⟨by decide +kernel, rfl⟩
theorem iX5_watchedEmpty_21 : decode cX5_watchedEmpty 21 = .ok (.iinc 3 1, 3) ∧ 21 + 3 = 24 := ⟨by decide +kernel, rfl⟩
theorem iX5_watchedEmpty_24 : decode cX5_watchedEmpty 24 = .ok (.goto (-20), 3) ∧ 24 + 3 = 27 := ⟨by decide +kernel, rfl⟩
theorem iX5_watchedEmpty_27 : decode cX5_watchedEmpty 27 = .ok (.iload_n 2, 1) ∧ 27 + 1 = 28 := ⟨by decide +kernel, rfl⟩
theorem iX5_watchedEmpty_28 : decode cX5_watchedEmpty 28 = .ok (.invokestatic 168, 3) ∧ 28 + 3 = 31 := ⟨by decide +kernel, rfl⟩
theorem iX5_watchedEmpty_31 : decode cX5_watchedEmpty 31 = .ok (.ireturn, 1) ∧ 31 + 1 = 32 := ⟨by decide +kernel, rfl⟩
theorem iX5_walkTrial_0 : decode cX5_walkTrial 0 = .ok (.aload_n 0, 1) ∧ 0 + 1 = 1 := ⟨by decide +kernel, rfl⟩
theorem iX5_walkTrial_1 : decode cX5_walkTrial 1 = .ok (.getfield 33, 3) ∧ 1 + 3 = 4 := ⟨by decide +kernel, rfl⟩
theorem iX5_walkTrial_4 : decode cX5_walkTrial 4 = .ok (.aload_n 0, 1) ∧ 4 + 1 = 5 := ⟨by decide +kernel, rfl⟩
theorem iX5_walkTrial_5 : decode cX5_walkTrial 5 = .ok (.getfield 26, 3) ∧ 5 + 3 = 8 := ⟨by decide +kernel, rfl⟩
theorem iX5_walkTrial_8 : decode cX5_walkTrial 8 = .ok (.invokevirtual 226, 3) ∧ 8 + 3 = 11 := ⟨by decide +kernel, rfl⟩
theorem iX5_walkTrial_11 : decode cX5_walkTrial 11 = .ok (.aload_n 0, 1) ∧ 11 + 1 = 12 := ⟨by decide +kernel, rfl⟩
theorem iX5_walkTrial_12 : decode cX5_walkTrial 12 = .ok (.getfield 33, 3) ∧ 12 + 3 = 15 := ⟨by decide +kernel, rfl⟩
theorem iX5_walkTrial_15 : decode cX5_walkTrial 15 = .ok (.iconst 0, 1) ∧ 15 + 1 = 16 := ⟨by decide +kernel, rfl⟩
theorem iX5_walkTrial_16 : decode cX5_walkTrial 16 = .ok (.putfield 111, 3) ∧ 16 + 3 = 19 := ⟨by decide +kernel, rfl⟩
theorem iX5_walkTrial_19 : decode cX5_walkTrial 19 = .ok (.aload_n 0, 1) ∧ 19 + 1 = 20 := ⟨by decide +kernel, rfl⟩
theorem iX5_walkTrial_20 : decode cX5_walkTrial 20 = .ok (.getfield 46, 3) ∧ 20 + 3 = 23 := ⟨by decide +kernel, rfl⟩
theorem iX5_walkTrial_23 : decode cX5_walkTrial 23 = .ok (.iload_n 2, 1) ∧ 23 + 1 = 24 := ⟨by decide +kernel, rfl⟩
theorem iX5_walkTrial_24 : decode cX5_walkTrial 24 = .ok (.putfield 223, 3) ∧ 24 + 3 = 27 := ⟨by decide +kernel, rfl⟩
theorem iX5_walkTrial_27 : decode cX5_walkTrial 27 = .ok (.iconst 0, 1) ∧ 27 + 1 = 28 := ⟨by decide +kernel, rfl⟩
theorem iX5_walkTrial_28 : decode cX5_walkTrial 28 = .ok (.istore_n 3, 1) ∧ 28 + 1 = 29 := ⟨by decide +kernel, rfl⟩
theorem iX5_walkTrial_29 : decode cX5_walkTrial 29 = .ok (.iload_n 3, 1) ∧ 29 + 1 = 30 := ⟨by decide +kernel, rfl⟩
theorem iX5_walkTrial_30 : decode cX5_walkTrial 30 = .ok (.iload_n 1, 1) ∧ 30 + 1 = 31 := ⟨by decide +kernel, rfl⟩
theorem iX5_walkTrial_31 : decode cX5_walkTrial 31 = .ok (.if_icmp .ge 94, 3) ∧ 31 + 3 = 34 := ⟨by decide +kernel, rfl⟩
theorem iX5_walkTrial_34 : decode cX5_walkTrial 34 = .ok (.aload_n 0, 1) ∧ 34 + 1 = 35 := ⟨by decide +kernel, rfl⟩
theorem iX5_walkTrial_35 : decode cX5_walkTrial 35 = .ok (.getfield 46, 3) ∧ 35 + 3 = 38 := ⟨by decide +kernel, rfl⟩
theorem iX5_walkTrial_38 : decode cX5_walkTrial 38 = .ok (.aload_n 0, 1) ∧ 38 + 1 = 39 := ⟨by decide +kernel, rfl⟩
theorem iX5_walkTrial_39 : decode cX5_walkTrial 39 = .ok (.getfield 33, 3) ∧ 39 + 3 = 42 := ⟨by decide +kernel, rfl⟩
theorem iX5_walkTrial_42 : decode cX5_walkTrial 42 = .ok (.getfield 95, 3) ∧ 42 + 3 = 45 := ⟨by decide +kernel, rfl⟩
theorem iX5_walkTrial_45 : decode cX5_walkTrial 45 = .ok (.invokevirtual 283, 3) ∧ 45 + 3 = 48 := ⟨by decide +kernel, rfl⟩
theorem iX5_walkTrial_48 : decode cX5_walkTrial 48 = .ok (.istore 4, 2) ∧ 48 + 2 = 50 := ⟨by decide +kernel, rfl⟩
theorem iX5_walkTrial_50 : decode cX5_walkTrial 50 = .ok (.aload_n 0, 1) ∧ 50 + 1 = 51 := ⟨by decide +kernel, rfl⟩
theorem iX5_walkTrial_51 : decode cX5_walkTrial 51 = .ok (.aload_n 0, 1) ∧ 51 + 1 = 52 := ⟨by decide +kernel, rfl⟩
theorem iX5_walkTrial_52 : decode cX5_walkTrial 52 = .ok (.getfield 33, 3) ∧ 52 + 3 = 55 := ⟨by decide +kernel, rfl⟩
theorem iX5_walkTrial_55 : decode cX5_walkTrial 55 = .ok (.iload 4, 2) ∧ 55 + 2 = 57 := ⟨by decide +kernel, rfl⟩
theorem iX5_walkTrial_57 : decode cX5_walkTrial 57 = .ok (.invokevirtual 129, 3) ∧ 57 + 3 = 60 := ⟨by decide +kernel, rfl⟩
theorem iX5_walkTrial_60 : decode cX5_walkTrial 60 = .ok (.istore 5, 2) ∧ 60 + 2 = 62 := ⟨by decide +kernel, rfl⟩
theorem iX5_walkTrial_62 : decode cX5_walkTrial 62 = .ok (.iload 5, 2) ∧ 62 + 2 = 64 := ⟨by decide +kernel, rfl⟩
theorem iX5_walkTrial_64 : decode cX5_walkTrial 64 = .ok (.ifCond .eq 55, 3) ∧ 64 + 3 = 67 := ⟨by decide +kernel, rfl⟩
theorem iX5_walkTrial_67 : decode cX5_walkTrial 67 = .ok (.aload_n 0, 1) ∧ 67 + 1 = 68 := ⟨by decide +kernel, rfl⟩
theorem iX5_walkTrial_68 : decode cX5_walkTrial 68 = .ok (.getfield 33, 3) ∧ 68 + 3 = 71 := ⟨by decide +kernel, rfl⟩
theorem iX5_walkTrial_71 : decode cX5_walkTrial 71 = .ok (.iload 4, 2) ∧ 71 + 2 = 73 := ⟨by decide +kernel, rfl⟩
theorem iX5_walkTrial_73 : decode cX5_walkTrial 73 = .ok (.invokevirtual 120, 3) ∧ 73 + 3 = 76 := ⟨by decide +kernel, rfl⟩
theorem iX5_walkTrial_76 : decode cX5_walkTrial 76 = .ok (.ifCond .eq 43, 3) ∧ 76 + 3 = 79 := ⟨by decide +kernel, rfl⟩
theorem iX5_walkTrial_79 : decode cX5_walkTrial 79 = .ok (.aload_n 0, 1) ∧ 79 + 1 = 80 := ⟨by decide +kernel, rfl⟩
theorem iX5_walkTrial_80 : decode cX5_walkTrial 80 = .ok (.getfield 33, 3) ∧ 80 + 3 = 83 := ⟨by decide +kernel, rfl⟩
theorem iX5_walkTrial_83 : decode cX5_walkTrial 83 = .ok (.getfield 105, 3) ∧ 83 + 3 = 86 := ⟨by decide +kernel, rfl⟩
theorem iX5_walkTrial_86 : decode cX5_walkTrial 86 = .ok (.iload 4, 2) ∧ 86 + 2 = 88 := ⟨by decide +kernel, rfl⟩
theorem iX5_walkTrial_88 : decode cX5_walkTrial 88 = .ok (.iload 5, 2) ∧ 88 + 2 = 90 := ⟨by decide +kernel, rfl⟩
theorem iX5_walkTrial_90 : decode cX5_walkTrial 90 = .ok (.aload_n 0, 1) ∧ 90 + 1 = 91 := ⟨by decide +kernel, rfl⟩
theorem iX5_walkTrial_91 : decode cX5_walkTrial 91 = .ok (.getfield 46, 3) ∧ 91 + 3 = 94 := ⟨by decide +kernel, rfl⟩
theorem iX5_walkTrial_94 : decode cX5_walkTrial 94 = .ok (.iload 5, 2) ∧ 94 + 2 = 96 := ⟨by decide +kernel, rfl⟩
theorem iX5_walkTrial_96 : decode cX5_walkTrial 96 = .ok (.invokestatic 168, 3) ∧ 96 + 3 = 99 := ⟨by decide +kernel, rfl⟩
theorem iX5_walkTrial_99 : decode cX5_walkTrial 99 = .ok (.invokevirtual 283, 3) ∧ 99 + 3 = 102 := ⟨by decide +kernel, rfl⟩
theorem iX5_walkTrial_102 : decode cX5_walkTrial 102 = .ok (.invokestatic 286, 3) ∧ 102 + 3 = 105 := ⟨by decide +kernel, rfl⟩
theorem iX5_walkTrial_105 : decode cX5_walkTrial 105 = .ok (.iastore, 1) ∧ 105 + 1 = 106 := ⟨by decide +kernel, rfl⟩
theorem iX5_walkTrial_106 : decode cX5_walkTrial 106 = .ok (.aload_n 0, 1) ∧ 106 + 1 = 107 := ⟨by decide +kernel, rfl⟩
theorem iX5_walkTrial_107 : decode cX5_walkTrial 107 = .ok (.getfield 33, 3) ∧ 107 + 3 = 110 := ⟨by decide +kernel, rfl⟩
theorem iX5_walkTrial_110 : decode cX5_walkTrial 110 = .ok (.dup, 1) ∧ 110 + 1 = 111 := ⟨by decide +kernel, rfl⟩
theorem iX5_walkTrial_111 : decode cX5_walkTrial 111 = .ok (.getfield 111, 3) ∧ 111 + 3 = 114 := ⟨by decide +kernel, rfl⟩
theorem iX5_walkTrial_114 : decode cX5_walkTrial 114 = .ok (.iconst 1, 1) ∧ 114 + 1 = 115 := ⟨by decide +kernel, rfl⟩
theorem iX5_walkTrial_115 : decode cX5_walkTrial 115 = .ok (.iadd, 1) ∧ 115 + 1 = 116 := ⟨by decide +kernel, rfl⟩
theorem iX5_walkTrial_116 : decode cX5_walkTrial 116 = .ok (.putfield 111, 3) ∧ 116 + 3 = 119 := ⟨by decide +kernel, rfl⟩
theorem iX5_walkTrial_119 : decode cX5_walkTrial 119 = .ok (.iinc 3 1, 3) ∧ 119 + 3 = 122 := ⟨by decide +kernel, rfl⟩
theorem iX5_walkTrial_122 : decode cX5_walkTrial 122 = .ok (.goto (-93), 3) ∧ 122 + 3 = 125 := ⟨by decide +kernel, rfl⟩
theorem iX5_walkTrial_125 : decode cX5_walkTrial 125 = .ok (.return_, 1) ∧ 125 + 1 = 126 := ⟨by decide +kernel, rfl⟩
theorem iX5_isKind_0 : decode cX5_isKind 0 = .ok (.iload_n 0, 1) ∧ 0 + 1 = 1 := ⟨by decide +kernel, rfl⟩
theorem iX5_isKind_1 : decode cX5_isKind 1 = .ok (.ifCond .lt 12, 3) ∧ 1 + 3 = 4 := ⟨by decide +kernel, rfl⟩
theorem iX5_isKind_4 : decode cX5_isKind 4 = .ok (.iload_n 0, 1) ∧ 4 + 1 = 5 := ⟨by decide +kernel, rfl⟩
theorem iX5_isKind_5 : decode cX5_isKind 5 = .ok (.iconst 5, 1) ∧ 5 + 1 = 6 := ⟨by decide +kernel, rfl⟩
theorem iX5_isKind_6 : decode cX5_isKind 6 = .ok (.if_icmp .ge 7, 3) ∧ 6 + 3 = 9 := ⟨by decide +kernel, rfl⟩
theorem iX5_isKind_9 : decode cX5_isKind 9 = .ok (.iconst 1, 1) ∧ 9 + 1 = 10 := ⟨by decide +kernel, rfl⟩
theorem iX5_isKind_10 : decode cX5_isKind 10 = .ok (.goto 4, 3) ∧ 10 + 3 = 13 := ⟨by decide +kernel, rfl⟩
theorem iX5_isKind_13 : decode cX5_isKind 13 = .ok (.iconst 0, 1) ∧ 13 + 1 = 14 := ⟨by decide +kernel, rfl⟩
theorem iX5_isKind_14 : decode cX5_isKind 14 = .ok (.ireturn, 1) ∧ 14 + 1 = 15 := ⟨by decide +kernel, rfl⟩
theorem iX5_isOneOfTwo_0 : decode cX5_isOneOfTwo 0 = .ok (.iload_n 0, 1) ∧ 0 + 1 = 1 := ⟨by decide +kernel, rfl⟩
theorem iX5_isOneOfTwo_1 : decode cX5_isOneOfTwo 1 = .ok (.ifCond .eq 8, 3) ∧ 1 + 3 = 4 := ⟨by decide +kernel, rfl⟩
theorem iX5_isOneOfTwo_4 : decode cX5_isOneOfTwo 4 = .ok (.iload_n 0, 1) ∧ 4 + 1 = 5 := ⟨by decide +kernel, rfl⟩
theorem iX5_isOneOfTwo_5 : decode cX5_isOneOfTwo 5 = .ok (.iconst 1, 1) ∧ 5 + 1 = 6 := ⟨by decide +kernel, rfl⟩
theorem iX5_isOneOfTwo_6 : decode cX5_isOneOfTwo 6 = .ok (.if_icmp .ne 7, 3) ∧ 6 + 3 = 9 := ⟨by decide +kernel, rfl⟩
theorem iX5_isOneOfTwo_9 : decode cX5_isOneOfTwo 9 = .ok (.iconst 1, 1) ∧ 9 + 1 = 10 := ⟨by decide +kernel, rfl⟩
theorem iX5_isOneOfTwo_10 : decode cX5_isOneOfTwo 10 = .ok (.goto 4, 3) ∧ 10 + 3 = 13 := ⟨by decide +kernel, rfl⟩
theorem iX5_isOneOfTwo_13 : decode cX5_isOneOfTwo 13 = .ok (.iconst 0, 1) ∧ 13 + 1 = 14 := ⟨by decide +kernel, rfl⟩
theorem iX5_isOneOfTwo_14 : decode cX5_isOneOfTwo 14 = .ok (.ireturn, 1) ∧ 14 + 1 = 15 := ⟨by decide +kernel, rfl⟩
theorem iX5_goes_0 : decode cX5_goes 0 = .ok (.iload_n 1, 1) ∧ 0 + 1 = 1 := ⟨by decide +kernel, rfl⟩
theorem iX5_goes_1 : decode cX5_goes 1 = .ok (.iload_n 2, 1) ∧ 1 + 1 = 2 := ⟨by decide +kernel, rfl⟩
theorem iX5_goes_2 : decode cX5_goes 2 = .ok (.invokestatic 289, 3) ∧ 2 + 3 = 5 := ⟨by decide +kernel, rfl⟩
theorem iX5_goes_5 : decode cX5_goes 5 = .ok (.istore_n 3, 1) ∧ 5 + 1 = 6 := ⟨by decide +kernel, rfl⟩
theorem iX5_goes_6 : decode cX5_goes 6 = .ok (.iload_n 1, 1) ∧ 6 + 1 = 7 := ⟨by decide +kernel, rfl⟩
theorem iX5_goes_7 : decode cX5_goes 7 = .ok (.iload_n 2, 1) ∧ 7 + 1 = 8 := ⟨by decide +kernel, rfl⟩
theorem iX5_goes_8 : decode cX5_goes 8 = .ok (.invokestatic 294, 3) ∧ 8 + 3 = 11 := ⟨by decide +kernel, rfl⟩
theorem iX5_goes_11 : decode cX5_goes 11 = .ok (.istore 4, 2) ∧ 11 + 2 = 13 := ⟨by decide +kernel, rfl⟩
theorem iX5_goes_13 : decode cX5_goes 13 = .ok (.iload_n 3, 1) ∧ 13 + 1 = 14 := ⟨by decide +kernel, rfl⟩
theorem iX5_goes_14 : decode cX5_goes 14 = .ok (.iconst 1, 1) ∧ 14 + 1 = 15 := ⟨by decide +kernel, rfl⟩
theorem iX5_goes_15 : decode cX5_goes 15 = .ok (.if_icmp .ne 13, 3) ∧ 15 + 3 = 18 := ⟨by decide +kernel, rfl⟩
theorem iX5_goes_18 : decode cX5_goes 18 = .ok (.iload 4, 2) ∧ 18 + 2 = 20 := ⟨by decide +kernel, rfl⟩
theorem iX5_goes_20 : decode cX5_goes 20 = .ok (.iconst 2, 1) ∧ 20 + 1 = 21 := ⟨by decide +kernel, rfl⟩
theorem iX5_goes_21 : decode cX5_goes 21 = .ok (.if_icmp .ne 7, 3) ∧ 21 + 3 = 24 := ⟨by decide +kernel, rfl⟩
theorem iX5_goes_24 : decode cX5_goes 24 = .ok (.iconst 1, 1) ∧ 24 + 1 = 25 := ⟨by decide +kernel, rfl⟩
theorem iX5_goes_25 : decode cX5_goes 25 = .ok (.goto 4, 3) ∧ 25 + 3 = 28 := ⟨by decide +kernel, rfl⟩
theorem iX5_goes_28 : decode cX5_goes 28 = .ok (.iconst 0, 1) ∧ 28 + 1 = 29 := ⟨by decide +kernel, rfl⟩
theorem iX5_goes_29 : decode cX5_goes 29 = .ok (.istore 5, 2) ∧ 29 + 2 = 31 := ⟨by decide +kernel, rfl⟩
theorem iX5_goes_31 : decode cX5_goes 31 = .ok (.iload_n 3, 1) ∧ 31 + 1 = 32 := ⟨by decide +kernel, rfl⟩
theorem iX5_goes_32 : decode cX5_goes 32 = .ok (.ifCond .ne 13, 3) ∧ 32 + 3 = 35 := ⟨by decide +kernel, rfl⟩
theorem iX5_goes_35 : decode cX5_goes 35 = .ok (.iload 4, 2) ∧ 35 + 2 = 37 := ⟨by decide +kernel, rfl⟩
theorem iX5_goes_37 : decode cX5_goes 37 = .ok (.iconst 1, 1) ∧ 37 + 1 = 38 := ⟨by decide +kernel, rfl⟩
theorem iX5_goes_38 : decode cX5_goes 38 = .ok (.if_icmp .ne 7, 3) ∧ 38 + 3 = 41 := ⟨by decide +kernel, rfl⟩
theorem iX5_goes_41 : decode cX5_goes 41 = .ok (.iconst 1, 1) ∧ 41 + 1 = 42 := ⟨by decide +kernel, rfl⟩
theorem iX5_goes_42 : decode cX5_goes 42 = .ok (.goto 4, 3) ∧ 42 + 3 = 45 := ⟨by decide +kernel, rfl⟩
theorem iX5_goes_45 : decode cX5_goes 45 = .ok (.iconst 0, 1) ∧ 45 + 1 = 46 := ⟨by decide +kernel, rfl⟩
theorem iX5_goes_46 : decode cX5_goes 46 = .ok (.istore 6, 2) ∧ 46 + 2 = 48 := ⟨by decide +kernel, rfl⟩
theorem iX5_goes_48 : decode cX5_goes 48 = .ok (.iload_n 0, 1) ∧ 48 + 1 = 49 := ⟨by decide +kernel, rfl⟩
theorem iX5_goes_49 : decode cX5_goes 49 = .ok (.tableswitch 91 0 4 #[35, 38, 41, 58, 75], 35) ∧ 49 + 35 = 84 := ⟨by decide +kernel, rfl⟩
theorem iX5_goes_84 : decode cX5_goes 84 = .ok (.iload 5, 2) ∧ 84 + 2 = 86 := ⟨by decide +kernel, rfl⟩
theorem iX5_goes_86 : decode cX5_goes 86 = .ok (.ireturn, 1) ∧ 86 + 1 = 87 := ⟨by decide +kernel, rfl⟩
theorem iX5_goes_87 : decode cX5_goes 87 = .ok (.iload 6, 2) ∧ 87 + 2 = 89 := ⟨by decide +kernel, rfl⟩
theorem iX5_goes_89 : decode cX5_goes 89 = .ok (.ireturn, 1) ∧ 89 + 1 = 90 := ⟨by decide +kernel, rfl⟩
theorem iX5_goes_90 : decode cX5_goes 90 = .ok (.iload_n 3, 1) ∧ 90 + 1 = 91 := ⟨by decide +kernel, rfl⟩
theorem iX5_goes_91 : decode cX5_goes 91 = .ok (.iconst 1, 1) ∧ 91 + 1 = 92 := ⟨by decide +kernel, rfl⟩
theorem iX5_goes_92 : decode cX5_goes 92 = .ok (.if_icmp .ne 13, 3) ∧ 92 + 3 = 95 := ⟨by decide +kernel, rfl⟩
theorem iX5_goes_95 : decode cX5_goes 95 = .ok (.iload 4, 2) ∧ 95 + 2 = 97 := ⟨by decide +kernel, rfl⟩
theorem iX5_goes_97 : decode cX5_goes 97 = .ok (.iconst 1, 1) ∧ 97 + 1 = 98 := ⟨by decide +kernel, rfl⟩
theorem iX5_goes_98 : decode cX5_goes 98 = .ok (.if_icmp .ne 7, 3) ∧ 98 + 3 = 101 := ⟨by decide +kernel, rfl⟩
theorem iX5_goes_101 : decode cX5_goes 101 = .ok (.iconst 1, 1) ∧ 101 + 1 = 102 := ⟨by decide +kernel, rfl⟩
theorem iX5_goes_102 : decode cX5_goes 102 = .ok (.goto 4, 3) ∧ 102 + 3 = 105 := ⟨by decide +kernel, rfl⟩
theorem iX5_goes_105 : decode cX5_goes 105 = .ok (.iconst 0, 1) ∧ 105 + 1 = 106 := ⟨by decide +kernel, rfl⟩
theorem iX5_goes_106 : decode cX5_goes 106 = .ok (.ireturn, 1) ∧ 106 + 1 = 107 := ⟨by decide +kernel, rfl⟩
theorem iX5_goes_107 : decode cX5_goes 107 = .ok (.iload_n 3, 1) ∧ 107 + 1 = 108 := ⟨by decide +kernel, rfl⟩
theorem iX5_goes_108 : decode cX5_goes 108 = .ok (.iconst 1, 1) ∧ 108 + 1 = 109 := ⟨by decide +kernel, rfl⟩
theorem iX5_goes_109 : decode cX5_goes 109 = .ok (.if_icmp .ne 13, 3) ∧ 109 + 3 = 112 := ⟨by decide +kernel, rfl⟩
theorem iX5_goes_112 : decode cX5_goes 112 = .ok (.iload 4, 2) ∧ 112 + 2 = 114 := ⟨by decide +kernel, rfl⟩
theorem iX5_goes_114 : decode cX5_goes 114 = .ok (.iconst 3, 1) ∧ 114 + 1 = 115 := ⟨by decide +kernel, rfl⟩
theorem iX5_goes_115 : decode cX5_goes 115 = .ok (.if_icmp .ne 7, 3) ∧ 115 + 3 = 118 := ⟨by decide +kernel, rfl⟩
theorem iX5_goes_118 : decode cX5_goes 118 = .ok (.iconst 1, 1) ∧ 118 + 1 = 119 := ⟨by decide +kernel, rfl⟩
theorem iX5_goes_119 : decode cX5_goes 119 = .ok (.goto 4, 3) ∧ 119 + 3 = 122 := ⟨by decide +kernel, rfl⟩
theorem iX5_goes_122 : decode cX5_goes 122 = .ok (.iconst 0, 1) ∧ 122 + 1 = 123 := ⟨by decide +kernel, rfl⟩
theorem iX5_goes_123 : decode cX5_goes 123 = .ok (.ireturn, 1) ∧ 123 + 1 = 124 := ⟨by decide +kernel, rfl⟩
theorem iX5_goes_124 : decode cX5_goes 124 = .ok (.iload 5, 2) ∧ 124 + 2 = 126 := ⟨by decide +kernel, rfl⟩
theorem iX5_goes_126 : decode cX5_goes 126 = .ok (.ifCond .ne 8, 3) ∧ 126 + 3 = 129 := ⟨by decide +kernel, rfl⟩
theorem iX5_goes_129 : decode cX5_goes 129 = .ok (.iload 6, 2) ∧ 129 + 2 = 131 := ⟨by decide +kernel, rfl⟩
theorem iX5_goes_131 : decode cX5_goes 131 = .ok (.ifCond .eq 7, 3) ∧ 131 + 3 = 134 := ⟨by decide +kernel, rfl⟩
theorem iX5_goes_134 : decode cX5_goes 134 = .ok (.iconst 1, 1) ∧ 134 + 1 = 135 := ⟨by decide +kernel, rfl⟩
theorem iX5_goes_135 : decode cX5_goes 135 = .ok (.goto 4, 3) ∧ 135 + 3 = 138 := ⟨by decide +kernel, rfl⟩
theorem iX5_goes_138 : decode cX5_goes 138 = .ok (.iconst 0, 1) ∧ 138 + 1 = 139 := ⟨by decide +kernel, rfl⟩
theorem iX5_goes_139 : decode cX5_goes 139 = .ok (.ireturn, 1) ∧ 139 + 1 = 140 := ⟨by decide +kernel, rfl⟩
theorem iX5_goes_140 : decode cX5_goes 140 = .ok (.iconst 0, 1) ∧ 140 + 1 = 141 := ⟨by decide +kernel, rfl⟩
theorem iX5_goes_141 : decode cX5_goes 141 = .ok (.ireturn, 1) ∧ 141 + 1 = 142 := ⟨by decide +kernel, rfl⟩
theorem iX5_goers_0 : decode cX5_goers 0 = .ok (.iconst 0, 1) ∧ 0 + 1 = 1 := ⟨by decide +kernel, rfl⟩
theorem iX5_goers_1 : decode cX5_goers 1 = .ok (.istore_n 2, 1) ∧ 1 + 1 = 2 := ⟨by decide +kernel, rfl⟩
theorem iX5_goers_2 : decode cX5_goers 2 = .ok (.iconst 0, 1) ∧ 2 + 1 = 3 := ⟨by decide +kernel, rfl⟩
theorem iX5_goers_3 : decode cX5_goers 3 = .ok (.istore_n 3, 1) ∧ 3 + 1 = 4 := ⟨by decide +kernel, rfl⟩
theorem iX5_goers_4 : decode cX5_goers 4 = .ok (.iload_n 3, 1) ∧ 4 + 1 = 5 := ⟨by decide +kernel, rfl⟩
theorem iX5_goers_5 : decode cX5_goers 5 = .ok (.iconst 5, 1) ∧ 5 + 1 = 6 := ⟨by decide +kernel, rfl⟩
theorem iX5_goers_6 : decode cX5_goers 6 = .ok (.if_icmp .ge 24, 3) ∧ 6 + 3 = 9 := ⟨by decide +kernel, rfl⟩
theorem iX5_goers_9 : decode cX5_goers 9 = .ok (.iload_n 3, 1) ∧ 9 + 1 = 10 := ⟨by decide +kernel, rfl⟩
theorem iX5_goers_10 : decode cX5_goers 10 = .ok (.iload_n 0, 1) ∧ 10 + 1 = 11 := ⟨by decide +kernel, rfl⟩
theorem iX5_goers_11 : decode cX5_goers 11 = .ok (.iload_n 1, 1) ∧ 11 + 1 = 12 := ⟨by decide +kernel, rfl⟩
theorem iX5_goers_12 : decode cX5_goers 12 = .ok (.invokestatic 297, 3) ∧ 12 + 3 = 15 := ⟨by decide +kernel, rfl⟩
theorem iX5_goers_15 : decode cX5_goers 15 = .ok (.ifCond .eq 9, 3) ∧ 15 + 3 = 18 := ⟨by decide +kernel, rfl⟩
theorem iX5_goers_18 : decode cX5_goers 18 = .ok (.iload_n 2, 1) ∧ 18 + 1 = 19 := ⟨by decide +kernel, rfl⟩
theorem iX5_goers_19 : decode cX5_goers 19 = .ok (.iconst 1, 1) ∧ 19 + 1 = 20 := ⟨by decide +kernel, rfl⟩
theorem iX5_goers_20 : decode cX5_goers 20 = .ok (.iload_n 3, 1) ∧ 20 + 1 = 21 := ⟨by decide +kernel, rfl⟩
theorem iX5_goers_21 : decode cX5_goers 21 = .ok (.ishl, 1) ∧ 21 + 1 = 22 := ⟨by decide +kernel, rfl⟩
theorem iX5_goers_22 : decode cX5_goers 22 = .ok (.ior, 1) ∧ 22 + 1 = 23 := ⟨by decide +kernel, rfl⟩
theorem iX5_goers_23 : decode cX5_goers 23 = .ok (.istore_n 2, 1) ∧ 23 + 1 = 24 := ⟨by decide +kernel, rfl⟩
theorem iX5_goers_24 : decode cX5_goers 24 = .ok (.iinc 3 1, 3) ∧ 24 + 3 = 27 := ⟨by decide +kernel, rfl⟩
theorem iX5_goers_27 : decode cX5_goers 27 = .ok (.goto (-23), 3) ∧ 27 + 3 = 30 := ⟨by decide +kernel, rfl⟩
theorem iX5_goers_30 : decode cX5_goers 30 = .ok (.iload_n 2, 1) ∧ 30 + 1 = 31 := ⟨by decide +kernel, rfl⟩
theorem iX5_goers_31 : decode cX5_goers 31 = .ok (.ireturn, 1) ∧ 31 + 1 = 32 := ⟨by decide +kernel, rfl⟩
theorem iX5_bestAsk_0 : decode cX5_bestAsk 0 = .ok (.iconst (-1), 1) ∧ 0 + 1 = 1 := ⟨by decide +kernel, rfl⟩
theorem iX5_bestAsk_1 : decode cX5_bestAsk 1 = .ok (.istore_n 1, 1) ∧ 1 + 1 = 2 := ⟨by decide +kernel, rfl⟩
theorem iX5_bestAsk_2 : decode cX5_bestAsk 2 = .ok (.iload_n 0, 1) ∧ 2 + 1 = 3 := ⟨by decide +kernel, rfl⟩
theorem iX5_bestAsk_3 : decode cX5_bestAsk 3 = .ok (.ifCond .ne 5, 3) ∧ 3 + 3 = 6 := ⟨by decide +kernel, rfl⟩
theorem iX5_bestAsk_6 : decode cX5_bestAsk 6 = .ok (.iload_n 1, 1) ∧ 6 + 1 = 7 := ⟨by decide +kernel, rfl⟩
theorem iX5_bestAsk_7 : decode cX5_bestAsk 7 = .ok (.ireturn, 1) ∧ 7 + 1 = 8 := ⟨by decide +kernel, rfl⟩
theorem iX5_bestAsk_8 : decode cX5_bestAsk 8 = .ok (.bipush 6, 2) ∧ 8 + 2 = 10 := ⟨by decide +kernel, rfl⟩
theorem iX5_bestAsk_10 : decode cX5_bestAsk 10 = .ok (.istore_n 2, 1) ∧ 10 + 1 = 11 := ⟨by decide +kernel, rfl⟩
theorem iX5_bestAsk_11 : decode cX5_bestAsk 11 = .ok (.iconst 0, 1) ∧ 11 + 1 = 12 := ⟨by decide +kernel, rfl⟩
theorem iX5_bestAsk_12 : decode cX5_bestAsk 12 = .ok (.istore_n 3, 1) ∧ 12 + 1 = 13 := ⟨by decide +kernel, rfl⟩
theorem iX5_bestAsk_13 : decode cX5_bestAsk 13 = .ok (.iload_n 3, 1) ∧ 13 + 1 = 14 := ⟨by decide +kernel, rfl⟩
theorem iX5_bestAsk_14 : decode cX5_bestAsk 14 = .ok (.iconst 3, 1) ∧ 14 + 1 = 15 := ⟨by decide +kernel, rfl⟩
theorem iX5_bestAsk_15 : decode cX5_bestAsk 15 = .ok (.if_icmp .gt 68, 3) ∧ 15 + 3 = 18 := ⟨by decide +kernel, rfl⟩
theorem iX5_bestAsk_18 : decode cX5_bestAsk 18 = .ok (.iconst 0, 1) ∧ 18 + 1 = 19 := ⟨by decide +kernel, rfl⟩
theorem iX5_bestAsk_19 : decode cX5_bestAsk 19 = .ok (.istore 4, 2) ∧ 19 + 2 = 21 := ⟨by decide +kernel, rfl⟩
theorem iX5_bestAsk_21 : decode cX5_bestAsk 21 = .ok (.iload 4, 2) ∧ 21 + 2 = 23 := ⟨by decide +kernel, rfl⟩
theorem iX5_bestAsk_23 : decode cX5_bestAsk 23 = .ok (.iconst 3, 1) ∧ 23 + 1 = 24 := ⟨by decide +kernel, rfl⟩
theorem iX5_bestAsk_24 : decode cX5_bestAsk 24 = .ok (.if_icmp .gt 53, 3) ∧ 24 + 3 = 27 := ⟨by decide +kernel, rfl⟩
theorem iX5_bestAsk_27 : decode cX5_bestAsk 27 = .ok (.iload_n 0, 1) ∧ 27 + 1 = 28 := ⟨by decide +kernel, rfl⟩
theorem iX5_bestAsk_28 : decode cX5_bestAsk 28 = .ok (.iload_n 3, 1) ∧ 28 + 1 = 29 := ⟨by decide +kernel, rfl⟩
theorem iX5_bestAsk_29 : decode cX5_bestAsk 29 = .ok (.iload 4, 2) ∧ 29 + 2 = 31 := ⟨by decide +kernel, rfl⟩
theorem iX5_bestAsk_31 : decode cX5_bestAsk 31 = .ok (.invokestatic 209, 3) ∧ 31 + 3 = 34 := ⟨by decide +kernel, rfl⟩
theorem iX5_bestAsk_34 : decode cX5_bestAsk 34 = .ok (.iand, 1) ∧ 34 + 1 = 35 := ⟨by decide +kernel, rfl⟩
theorem iX5_bestAsk_35 : decode cX5_bestAsk 35 = .ok (.invokestatic 168, 3) ∧ 35 + 3 = 38 := ⟨by decide +kernel, rfl⟩
theorem iX5_bestAsk_38 : decode cX5_bestAsk 38 = .ok (.istore 5, 2) ∧ 38 + 2 = 40 := ⟨by decide +kernel, rfl⟩
theorem iX5_bestAsk_40 : decode cX5_bestAsk 40 = .ok (.iload 5, 2) ∧ 40 + 2 = 42 := ⟨by decide +kernel, rfl⟩
theorem iX5_bestAsk_42 : decode cX5_bestAsk 42 = .ok (.iload_n 0, 1) ∧ 42 + 1 = 43 := ⟨by decide +kernel, rfl⟩
theorem iX5_bestAsk_43 : decode cX5_bestAsk 43 = .ok (.invokestatic 168, 3) ∧ 43 + 3 = 46 := ⟨by decide +kernel, rfl⟩
theorem iX5_bestAsk_46 : decode cX5_bestAsk 46 = .ok (.iload 5, 2) ∧ 46 + 2 = 48 := ⟨by decide +kernel, rfl⟩
theorem iX5_bestAsk_48 : decode cX5_bestAsk 48 = .ok (.isub, 1) ∧ 48 + 1 = 49 := ⟨by decide +kernel, rfl⟩
theorem iX5_bestAsk_49 : decode cX5_bestAsk 49 = .ok (.invokestatic 294, 3) ∧ 49 + 3 = 52 := ⟨by decide +kernel, rfl⟩
theorem iX5_bestAsk_52 : decode cX5_bestAsk 52 = .ok (.istore 6, 2) ∧ 52 + 2 = 54 := ⟨by decide +kernel, rfl⟩
theorem iX5_bestAsk_54 : decode cX5_bestAsk 54 = .ok (.iload 6, 2) ∧ 54 + 2 = 56 := ⟨by decide +kernel, rfl⟩
theorem iX5_bestAsk_56 : decode cX5_bestAsk 56 = .ok (.iload_n 2, 1) ∧ 56 + 1 = 57 := ⟨by decide +kernel, rfl⟩
theorem iX5_bestAsk_57 : decode cX5_bestAsk 57 = .ok (.if_icmp .ge 14, 3) ∧ 57 + 3 = 60 := ⟨by decide +kernel, rfl⟩
theorem iX5_bestAsk_60 : decode cX5_bestAsk 60 = .ok (.iload 6, 2) ∧ 60 + 2 = 62 := ⟨by decide +kernel, rfl⟩
theorem iX5_bestAsk_62 : decode cX5_bestAsk 62 = .ok (.istore_n 2, 1) ∧ 62 + 1 = 63 := ⟨by decide +kernel, rfl⟩
theorem iX5_bestAsk_63 : decode cX5_bestAsk 63 = .ok (.bipush 10, 2) ∧ 63 + 2 = 65 := ⟨by decide +kernel, rfl⟩
theorem iX5_bestAsk_65 : decode cX5_bestAsk 65 = .ok (.iload_n 3, 1) ∧ 65 + 1 = 66 := ⟨by decide +kernel, rfl⟩
theorem iX5_bestAsk_66 : decode cX5_bestAsk 66 = .ok (.imul, 1) ∧ 66 + 1 = 67 := ⟨by decide +kernel, rfl⟩
theorem iX5_bestAsk_67 : decode cX5_bestAsk 67 = .ok (.iload 4, 2) ∧ 67 + 2 = 69 := ⟨by decide +kernel, rfl⟩
theorem iX5_bestAsk_69 : decode cX5_bestAsk 69 = .ok (.iadd, 1) ∧ 69 + 1 = 70 := ⟨by decide +kernel, rfl⟩
theorem iX5_bestAsk_70 : decode cX5_bestAsk 70 = .ok (.istore_n 1, 1) ∧ 70 + 1 = 71 := ⟨by decide +kernel, rfl⟩
theorem iX5_bestAsk_71 : decode cX5_bestAsk 71 = .ok (.iinc 4 1, 3) ∧ 71 + 3 = 74 := ⟨by decide +kernel, rfl⟩
theorem iX5_bestAsk_74 : decode cX5_bestAsk 74 = .ok (.goto (-53), 3) ∧ 74 + 3 = 77 := ⟨by decide +kernel, rfl⟩
theorem iX5_bestAsk_77 : decode cX5_bestAsk 77 = .ok (.iinc 3 1, 3) ∧ 77 + 3 = 80 := ⟨by decide +kernel, rfl⟩
theorem iX5_bestAsk_80 : decode cX5_bestAsk 80 = .ok (.goto (-67), 3) ∧ 80 + 3 = 83 := ⟨by decide +kernel, rfl⟩
theorem iX5_bestAsk_83 : decode cX5_bestAsk 83 = .ok (.iload_n 1, 1) ∧ 83 + 1 = 84 := ⟨by decide +kernel, rfl⟩
theorem iX5_bestAsk_84 : decode cX5_bestAsk 84 = .ok (.ireturn, 1) ∧ 84 + 1 = 85 := ⟨by decide +kernel, rfl⟩
theorem iX5_has_0 : decode cX5_has 0 = .ok (.iload_n 0, 1) ∧ 0 + 1 = 1 := ⟨by decide +kernel, rfl⟩
theorem iX5_has_1 : decode cX5_has 1 = .ok (.iload_n 1, 1) ∧ 1 + 1 = 2 := ⟨by decide +kernel, rfl⟩
theorem iX5_has_2 : decode cX5_has 2 = .ok (.ishr, 1) ∧ 2 + 1 = 3 := ⟨by decide +kernel, rfl⟩
theorem iX5_has_3 : decode cX5_has 3 = .ok (.iconst 1, 1) ∧ 3 + 1 = 4 := ⟨by decide +kernel, rfl⟩
theorem iX5_has_4 : decode cX5_has 4 = .ok (.iand, 1) ∧ 4 + 1 = 5 := ⟨by decide +kernel, rfl⟩
theorem iX5_has_5 : decode cX5_has 5 = .ok (.iconst 1, 1) ∧ 5 + 1 = 6 := ⟨by decide +kernel, rfl⟩
theorem iX5_has_6 : decode cX5_has 6 = .ok (.if_icmp .ne 7, 3) ∧ 6 + 3 = 9 := ⟨by decide +kernel, rfl⟩
theorem iX5_has_9 : decode cX5_has 9 = .ok (.iconst 1, 1) ∧ 9 + 1 = 10 := ⟨by decide +kernel, rfl⟩
theorem iX5_has_10 : decode cX5_has 10 = .ok (.goto 4, 3) ∧ 10 + 3 = 13 := ⟨by decide +kernel, rfl⟩
theorem iX5_has_13 : decode cX5_has 13 = .ok (.iconst 0, 1) ∧ 13 + 1 = 14 := ⟨by decide +kernel, rfl⟩
theorem iX5_has_14 : decode cX5_has 14 = .ok (.ireturn, 1) ∧ 14 + 1 = 15 := ⟨by decide +kernel, rfl⟩
theorem iX5_lowestOf_0 : decode cX5_lowestOf 0 = .ok (.iload_n 0, 1) ∧ 0 + 1 = 1 := ⟨by decide +kernel, rfl⟩
theorem iX5_lowestOf_1 : decode cX5_lowestOf 1 = .ok (.iconst 0, 1) ∧ 1 + 1 = 2 := ⟨by decide +kernel, rfl⟩
theorem iX5_lowestOf_2 : decode cX5_lowestOf 2 = .ok (.invokestatic 286, 3) ∧ 2 + 3 = 5 := ⟨by decide +kernel, rfl⟩
theorem iX5_lowestOf_5 : decode cX5_lowestOf 5 = .ok (.ireturn, 1) ∧ 5 + 1 = 6 := ⟨by decide +kernel, rfl⟩
theorem iX5_nthOf_0 : decode cX5_nthOf 0 = .ok (.iconst 0, 1) ∧ 0 + 1 = 1 := ⟨by decide +kernel, rfl⟩
theorem iX5_nthOf_1 : decode cX5_nthOf 1 = .ok (.istore_n 2, 1) ∧ 1 + 1 = 2 := ⟨by decide +kernel, rfl⟩
theorem iX5_nthOf_2 : decode cX5_nthOf 2 = .ok (.iconst 0, 1) ∧ 2 + 1 = 3 := ⟨by decide +kernel, rfl⟩
theorem iX5_nthOf_3 : decode cX5_nthOf 3 = .ok (.istore_n 3, 1) ∧ 3 + 1 = 4 := ⟨by decide +kernel, rfl⟩
theorem iX5_nthOf_4 : decode cX5_nthOf 4 = .ok (.iload_n 3, 1) ∧ 4 + 1 = 5 := ⟨by decide +kernel, rfl⟩
theorem iX5_nthOf_5 : decode cX5_nthOf 5 = .ok (.bipush 12, 2) ∧ 5 + 2 = 7 := ⟨by decide +kernel, rfl⟩
theorem iX5_nthOf_7 : decode cX5_nthOf 7 = .ok (.if_icmp .ge 27, 3) ∧ 7 + 3 = 10 := ⟨by decide +kernel, rfl⟩
theorem iX5_nthOf_10 : decode cX5_nthOf 10 = .ok (.iload_n 0, 1) ∧ 10 + 1 = 11 := ⟨by decide +kernel, rfl⟩
theorem iX5_nthOf_11 : decode cX5_nthOf 11 = .ok (.iload_n 3, 1) ∧ 11 + 1 = 12 := ⟨by decide +kernel, rfl⟩
theorem iX5_nthOf_12 : decode cX5_nthOf 12 = .ok (.invokestatic 158, 3) ∧ 12 + 3 = 15 := ⟨by decide +kernel, rfl⟩
theorem iX5_nthOf_15 : decode cX5_nthOf 15 = .ok (.ifCond .eq 13, 3) ∧ 15 + 3 = 18 := ⟨by decide +kernel, rfl⟩
theorem iX5_nthOf_18 : decode cX5_nthOf 18 = .ok (.iload_n 2, 1) ∧ 18 + 1 = 19 := ⟨by decide +kernel, rfl⟩
theorem iX5_nthOf_19 : decode cX5_nthOf 19 = .ok (.iload_n 1, 1) ∧ 19 + 1 = 20 := ⟨by decide +kernel, rfl⟩
theorem iX5_nthOf_20 : decode cX5_nthOf 20 = .ok (.if_icmp .ne 5, 3) ∧ 20 + 3 = 23 := ⟨by decide +kernel, rfl⟩
theorem iX5_nthOf_23 : decode cX5_nthOf 23 = .ok (.iload_n 3, 1) ∧ 23 + 1 = 24 := ⟨by decide +kernel, rfl⟩
theorem iX5_nthOf_24 : decode cX5_nthOf 24 = .ok (.ireturn, 1) ∧ 24 + 1 = 25 := ⟨by decide +kernel, rfl⟩
theorem iX5_nthOf_25 : decode cX5_nthOf 25 = .ok (.iinc 2 1, 3) ∧ 25 + 3 = 28 := ⟨by decide +kernel, rfl⟩
theorem iX5_nthOf_28 : decode cX5_nthOf 28 = .ok (.iinc 3 1, 3) ∧ 28 + 3 = 31 := ⟨by decide +kernel, rfl⟩
theorem iX5_nthOf_31 : decode cX5_nthOf 31 = .ok (.goto (-27), 3) ∧ 31 + 3 = 34 := ⟨by decide +kernel, rfl⟩
theorem iX5_nthOf_34 : decode cX5_nthOf 34 = .ok (.iconst (-1), 1) ∧ 34 + 1 = 35 := ⟨by decide +kernel, rfl⟩
theorem iX5_nthOf_35 : decode cX5_nthOf 35 = .ok (.ireturn, 1) ∧ 35 + 1 = 36 := ⟨by decide +kernel, rfl⟩
theorem iX6_init_0 : decode cX6_init 0 = .ok (.aload_n 0, 1) ∧ 0 + 1 = 1 := ⟨by decide +kernel, rfl⟩
theorem iX6_init_1 : decode cX6_init 1 = .ok (.invokespecial 1, 3) ∧ 1 + 3 = 4 := ⟨by decide +kernel, rfl⟩
theorem iX6_init_4 : decode cX6_init 4 = .ok (.aload_n 0, 1) ∧ 4 + 1 = 5 := ⟨by decide +kernel, rfl⟩
theorem iX6_init_5 : decode cX6_init 5 = .ok (.iconst 4, 1) ∧ 5 + 1 = 6 := ⟨by decide +kernel, rfl⟩
theorem iX6_init_6 : decode cX6_init 6 = .ok (.newarray .int, 2) ∧ 6 + 2 = 8 := ⟨by decide +kernel, rfl⟩
theorem iX6_init_8 : decode cX6_init 8 = .ok (.putfield 7, 3) ∧ 8 + 3 = 11 := ⟨by decide +kernel, rfl⟩
theorem iX6_init_11 : decode cX6_init 11 = .ok (.aload_n 0, 1) ∧ 11 + 1 = 12 := ⟨by decide +kernel, rfl⟩
theorem iX6_init_12 : decode cX6_init 12 = .ok (.iconst 4, 1) ∧ 12 + 1 = 13 := ⟨by decide +kernel, rfl⟩
theorem iX6_init_13 : decode cX6_init 13 = .ok (.newarray .int, 2) ∧ 13 + 2 = 15 := ⟨by decide +kernel, rfl⟩
theorem iX6_init_15 : decode cX6_init 15 = .ok (.putfield 13, 3) ∧ 15 + 3 = 18 := ⟨by decide +kernel, rfl⟩
theorem iX6_init_18 : decode cX6_init 18 = .ok (.aload_n 0, 1) ∧ 18 + 1 = 19 := ⟨by decide +kernel, rfl⟩
theorem iX6_init_19 : decode cX6_init 19 = .ok (.bipush 6, 2) ∧ 19 + 2 = 21 := ⟨by decide +kernel, rfl⟩
theorem iX6_init_21 : decode cX6_init 21 = .ok (.newarray .int, 2) ∧ 21 + 2 = 23 := ⟨by decide +kernel, rfl⟩
theorem iX6_init_23 : decode cX6_init 23 = .ok (.putfield 16, 3) ∧ 23 + 3 = 26 := ⟨by decide +kernel, rfl⟩
theorem iX6_init_26 : decode cX6_init 26 = .ok (.aload_n 0, 1) ∧ 26 + 1 = 27 := ⟨by decide +kernel, rfl⟩
theorem iX6_init_27 : decode cX6_init 27 = .ok (.bipush 6, 2) ∧ 27 + 2 = 29 := ⟨by decide +kernel, rfl⟩
theorem iX6_init_29 : decode cX6_init 29 = .ok (.newarray .int, 2) ∧ 29 + 2 = 31 := ⟨by decide +kernel, rfl⟩
theorem iX6_init_31 : decode cX6_init 31 = .ok (.putfield 19, 3) ∧ 31 + 3 = 34 := ⟨by decide +kernel, rfl⟩
theorem iX6_init_34 : decode cX6_init 34 = .ok (.aload_n 0, 1) ∧ 34 + 1 = 35 := ⟨by decide +kernel, rfl⟩
theorem iX6_init_35 : decode cX6_init 35 = .ok (.bipush 6, 2) ∧ 35 + 2 = 37 := ⟨by decide +kernel, rfl⟩
theorem iX6_init_37 : decode cX6_init 37 = .ok (.newarray .int, 2) ∧ 37 + 2 = 39 := ⟨by decide +kernel, rfl⟩
theorem iX6_init_39 : decode cX6_init 39 = .ok (.putfield 22, 3) ∧ 39 + 3 = 42 := ⟨by decide +kernel, rfl⟩
theorem iX6_init_42 : decode cX6_init 42 = .ok (.aload_n 0, 1) ∧ 42 + 1 = 43 := ⟨by decide +kernel, rfl⟩
theorem iX6_init_43 : decode cX6_init 43 = .ok (.bipush 6, 2) ∧ 43 + 2 = 45 := ⟨by decide +kernel, rfl⟩
theorem iX6_init_45 : decode cX6_init 45 = .ok (.newarray .int, 2) ∧ 45 + 2 = 47 := ⟨by decide +kernel, rfl⟩
theorem iX6_init_47 : decode cX6_init 47 = .ok (.putfield 25, 3) ∧ 47 + 3 = 50 := ⟨by decide +kernel, rfl⟩
theorem iX6_init_50 : decode cX6_init 50 = .ok (.aload_n 0, 1) ∧ 50 + 1 = 51 := ⟨by decide +kernel, rfl⟩
theorem iX6_init_51 : decode cX6_init 51 = .ok (.bipush 30, 2) ∧ 51 + 2 = 53 := ⟨by decide +kernel, rfl⟩
theorem iX6_init_53 : decode cX6_init 53 = .ok (.newarray .byte, 2) ∧ 53 + 2 = 55 := ⟨by decide +kernel, rfl⟩
theorem iX6_init_55 : decode cX6_init 55 = .ok (.putfield 28, 3) ∧ 55 + 3 = 58 := ⟨by decide +kernel, rfl⟩
theorem iX6_init_58 : decode cX6_init 58 = .ok (.aload_n 0, 1) ∧ 58 + 1 = 59 := ⟨by decide +kernel, rfl⟩
theorem iX6_init_59 : decode cX6_init 59 = .ok (.sipush 144, 3) ∧ 59 + 3 = 62 := ⟨by decide +kernel, rfl⟩
theorem iX6_init_62 : decode cX6_init 62 = .ok (.newarray .int, 2) ∧ 62 + 2 = 64 := ⟨by decide +kernel, rfl⟩
theorem iX6_init_64 : decode cX6_init 64 = .ok (.putfield 32, 3) ∧ 64 + 3 = 67 := ⟨by decide +kernel, rfl⟩
theorem iX6_init_67 : decode cX6_init 67 = .ok (.aload_n 0, 1) ∧ 67 + 1 = 68 := ⟨by decide +kernel, rfl⟩
theorem iX6_init_68 : decode cX6_init 68 = .ok (.sipush 144, 3) ∧ 68 + 3 = 71 := ⟨by decide +kernel, rfl⟩
theorem iX6_init_71 : decode cX6_init 71 = .ok (.newarray .int, 2) ∧ 71 + 2 = 73 := ⟨by decide +kernel, rfl⟩
theorem iX6_init_73 : decode cX6_init 73 = .ok (.putfield 35, 3) ∧ 73 + 3 = 76 := ⟨by decide +kernel, rfl⟩
theorem iX6_init_76 : decode cX6_init 76 = .ok (.aload_n 0, 1) ∧ 76 + 1 = 77 := ⟨by decide +kernel, rfl⟩
theorem iX6_init_77 : decode cX6_init 77 = .ok (.sipush 4096, 3) ∧ 77 + 3 = 80 := ⟨by decide +kernel, rfl⟩
theorem iX6_init_80 : decode cX6_init 80 = .ok (.newarray .int, 2) ∧ 80 + 2 = 82 := ⟨by decide +kernel, rfl⟩
theorem iX6_init_82 : decode cX6_init 82 = .ok (.putfield 38, 3) ∧ 82 + 3 = 85 := ⟨by decide +kernel, rfl⟩
theorem iX6_init_85 : decode cX6_init 85 = .ok (.aload_n 0, 1) ∧ 85 + 1 = 86 := ⟨by decide +kernel, rfl⟩
theorem iX6_init_86 : decode cX6_init 86 = .ok (.bipush 12, 2) ∧ 86 + 2 = 88 := ⟨by decide +kernel, rfl⟩
theorem iX6_init_88 : decode cX6_init 88 = .ok (.newarray .int, 2) ∧ 88 + 2 = 90 := ⟨by decide +kernel, rfl⟩
theorem iX6_init_90 : decode cX6_init 90 = .ok (.putfield 41, 3) ∧ 90 + 3 = 93 := ⟨by decide +kernel, rfl⟩
theorem iX6_init_93 : decode cX6_init 93 = .ok (.aload_n 0, 1) ∧ 93 + 1 = 94 := ⟨by decide +kernel, rfl⟩
theorem iX6_init_94 : decode cX6_init 94 = .ok (.bipush 12, 2) ∧ 94 + 2 = 96 := ⟨by decide +kernel, rfl⟩
theorem iX6_init_96 : decode cX6_init 96 = .ok (.newarray .int, 2) ∧ 96 + 2 = 98 := ⟨by decide +kernel, rfl⟩
theorem iX6_init_98 : decode cX6_init 98 = .ok (.putfield 44, 3) ∧ 98 + 3 = 101 := ⟨by decide +kernel, rfl⟩
theorem iX6_init_101 : decode cX6_init 101 = .ok (.aload_n 0, 1) ∧ 101 + 1 = 102 := ⟨by decide +kernel, rfl⟩
theorem iX6_init_102 : decode cX6_init 102 = .ok (.iconst 4, 1) ∧ 102 + 1 = 103 := ⟨by decide +kernel, rfl⟩
theorem iX6_init_103 : decode cX6_init 103 = .ok (.newarray .int, 2) ∧ 103 + 2 = 105 := ⟨by decide +kernel, rfl⟩
theorem iX6_init_105 : decode cX6_init 105 = .ok (.putfield 47, 3) ∧ 105 + 3 = 108 := ⟨by decide +kernel, rfl⟩
theorem iX6_init_108 : decode cX6_init 108 = .ok (.aload_n 0, 1) ∧ 108 + 1 = 109 := ⟨by decide +kernel, rfl⟩
theorem iX6_init_109 : decode cX6_init 109 = .ok (.iconst 4, 1) ∧ 109 + 1 = 110 := ⟨by decide +kernel, rfl⟩
theorem iX6_init_110 : decode cX6_init 110 = .ok (.newarray .int, 2) ∧ 110 + 2 = 112 := ⟨by decide +kernel, rfl⟩
theorem iX6_init_112 : decode cX6_init 112 = .ok (.putfield 50, 3) ∧ 112 + 3 = 115 := ⟨by decide +kernel, rfl⟩
theorem iX6_init_115 : decode cX6_init 115 = .ok (.aload_n 0, 1) ∧ 115 + 1 = 116 := ⟨by decide +kernel, rfl⟩
theorem iX6_init_116 : decode cX6_init 116 = .ok (.iconst 4, 1) ∧ 116 + 1 = 117 := ⟨by decide +kernel, rfl⟩
theorem iX6_init_117 : decode cX6_init 117 = .ok (.newarray .int, 2) ∧ 117 + 2 = 119 := ⟨by decide +kernel, rfl⟩
theorem iX6_init_119 : decode cX6_init 119 = .ok (.putfield 53, 3) ∧ 119 + 3 = 122 := ⟨by decide +kernel, rfl⟩
theorem iX6_init_122 : decode cX6_init 122 = .ok (.aload_n 0, 1) ∧ 122 + 1 = 123 := ⟨by decide +kernel, rfl⟩
theorem iX6_init_123 : decode cX6_init 123 = .ok (.bipush 6, 2) ∧ 123 + 2 = 125 := ⟨by decide +kernel, rfl⟩
theorem iX6_init_125 : decode cX6_init 125 = .ok (.newarray .int, 2) ∧ 125 + 2 = 127 := ⟨by decide +kernel, rfl⟩
theorem iX6_init_127 : decode cX6_init 127 = .ok (.putfield 56, 3) ∧ 127 + 3 = 130 := ⟨by decide +kernel, rfl⟩
theorem iX6_init_130 : decode cX6_init 130 = .ok (.aload_n 0, 1) ∧ 130 + 1 = 131 := ⟨by decide +kernel, rfl⟩
theorem iX6_init_131 : decode cX6_init 131 = .ok (.bipush 6, 2) ∧ 131 + 2 = 133 := ⟨by decide +kernel, rfl⟩
theorem iX6_init_133 : decode cX6_init 133 = .ok (.newarray .int, 2) ∧ 133 + 2 = 135 := ⟨by decide +kernel, rfl⟩
theorem iX6_init_135 : decode cX6_init 135 = .ok (.putfield 59, 3) ∧ 135 + 3 = 138 := ⟨by decide +kernel, rfl⟩
theorem iX6_init_138 : decode cX6_init 138 = .ok (.aload_n 0, 1) ∧ 138 + 1 = 139 := ⟨by decide +kernel, rfl⟩
theorem iX6_init_139 : decode cX6_init 139 = .ok (.bipush 6, 2) ∧ 139 + 2 = 141 := ⟨by decide +kernel, rfl⟩
theorem iX6_init_141 : decode cX6_init 141 = .ok (.newarray .int, 2) ∧ 141 + 2 = 143 := ⟨by decide +kernel, rfl⟩
theorem iX6_init_143 : decode cX6_init 143 = .ok (.putfield 62, 3) ∧ 143 + 3 = 146 := ⟨by decide +kernel, rfl⟩
theorem iX6_init_146 : decode cX6_init 146 = .ok (.aload_n 0, 1) ∧ 146 + 1 = 147 := ⟨by decide +kernel, rfl⟩
theorem iX6_init_147 : decode cX6_init 147 = .ok (.bipush 6, 2) ∧ 147 + 2 = 149 := ⟨by decide +kernel, rfl⟩
theorem iX6_init_149 : decode cX6_init 149 = .ok (.newarray .int, 2) ∧ 149 + 2 = 151 := ⟨by decide +kernel, rfl⟩
theorem iX6_init_151 : decode cX6_init 151 = .ok (.putfield 65, 3) ∧ 151 + 3 = 154 := ⟨by decide +kernel, rfl⟩
theorem iX6_init_154 : decode cX6_init 154 = .ok (.return_, 1) ∧ 154 + 1 = 155 := ⟨by decide +kernel, rfl⟩
theorem iX6_within_0 : decode cX6_within 0 = .ok (.iload_n 0, 1) ∧ 0 + 1 = 1 := ⟨by decide +kernel, rfl⟩
theorem iX6_within_1 : decode cX6_within 1 = .ok (.iload_n 1, 1) ∧ 1 + 1 = 2 := ⟨by decide +kernel, rfl⟩
theorem iX6_within_2 : decode cX6_within 2 = .ok (.if_icmp .lt 12, 3) ∧ 2 + 3 = 5 := ⟨by decide +kernel, rfl⟩
theorem iX6_within_5 : decode cX6_within 5 = .ok (.iload_n 0, 1) ∧ 5 + 1 = 6 := ⟨by decide +kernel, rfl⟩
theorem iX6_within_6 : decode cX6_within 6 = .ok (.iload_n 2, 1) ∧ 6 + 1 = 7 := ⟨by decide +kernel, rfl⟩
theorem iX6_within_7 : decode cX6_within 7 = .ok (.if_icmp .gt 7, 3) ∧ 7 + 3 = 10 := ⟨by decide +kernel, rfl⟩
theorem iX6_within_10 : decode cX6_within 10 = .ok (.iconst 1, 1) ∧ 10 + 1 = 11 := ⟨by decide +kernel, rfl⟩
theorem iX6_within_11 : decode cX6_within 11 = .ok (.goto 4, 3) ∧ 11 + 3 = 14 := ⟨by decide +kernel, rfl⟩
theorem iX6_within_14 : decode cX6_within 14 = .ok (.iconst 0, 1) ∧ 14 + 1 = 15 := ⟨by decide +kernel, rfl⟩
theorem iX6_within_15 : decode cX6_within 15 = .ok (.ireturn, 1) ∧ 15 + 1 = 16 := ⟨by decide +kernel, rfl⟩
theorem iX6_isIn_0 : decode cX6_isIn 0 = .ok (.iload_n 0, 1) ∧ 0 + 1 = 1 := ⟨by decide +kernel, rfl⟩
theorem iX6_isIn_1 : decode cX6_isIn 1 = .ok (.iload_n 1, 1) ∧ 1 + 1 = 2 := ⟨by decide +kernel, rfl⟩
theorem iX6_isIn_2 : decode cX6_isIn 2 = .ok (.ishr, 1) ∧ 2 + 1 = 3 := ⟨by decide +kernel, rfl⟩
theorem iX6_isIn_3 : decode cX6_isIn 3 = .ok (.iconst 1, 1) ∧ 3 + 1 = 4 := ⟨by decide +kernel, rfl⟩
theorem iX6_isIn_4 : decode cX6_isIn 4 = .ok (.iand, 1) ∧ 4 + 1 = 5 := ⟨by decide +kernel, rfl⟩
theorem iX6_isIn_5 : decode cX6_isIn 5 = .ok (.iconst 1, 1) ∧ 5 + 1 = 6 := ⟨by decide +kernel, rfl⟩
theorem iX6_isIn_6 : decode cX6_isIn 6 = .ok (.if_icmp .ne 7, 3) ∧ 6 + 3 = 9 := ⟨by decide +kernel, rfl⟩
theorem iX6_isIn_9 : decode cX6_isIn 9 = .ok (.iconst 1, 1) ∧ 9 + 1 = 10 := ⟨by decide +kernel, rfl⟩
theorem iX6_isIn_10 : decode cX6_isIn 10 = .ok (.goto 4, 3) ∧ 10 + 3 = 13 := ⟨by decide +kernel, rfl⟩
theorem iX6_isIn_13 : decode cX6_isIn 13 = .ok (.iconst 0, 1) ∧ 13 + 1 = 14 := ⟨by decide +kernel, rfl⟩
theorem iX6_isIn_14 : decode cX6_isIn 14 = .ok (.ireturn, 1) ∧ 14 + 1 = 15 := ⟨by decide +kernel, rfl⟩
theorem iX6_size_0 : decode cX6_size 0 = .ok (.iconst 0, 1) ∧ 0 + 1 = 1 := ⟨by decide +kernel, rfl⟩
theorem iX6_size_1 : decode cX6_size 1 = .ok (.istore_n 1, 1) ∧ 1 + 1 = 2 := ⟨by decide +kernel, rfl⟩
theorem iX6_size_2 : decode cX6_size 2 = .ok (.iconst 0, 1) ∧ 2 + 1 = 3 := ⟨by decide +kernel, rfl⟩
theorem iX6_size_3 : decode cX6_size 3 = .ok (.istore_n 2, 1) ∧ 3 + 1 = 4 := ⟨by decide +kernel, rfl⟩
theorem iX6_size_4 : decode cX6_size 4 = .ok (.iload_n 2, 1) ∧ 4 + 1 = 5 := ⟨by decide +kernel, rfl⟩
theorem iX6_size_5 : decode cX6_size 5 = .ok (.bipush 12, 2) ∧ 5 + 2 = 7 := ⟨by decide +kernel, rfl⟩
theorem iX6_size_7 : decode cX6_size 7 = .ok (.if_icmp .ge 17, 3) ∧ 7 + 3 = 10 := ⟨by decide +kernel, rfl⟩
theorem iX6_size_10 : decode cX6_size 10 = .ok (.iload_n 1, 1) ∧ 10 + 1 = 11 := ⟨by decide +kernel, rfl⟩
theorem iX6_size_11 : decode cX6_size 11 = .ok (.iload_n 0, 1) ∧ 11 + 1 = 12 := ⟨by decide +kernel, rfl⟩
theorem iX6_size_12 : decode cX6_size 12 = .ok (.iload_n 2, 1) ∧ 12 + 1 = 13 := ⟨by decide +kernel, rfl⟩
theorem iX6_size_13 : decode cX6_size 13 = .ok (.ishr, 1) ∧ 13 + 1 = 14 := ⟨by decide +kernel, rfl⟩
theorem iX6_size_14 : decode cX6_size 14 = .ok (.iconst 1, 1) ∧ 14 + 1 = 15 := ⟨by decide +kernel, rfl⟩
theorem iX6_size_15 : decode cX6_size 15 = .ok (.iand, 1) ∧ 15 + 1 = 16 := ⟨by decide +kernel, rfl⟩
theorem iX6_size_16 : decode cX6_size 16 = .ok (.iadd, 1) ∧ 16 + 1 = 17 := ⟨by decide +kernel, rfl⟩
theorem iX6_size_17 : decode cX6_size 17 = .ok (.istore_n 1, 1) ∧ 17 + 1 = 18 := ⟨by decide +kernel, rfl⟩
theorem iX6_size_18 : decode cX6_size 18 = .ok (.iinc 2 1, 3) ∧ 18 + 3 = 21 := ⟨by decide +kernel, rfl⟩
theorem iX6_size_21 : decode cX6_size 21 = .ok (.goto (-17), 3) ∧ 21 + 3 = 24 := ⟨by decide +kernel, rfl⟩
theorem iX6_size_24 : decode cX6_size 24 = .ok (.iload_n 1, 1) ∧ 24 + 1 = 25 := ⟨by decide +kernel, rfl⟩
theorem iX6_size_25 : decode cX6_size 25 = .ok (.ireturn, 1) ∧ 25 + 1 = 26 := ⟨by decide +kernel, rfl⟩
theorem iX6_letter_0 : decode cX6_letter 0 = .ok (.iload_n 1, 1) ∧ 0 + 1 = 1 := ⟨by decide +kernel, rfl⟩
theorem iX6_letter_1 : decode cX6_letter 1 = .ok (.bipush 32, 2) ∧ 1 + 2 = 3 := ⟨by decide +kernel, rfl⟩
theorem iX6_letter_3 : decode cX6_letter 3 = .ok (.bipush 126, 2) ∧ 3 + 2 = 5 := ⟨by decide +kernel, rfl⟩
theorem iX6_letter_5 : decode cX6_letter 5 = .ok (.invokestatic 68, 3) ∧ 5 + 3 = 8 := ⟨by decide +kernel, rfl⟩
theorem iX6_letter_8 : decode cX6_letter 8 = .ok (.ifCond .ne 6, 3) ∧ 8 + 3 = 11 := ⟨by decide +kernel, rfl⟩
theorem iX6_letter_11 : decode cX6_letter 11 = .ok (.bipush (-102), 2) ∧ 11 + 2 = 13 := ⟨by decide +kernel, rfl⟩
theorem iX6_letter_13 : decode cX6_letter 13 = .ok (.ireturn, 1) ∧ 13 + 1 = 14 := ⟨by decide +kernel, rfl⟩
theorem iX6_letter_14 : decode cX6_letter 14 = .ok (.aload_n 0, 1) ∧ 14 + 1 = 15 := ⟨by decide +kernel, rfl⟩
theorem iX6_letter_15 : decode cX6_letter 15 = .ok (.getfield 72, 3) ∧ 15 + 3 = 18 := ⟨by decide +kernel, rfl⟩
theorem iX6_letter_18 : decode cX6_letter 18 = .ok (.bipush 30, 2) ∧ 18 + 2 = 20 := ⟨by decide +kernel, rfl⟩
theorem iX6_letter_20 : decode cX6_letter 20 = .ok (.if_icmp .ne 6, 3) ∧ 20 + 3 = 23 := ⟨by decide +kernel, rfl⟩
theorem iX6_letter_23 : decode cX6_letter 23 = .ok (.bipush (-104), 2) ∧ 23 + 2 = 25 := ⟨by decide +kernel, rfl⟩
theorem iX6_letter_25 : decode cX6_letter 25 = .ok (.ireturn, 1) ∧ 25 + 1 = 26 := ⟨by decide +kernel, rfl⟩
theorem iX6_letter_26 : decode cX6_letter 26 = .ok (.aload_n 0, 1) ∧ 26 + 1 = 27 := ⟨by decide +kernel, rfl⟩
theorem iX6_letter_27 : decode cX6_letter 27 = .ok (.getfield 28, 3) ∧ 27 + 3 = 30 := ⟨by decide +kernel, rfl⟩
theorem iX6_letter_30 : decode cX6_letter 30 = .ok (.aload_n 0, 1) ∧ 30 + 1 = 31 := ⟨by decide +kernel, rfl⟩
theorem iX6_letter_31 : decode cX6_letter 31 = .ok (.getfield 72, 3) ∧ 31 + 3 = 34 := ⟨by decide +kernel, rfl⟩
theorem iX6_letter_34 : decode cX6_letter 34 = .ok (.iload_n 1, 1) ∧ 34 + 1 = 35 := ⟨by decide +kernel, rfl⟩
theorem iX6_letter_35 : decode cX6_letter 35 = .ok (.i2b, 1) ∧ 35 + 1 = 36 := ⟨by decide +kernel, rfl⟩
theorem iX6_letter_36 : decode cX6_letter 36 = .ok (.bastore, 1) ∧ 36 + 1 = 37 := ⟨by decide +kernel, rfl⟩
theorem iX6_letter_37 : decode cX6_letter 37 = .ok (.aload_n 0, 1) ∧ 37 + 1 = 38 := ⟨by decide +kernel, rfl⟩
theorem iX6_letter_38 : decode cX6_letter 38 = .ok (.dup, 1) ∧ 38 + 1 = 39 := ⟨by decide +kernel, rfl⟩
theorem iX6_letter_39 : decode cX6_letter 39 = .ok (.getfield 72, 3) ∧ 39 + 3 = 42 := ⟨by decide +kernel, rfl⟩
theorem iX6_letter_42 : decode cX6_letter 42 = .ok (.iconst 1, 1) ∧ 42 + 1 = 43 := ⟨by decide +kernel, rfl⟩
theorem iX6_letter_43 : decode cX6_letter 43 = .ok (.iadd, 1) ∧ 43 + 1 = 44 := ⟨by decide +kernel, rfl⟩
theorem iX6_letter_44 : decode cX6_letter 44 = .ok (.putfield 72, 3) ∧ 44 + 3 = 47 := ⟨by decide +kernel, rfl⟩
theorem iX6_letter_47 : decode cX6_letter 47 = .ok (.aload_n 0, 1) ∧ 47 + 1 = 48 := ⟨by decide +kernel, rfl⟩
theorem iX6_letter_48 : decode cX6_letter 48 = .ok (.getfield 72, 3) ∧ 48 + 3 = 51 := ⟨by decide +kernel, rfl⟩
theorem iX6_letter_51 : decode cX6_letter 51 = .ok (.ireturn, 1) ∧ 51 + 1 = 52 := ⟨by decide +kernel, rfl⟩
theorem iX6_blank_0 : decode cX6_blank 0 = .ok (.aload_n 0, 1) ∧ 0 + 1 = 1 := ⟨by decide +kernel, rfl⟩
theorem iX6_blank_1 : decode cX6_blank 1 = .ok (.getfield 72, 3) ∧ 1 + 3 = 4 := ⟨by decide +kernel, rfl⟩
theorem iX6_blank_4 : decode cX6_blank 4 = .ok (.istore_n 1, 1) ∧ 4 + 1 = 5 := ⟨by decide +kernel, rfl⟩
theorem iX6_blank_5 : decode cX6_blank 5 = .ok (.aload_n 0, 1) ∧ 5 + 1 = 6 := ⟨by decide +kernel, rfl⟩
theorem iX6_blank_6 : decode cX6_blank 6 = .ok (.iconst 0, 1) ∧ 6 + 1 = 7 := ⟨by decide +kernel, rfl⟩
theorem iX6_blank_7 : decode cX6_blank 7 = .ok (.putfield 72, 3) ∧ 7 + 3 = 10 := ⟨by decide +kernel, rfl⟩
theorem iX6_blank_10 : decode cX6_blank 10 = .ok (.iload_n 1, 1) ∧ 10 + 1 = 11 := ⟨by decide +kernel, rfl⟩
theorem iX6_blank_11 : decode cX6_blank 11 = .ok (.ireturn, 1) ∧ 11 + 1 = 12 := ⟨by decide +kernel, rfl⟩
theorem iX6_kindBy_0 : decode cX6_kindBy 0 = .ok (.iload_n 0, 1) ∧ 0 + 1 = 1 := ⟨by decide +kernel, rfl⟩
theorem iX6_kindBy_1 : decode cX6_kindBy 1 = .ok (.lookupswitch 61 #[(98, 59), (99, 57), (102, 55), (107, 51), (119, 53)], 51) ∧ 1 + 51 = 52 := ⟨by decide +kernel, rfl⟩
theorem iX6_kindBy_52 : decode cX6_kindBy 52 = .ok (.iconst 0, 1) ∧ 52 + 1 = 53 := ⟨by decide +kernel, rfl⟩
theorem iX6_kindBy_53 : decode cX6_kindBy 53 = .ok (.ireturn, 1) ∧ 53 + 1 = 54 := ⟨by decide +kernel, rfl⟩
theorem iX6_kindBy_54 : decode cX6_kindBy 54 = .ok (.iconst 1, 1) ∧ 54 + 1 = 55 := ⟨by decide +kernel, rfl⟩
theorem iX6_kindBy_55 : decode cX6_kindBy 55 = .ok (.ireturn, 1) ∧ 55 + 1 = 56 := ⟨by decide +kernel, rfl⟩
theorem iX6_kindBy_56 : decode cX6_kindBy 56 = .ok (.iconst 2, 1) ∧ 56 + 1 = 57 := ⟨by decide +kernel, rfl⟩
theorem iX6_kindBy_57 : decode cX6_kindBy 57 = .ok (.ireturn, 1) ∧ 57 + 1 = 58 := ⟨by decide +kernel, rfl⟩
theorem iX6_kindBy_58 : decode cX6_kindBy 58 = .ok (.iconst 3, 1) ∧ 58 + 1 = 59 := ⟨by decide +kernel, rfl⟩
theorem iX6_kindBy_59 : decode cX6_kindBy 59 = .ok (.ireturn, 1) ∧ 59 + 1 = 60 := ⟨by decide +kernel, rfl⟩
theorem iX6_kindBy_60 : decode cX6_kindBy 60 = .ok (.iconst 4, 1) ∧ 60 + 1 = 61 := ⟨by decide +kernel, rfl⟩
theorem iX6_kindBy_61 : decode cX6_kindBy 61 = .ok (.ireturn, 1) ∧ 61 + 1 = 62 := ⟨by decide +kernel, rfl⟩
theorem iX6_kindBy_62 : decode cX6_kindBy 62 = .ok (.iconst (-1), 1) ∧ 62 + 1 = 63 := ⟨by decide +kernel, rfl⟩
theorem iX6_kindBy_63 : decode cX6_kindBy 63 = .ok (.ireturn, 1) ∧ 63 + 1 = 64 := ⟨by decide +kernel, rfl⟩
theorem iX6_at_0 : decode cX6_at 0 = .ok (.iload_n 1, 1) ∧ 0 + 1 = 1 := ⟨by decide +kernel, rfl⟩
theorem iX6_at_1 : decode cX6_at 1 = .ok (.aload_n 0, 1) ∧ 1 + 1 = 2 := ⟨by decide +kernel, rfl⟩
theorem iX6_at_2 : decode cX6_at 2 = .ok (.getfield 72, 3) ∧ 2 + 3 = 5 := ⟨by decide +kernel, rfl⟩
theorem iX6_at_5 : decode cX6_at 5 = .ok (.if_icmp .ge 12, 3) ∧ 5 + 3 = 8 := ⟨by decide +kernel, rfl⟩
theorem iX6_at_8 : decode cX6_at 8 = .ok (.aload_n 0, 1) ∧ 8 + 1 = 9 := ⟨by decide +kernel, rfl⟩
theorem iX6_at_9 : decode cX6_at 9 = .ok (.getfield 28, 3) ∧ 9 + 3 = 12 := ⟨by decide +kernel, rfl⟩
theorem iX6_at_12 : decode cX6_at 12 = .ok (.iload_n 1, 1) ∧ 12 + 1 = 13 := ⟨by decide +kernel, rfl⟩
theorem iX6_at_13 : decode cX6_at 13 = .ok (.baload, 1) ∧ 13 + 1 = 14 := ⟨by decide +kernel, rfl⟩
theorem iX6_at_14 : decode cX6_at 14 = .ok (.goto 4, 3) ∧ 14 + 3 = 17 := ⟨by decide +kernel, rfl⟩
theorem iX6_at_17 : decode cX6_at 17 = .ok (.iconst 0, 1) ∧ 17 + 1 = 18 := ⟨by decide +kernel, rfl⟩
theorem iX6_at_18 : decode cX6_at 18 = .ok (.ireturn, 1) ∧ 18 + 1 = 19 := ⟨by decide +kernel, rfl⟩
theorem iX6_readCells_0 : decode cX6_readCells 0 = .ok (.iconst 0, 1) ∧ 0 + 1 = 1 := ⟨by decide +kernel, rfl⟩
theorem iX6_readCells_1 : decode cX6_readCells 1 = .ok (.istore_n 2, 1) ∧ 1 + 1 = 2 := ⟨by decide +kernel, rfl⟩
theorem iX6_readCells_2 : decode cX6_readCells 2 = .ok (.iload_n 2, 1) ∧ 2 + 1 = 3 := ⟨by decide +kernel, rfl⟩
theorem iX6_readCells_3 : decode cX6_readCells 3 = .ok (.aload_n 0, 1) ∧ 3 + 1 = 4 := ⟨by decide +kernel, rfl⟩
theorem iX6_readCells_4 : decode cX6_readCells 4 = .ok (.getfield 76, 3) ∧ 4 + 3 = 7 := ⟨by decide +kernel, rfl⟩
theorem iX6_readCells_7 : decode cX6_readCells 7 = .ok (.if_icmp .ge 61, 3) ∧ 7 + 3 = 10 := ⟨by decide +kernel, rfl⟩
theorem iX6_readCells_10 : decode cX6_readCells 10 = .ok (.aload_n 0, 1) ∧ 10 + 1 = 11 := ⟨by decide +kernel, rfl⟩
theorem iX6_readCells_11 : decode cX6_readCells 11 = .ok (.iload_n 1, 1) ∧ 11 + 1 = 12 := ⟨by decide +kernel, rfl⟩
theorem iX6_readCells_12 : decode cX6_readCells 12 = .ok (.iload_n 2, 1) ∧ 12 + 1 = 13 := ⟨by decide +kernel, rfl⟩
theorem iX6_readCells_13 : decode cX6_readCells 13 = .ok (.iadd, 1) ∧ 13 + 1 = 14 := ⟨by decide +kernel, rfl⟩
theorem iX6_readCells_14 : decode cX6_readCells 14 = .ok (.invokevirtual 79, 3) ∧ 14 + 3 = 17 := ⟨by decide +kernel, rfl⟩
theorem iX6_readCells_17 : decode cX6_readCells 17 = .ok (.bipush 46, 2) ∧ 17 + 2 = 19 := ⟨by decide +kernel, rfl⟩
theorem iX6_readCells_19 : decode cX6_readCells 19 = .ok (.if_icmp .eq 15, 3) ∧ 19 + 3 = 22 := ⟨by decide +kernel, rfl⟩
theorem iX6_readCells_22 : decode cX6_readCells 22 = .ok (.aload_n 0, 1) ∧ 22 + 1 = 23 := ⟨by decide +kernel, rfl⟩
theorem iX6_readCells_23 : decode cX6_readCells 23 = .ok (.iload_n 1, 1) ∧ 23 + 1 = 24 := ⟨by decide +kernel, rfl⟩
theorem iX6_readCells_24 : decode cX6_readCells 24 = .ok (.iload_n 2, 1) ∧ 24 + 1 = 25 := ⟨by decide +kernel, rfl⟩
theorem iX6_readCells_25 : decode cX6_readCells 25 = .ok (.iadd, 1) ∧ 25 + 1 = 26 := ⟨by decide +kernel, rfl⟩
theorem iX6_readCells_26 : decode cX6_readCells 26 = .ok (.invokevirtual 79, 3) ∧ 26 + 3 = 29 := ⟨by decide +kernel, rfl⟩
theorem iX6_readCells_29 : decode cX6_readCells 29 = .ok (.bipush 35, 2) ∧ 29 + 2 = 31 := ⟨by decide +kernel, rfl⟩
theorem iX6_readCells_31 : decode cX6_readCells 31 = .ok (.if_icmp .ne 37, 3) ∧ 31 + 3 = 34 := ⟨by decide +kernel, rfl⟩
theorem iX6_readCells_34 : decode cX6_readCells 34 = .ok (.aload_n 0, 1) ∧ 34 + 1 = 35 := ⟨by decide +kernel, rfl⟩
theorem iX6_readCells_35 : decode cX6_readCells 35 = .ok (.dup, 1) ∧ 35 + 1 = 36 := ⟨by decide +kernel, rfl⟩
theorem iX6_readCells_36 : decode cX6_readCells 36 = .ok (.getfield 83, 3) ∧ 36 + 3 = 39 := ⟨by decide +kernel, rfl⟩
theorem iX6_readCells_39 : decode cX6_readCells 39 = .ok (.aload_n 0, 1) ∧ 39 + 1 = 40 := ⟨by decide +kernel, rfl⟩
theorem iX6_readCells_40 : decode cX6_readCells 40 = .ok (.iload_n 1, 1) ∧ 40 + 1 = 41 := ⟨by decide +kernel, rfl⟩
theorem iX6_readCells_41 : decode cX6_readCells 41 = .ok (.iload_n 2, 1) ∧ 41 + 1 = 42 := ⟨by decide +kernel, rfl⟩
theorem iX6_readCells_42 : decode cX6_readCells 42 = .ok (.iadd, 1) ∧ 42 + 1 = 43 := ⟨by decide +kernel, rfl⟩
theorem iX6_readCells_43 : decode cX6_readCells 43 = .ok (.invokevirtual 79, 3) ∧ 43 + 3 = 46 := ⟨by decide +kernel, rfl⟩
theorem iX6_readCells_46 : decode cX6_readCells 46 = .ok (.bipush 46, 2) ∧ 46 + 2 = 48 := ⟨by decide +kernel, rfl⟩
theorem iX6_readCells_48 : decode cX6_readCells 48 = .ok (.if_icmp .ne 9, 3) ∧ 48 + 3 = 51 := ⟨by decide +kernel, rfl⟩
theorem iX6_readCells_51 : decode cX6_readCells 51 = .ok (.iconst 1, 1) ∧ 51 + 1 = 52 := ⟨by decide +kernel, rfl⟩
theorem iX6_readCells_52 : decode cX6_readCells 52 = .ok (.iload_n 2, 1) ∧ 52 + 1 = 53 := ⟨by decide +kernel, rfl⟩
theorem iX6_readCells_53 : decode cX6_readCells 53 = .ok (.ishl, 1) ∧ 53 + 1 = 54 := ⟨by decide +kernel, rfl⟩
theorem iX6_readCells_54 : decode cX6_readCells 54 = .ok (.goto 4, 3) ∧ 54 + 3 = 57 := ⟨by decide +kernel, rfl⟩
theorem iX6_readCells_57 : decode cX6_readCells 57 = .ok (.iconst 0, 1) ∧ 57 + 1 = 58 := ⟨by decide +kernel, rfl⟩
theorem iX6_readCells_58 : decode cX6_readCells 58 = .ok (.ior, 1) ∧ 58 + 1 = 59 := ⟨by decide +kernel, rfl⟩
theorem iX6_readCells_59 : decode cX6_readCells 59 = .ok (.putfield 83, 3) ∧ 59 + 3 = 62 := ⟨by decide +kernel, rfl⟩
theorem iX6_readCells_62 : decode cX6_readCells 62 = .ok (.iinc 2 1, 3) ∧ 62 + 3 = 65 := ⟨by decide +kernel, rfl⟩
theorem iX6_readCells_65 : decode cX6_readCells 65 = .ok (.goto (-63), 3) ∧ 65 + 3 = 68 := ⟨by decide +kernel, rfl⟩
theorem iX6_readCells_68 : decode cX6_readCells 68 = .ok (.iload_n 1, 1) ∧ 68 + 1 = 69 := ⟨by decide +kernel, rfl⟩
theorem iX6_readCells_69 : decode cX6_readCells 69 = .ok (.iload_n 2, 1) ∧ 69 + 1 = 70 := ⟨by decide +kernel, rfl⟩
theorem iX6_readCells_70 : decode cX6_readCells 70 = .ok (.iadd, 1) ∧ 70 + 1 = 71 := ⟨by decide +kernel, rfl⟩
theorem iX6_readCells_71 : decode cX6_readCells 71 = .ok (.ireturn, 1) ∧ 71 + 1 = 72 := ⟨by decide +kernel, rfl⟩
theorem iX6_readLeapers_0 : decode cX6_readLeapers 0 = .ok (.aload_n 0, 1) ∧ 0 + 1 = 1 := ⟨by decide +kernel, rfl⟩
theorem iX6_readLeapers_1 : decode cX6_readLeapers 1 = .ok (.getfield 83, 3) ∧ 1 + 3 = 4 := ⟨by decide +kernel, rfl⟩
theorem iX6_readLeapers_4 : decode cX6_readLeapers 4 = .ok (.istore_n 2, 1) ∧ 4 + 1 = 5 := ⟨by decide +kernel, rfl⟩
theorem iX6_readLeapers_5 : decode cX6_readLeapers 5 = .ok (.iload_n 1, 1) ∧ 5 + 1 = 6 := ⟨by decide +kernel, rfl⟩
theorem iX6_readLeapers_6 : decode cX6_readLeapers 6 = .ok (.istore_n 3, 1) ∧ 6 + 1 = 7 := ⟨by decide +kernel, rfl⟩
theorem iX6_readLeapers_7 : decode cX6_readLeapers 7 = .ok (.aload_n 0, 1) ∧ 7 + 1 = 8 := ⟨by decide +kernel, rfl⟩
theorem iX6_readLeapers_8 : decode cX6_readLeapers 8 = .ok (.getfield 86, 3) ∧ 8 + 3 = 11 := ⟨by decide +kernel, rfl⟩
theorem iX6_readLeapers_11 : decode cX6_readLeapers 11 = .ok (.iconst 4, 1) ∧ 11 + 1 = 12 := ⟨by decide +kernel, rfl⟩
theorem iX6_readLeapers_12 : decode cX6_readLeapers 12 = .ok (.if_icmp .ge 122, 3) ∧ 12 + 3 = 15 := ⟨by decide +kernel, rfl⟩
theorem iX6_readLeapers_15 : decode cX6_readLeapers 15 = .ok (.aload_n 0, 1) ∧ 15 + 1 = 16 := ⟨by decide +kernel, rfl⟩
theorem iX6_readLeapers_16 : decode cX6_readLeapers 16 = .ok (.iload_n 3, 1) ∧ 16 + 1 = 17 := ⟨by decide +kernel, rfl⟩
theorem iX6_readLeapers_17 : decode cX6_readLeapers 17 = .ok (.invokevirtual 79, 3) ∧ 17 + 3 = 20 := ⟨by decide +kernel, rfl⟩
theorem iX6_readLeapers_20 : decode cX6_readLeapers 20 = .ok (.invokestatic 89, 3) ∧ 20 + 3 = 23 := ⟨by decide +kernel, rfl⟩
theorem iX6_readLeapers_23 : decode cX6_readLeapers 23 = .ok (.iconst (-1), 1) ∧ 23 + 1 = 24 := ⟨by decide +kernel, rfl⟩
theorem iX6_readLeapers_24 : decode cX6_readLeapers 24 = .ok (.if_icmp .ne 5, 3) ∧ 24 + 3 = 27 := ⟨by decide +kernel, rfl⟩
theorem iX6_readLeapers_27 : decode cX6_readLeapers 27 = .ok (.iload_n 3, 1) ∧ 27 + 1 = 28 := ⟨by decide +kernel, rfl⟩
theorem iX6_readLeapers_28 : decode cX6_readLeapers 28 = .ok (.ireturn, 1) ∧ 28 + 1 = 29 := ⟨by decide +kernel, rfl⟩
theorem iX6_readLeapers_29 : decode cX6_readLeapers 29 = .ok (.aload_n 0, 1) ∧ 29 + 1 = 30 := ⟨by decide +kernel, rfl⟩
theorem iX6_readLeapers_30 : decode cX6_readLeapers 30 = .ok (.iload_n 3, 1) ∧ 30 + 1 = 31 := ⟨by decide +kernel, rfl⟩
theorem iX6_readLeapers_31 : decode cX6_readLeapers 31 = .ok (.iconst 1, 1) ∧ 31 + 1 = 32 := ⟨by decide +kernel, rfl⟩
theorem iX6_readLeapers_32 : decode cX6_readLeapers 32 = .ok (.iadd, 1) ∧ 32 + 1 = 33 := ⟨by decide +kernel, rfl⟩
theorem iX6_readLeapers_33 : decode cX6_readLeapers 33 = .ok (.invokevirtual 79, 3) ∧ 33 + 3 = 36 := ⟨by decide +kernel, rfl⟩
theorem iX6_readLeapers_36 : decode cX6_readLeapers 36 = .ok (.bipush 97, 2) ∧ 36 + 2 = 38 := ⟨by decide +kernel, rfl⟩
theorem iX6_readLeapers_38 : decode cX6_readLeapers 38 = .ok (.isub, 1) ∧ 38 + 1 = 39 := ⟨by decide +kernel, rfl⟩
theorem iX6_readLeapers_39 : decode cX6_readLeapers 39 = .ok (.istore 4, 2) ∧ 39 + 2 = 41 := ⟨by decide +kernel, rfl⟩
theorem iX6_readLeapers_41 : decode cX6_readLeapers 41 = .ok (.iload 4, 2) ∧ 41 + 2 = 43 := ⟨by decide +kernel, rfl⟩
theorem iX6_readLeapers_43 : decode cX6_readLeapers 43 = .ok (.iconst 0, 1) ∧ 43 + 1 = 44 := ⟨by decide +kernel, rfl⟩
theorem iX6_readLeapers_44 : decode cX6_readLeapers 44 = .ok (.aload_n 0, 1) ∧ 44 + 1 = 45 := ⟨by decide +kernel, rfl⟩
theorem iX6_readLeapers_45 : decode cX6_readLeapers 45 = .ok (.getfield 76, 3) ∧ 45 + 3 = 48 := ⟨by decide +kernel, rfl⟩
theorem iX6_readLeapers_48 : decode cX6_readLeapers 48 = .ok (.iconst 1, 1) ∧ 48 + 1 = 49 := ⟨by decide +kernel, rfl⟩
theorem iX6_readLeapers_49 : decode cX6_readLeapers 49 = .ok (.isub, 1) ∧ 49 + 1 = 50 := ⟨by decide +kernel, rfl⟩
theorem iX6_readLeapers_50 : decode cX6_readLeapers 50 = .ok (.invokestatic 68, 3) ∧ 50 + 3 = 53 := ⟨by decide +kernel, rfl⟩
theorem iX6_readLeapers_53 : decode cX6_readLeapers 53 = .ok (.ifCond .eq 12, 3) ∧ 53 + 3 = 56 := ⟨by decide +kernel, rfl⟩
theorem iX6_readLeapers_56 : decode cX6_readLeapers 56 = .ok (.iload_n 2, 1) ∧ 56 + 1 = 57 := ⟨by decide +kernel, rfl⟩
theorem iX6_readLeapers_57 : decode cX6_readLeapers 57 = .ok (.iload 4, 2) ∧ 57 + 2 = 59 := ⟨by decide +kernel, rfl⟩
theorem iX6_readLeapers_59 : decode cX6_readLeapers 59 = .ok (.invokestatic 92, 3) ∧ 59 + 3 = 62 := ⟨by decide +kernel, rfl⟩
theorem iX6_readLeapers_62 : decode cX6_readLeapers 62 = .ok (.ifCond .ne 7, 3) ∧ 62 + 3 = 65 := ⟨by decide +kernel, rfl⟩
theorem iX6_readLeapers_65 : decode cX6_readLeapers 65 = .ok (.iload_n 3, 1) ∧ 65 + 1 = 66 := ⟨by decide +kernel, rfl⟩
theorem iX6_readLeapers_66 : decode cX6_readLeapers 66 = .ok (.iconst 1, 1) ∧ 66 + 1 = 67 := ⟨by decide +kernel, rfl⟩
theorem iX6_readLeapers_67 : decode cX6_readLeapers 67 = .ok (.iadd, 1) ∧ 67 + 1 = 68 := ⟨by decide +kernel, rfl⟩
theorem iX6_readLeapers_68 : decode cX6_readLeapers 68 = .ok (.ireturn, 1) ∧ 68 + 1 = 69 := ⟨by decide +kernel, rfl⟩
theorem iX6_readLeapers_69 : decode cX6_readLeapers 69 = .ok (.iload_n 2, 1) ∧ 69 + 1 = 70 := ⟨by decide +kernel, rfl⟩
theorem iX6_readLeapers_70 : decode cX6_readLeapers 70 = .ok (.iconst 1, 1) ∧ 70 + 1 = 71 := ⟨by decide +kernel, rfl⟩
theorem iX6_readLeapers_71 : decode cX6_readLeapers 71 = .ok (.iload 4, 2) ∧ 71 + 2 = 73 := ⟨by decide +kernel, rfl⟩
theorem iX6_readLeapers_73 : decode cX6_readLeapers 73 = .ok (.ishl, 1) ∧ 73 + 1 = 74 := ⟨by decide +kernel, rfl⟩
theorem iX6_readLeapers_74 : decode cX6_readLeapers 74 = .ok (.iconst (-1), 1) ∧ 74 + 1 = 75 := ⟨by decide +kernel, rfl⟩
theorem iX6_readLeapers_75 : decode cX6_readLeapers 75 = .ok (.ixor, 1) ∧ 75 + 1 = 76 := ⟨by decide +kernel, rfl⟩
theorem iX6_readLeapers_76 : decode cX6_readLeapers 76 = .ok (.iand, 1) ∧ 76 + 1 = 77 := ⟨by decide +kernel, rfl⟩
theorem iX6_readLeapers_77 : decode cX6_readLeapers 77 = .ok (.istore_n 2, 1) ∧ 77 + 1 = 78 := ⟨by decide +kernel, rfl⟩
theorem iX6_readLeapers_78 : decode cX6_readLeapers 78 = .ok (.aload_n 0, 1) ∧ 78 + 1 = 79 := ⟨by decide +kernel, rfl⟩
theorem iX6_readLeapers_79 : decode cX6_readLeapers 79 = .ok (.dup, 1) ∧ 79 + 1 = 80 := ⟨by decide +kernel, rfl⟩
theorem iX6_readLeapers_80 : decode cX6_readLeapers 80 = .ok (.getfield 86, 3) ∧ 80 + 3 = 83 := ⟨by decide +kernel, rfl⟩
theorem iX6_readLeapers_83 : decode cX6_readLeapers 83 = .ok (.iconst 1, 1) ∧ 83 + 1 = 84 := ⟨by decide +kernel, rfl⟩
theorem iX6_readLeapers_84 : decode cX6_readLeapers 84 = .ok (.iadd, 1) ∧ 84 + 1 = 85 := ⟨by decide +kernel, rfl⟩
theorem iX6_readLeapers_85 : decode cX6_readLeapers 85 = .ok (.putfield 86, 3) ∧ 85 + 3 = 88 := ⟨by decide +kernel, rfl⟩
theorem iX6_readLeapers_88 : decode cX6_readLeapers 88 = .ok (.iinc 3 2, 3) ∧ 88 + 3 = 91 := ⟨by decide +kernel, rfl⟩
theorem iX6_readLeapers_91 : decode cX6_readLeapers 91 = .ok (.aload_n 0, 1) ∧ 91 + 1 = 92 := ⟨by decide +kernel, rfl⟩
theorem iX6_readLeapers_92 : decode cX6_readLeapers 92 = .ok (.iload_n 3, 1) ∧ 92 + 1 = 93 := ⟨by decide +kernel, rfl⟩
theorem iX6_readLeapers_93 : decode cX6_readLeapers 93 = .ok (.aload_n 0, 1) ∧ 93 + 1 = 94 := ⟨by decide +kernel, rfl⟩
theorem iX6_readLeapers_94 : decode cX6_readLeapers 94 = .ok (.getfield 72, 3) ∧ 94 + 3 = 97 := ⟨by decide +kernel, rfl⟩
theorem iX6_readLeapers_97 : decode cX6_readLeapers 97 = .ok (.if_icmp .ne 7, 3) ∧ 97 + 3 = 100 := ⟨by decide +kernel, rfl⟩
theorem iX6_readLeapers_100 : decode cX6_readLeapers 100 = .ok (.iconst 1, 1) ∧ 100 + 1 = 101 := ⟨by decide +kernel, rfl⟩
theorem iX6_readLeapers_101 : decode cX6_readLeapers 101 = .ok (.goto 4, 3) ∧ 101 + 3 = 104 := ⟨by decide +kernel, rfl⟩
theorem iX6_readLeapers_104 : decode cX6_readLeapers 104 = .ok (.iconst 0, 1) ∧ 104 + 1 = 105 := ⟨by decide +kernel, rfl⟩
theorem iX6_readLeapers_105 : decode cX6_readLeapers 105 = .ok (.putfield 96, 3) ∧ 105 + 3 = 108 := ⟨by decide +kernel, rfl⟩
theorem iX6_readLeapers_108 : decode cX6_readLeapers 108 = .ok (.aload_n 0, 1) ∧ 108 + 1 = 109 := ⟨by decide +kernel, rfl⟩
theorem iX6_readLeapers_109 : decode cX6_readLeapers 109 = .ok (.getfield 86, 3) ∧ 109 + 3 = 112 := ⟨by decide +kernel, rfl⟩
theorem iX6_readLeapers_112 : decode cX6_readLeapers 112 = .ok (.iconst 4, 1) ∧ 112 + 1 = 113 := ⟨by decide +kernel, rfl⟩
theorem iX6_readLeapers_113 : decode cX6_readLeapers 113 = .ok (.if_icmp .eq 13, 3) ∧ 113 + 3 = 116 := ⟨by decide +kernel, rfl⟩
theorem iX6_readLeapers_116 : decode cX6_readLeapers 116 = .ok (.aload_n 0, 1) ∧ 116 + 1 = 117 := ⟨by decide +kernel, rfl⟩
theorem iX6_readLeapers_117 : decode cX6_readLeapers 117 = .ok (.iload_n 3, 1) ∧ 117 + 1 = 118 := ⟨by decide +kernel, rfl⟩
theorem iX6_readLeapers_118 : decode cX6_readLeapers 118 = .ok (.invokevirtual 79, 3) ∧ 118 + 3 = 121 := ⟨by decide +kernel, rfl⟩
theorem iX6_readLeapers_121 : decode cX6_readLeapers 121 = .ok (.bipush 44, 2) ∧ 121 + 2 = 123 := ⟨by decide +kernel, rfl⟩
theorem iX6_readLeapers_123 : decode cX6_readLeapers 123 = .ok (.if_icmp .eq 5, 3) ∧ 123 + 3 = 126 := ⟨by decide +kernel, rfl⟩
theorem iX6_readLeapers_126 : decode cX6_readLeapers 126 = .ok (.iload_n 3, 1) ∧ 126 + 1 = 127 := ⟨by decide +kernel, rfl⟩
theorem iX6_readLeapers_127 : decode cX6_readLeapers 127 = .ok (.ireturn, 1) ∧ 127 + 1 = 128 := ⟨by decide +kernel, rfl⟩
theorem iX6_readLeapers_128 : decode cX6_readLeapers 128 = .ok (.iinc 3 1, 3) ∧ 128 + 3 = 131 := ⟨by decide +kernel, rfl⟩
theorem iX6_readLeapers_131 : decode cX6_readLeapers 131 = .ok (.goto (-124), 3) ∧ 131 + 3 = 134 := ⟨by decide +kernel, rfl⟩
theorem iX6_readLeapers_134 : decode cX6_readLeapers 134 = .ok (.iload_n 3, 1) ∧ 134 + 1 = 135 := ⟨by decide +kernel, rfl⟩
theorem iX6_readLeapers_135 : decode cX6_readLeapers 135 = .ok (.ireturn, 1) ∧ 135 + 1 = 136 := ⟨by decide +kernel, rfl⟩
theorem iX6_read_0 : decode cX6_read 0 = .ok (.aload_n 0, 1) ∧ 0 + 1 = 1 := ⟨by decide +kernel, rfl⟩
theorem iX6_read_1 : decode cX6_read 1 = .ok (.iconst 0, 1) ∧ 1 + 1 = 2 := ⟨by decide +kernel, rfl⟩
theorem iX6_read_2 : decode cX6_read 2 = .ok (.putfield 96, 3) ∧ 2 + 3 = 5 := ⟨by decide +kernel, rfl⟩
theorem iX6_read_5 : decode cX6_read 5 = .ok (.aload_n 0, 1) ∧ 5 + 1 = 6 := ⟨by decide +kernel, rfl⟩
theorem iX6_read_6 : decode cX6_read 6 = .ok (.iconst 0, 1) ∧ 6 + 1 = 7 := ⟨by decide +kernel, rfl⟩
theorem iX6_read_7 : decode cX6_read 7 = .ok (.putfield 83, 3) ∧ 7 + 3 = 10 := ⟨by decide +kernel, rfl⟩
theorem iX6_read_10 : decode cX6_read 10 = .ok (.aload_n 0, 1) ∧ 10 + 1 = 11 := ⟨by decide +kernel, rfl⟩
theorem iX6_read_11 : decode cX6_read 11 = .ok (.iconst 0, 1) ∧ 11 + 1 = 12 := ⟨by decide +kernel, rfl⟩
theorem iX6_read_12 : decode cX6_read 12 = .ok (.putfield 86, 3) ∧ 12 + 3 = 15 := ⟨by decide +kernel, rfl⟩
theorem iX6_read_15 : decode cX6_read 15 = .ok (.aload_n 0, 1) ∧ 15 + 1 = 16 := ⟨by decide +kernel, rfl⟩
theorem iX6_read_16 : decode cX6_read 16 = .ok (.iconst 0, 1) ∧ 16 + 1 = 17 := ⟨by decide +kernel, rfl⟩
theorem iX6_read_17 : decode cX6_read 17 = .ok (.invokevirtual 79, 3) ∧ 17 + 3 = 20 := ⟨by decide +kernel, rfl⟩
theorem iX6_read_20 : decode cX6_read 20 = .ok (.bipush 48, 2) ∧ 20 + 2 = 22 := ⟨by decide +kernel, rfl⟩
theorem iX6_read_22 : decode cX6_read 22 = .ok (.isub, 1) ∧ 22 + 1 = 23 := ⟨by decide +kernel, rfl⟩
theorem iX6_read_23 : decode cX6_read 23 = .ok (.iconst 2, 1) ∧ 23 + 1 = 24 := ⟨by decide +kernel, rfl⟩
theorem iX6_read_24 : decode cX6_read 24 = .ok (.iconst 3, 1) ∧ 24 + 1 = 25 := ⟨by decide +kernel, rfl⟩
theorem iX6_read_25 : decode cX6_read 25 = .ok (.invokestatic 68, 3) ∧ 25 + 3 = 28 := ⟨by decide +kernel, rfl⟩
theorem iX6_read_28 : decode cX6_read 28 = .ok (.ifCond .ne 5, 3) ∧ 28 + 3 = 31 := ⟨by decide +kernel, rfl⟩
theorem iX6_read_31 : decode cX6_read 31 = .ok (.iconst 0, 1) ∧ 31 + 1 = 32 := ⟨by decide +kernel, rfl⟩
theorem iX6_read_32 : decode cX6_read 32 = .ok (.ireturn, 1) ∧ 32 + 1 = 33 := ⟨by decide +kernel, rfl⟩
theorem iX6_read_33 : decode cX6_read 33 = .ok (.aload_n 0, 1) ∧ 33 + 1 = 34 := ⟨by decide +kernel, rfl⟩
theorem iX6_read_34 : decode cX6_read 34 = .ok (.iconst 1, 1) ∧ 34 + 1 = 35 := ⟨by decide +kernel, rfl⟩
theorem iX6_read_35 : decode cX6_read 35 = .ok (.invokevirtual 79, 3) ∧ 35 + 3 = 38 := ⟨by decide +kernel, rfl⟩
theorem iX6_read_38 : decode cX6_read 38 = .ok (.bipush 48, 2) ∧ 38 + 2 = 40 := ⟨by decide +kernel, rfl⟩
theorem iX6_read_40 : decode cX6_read 40 = .ok (.isub, 1) ∧ 40 + 1 = 41 := ⟨by decide +kernel, rfl⟩
theorem iX6_read_41 : decode cX6_read 41 = .ok (.iconst 2, 1) ∧ 41 + 1 = 42 := ⟨by decide +kernel, rfl⟩
theorem iX6_read_42 : decode cX6_read 42 = .ok (.iconst 4, 1) ∧ 42 + 1 = 43 := ⟨by decide +kernel, rfl⟩
theorem iX6_read_43 : decode cX6_read 43 = .ok (.invokestatic 68, 3) ∧ 43 + 3 = 46 := ⟨by decide +kernel, rfl⟩
theorem iX6_read_46 : decode cX6_read 46 = .ok (.ifCond .ne 5, 3) ∧ 46 + 3 = 49 := ⟨by decide +kernel, rfl⟩
theorem iX6_read_49 : decode cX6_read 49 = .ok (.iconst 1, 1) ∧ 49 + 1 = 50 := ⟨by decide +kernel, rfl⟩
theorem iX6_read_50 : decode cX6_read 50 = .ok (.ireturn, 1) ∧ 50 + 1 = 51 := ⟨by decide +kernel, rfl⟩
theorem iX6_read_51 : decode cX6_read 51 = .ok (.aload_n 0, 1) ∧ 51 + 1 = 52 := ⟨by decide +kernel, rfl⟩
theorem iX6_read_52 : decode cX6_read 52 = .ok (.iconst 2, 1) ∧ 52 + 1 = 53 := ⟨by decide +kernel, rfl⟩
theorem iX6_read_53 : decode cX6_read 53 = .ok (.invokevirtual 79, 3) ∧ 53 + 3 = 56 := ⟨by decide +kernel, rfl⟩
theorem iX6_read_56 : decode cX6_read 56 = .ok (.bipush 59, 2) ∧ 56 + 2 = 58 := ⟨by decide +kernel, rfl⟩
theorem iX6_read_58 : decode cX6_read 58 = .ok (.if_icmp .eq 5, 3) ∧ 58 + 3 = 61 := ⟨by decide +kernel, rfl⟩
theorem iX6_read_61 : decode cX6_read 61 = .ok (.iconst 2, 1) ∧ 61 + 1 = 62 := ⟨by decide +kernel, rfl⟩
theorem iX6_read_62 : decode cX6_read 62 = .ok (.ireturn, 1) ∧ 62 + 1 = 63 := ⟨by decide +kernel, rfl⟩
theorem iX6_read_63 : decode cX6_read 63 = .ok (.aload_n 0, 1) ∧ 63 + 1 = 64 := ⟨by decide +kernel, rfl⟩
theorem iX6_read_64 : decode cX6_read 64 = .ok (.aload_n 0, 1) ∧ 64 + 1 = 65 := ⟨by decide +kernel, rfl⟩
theorem iX6_read_65 : decode cX6_read 65 = .ok (.iconst 0, 1) ∧ 65 + 1 = 66 := ⟨by decide +kernel, rfl⟩
theorem iX6_read_66 : decode cX6_read 66 = .ok (.invokevirtual 79, 3) ∧ 66 + 3 = 69 := ⟨by decide +kernel, rfl⟩
theorem iX6_read_69 : decode cX6_read 69 = .ok (.bipush 48, 2) ∧ 69 + 2 = 71 := ⟨by decide +kernel, rfl⟩
theorem iX6_read_71 : decode cX6_read 71 = .ok (.isub, 1) ∧ 71 + 1 = 72 := ⟨by decide +kernel, rfl⟩
theorem iX6_read_72 : decode cX6_read 72 = .ok (.aload_n 0, 1) ∧ 72 + 1 = 73 := ⟨by decide +kernel, rfl⟩
theorem iX6_read_73 : decode cX6_read 73 = .ok (.iconst 1, 1) ∧ 73 + 1 = 74 := ⟨by decide +kernel, rfl⟩
theorem iX6_read_74 : decode cX6_read 74 = .ok (.invokevirtual 79, 3) ∧ 74 + 3 = 77 := ⟨by decide +kernel, rfl⟩
theorem iX6_read_77 : decode cX6_read 77 = .ok (.bipush 48, 2) ∧ 77 + 2 = 79 := ⟨by decide +kernel, rfl⟩
theorem iX6_read_79 : decode cX6_read 79 = .ok (.isub, 1) ∧ 79 + 1 = 80 := ⟨by decide +kernel, rfl⟩
theorem iX6_read_80 : decode cX6_read 80 = .ok (.imul, 1) ∧ 80 + 1 = 81 := ⟨by decide +kernel, rfl⟩
theorem iX6_read_81 : decode cX6_read 81 = .ok (.putfield 76, 3) ∧ 81 + 3 = 84 := ⟨by decide +kernel, rfl⟩
theorem iX6_read_84 : decode cX6_read 84 = .ok (.aload_n 0, 1) ∧ 84 + 1 = 85 := ⟨by decide +kernel, rfl⟩
theorem iX6_read_85 : decode cX6_read 85 = .ok (.iconst 3, 1) ∧ 85 + 1 = 86 := ⟨by decide +kernel, rfl⟩
theorem iX6_read_86 : decode cX6_read 86 = .ok (.invokevirtual 100, 3) ∧ 86 + 3 = 89 := ⟨by decide +kernel, rfl⟩
theorem iX6_read_89 : decode cX6_read 89 = .ok (.istore_n 1, 1) ∧ 89 + 1 = 90 := ⟨by decide +kernel, rfl⟩
theorem iX6_read_90 : decode cX6_read 90 = .ok (.iload_n 1, 1) ∧ 90 + 1 = 91 := ⟨by decide +kernel, rfl⟩
theorem iX6_read_91 : decode cX6_read 91 = .ok (.iconst 3, 1) ∧ 91 + 1 = 92 := ⟨by decide +kernel, rfl⟩
theorem iX6_read_92 : decode cX6_read 92 = .ok (.aload_n 0, 1) ∧ 92 + 1 = 93 := ⟨by decide +kernel, rfl⟩
theorem iX6_read_93 : decode cX6_read 93 = .ok (.getfield 76, 3) ∧ 93 + 3 = 96 := ⟨by decide +kernel, rfl⟩
theorem iX6_read_96 : decode cX6_read 96 = .ok (.iadd, 1) ∧ 96 + 1 = 97 := ⟨by decide +kernel, rfl⟩
theorem iX6_read_97 : decode cX6_read 97 = .ok (.if_icmp .lt 13, 3) ∧ 97 + 3 = 100 := ⟨by decide +kernel, rfl⟩
theorem iX6_read_100 : decode cX6_read 100 = .ok (.aload_n 0, 1) ∧ 100 + 1 = 101 := ⟨by decide +kernel, rfl⟩
theorem iX6_read_101 : decode cX6_read 101 = .ok (.iload_n 1, 1) ∧ 101 + 1 = 102 := ⟨by decide +kernel, rfl⟩
theorem iX6_read_102 : decode cX6_read 102 = .ok (.invokevirtual 79, 3) ∧ 102 + 3 = 105 := ⟨by decide +kernel, rfl⟩
theorem iX6_read_105 : decode cX6_read 105 = .ok (.bipush 59, 2) ∧ 105 + 2 = 107 := ⟨by decide +kernel, rfl⟩
theorem iX6_read_107 : decode cX6_read 107 = .ok (.if_icmp .eq 5, 3) ∧ 107 + 3 = 110 := ⟨by decide +kernel, rfl⟩
theorem iX6_read_110 : decode cX6_read 110 = .ok (.iload_n 1, 1) ∧ 110 + 1 = 111 := ⟨by decide +kernel, rfl⟩
theorem iX6_read_111 : decode cX6_read 111 = .ok (.ireturn, 1) ∧ 111 + 1 = 112 := ⟨by decide +kernel, rfl⟩
theorem iX6_read_112 : decode cX6_read 112 = .ok (.aload_n 0, 1) ∧ 112 + 1 = 113 := ⟨by decide +kernel, rfl⟩
theorem iX6_read_113 : decode cX6_read 113 = .ok (.iload_n 1, 1) ∧ 113 + 1 = 114 := ⟨by decide +kernel, rfl⟩
theorem iX6_read_114 : decode cX6_read 114 = .ok (.iconst 1, 1) ∧ 114 + 1 = 115 := ⟨by decide +kernel, rfl⟩
theorem iX6_read_115 : decode cX6_read 115 = .ok (.iadd, 1) ∧ 115 + 1 = 116 := ⟨by decide +kernel, rfl⟩
theorem iX6_read_116 : decode cX6_read 116 = .ok (.invokevirtual 103, 3) ∧ 116 + 3 = 119 := ⟨by decide +kernel, rfl⟩
theorem iX6_read_119 : decode cX6_read 119 = .ok (.ireturn, 1) ∧ 119 + 1 = 120 := ⟨by decide +kernel, rfl⟩
theorem iX6_fault_0 : decode cX6_fault 0 = .ok (.aload_n 0, 1) ∧ 0 + 1 = 1 := ⟨by decide +kernel, rfl⟩
theorem iX6_fault_1 : decode cX6_fault 1 = .ok (.invokevirtual 106, 3) ∧ 1 + 3 = 4 := ⟨by decide +kernel, rfl⟩
theorem iX6_fault_4 : decode cX6_fault 4 = .ok (.ireturn, 1) ∧ 4 + 1 = 5 := ⟨by decide +kernel, rfl⟩
theorem iX6_board_0 : decode cX6_board 0 = .ok (.aload_n 0, 1) ∧ 0 + 1 = 1 := ⟨by decide +kernel, rfl⟩
theorem iX6_board_1 : decode cX6_board 1 = .ok (.invokevirtual 106, 3) ∧ 1 + 3 = 4 := ⟨by decide +kernel, rfl⟩
theorem iX6_board_4 : decode cX6_board 4 = .ok (.pop, 1) ∧ 4 + 1 = 5 := ⟨by decide +kernel, rfl⟩
theorem iX6_board_5 : decode cX6_board 5 = .ok (.aload_n 0, 1) ∧ 5 + 1 = 6 := ⟨by decide +kernel, rfl⟩
theorem iX6_board_6 : decode cX6_board 6 = .ok (.getfield 96, 3) ∧ 6 + 3 = 9 := ⟨by decide +kernel, rfl⟩
theorem iX6_board_9 : decode cX6_board 9 = .ok (.ifCond .ne 6, 3) ∧ 9 + 3 = 12 := ⟨by decide +kernel, rfl⟩
theorem iX6_board_12 : decode cX6_board 12 = .ok (.bipush (-103), 2) ∧ 12 + 2 = 14 := ⟨by decide +kernel, rfl⟩
theorem iX6_board_14 : decode cX6_board 14 = .ok (.ireturn, 1) ∧ 14 + 1 = 15 := ⟨by decide +kernel, rfl⟩
theorem iX6_board_15 : decode cX6_board 15 = .ok (.aload_n 0, 1) ∧ 15 + 1 = 16 := ⟨by decide +kernel, rfl⟩
theorem iX6_board_16 : decode cX6_board 16 = .ok (.aload_n 0, 1) ∧ 16 + 1 = 17 := ⟨by decide +kernel, rfl⟩
theorem iX6_board_17 : decode cX6_board 17 = .ok (.getfield 28, 3) ∧ 17 + 3 = 20 := ⟨by decide +kernel, rfl⟩
theorem iX6_board_20 : decode cX6_board 20 = .ok (.iconst 0, 1) ∧ 20 + 1 = 21 := ⟨by decide +kernel, rfl⟩
theorem iX6_board_21 : decode cX6_board 21 = .ok (.baload, 1) ∧ 21 + 1 = 22 := ⟨by decide +kernel, rfl⟩
theorem iX6_board_22 : decode cX6_board 22 = .ok (.bipush 48, 2) ∧ 22 + 2 = 24 := ⟨by decide +kernel, rfl⟩
theorem iX6_board_24 : decode cX6_board 24 = .ok (.isub, 1) ∧ 24 + 1 = 25 := ⟨by decide +kernel, rfl⟩
theorem iX6_board_25 : decode cX6_board 25 = .ok (.putfield 110, 3) ∧ 25 + 3 = 28 := ⟨by decide +kernel, rfl⟩
theorem iX6_board_28 : decode cX6_board 28 = .ok (.aload_n 0, 1) ∧ 28 + 1 = 29 := ⟨by decide +kernel, rfl⟩
theorem iX6_board_29 : decode cX6_board 29 = .ok (.aload_n 0, 1) ∧ 29 + 1 = 30 := ⟨by decide +kernel, rfl⟩
theorem iX6_board_30 : decode cX6_board 30 = .ok (.getfield 28, 3) ∧ 30 + 3 = 33 := ⟨by decide +kernel, rfl⟩
theorem iX6_board_33 : decode cX6_board 33 = .ok (.iconst 1, 1) ∧ 33 + 1 = 34 := ⟨by decide +kernel, rfl⟩
theorem iX6_board_34 : decode cX6_board 34 = .ok (.baload, 1) ∧ 34 + 1 = 35 := ⟨by decide +kernel, rfl⟩
theorem iX6_board_35 : decode cX6_board 35 = .ok (.bipush 48, 2) ∧ 35 + 2 = 37 := ⟨by decide +kernel, rfl⟩
theorem iX6_board_37 : decode cX6_board 37 = .ok (.isub, 1) ∧ 37 + 1 = 38 := ⟨by decide +kernel, rfl⟩
theorem iX6_board_38 : decode cX6_board 38 = .ok (.putfield 113, 3) ∧ 38 + 3 = 41 := ⟨by decide +kernel, rfl⟩
theorem iX6_board_41 : decode cX6_board 41 = .ok (.aload_n 0, 1) ∧ 41 + 1 = 42 := ⟨by decide +kernel, rfl⟩
theorem iX6_board_42 : decode cX6_board 42 = .ok (.aload_n 0, 1) ∧ 42 + 1 = 43 := ⟨by decide +kernel, rfl⟩
theorem iX6_board_43 : decode cX6_board 43 = .ok (.getfield 83, 3) ∧ 43 + 3 = 46 := ⟨by decide +kernel, rfl⟩
theorem iX6_board_46 : decode cX6_board 46 = .ok (.putfield 116, 3) ∧ 46 + 3 = 49 := ⟨by decide +kernel, rfl⟩
theorem iX6_board_49 : decode cX6_board 49 = .ok (.aload_n 0, 1) ∧ 49 + 1 = 50 := ⟨by decide +kernel, rfl⟩
theorem iX6_board_50 : decode cX6_board 50 = .ok (.aload_n 0, 1) ∧ 50 + 1 = 51 := ⟨by decide +kernel, rfl⟩
theorem iX6_board_51 : decode cX6_board 51 = .ok (.getfield 86, 3) ∧ 51 + 3 = 54 := ⟨by decide +kernel, rfl⟩
theorem iX6_board_54 : decode cX6_board 54 = .ok (.putfield 119, 3) ∧ 54 + 3 = 57 := ⟨by decide +kernel, rfl⟩
theorem iX6_board_57 : decode cX6_board 57 = .ok (.iconst 0, 1) ∧ 57 + 1 = 58 := ⟨by decide +kernel, rfl⟩
theorem iX6_board_58 : decode cX6_board 58 = .ok (.istore_n 1, 1) ∧ 58 + 1 = 59 := ⟨by decide +kernel, rfl⟩
theorem iX6_board_59 : decode cX6_board 59 = .ok (.iload_n 1, 1) ∧ 59 + 1 = 60 := ⟨by decide +kernel, rfl⟩
theorem iX6_board_60 : decode cX6_board 60 = .ok (.aload_n 0, 1) ∧ 60 + 1 = 61 := ⟨by decide +kernel, rfl⟩
theorem iX6_board_61 : decode cX6_board 61 = .ok (.getfield 119, 3) ∧ 61 + 3 = 64 := ⟨by decide +kernel, rfl⟩
theorem iX6_board_64 : decode cX6_board 64 = .ok (.if_icmp .ge 52, 3) ∧ 64 + 3 = 67 := ⟨by decide +kernel, rfl⟩
theorem iX6_board_67 : decode cX6_board 67 = .ok (.iconst 4, 1) ∧ 67 + 1 = 68 := ⟨by decide +kernel, rfl⟩
theorem iX6_board_68 : decode cX6_board 68 = .ok (.aload_n 0, 1) ∧ 68 + 1 = 69 := ⟨by decide +kernel, rfl⟩
theorem iX6_board_69 : decode cX6_board 69 = .ok (.getfield 76, 3) ∧ 69 + 3 = 72 := ⟨by decide +kernel, rfl⟩
theorem iX6_board_72 : decode cX6_board 72 = .ok (.iadd, 1) ∧ 72 + 1 = 73 := ⟨by decide +kernel, rfl⟩
theorem iX6_board_73 : decode cX6_board 73 = .ok (.iconst 3, 1) ∧ 73 + 1 = 74 := ⟨by decide +kernel, rfl⟩
theorem iX6_board_74 : decode cX6_board 74 = .ok (.iload_n 1, 1) ∧ 74 + 1 = 75 := ⟨by decide +kernel, rfl⟩
theorem iX6_board_75 : decode cX6_board 75 = .ok (.imul, 1) ∧ 75 + 1 = 76 := ⟨by decide +kernel, rfl⟩
theorem iX6_board_76 : decode cX6_board 76 = .ok (.iadd, 1) ∧ 76 + 1 = 77 := ⟨by decide +kernel, rfl⟩
theorem iX6_board_77 : decode cX6_board 77 = .ok (.istore_n 2, 1) ∧ 77 + 1 = 78 := ⟨by decide +kernel, rfl⟩
theorem iX6_board_78 : decode cX6_board 78 = .ok (.aload_n 0, 1) ∧ 78 + 1 = 79 := ⟨by decide +kernel, rfl⟩
theorem iX6_board_79 : decode cX6_board 79 = .ok (.getfield 7, 3) ∧ 79 + 3 = 82 := ⟨by decide +kernel, rfl⟩
theorem iX6_board_82 : decode cX6_board 82 = .ok (.iload_n 1, 1) ∧ 82 + 1 = 83 := ⟨by decide +kernel, rfl⟩
theorem iX6_board_83 : decode cX6_board 83 = .ok (.aload_n 0, 1) ∧ 83 + 1 = 84 := ⟨by decide +kernel, rfl⟩
theorem iX6_board_84 : decode cX6_board 84 = .ok (.getfield 28, 3) ∧ 84 + 3 = 87 := ⟨by decide +kernel, rfl⟩
theorem iX6_board_87 : decode cX6_board 87 = .ok (.iload_n 2, 1) ∧ 87 + 1 = 88 := ⟨by decide +kernel, rfl⟩
theorem iX6_board_88 : decode cX6_board 88 = .ok (.baload, 1) ∧ 88 + 1 = 89 := ⟨by decide +kernel, rfl⟩
theorem iX6_board_89 : decode cX6_board 89 = .ok (.invokestatic 89, 3) ∧ 89 + 3 = 92 := ⟨by decide +kernel, rfl⟩
theorem iX6_board_92 : decode cX6_board 92 = .ok (.iastore, 1) ∧ 92 + 1 = 93 := ⟨by decide +kernel, rfl⟩
theorem iX6_board_93 : decode cX6_board 93 = .ok (.aload_n 0, 1) ∧ 93 + 1 = 94 := ⟨by decide +kernel, rfl⟩
theorem iX6_board_94 : decode cX6_board 94 = .ok (.getfield 13, 3) ∧ 94 + 3 = 97 := ⟨by decide +kernel, rfl⟩
theorem iX6_board_97 : decode cX6_board 97 = .ok (.iload_n 1, 1) ∧ 97 + 1 = 98 := ⟨by decide +kernel, rfl⟩
theorem iX6_board_98 : decode cX6_board 98 = .ok (.aload_n 0, 1) ∧ 98 + 1 = 99 := ⟨by decide +kernel, rfl⟩
theorem iX6_board_99 : decode cX6_board 99 = .ok (.getfield 28, 3) ∧ 99 + 3 = 102 := ⟨by decide +kernel, rfl⟩
theorem iX6_board_102 : decode cX6_board 102 = .ok (.iload_n 2, 1) ∧ 102 + 1 = 103 := ⟨by decide +kernel, rfl⟩
theorem iX6_board_103 : decode cX6_board 103 = .ok (.iconst 1, 1) ∧ 103 + 1 = 104 := ⟨by decide +kernel, rfl⟩
theorem iX6_board_104 : decode cX6_board 104 = .ok (.iadd, 1) ∧ 104 + 1 = 105 := ⟨by decide +kernel, rfl⟩
theorem iX6_board_105 : decode cX6_board 105 = .ok (.baload, 1) ∧ 105 + 1 = 106 := ⟨by decide +kernel, rfl⟩
theorem iX6_board_106 : decode cX6_board 106 = .ok (.bipush 97, 2) ∧ 106 + 2 = 108 := ⟨by decide +kernel, rfl⟩
theorem iX6_board_108 : decode cX6_board 108 = .ok (.isub, 1) ∧ 108 + 1 = 109 := ⟨by decide +kernel, rfl⟩
theorem iX6_board_109 : decode cX6_board 109 = .ok (.iastore, 1) ∧ 109 + 1 = 110 := ⟨by decide +kernel, rfl⟩
theorem iX6_board_110 : decode cX6_board 110 = .ok (.iinc 1 1, 3) ∧ 110 + 3 = 113 := ⟨by decide +kernel, rfl⟩
theorem iX6_board_113 : decode cX6_board 113 = .ok (.goto (-54), 3) ∧ 113 + 3 = 116 := ⟨by decide +kernel, rfl⟩
theorem iX6_board_116 : decode cX6_board 116 = .ok (.aload_n 0, 1) ∧ 116 + 1 = 117 := ⟨by decide +kernel, rfl⟩
theorem iX6_board_117 : decode cX6_board 117 = .ok (.iconst 0, 1) ∧ 117 + 1 = 118 := ⟨by decide +kernel, rfl⟩
theorem iX6_board_118 : decode cX6_board 118 = .ok (.putfield 122, 3) ∧ 118 + 3 = 121 := ⟨by decide +kernel, rfl⟩
theorem iX6_board_121 : decode cX6_board 121 = .ok (.aload_n 0, 1) ∧ 121 + 1 = 122 := ⟨by decide +kernel, rfl⟩
theorem iX6_board_122 : decode cX6_board 122 = .ok (.dup, 1) ∧ 122 + 1 = 123 := ⟨by decide +kernel, rfl⟩
theorem iX6_board_123 : decode cX6_board 123 = .ok (.getfield 125, 3) ∧ 123 + 3 = 126 := ⟨by decide +kernel, rfl⟩
theorem iX6_board_126 : decode cX6_board 126 = .ok (.iconst 1, 1) ∧ 126 + 1 = 127 := ⟨by decide +kernel, rfl⟩
theorem iX6_board_127 : decode cX6_board 127 = .ok (.iadd, 1) ∧ 127 + 1 = 128 := ⟨by decide +kernel, rfl⟩
theorem iX6_board_128 : decode cX6_board 128 = .ok (.putfield 125, 3) ∧ 128 + 3 = 131 := ⟨by decide +kernel, rfl⟩
theorem iX6_board_131 : decode cX6_board 131 = .ok (.aload_n 0, 1) ∧ 131 + 1 = 132 := ⟨by decide +kernel, rfl⟩
theorem iX6_board_132 : decode cX6_board 132 = .ok (.iconst 0, 1) ∧ 132 + 1 = 133 := ⟨by decide +kernel, rfl⟩
theorem iX6_board_133 : decode cX6_board 133 = .ok (.putfield 128, 3) ∧ 133 + 3 = 136 := ⟨by decide +kernel, rfl⟩
theorem iX6_board_136 : decode cX6_board 136 = .ok (.aload_n 0, 1) ∧ 136 + 1 = 137 := ⟨by decide +kernel, rfl⟩
theorem iX6_board_137 : decode cX6_board 137 = .ok (.iconst 0, 1) ∧ 137 + 1 = 138 := ⟨by decide +kernel, rfl⟩
theorem iX6_board_138 : decode cX6_board 138 = .ok (.putfield 72, 3) ∧ 138 + 3 = 141 := ⟨by decide +kernel, rfl⟩
theorem iX6_board_141 : decode cX6_board 141 = .ok (.aload_n 0, 1) ∧ 141 + 1 = 142 := ⟨by decide +kernel, rfl⟩
theorem iX6_board_142 : decode cX6_board 142 = .ok (.invokevirtual 131, 3) ∧ 142 + 3 = 145 := ⟨by decide +kernel, rfl⟩
theorem iX6_board_145 : decode cX6_board 145 = .ok (.ireturn, 1) ∧ 145 + 1 = 146 := ⟨by decide +kernel, rfl⟩
theorem iX6_cells_0 : decode cX6_cells 0 = .ok (.aload_n 0, 1) ∧ 0 + 1 = 1 := ⟨by decide +kernel, rfl⟩
theorem iX6_cells_1 : decode cX6_cells 1 = .ok (.getfield 110, 3) ∧ 1 + 3 = 4 := ⟨by decide +kernel, rfl⟩
theorem iX6_cells_4 : decode cX6_cells 4 = .ok (.aload_n 0, 1) ∧ 4 + 1 = 5 := ⟨by decide +kernel, rfl⟩
theorem iX6_cells_5 : decode cX6_cells 5 = .ok (.getfield 113, 3) ∧ 5 + 3 = 8 := ⟨by decide +kernel, rfl⟩
theorem iX6_cells_8 : decode cX6_cells 8 = .ok (.imul, 1) ∧ 8 + 1 = 9 := ⟨by decide +kernel, rfl⟩
theorem iX6_cells_9 : decode cX6_cells 9 = .ok (.ireturn, 1) ∧ 9 + 1 = 10 := ⟨by decide +kernel, rfl⟩
theorem iX6_isLeaper_0 : decode cX6_isLeaper 0 = .ok (.iload_n 1, 1) ∧ 0 + 1 = 1 := ⟨by decide +kernel, rfl⟩
theorem iX6_isLeaper_1 : decode cX6_isLeaper 1 = .ok (.iconst 0, 1) ∧ 1 + 1 = 2 := ⟨by decide +kernel, rfl⟩
theorem iX6_isLeaper_2 : decode cX6_isLeaper 2 = .ok (.aload_n 0, 1) ∧ 2 + 1 = 3 := ⟨by decide +kernel, rfl⟩
theorem iX6_isLeaper_3 : decode cX6_isLeaper 3 = .ok (.getfield 119, 3) ∧ 3 + 3 = 6 := ⟨by decide +kernel, rfl⟩
theorem iX6_isLeaper_6 : decode cX6_isLeaper 6 = .ok (.iconst 1, 1) ∧ 6 + 1 = 7 := ⟨by decide +kernel, rfl⟩
theorem iX6_isLeaper_7 : decode cX6_isLeaper 7 = .ok (.isub, 1) ∧ 7 + 1 = 8 := ⟨by decide +kernel, rfl⟩
theorem iX6_isLeaper_8 : decode cX6_isLeaper 8 = .ok (.invokestatic 68, 3) ∧ 8 + 3 = 11 := ⟨by decide +kernel, rfl⟩
theorem iX6_isLeaper_11 : decode cX6_isLeaper 11 = .ok (.ireturn, 1) ∧ 11 + 1 = 12 := ⟨by decide +kernel, rfl⟩
theorem iX6_isCell_0 : decode cX6_isCell 0 = .ok (.iload_n 1, 1) ∧ 0 + 1 = 1 := ⟨by decide +kernel, rfl⟩
theorem iX6_isCell_1 : decode cX6_isCell 1 = .ok (.iconst 0, 1) ∧ 1 + 1 = 2 := ⟨by decide +kernel, rfl⟩
theorem iX6_isCell_2 : decode cX6_isCell 2 = .ok (.aload_n 0, 1) ∧ 2 + 1 = 3 := ⟨by decide +kernel, rfl⟩
theorem iX6_isCell_3 : decode cX6_isCell 3 = .ok (.invokevirtual 131, 3) ∧ 3 + 3 = 6 := ⟨by decide +kernel, rfl⟩
theorem iX6_isCell_6 : decode cX6_isCell 6 = .ok (.iconst 1, 1) ∧ 6 + 1 = 7 := ⟨by decide +kernel, rfl⟩
theorem iX6_isCell_7 : decode cX6_isCell 7 = .ok (.isub, 1) ∧ 7 + 1 = 8 := ⟨by decide +kernel, rfl⟩
theorem iX6_isCell_8 : decode cX6_isCell 8 = .ok (.invokestatic 68, 3) ∧ 8 + 3 = 11 := ⟨by decide +kernel, rfl⟩
theorem iX6_isCell_11 : decode cX6_isCell 11 = .ok (.ireturn, 1) ∧ 11 + 1 = 12 := ⟨by decide +kernel, rfl⟩
theorem iX6_isBy_0 : decode cX6_isBy 0 = .ok (.iload_n 0, 1) ∧ 0 + 1 = 1 := ⟨by decide +kernel, rfl⟩
theorem iX6_isBy_1 : decode cX6_isBy 1 = .ok (.iload_n 2, 1) ∧ 1 + 1 = 2 := ⟨by decide +kernel, rfl⟩
theorem iX6_isBy_2 : decode cX6_isBy 2 = .ok (.if_icmp .ne 8, 3) ∧ 2 + 3 = 5 := ⟨by decide +kernel, rfl⟩
theorem iX6_isBy_5 : decode cX6_isBy 5 = .ok (.iload_n 1, 1) ∧ 5 + 1 = 6 := ⟨by decide +kernel, rfl⟩
theorem iX6_isBy_6 : decode cX6_isBy 6 = .ok (.iload_n 3, 1) ∧ 6 + 1 = 7 := ⟨by decide +kernel, rfl⟩
theorem iX6_isBy_7 : decode cX6_isBy 7 = .ok (.if_icmp .eq 13, 3) ∧ 7 + 3 = 10 := ⟨by decide +kernel, rfl⟩
theorem iX6_isBy_10 : decode cX6_isBy 10 = .ok (.iload_n 0, 1) ∧ 10 + 1 = 11 := ⟨by decide +kernel, rfl⟩
theorem iX6_isBy_11 : decode cX6_isBy 11 = .ok (.iload_n 3, 1) ∧ 11 + 1 = 12 := ⟨by decide +kernel, rfl⟩
theorem iX6_isBy_12 : decode cX6_isBy 12 = .ok (.if_icmp .ne 12, 3) ∧ 12 + 3 = 15 := ⟨by decide +kernel, rfl⟩
theorem iX6_isBy_15 : decode cX6_isBy 15 = .ok (.iload_n 1, 1) ∧ 15 + 1 = 16 := ⟨by decide +kernel, rfl⟩
theorem iX6_isBy_16 : decode cX6_isBy 16 = .ok (.iload_n 2, 1) ∧ 16 + 1 = 17 := ⟨by decide +kernel, rfl⟩
theorem iX6_isBy_17 : decode cX6_isBy 17 = .ok (.if_icmp .ne 7, 3) ∧ 17 + 3 = 20 := ⟨by decide +kernel, rfl⟩
theorem iX6_isBy_20 : decode cX6_isBy 20 = .ok (.iconst 1, 1) ∧ 20 + 1 = 21 := ⟨by decide +kernel, rfl⟩
theorem iX6_isBy_21 : decode cX6_isBy 21 = .ok (.goto 4, 3) ∧ 21 + 3 = 24 := ⟨by decide +kernel, rfl⟩
theorem iX6_isBy_24 : decode cX6_isBy 24 = .ok (.iconst 0, 1) ∧ 24 + 1 = 25 := ⟨by decide +kernel, rfl⟩
theorem iX6_isBy_25 : decode cX6_isBy 25 = .ok (.ireturn, 1) ∧ 25 + 1 = 26 := ⟨by decide +kernel, rfl⟩
theorem iX6_canBy_0 : decode cX6_canBy 0 = .ok (.iload_n 0, 1) ∧ 0 + 1 = 1 := ⟨by decide +kernel, rfl⟩
theorem iX6_canBy_1 : decode cX6_canBy 1 = .ok (.tableswitch 81 1 4 #[31, 39, 47, 55], 31) ∧ 1 + 31 = 32 := ⟨by decide +kernel, rfl⟩
theorem iX6_canBy_32 : decode cX6_canBy 32 = .ok (.iload_n 1, 1) ∧ 32 + 1 = 33 := ⟨by decide +kernel, rfl⟩
theorem iX6_canBy_33 : decode cX6_canBy 33 = .ok (.iload_n 2, 1) ∧ 33 + 1 = 34 := ⟨by decide +kernel, rfl⟩
theorem iX6_canBy_34 : decode cX6_canBy 34 = .ok (.iconst 1, 1) ∧ 34 + 1 = 35 := ⟨by decide +kernel, rfl⟩
theorem iX6_canBy_35 : decode cX6_canBy 35 = .ok (.iconst 0, 1) ∧ 35 + 1 = 36 := ⟨by decide +kernel, rfl⟩
theorem iX6_canBy_36 : decode cX6_canBy 36 = .ok (.invokestatic 134, 3) ∧ 36 + 3 = 39 := ⟨by decide +kernel, rfl⟩
theorem iX6_canBy_39 : decode cX6_canBy 39 = .ok (.ireturn, 1) ∧ 39 + 1 = 40 := ⟨by decide +kernel, rfl⟩
theorem iX6_canBy_40 : decode cX6_canBy 40 = .ok (.iload_n 1, 1) ∧ 40 + 1 = 41 := ⟨by decide +kernel, rfl⟩
theorem iX6_canBy_41 : decode cX6_canBy 41 = .ok (.iload_n 2, 1) ∧ 41 + 1 = 42 := ⟨by decide +kernel, rfl⟩
theorem iX6_canBy_42 : decode cX6_canBy 42 = .ok (.iconst 1, 1) ∧ 42 + 1 = 43 := ⟨by decide +kernel, rfl⟩
theorem iX6_canBy_43 : decode cX6_canBy 43 = .ok (.iconst 1, 1) ∧ 43 + 1 = 44 := ⟨by decide +kernel, rfl⟩
theorem iX6_canBy_44 : decode cX6_canBy 44 = .ok (.invokestatic 134, 3) ∧ 44 + 3 = 47 := ⟨by decide +kernel, rfl⟩
theorem iX6_canBy_47 : decode cX6_canBy 47 = .ok (.ireturn, 1) ∧ 47 + 1 = 48 := ⟨by decide +kernel, rfl⟩
theorem iX6_canBy_48 : decode cX6_canBy 48 = .ok (.iload_n 1, 1) ∧ 48 + 1 = 49 := ⟨by decide +kernel, rfl⟩
theorem iX6_canBy_49 : decode cX6_canBy 49 = .ok (.iload_n 2, 1) ∧ 49 + 1 = 50 := ⟨by decide +kernel, rfl⟩
theorem iX6_canBy_50 : decode cX6_canBy 50 = .ok (.iconst 1, 1) ∧ 50 + 1 = 51 := ⟨by decide +kernel, rfl⟩
theorem iX6_canBy_51 : decode cX6_canBy 51 = .ok (.iconst 3, 1) ∧ 51 + 1 = 52 := ⟨by decide +kernel, rfl⟩
theorem iX6_canBy_52 : decode cX6_canBy 52 = .ok (.invokestatic 134, 3) ∧ 52 + 3 = 55 := ⟨by decide +kernel, rfl⟩
theorem iX6_canBy_55 : decode cX6_canBy 55 = .ok (.ireturn, 1) ∧ 55 + 1 = 56 := ⟨by decide +kernel, rfl⟩
theorem iX6_canBy_56 : decode cX6_canBy 56 = .ok (.iload_n 1, 1) ∧ 56 + 1 = 57 := ⟨by decide +kernel, rfl⟩
theorem iX6_canBy_57 : decode cX6_canBy 57 = .ok (.iload_n 2, 1) ∧ 57 + 1 = 58 := ⟨by decide +kernel, rfl⟩
theorem iX6_canBy_58 : decode cX6_canBy 58 = .ok (.iconst 1, 1) ∧ 58 + 1 = 59 := ⟨by decide +kernel, rfl⟩
theorem iX6_canBy_59 : decode cX6_canBy 59 = .ok (.iconst 0, 1) ∧ 59 + 1 = 60 := ⟨by decide +kernel, rfl⟩
theorem iX6_canBy_60 : decode cX6_canBy 60 = .ok (.invokestatic 134, 3) ∧ 60 + 3 = 63 := ⟨by decide +kernel, rfl⟩
theorem iX6_canBy_63 : decode cX6_canBy 63 = .ok (.ifCond .ne 13, 3) ∧ 63 + 3 = 66 := ⟨by decide +kernel, rfl⟩
theorem iX6_canBy_66 : decode cX6_canBy 66 = .ok (.iload_n 1, 1) ∧ 66 + 1 = 67 := ⟨by decide +kernel, rfl⟩
theorem iX6_canBy_67 : decode cX6_canBy 67 = .ok (.iload_n 2, 1) ∧ 67 + 1 = 68 := ⟨by decide +kernel, rfl⟩
theorem iX6_canBy_68 : decode cX6_canBy 68 = .ok (.iconst 1, 1) ∧ 68 + 1 = 69 := ⟨by decide +kernel, rfl⟩
theorem iX6_canBy_69 : decode cX6_canBy 69 = .ok (.iconst 2, 1) ∧ 69 + 1 = 70 := ⟨by decide +kernel, rfl⟩
theorem iX6_canBy_70 : decode cX6_canBy 70 = .ok (.invokestatic 134, 3) ∧ 70 + 3 = 73 := ⟨by decide +kernel, rfl⟩
theorem iX6_canBy_73 : decode cX6_canBy 73 = .ok (.ifCond .eq 7, 3) ∧ 73 + 3 = 76 := ⟨by decide +kernel, rfl⟩
theorem iX6_canBy_76 : decode cX6_canBy 76 = .ok (.iconst 1, 1) ∧ 76 + 1 = 77 := ⟨by decide +kernel, rfl⟩
theorem iX6_canBy_77 : decode cX6_canBy 77 = .ok (.goto 4, 3) ∧ 77 + 3 = 80 := ⟨by decide +kernel, rfl⟩
theorem iX6_canBy_80 : decode cX6_canBy 80 = .ok (.iconst 0, 1) ∧ 80 + 1 = 81 := ⟨by decide +kernel, rfl⟩
theorem iX6_canBy_81 : decode cX6_canBy 81 = .ok (.ireturn, 1) ∧ 81 + 1 = 82 := ⟨by decide +kernel, rfl⟩
theorem iX6_canBy_82 : decode cX6_canBy 82 = .ok (.iload_n 1, 1) ∧ 82 + 1 = 83 := ⟨by decide +kernel, rfl⟩
theorem iX6_canBy_83 : decode cX6_canBy 83 = .ok (.iload_n 2, 1) ∧ 83 + 1 = 84 := ⟨by decide +kernel, rfl⟩
theorem iX6_canBy_84 : decode cX6_canBy 84 = .ok (.iconst 1, 1) ∧ 84 + 1 = 85 := ⟨by decide +kernel, rfl⟩
theorem iX6_canBy_85 : decode cX6_canBy 85 = .ok (.iconst 2, 1) ∧ 85 + 1 = 86 := ⟨by decide +kernel, rfl⟩
theorem iX6_canBy_86 : decode cX6_canBy 86 = .ok (.invokestatic 134, 3) ∧ 86 + 3 = 89 := ⟨by decide +kernel, rfl⟩
theorem iX6_canBy_89 : decode cX6_canBy 89 = .ok (.ireturn, 1) ∧ 89 + 1 = 90 := ⟨by decide +kernel, rfl⟩
theorem iX6_apart_0 : decode cX6_apart 0 = .ok (.iload_n 0, 1) ∧ 0 + 1 = 1 := ⟨by decide +kernel, rfl⟩
theorem iX6_apart_1 : decode cX6_apart 1 = .ok (.iload_n 1, 1) ∧ 1 + 1 = 2 := ⟨by decide +kernel, rfl⟩
theorem iX6_apart_2 : decode cX6_apart 2 = .ok (.if_icmp .le 9, 3) ∧ 2 + 3 = 5 := ⟨by decide +kernel, rfl⟩
theorem iX6_apart_5 : decode cX6_apart 5 = .ok (.iload_n 0, 1) ∧ 5 + 1 = 6 := ⟨by decide +kernel, rfl⟩
theorem iX6_apart_6 : decode cX6_apart 6 = .ok (.iload_n 1, 1) ∧ 6 + 1 = 7 := ⟨by decide +kernel, rfl⟩
theorem iX6_apart_7 : decode cX6_apart 7 = .ok (.isub, 1) ∧ 7 + 1 = 8 := ⟨by decide +kernel, rfl⟩
theorem iX6_apart_8 : decode cX6_apart 8 = .ok (.goto 6, 3) ∧ 8 + 3 = 11 := ⟨by decide +kernel, rfl⟩
theorem iX6_apart_11 : decode cX6_apart 11 = .ok (.iload_n 1, 1) ∧ 11 + 1 = 12 := ⟨by decide +kernel, rfl⟩
theorem iX6_apart_12 : decode cX6_apart 12 = .ok (.iload_n 0, 1) ∧ 12 + 1 = 13 := ⟨by decide +kernel, rfl⟩
theorem iX6_apart_13 : decode cX6_apart 13 = .ok (.isub, 1) ∧ 13 + 1 = 14 := ⟨by decide +kernel, rfl⟩
theorem iX6_apart_14 : decode cX6_apart 14 = .ok (.ireturn, 1) ∧ 14 + 1 = 15 := ⟨by decide +kernel, rfl⟩
theorem iX6_around_0 : decode cX6_around 0 = .ok (.iconst 0, 1) ∧ 0 + 1 = 1 := ⟨by decide +kernel, rfl⟩
theorem iX6_around_1 : decode cX6_around 1 = .ok (.istore_n 3, 1) ∧ 1 + 1 = 2 := ⟨by decide +kernel, rfl⟩
theorem iX6_around_2 : decode cX6_around 2 = .ok (.iconst 0, 1) ∧ 2 + 1 = 3 := ⟨by decide +kernel, rfl⟩
theorem iX6_around_3 : decode cX6_around 3 = .ok (.istore 4, 2) ∧ 3 + 2 = 5 := ⟨by decide +kernel, rfl⟩
theorem iX6_around_5 : decode cX6_around 5 = .ok (.iload 4, 2) ∧ 5 + 2 = 7 := ⟨by decide +kernel, rfl⟩
theorem iX6_around_7 : decode cX6_around 7 = .ok (.aload_n 0, 1) ∧ 7 + 1 = 8 := ⟨by decide +kernel, rfl⟩
theorem iX6_around_8 : decode cX6_around 8 = .ok (.invokevirtual 131, 3) ∧ 8 + 3 = 11 := ⟨by decide +kernel, rfl⟩
theorem iX6_around_11 : decode cX6_around 11 = .ok (.if_icmp .ge 75, 3) ∧ 11 + 3 = 14 := ⟨by decide +kernel, rfl⟩
theorem iX6_around_14 : decode cX6_around 14 = .ok (.iload_n 1, 1) ∧ 14 + 1 = 15 := ⟨by decide +kernel, rfl⟩
theorem iX6_around_15 : decode cX6_around 15 = .ok (.iload 4, 2) ∧ 15 + 2 = 17 := ⟨by decide +kernel, rfl⟩
theorem iX6_around_17 : decode cX6_around 17 = .ok (.aload_n 0, 1) ∧ 17 + 1 = 18 := ⟨by decide +kernel, rfl⟩
theorem iX6_around_18 : decode cX6_around 18 = .ok (.getfield 113, 3) ∧ 18 + 3 = 21 := ⟨by decide +kernel, rfl⟩
theorem iX6_around_21 : decode cX6_around 21 = .ok (.idiv, 1) ∧ 21 + 1 = 22 := ⟨by decide +kernel, rfl⟩
theorem iX6_around_22 : decode cX6_around 22 = .ok (.iload_n 2, 1) ∧ 22 + 1 = 23 := ⟨by decide +kernel, rfl⟩
theorem iX6_around_23 : decode cX6_around 23 = .ok (.aload_n 0, 1) ∧ 23 + 1 = 24 := ⟨by decide +kernel, rfl⟩
theorem iX6_around_24 : decode cX6_around 24 = .ok (.getfield 113, 3) ∧ 24 + 3 = 27 := ⟨by decide +kernel, rfl⟩
theorem iX6_around_27 : decode cX6_around 27 = .ok (.idiv, 1) ∧ 27 + 1 = 28 := ⟨by decide +kernel, rfl⟩
theorem iX6_around_28 : decode cX6_around 28 = .ok (.invokestatic 138, 3) ∧ 28 + 3 = 31 := ⟨by decide +kernel, rfl⟩
theorem iX6_around_31 : decode cX6_around 31 = .ok (.iload 4, 2) ∧ 31 + 2 = 33 := ⟨by decide +kernel, rfl⟩
theorem iX6_around_33 : decode cX6_around 33 = .ok (.aload_n 0, 1) ∧ 33 + 1 = 34 := ⟨by decide +kernel, rfl⟩
theorem iX6_around_34 : decode cX6_around 34 = .ok (.getfield 113, 3) ∧ 34 + 3 = 37 := ⟨by decide +kernel, rfl⟩
theorem iX6_around_37 : decode cX6_around 37 = .ok (.irem, 1) ∧ 37 + 1 = 38 := ⟨by decide +kernel, rfl⟩
theorem iX6_around_38 : decode cX6_around 38 = .ok (.iload_n 2, 1) ∧ 38 + 1 = 39 := ⟨by decide +kernel, rfl⟩
theorem iX6_around_39 : decode cX6_around 39 = .ok (.aload_n 0, 1) ∧ 39 + 1 = 40 := ⟨by decide +kernel, rfl⟩
theorem iX6_around_40 : decode cX6_around 40 = .ok (.getfield 113, 3) ∧ 40 + 3 = 43 := ⟨by decide +kernel, rfl⟩
theorem iX6_around_43 : decode cX6_around 43 = .ok (.irem, 1) ∧ 43 + 1 = 44 := ⟨by decide +kernel, rfl⟩
theorem iX6_around_44 : decode cX6_around 44 = .ok (.invokestatic 138, 3) ∧ 44 + 3 = 47 := ⟨by decide +kernel, rfl⟩
theorem iX6_around_47 : decode cX6_around 47 = .ok (.invokestatic 142, 3) ∧ 47 + 3 = 50 := ⟨by decide +kernel, rfl⟩
theorem iX6_around_50 : decode cX6_around 50 = .ok (.istore 5, 2) ∧ 50 + 2 = 52 := ⟨by decide +kernel, rfl⟩
theorem iX6_around_52 : decode cX6_around 52 = .ok (.iload_n 3, 1) ∧ 52 + 1 = 53 := ⟨by decide +kernel, rfl⟩
theorem iX6_around_53 : decode cX6_around 53 = .ok (.iload 5, 2) ∧ 53 + 2 = 55 := ⟨by decide +kernel, rfl⟩
theorem iX6_around_55 : decode cX6_around 55 = .ok (.ifCond .eq 22, 3) ∧ 55 + 3 = 58 := ⟨by decide +kernel, rfl⟩
theorem iX6_around_58 : decode cX6_around 58 = .ok (.aload_n 0, 1) ∧ 58 + 1 = 59 := ⟨by decide +kernel, rfl⟩
theorem iX6_around_59 : decode cX6_around 59 = .ok (.getfield 116, 3) ∧ 59 + 3 = 62 := ⟨by decide +kernel, rfl⟩
theorem iX6_around_62 : decode cX6_around 62 = .ok (.iload 4, 2) ∧ 62 + 2 = 64 := ⟨by decide +kernel, rfl⟩
theorem iX6_around_64 : decode cX6_around 64 = .ok (.invokestatic 92, 3) ∧ 64 + 3 = 67 := ⟨by decide +kernel, rfl⟩
theorem iX6_around_67 : decode cX6_around 67 = .ok (.ifCond .eq 10, 3) ∧ 67 + 3 = 70 := ⟨by decide +kernel, rfl⟩
theorem iX6_around_70 : decode cX6_around 70 = .ok (.iconst 1, 1) ∧ 70 + 1 = 71 := ⟨by decide +kernel, rfl⟩
theorem iX6_around_71 : decode cX6_around 71 = .ok (.iload 4, 2) ∧ 71 + 2 = 73 := ⟨by decide +kernel, rfl⟩
theorem iX6_around_73 : decode cX6_around 73 = .ok (.ishl, 1) ∧ 73 + 1 = 74 := ⟨by decide +kernel, rfl⟩
theorem iX6_around_74 : decode cX6_around 74 = .ok (.goto 4, 3) ∧ 74 + 3 = 77 := ⟨by decide +kernel, rfl⟩
theorem iX6_around_77 : decode cX6_around 77 = .ok (.iconst 0, 1) ∧ 77 + 1 = 78 := ⟨by decide +kernel, rfl⟩
theorem iX6_around_78 : decode cX6_around 78 = .ok (.ior, 1) ∧ 78 + 1 = 79 := ⟨by decide +kernel, rfl⟩
theorem iX6_around_79 : decode cX6_around 79 = .ok (.istore_n 3, 1) ∧ 79 + 1 = 80 := ⟨by decide +kernel, rfl⟩
theorem iX6_around_80 : decode cX6_around 80 = .ok (.iinc 4 1, 3) ∧ 80 + 3 = 83 := ⟨by decide +kernel, rfl⟩
theorem iX6_around_83 : decode cX6_around 83 = .ok (.goto (-78), 3) ∧ 83 + 3 = 86 := ⟨by decide +kernel, rfl⟩
theorem iX6_around_86 : decode cX6_around 86 = .ok (.iload_n 3, 1) ∧ 86 + 1 = 87 := ⟨by decide +kernel, rfl⟩
theorem iX6_around_87 : decode cX6_around 87 = .ok (.ireturn, 1) ∧ 87 + 1 = 88 := ⟨by decide +kernel, rfl⟩
theorem iX6_standing_0 : decode cX6_standing 0 = .ok (.iconst 0, 1) ∧ 0 + 1 = 1 := ⟨by decide +kernel, rfl⟩
theorem iX6_standing_1 : decode cX6_standing 1 = .ok (.istore_n 1, 1) ∧ 1 + 1 = 2 := ⟨by decide +kernel, rfl⟩
theorem iX6_standing_2 : decode cX6_standing 2 = .ok (.iconst 0, 1) ∧ 2 + 1 = 3 := ⟨by decide +kernel, rfl⟩
theorem iX6_standing_3 : decode cX6_standing 3 = .ok (.istore_n 2, 1) ∧ 3 + 1 = 4 := ⟨by decide +kernel, rfl⟩
theorem iX6_standing_4 : decode cX6_standing 4 = .ok (.iload_n 2, 1) ∧ 4 + 1 = 5 := ⟨by decide +kernel, rfl⟩
theorem iX6_standing_5 : decode cX6_standing 5 = .ok (.aload_n 0, 1) ∧ 5 + 1 = 6 := ⟨by decide +kernel, rfl⟩
theorem iX6_standing_6 : decode cX6_standing 6 = .ok (.getfield 119, 3) ∧ 6 + 3 = 9 := ⟨by decide +kernel, rfl⟩
theorem iX6_standing_9 : decode cX6_standing 9 = .ok (.if_icmp .ge 20, 3) ∧ 9 + 3 = 12 := ⟨by decide +kernel, rfl⟩
theorem iX6_standing_12 : decode cX6_standing 12 = .ok (.iload_n 1, 1) ∧ 12 + 1 = 13 := ⟨by decide +kernel, rfl⟩
theorem iX6_standing_13 : decode cX6_standing 13 = .ok (.iconst 1, 1) ∧ 13 + 1 = 14 := ⟨by decide +kernel, rfl⟩
theorem iX6_standing_14 : decode cX6_standing 14 = .ok (.aload_n 0, 1) ∧ 14 + 1 = 15 := ⟨by decide +kernel, rfl⟩
theorem iX6_standing_15 : decode cX6_standing 15 = .ok (.getfield 13, 3) ∧ 15 + 3 = 18 := ⟨by decide +kernel, rfl⟩
theorem iX6_standing_18 : decode cX6_standing 18 = .ok (.iload_n 2, 1) ∧ 18 + 1 = 19 := ⟨by decide +kernel, rfl⟩
theorem iX6_standing_19 : decode cX6_standing 19 = .ok (.iaload, 1) ∧ 19 + 1 = 20 := ⟨by decide +kernel, rfl⟩
theorem iX6_standing_20 : decode cX6_standing 20 = .ok (.ishl, 1) ∧ 20 + 1 = 21 := ⟨by decide +kernel, rfl⟩
theorem iX6_standing_21 : decode cX6_standing 21 = .ok (.ior, 1) ∧ 21 + 1 = 22 := ⟨by decide +kernel, rfl⟩
theorem iX6_standing_22 : decode cX6_standing 22 = .ok (.istore_n 1, 1) ∧ 22 + 1 = 23 := ⟨by decide +kernel, rfl⟩
theorem iX6_standing_23 : decode cX6_standing 23 = .ok (.iinc 2 1, 3) ∧ 23 + 3 = 26 := ⟨by decide +kernel, rfl⟩
theorem iX6_standing_26 : decode cX6_standing 26 = .ok (.goto (-22), 3) ∧ 26 + 3 = 29 := ⟨by decide +kernel, rfl⟩
theorem iX6_standing_29 : decode cX6_standing 29 = .ok (.iload_n 1, 1) ∧ 29 + 1 = 30 := ⟨by decide +kernel, rfl⟩
theorem iX6_standing_30 : decode cX6_standing 30 = .ok (.ireturn, 1) ∧ 30 + 1 = 31 := ⟨by decide +kernel, rfl⟩
theorem iX6_watched_0 : decode cX6_watched 0 = .ok (.aload_n 0, 1) ∧ 0 + 1 = 1 := ⟨by decide +kernel, rfl⟩
theorem iX6_watched_1 : decode cX6_watched 1 = .ok (.aload_n 0, 1) ∧ 1 + 1 = 2 := ⟨by decide +kernel, rfl⟩
theorem iX6_watched_2 : decode cX6_watched 2 = .ok (.getfield 7, 3) ∧ 2 + 3 = 5 := ⟨by decide +kernel, rfl⟩
theorem iX6_watched_5 : decode cX6_watched 5 = .ok (.iload_n 1, 1) ∧ 5 + 1 = 6 := ⟨by decide +kernel, rfl⟩
theorem iX6_watched_6 : decode cX6_watched 6 = .ok (.iaload, 1) ∧ 6 + 1 = 7 := ⟨by decide +kernel, rfl⟩
theorem iX6_watched_7 : decode cX6_watched 7 = .ok (.aload_n 0, 1) ∧ 7 + 1 = 8 := ⟨by decide +kernel, rfl⟩
theorem iX6_watched_8 : decode cX6_watched 8 = .ok (.getfield 13, 3) ∧ 8 + 3 = 11 := ⟨by decide +kernel, rfl⟩
theorem iX6_watched_11 : decode cX6_watched 11 = .ok (.iload_n 1, 1) ∧ 11 + 1 = 12 := ⟨by decide +kernel, rfl⟩
theorem iX6_watched_12 : decode cX6_watched 12 = .ok (.iaload, 1) ∧ 12 + 1 = 13 := ⟨by decide +kernel, rfl⟩
theorem iX6_watched_13 : decode cX6_watched 13 = .ok (.invokevirtual 145, 3) ∧ 13 + 3 = 16 := ⟨by decide +kernel, rfl⟩
theorem iX6_watched_16 : decode cX6_watched 16 = .ok (.ireturn, 1) ∧ 16 + 1 = 17 := ⟨by decide +kernel, rfl⟩
theorem iX6_canGo_0 : decode cX6_canGo 0 = .ok (.aload_n 0, 1) ∧ 0 + 1 = 1 := ⟨by decide +kernel, rfl⟩
theorem iX6_canGo_1 : decode cX6_canGo 1 = .ok (.iload_n 1, 1) ∧ 1 + 1 = 2 := ⟨by decide +kernel, rfl⟩
theorem iX6_canGo_2 : decode cX6_canGo 2 = .ok (.invokevirtual 148, 3) ∧ 2 + 3 = 5 := ⟨by decide +kernel, rfl⟩
theorem iX6_canGo_5 : decode cX6_canGo 5 = .ok (.aload_n 0, 1) ∧ 5 + 1 = 6 := ⟨by decide +kernel, rfl⟩
theorem iX6_canGo_6 : decode cX6_canGo 6 = .ok (.invokevirtual 151, 3) ∧ 6 + 3 = 9 := ⟨by decide +kernel, rfl⟩
theorem iX6_canGo_9 : decode cX6_canGo 9 = .ok (.iconst (-1), 1) ∧ 9 + 1 = 10 := ⟨by decide +kernel, rfl⟩
theorem iX6_canGo_10 : decode cX6_canGo 10 = .ok (.ixor, 1) ∧ 10 + 1 = 11 := ⟨by decide +kernel, rfl⟩
theorem iX6_canGo_11 : decode cX6_canGo 11 = .ok (.iand, 1) ∧ 11 + 1 = 12 := ⟨by decide +kernel, rfl⟩
theorem iX6_canGo_12 : decode cX6_canGo 12 = .ok (.ireturn, 1) ∧ 12 + 1 = 13 := ⟨by decide +kernel, rfl⟩
theorem iX6_others_0 : decode cX6_others 0 = .ok (.aload_n 0, 1) ∧ 0 + 1 = 1 := ⟨by decide +kernel, rfl⟩
theorem iX6_others_1 : decode cX6_others 1 = .ok (.invokevirtual 151, 3) ∧ 1 + 3 = 4 := ⟨by decide +kernel, rfl⟩
theorem iX6_others_4 : decode cX6_others 4 = .ok (.iconst 1, 1) ∧ 4 + 1 = 5 := ⟨by decide +kernel, rfl⟩
theorem iX6_others_5 : decode cX6_others 5 = .ok (.aload_n 0, 1) ∧ 5 + 1 = 6 := ⟨by decide +kernel, rfl⟩
theorem iX6_others_6 : decode cX6_others 6 = .ok (.getfield 13, 3) ∧ 6 + 3 = 9 := ⟨by decide +kernel, rfl⟩
theorem iX6_others_9 : decode cX6_others 9 = .ok (.iload_n 1, 1) ∧ 9 + 1 = 10 := ⟨by decide +kernel, rfl⟩
theorem iX6_others_10 : decode cX6_others 10 = .ok (.iaload, 1) ∧ 10 + 1 = 11 := ⟨by decide +kernel, rfl⟩
theorem iX6_others_11 : decode cX6_others 11 = .ok (.ishl, 1) ∧ 11 + 1 = 12 := ⟨by decide +kernel, rfl⟩
theorem iX6_others_12 : decode cX6_others 12 = .ok (.iconst (-1), 1) ∧ 12 + 1 = 13 := ⟨by decide +kernel, rfl⟩
theorem iX6_others_13 : decode cX6_others 13 = .ok (.ixor, 1) ∧ 13 + 1 = 14 := ⟨by decide +kernel, rfl⟩
theorem iX6_others_14 : decode cX6_others 14 = .ok (.iand, 1) ∧ 14 + 1 = 15 := ⟨by decide +kernel, rfl⟩
theorem iX6_others_15 : decode cX6_others 15 = .ok (.ireturn, 1) ∧ 15 + 1 = 16 := ⟨by decide +kernel, rfl⟩
theorem iX6_leaperNow_0 : decode cX6_leaperNow 0 = .ok (.iload_n 2, 1) ∧ 0 + 1 = 1 := ⟨by decide +kernel, rfl⟩
theorem iX6_leaperNow_1 : decode cX6_leaperNow 1 = .ok (.tableswitch 77 0 5 #[39, 46, 53, 59, 65, 71], 39) ∧ 1 + 39 = 40 := ⟨by decide +kernel, rfl⟩
theorem iX6_leaperNow_40 : decode cX6_leaperNow 40 = .ok (.aload_n 0, 1) ∧ 40 + 1 = 41 := ⟨by decide +kernel, rfl⟩
theorem iX6_leaperNow_41 : decode cX6_leaperNow 41 = .ok (.getfield 7, 3) ∧ 41 + 3 = 44 := ⟨by decide +kernel, rfl⟩
theorem iX6_leaperNow_44 : decode cX6_leaperNow 44 = .ok (.iload_n 1, 1) ∧ 44 + 1 = 45 := ⟨by decide +kernel, rfl⟩
theorem iX6_leaperNow_45 : decode cX6_leaperNow 45 = .ok (.iaload, 1) ∧ 45 + 1 = 46 := ⟨by decide +kernel, rfl⟩
theorem iX6_leaperNow_46 : decode cX6_leaperNow 46 = .ok (.ireturn, 1) ∧ 46 + 1 = 47 := ⟨by decide +kernel, rfl⟩
theorem iX6_leaperNow_47 : decode cX6_leaperNow 47 = .ok (.aload_n 0, 1) ∧ 47 + 1 = 48 := ⟨by decide +kernel, rfl⟩
theorem iX6_leaperNow_48 : decode cX6_leaperNow 48 = .ok (.getfield 13, 3) ∧ 48 + 3 = 51 := ⟨by decide +kernel, rfl⟩
theorem iX6_leaperNow_51 : decode cX6_leaperNow 51 = .ok (.iload_n 1, 1) ∧ 51 + 1 = 52 := ⟨by decide +kernel, rfl⟩
theorem iX6_leaperNow_52 : decode cX6_leaperNow 52 = .ok (.iaload, 1) ∧ 52 + 1 = 53 := ⟨by decide +kernel, rfl⟩
theorem iX6_leaperNow_53 : decode cX6_leaperNow 53 = .ok (.ireturn, 1) ∧ 53 + 1 = 54 := ⟨by decide +kernel, rfl⟩
theorem iX6_leaperNow_54 : decode cX6_leaperNow 54 = .ok (.aload_n 0, 1) ∧ 54 + 1 = 55 := ⟨by decide +kernel, rfl⟩
theorem iX6_leaperNow_55 : decode cX6_leaperNow 55 = .ok (.iload_n 1, 1) ∧ 55 + 1 = 56 := ⟨by decide +kernel, rfl⟩
theorem iX6_leaperNow_56 : decode cX6_leaperNow 56 = .ok (.invokevirtual 148, 3) ∧ 56 + 3 = 59 := ⟨by decide +kernel, rfl⟩
theorem iX6_leaperNow_59 : decode cX6_leaperNow 59 = .ok (.ireturn, 1) ∧ 59 + 1 = 60 := ⟨by decide +kernel, rfl⟩
theorem iX6_leaperNow_60 : decode cX6_leaperNow 60 = .ok (.aload_n 0, 1) ∧ 60 + 1 = 61 := ⟨by decide +kernel, rfl⟩
theorem iX6_leaperNow_61 : decode cX6_leaperNow 61 = .ok (.iload_n 1, 1) ∧ 61 + 1 = 62 := ⟨by decide +kernel, rfl⟩
theorem iX6_leaperNow_62 : decode cX6_leaperNow 62 = .ok (.invokevirtual 154, 3) ∧ 62 + 3 = 65 := ⟨by decide +kernel, rfl⟩
theorem iX6_leaperNow_65 : decode cX6_leaperNow 65 = .ok (.ireturn, 1) ∧ 65 + 1 = 66 := ⟨by decide +kernel, rfl⟩
theorem iX6_leaperNow_66 : decode cX6_leaperNow 66 = .ok (.aload_n 0, 1) ∧ 66 + 1 = 67 := ⟨by decide +kernel, rfl⟩
theorem iX6_leaperNow_67 : decode cX6_leaperNow 67 = .ok (.iload_n 1, 1) ∧ 67 + 1 = 68 := ⟨by decide +kernel, rfl⟩
theorem iX6_leaperNow_68 : decode cX6_leaperNow 68 = .ok (.invokevirtual 157, 3) ∧ 68 + 3 = 71 := ⟨by decide +kernel, rfl⟩
theorem iX6_leaperNow_71 : decode cX6_leaperNow 71 = .ok (.ireturn, 1) ∧ 71 + 1 = 72 := ⟨by decide +kernel, rfl⟩
theorem iX6_leaperNow_72 : decode cX6_leaperNow 72 = .ok (.aload_n 0, 1) ∧ 72 + 1 = 73 := ⟨by decide +kernel, rfl⟩
theorem iX6_leaperNow_73 : decode cX6_leaperNow 73 = .ok (.iload_n 1, 1) ∧ 73 + 1 = 74 := ⟨by decide +kernel, rfl⟩
theorem iX6_leaperNow_74 : decode cX6_leaperNow 74 = .ok (.invokevirtual 160, 3) ∧ 74 + 3 = 77 := ⟨by decide +kernel, rfl⟩
theorem iX6_leaperNow_77 : decode cX6_leaperNow 77 = .ok (.ireturn, 1) ∧ 77 + 1 = 78 := ⟨by decide +kernel, rfl⟩
theorem iX6_leaperNow_78 : decode cX6_leaperNow 78 = .ok (.aload_n 0, 1) ∧ 78 + 1 = 79 := ⟨by decide +kernel, rfl⟩
theorem iX6_leaperNow_79 : decode cX6_leaperNow 79 = .ok (.iload_n 1, 1) ∧ 79 + 1 = 80 := ⟨by decide +kernel, rfl⟩
theorem iX6_leaperNow_80 : decode cX6_leaperNow 80 = .ok (.iload_n 2, 1) ∧ 80 + 1 = 81 := ⟨by decide +kernel, rfl⟩
theorem iX6_leaperNow_81 : decode cX6_leaperNow 81 = .ok (.bipush 6, 2) ∧ 81 + 2 = 83 := ⟨by decide +kernel, rfl⟩
theorem iX6_leaperNow_83 : decode cX6_leaperNow 83 = .ok (.isub, 1) ∧ 83 + 1 = 84 := ⟨by decide +kernel, rfl⟩
theorem iX6_leaperNow_84 : decode cX6_leaperNow 84 = .ok (.invokevirtual 163, 3) ∧ 84 + 3 = 87 := ⟨by decide +kernel, rfl⟩
theorem iX6_leaperNow_87 : decode cX6_leaperNow 87 = .ok (.ireturn, 1) ∧ 87 + 1 = 88 := ⟨by decide +kernel, rfl⟩
theorem iX6_leaper_0 : decode cX6_leaper 0 = .ok (.aload_n 0, 1) ∧ 0 + 1 = 1 := ⟨by decide +kernel, rfl⟩
theorem iX6_leaper_1 : decode cX6_leaper 1 = .ok (.iload_n 1, 1) ∧ 1 + 1 = 2 := ⟨by decide +kernel, rfl⟩
theorem iX6_leaper_2 : decode cX6_leaper 2 = .ok (.invokevirtual 166, 3) ∧ 2 + 3 = 5 := ⟨by decide +kernel, rfl⟩
theorem iX6_leaper_5 : decode cX6_leaper 5 = .ok (.ifCond .ne 8, 3) ∧ 5 + 3 = 8 := ⟨by decide +kernel, rfl⟩
theorem iX6_leaper_8 : decode cX6_leaper 8 = .ok (.bipush (-101), 2) ∧ 8 + 2 = 10 := ⟨by decide +kernel, rfl⟩
theorem iX6_leaper_10 : decode cX6_leaper 10 = .ok (.goto 24, 3) ∧ 10 + 3 = 13 := ⟨by decide +kernel, rfl⟩
theorem iX6_leaper_13 : decode cX6_leaper 13 = .ok (.iload_n 2, 1) ∧ 13 + 1 = 14 := ⟨by decide +kernel, rfl⟩
theorem iX6_leaper_14 : decode cX6_leaper 14 = .ok (.iconst 0, 1) ∧ 14 + 1 = 15 := ⟨by decide +kernel, rfl⟩
theorem iX6_leaper_15 : decode cX6_leaper 15 = .ok (.bipush 7, 2) ∧ 15 + 2 = 17 := ⟨by decide +kernel, rfl⟩
theorem iX6_leaper_17 : decode cX6_leaper 17 = .ok (.invokestatic 68, 3) ∧ 17 + 3 = 20 := ⟨by decide +kernel, rfl⟩
theorem iX6_leaper_20 : decode cX6_leaper 20 = .ok (.ifCond .eq 12, 3) ∧ 20 + 3 = 23 := ⟨by decide +kernel, rfl⟩
theorem iX6_leaper_23 : decode cX6_leaper 23 = .ok (.aload_n 0, 1) ∧ 23 + 1 = 24 := ⟨by decide +kernel, rfl⟩
theorem iX6_leaper_24 : decode cX6_leaper 24 = .ok (.iload_n 1, 1) ∧ 24 + 1 = 25 := ⟨by decide +kernel, rfl⟩
theorem iX6_leaper_25 : decode cX6_leaper 25 = .ok (.iload_n 2, 1) ∧ 25 + 1 = 26 := ⟨by decide +kernel, rfl⟩
theorem iX6_leaper_26 : decode cX6_leaper 26 = .ok (.invokevirtual 170, 3) ∧ 26 + 3 = 29 := ⟨by decide +kernel, rfl⟩
theorem iX6_leaper_29 : decode cX6_leaper 29 = .ok (.goto 5, 3) ∧ 29 + 3 = 32 := ⟨by decide +kernel, rfl⟩
theorem iX6_leaper_32 : decode cX6_leaper 32 = .ok (.bipush (-102), 2) ∧ 32 + 2 = 34 := ⟨by decide +kernel, rfl⟩
theorem iX6_leaper_34 : decode cX6_leaper 34 = .ok (.ireturn, 1) ∧ 34 + 1 = 35 := ⟨by decide +kernel, rfl⟩
theorem iX6_as_0 : decode cX6_as 0 = .ok (.aload_n 0, 1) ∧ 0 + 1 = 1 := ⟨by decide +kernel, rfl⟩
theorem iX6_as_1 : decode cX6_as 1 = .ok (.iload_n 1, 1) ∧ 1 + 1 = 2 := ⟨by decide +kernel, rfl⟩
theorem iX6_as_2 : decode cX6_as 2 = .ok (.invokevirtual 166, 3) ∧ 2 + 3 = 5 := ⟨by decide +kernel, rfl⟩
theorem iX6_as_5 : decode cX6_as 5 = .ok (.ifCond .ne 6, 3) ∧ 5 + 3 = 8 := ⟨by decide +kernel, rfl⟩
theorem iX6_as_8 : decode cX6_as 8 = .ok (.bipush (-101), 2) ∧ 8 + 2 = 10 := ⟨by decide +kernel, rfl⟩
theorem iX6_as_10 : decode cX6_as 10 = .ok (.ireturn, 1) ∧ 10 + 1 = 11 := ⟨by decide +kernel, rfl⟩
theorem iX6_as_11 : decode cX6_as 11 = .ok (.iload_n 2, 1) ∧ 11 + 1 = 12 := ⟨by decide +kernel, rfl⟩
theorem iX6_as_12 : decode cX6_as 12 = .ok (.iconst 0, 1) ∧ 12 + 1 = 13 := ⟨by decide +kernel, rfl⟩
theorem iX6_as_13 : decode cX6_as 13 = .ok (.iconst 4, 1) ∧ 13 + 1 = 14 := ⟨by decide +kernel, rfl⟩
theorem iX6_as_14 : decode cX6_as 14 = .ok (.invokestatic 68, 3) ∧ 14 + 3 = 17 := ⟨by decide +kernel, rfl⟩
theorem iX6_as_17 : decode cX6_as 17 = .ok (.ifCond .ne 6, 3) ∧ 17 + 3 = 20 := ⟨by decide +kernel, rfl⟩
theorem iX6_as_20 : decode cX6_as 20 = .ok (.bipush (-102), 2) ∧ 20 + 2 = 22 := ⟨by decide +kernel, rfl⟩
theorem iX6_as_22 : decode cX6_as 22 = .ok (.ireturn, 1) ∧ 22 + 1 = 23 := ⟨by decide +kernel, rfl⟩
theorem iX6_as_23 : decode cX6_as 23 = .ok (.aload_n 0, 1) ∧ 23 + 1 = 24 := ⟨by decide +kernel, rfl⟩
theorem iX6_as_24 : decode cX6_as 24 = .ok (.getfield 7, 3) ∧ 24 + 3 = 27 := ⟨by decide +kernel, rfl⟩
theorem iX6_as_27 : decode cX6_as 27 = .ok (.iload_n 1, 1) ∧ 27 + 1 = 28 := ⟨by decide +kernel, rfl⟩
theorem iX6_as_28 : decode cX6_as 28 = .ok (.iaload, 1) ∧ 28 + 1 = 29 := ⟨by decide +kernel, rfl⟩
theorem iX6_as_29 : decode cX6_as 29 = .ok (.istore_n 3, 1) ∧ 29 + 1 = 30 := ⟨by decide +kernel, rfl⟩
theorem iX6_as_30 : decode cX6_as 30 = .ok (.iload_n 2, 1) ∧ 30 + 1 = 31 := ⟨by decide +kernel, rfl⟩
theorem iX6_as_31 : decode cX6_as 31 = .ok (.ifCond .eq 18, 3) ∧ 31 + 3 = 34 := ⟨by decide +kernel, rfl⟩
theorem iX6_as_34 : decode cX6_as 34 = .ok (.iload_n 3, 1) ∧ 34 + 1 = 35 := ⟨by decide +kernel, rfl⟩
theorem iX6_as_35 : decode cX6_as 35 = .ok (.iload_n 2, 1) ∧ 35 + 1 = 36 := ⟨by decide +kernel, rfl⟩
theorem iX6_as_36 : decode cX6_as 36 = .ok (.if_icmp .eq 13, 3) ∧ 36 + 3 = 39 := ⟨by decide +kernel, rfl⟩
theorem iX6_as_39 : decode cX6_as 39 = .ok (.iload_n 2, 1) ∧ 39 + 1 = 40 := ⟨by decide +kernel, rfl⟩
theorem iX6_as_40 : decode cX6_as 40 = .ok (.iconst 1, 1) ∧ 40 + 1 = 41 := ⟨by decide +kernel, rfl⟩
theorem iX6_as_41 : decode cX6_as 41 = .ok (.if_icmp .ne 12, 3) ∧ 41 + 3 = 44 := ⟨by decide +kernel, rfl⟩
theorem iX6_as_44 : decode cX6_as 44 = .ok (.iload_n 3, 1) ∧ 44 + 1 = 45 := ⟨by decide +kernel, rfl⟩
theorem iX6_as_45 : decode cX6_as 45 = .ok (.iconst 4, 1) ∧ 45 + 1 = 46 := ⟨by decide +kernel, rfl⟩
theorem iX6_as_46 : decode cX6_as 46 = .ok (.if_icmp .ne 7, 3) ∧ 46 + 3 = 49 := ⟨by decide +kernel, rfl⟩
theorem iX6_as_49 : decode cX6_as 49 = .ok (.iload_n 1, 1) ∧ 49 + 1 = 50 := ⟨by decide +kernel, rfl⟩
theorem iX6_as_50 : decode cX6_as 50 = .ok (.goto 4, 3) ∧ 50 + 3 = 53 := ⟨by decide +kernel, rfl⟩
theorem iX6_as_53 : decode cX6_as 53 = .ok (.iconst (-1), 1) ∧ 53 + 1 = 54 := ⟨by decide +kernel, rfl⟩
theorem iX6_as_54 : decode cX6_as 54 = .ok (.ireturn, 1) ∧ 54 + 1 = 55 := ⟨by decide +kernel, rfl⟩
theorem iX6_whoAt_0 : decode cX6_whoAt 0 = .ok (.iconst (-1), 1) ∧ 0 + 1 = 1 := ⟨by decide +kernel, rfl⟩
theorem iX6_whoAt_1 : decode cX6_whoAt 1 = .ok (.istore_n 2, 1) ∧ 1 + 1 = 2 := ⟨by decide +kernel, rfl⟩
theorem iX6_whoAt_2 : decode cX6_whoAt 2 = .ok (.iconst 0, 1) ∧ 2 + 1 = 3 := ⟨by decide +kernel, rfl⟩
theorem iX6_whoAt_3 : decode cX6_whoAt 3 = .ok (.istore_n 3, 1) ∧ 3 + 1 = 4 := ⟨by decide +kernel, rfl⟩
theorem iX6_whoAt_4 : decode cX6_whoAt 4 = .ok (.iload_n 3, 1) ∧ 4 + 1 = 5 := ⟨by decide +kernel, rfl⟩
theorem iX6_whoAt_5 : decode cX6_whoAt 5 = .ok (.aload_n 0, 1) ∧ 5 + 1 = 6 := ⟨by decide +kernel, rfl⟩
theorem iX6_whoAt_6 : decode cX6_whoAt 6 = .ok (.getfield 119, 3) ∧ 6 + 3 = 9 := ⟨by decide +kernel, rfl⟩
theorem iX6_whoAt_9 : decode cX6_whoAt 9 = .ok (.if_icmp .ge 25, 3) ∧ 9 + 3 = 12 := ⟨by decide +kernel, rfl⟩
theorem iX6_whoAt_12 : decode cX6_whoAt 12 = .ok (.aload_n 0, 1) ∧ 12 + 1 = 13 := ⟨by decide +kernel, rfl⟩
theorem iX6_whoAt_13 : decode cX6_whoAt 13 = .ok (.getfield 13, 3) ∧ 13 + 3 = 16 := ⟨by decide +kernel, rfl⟩
theorem iX6_whoAt_16 : decode cX6_whoAt 16 = .ok (.iload_n 3, 1) ∧ 16 + 1 = 17 := ⟨by decide +kernel, rfl⟩
theorem iX6_whoAt_17 : decode cX6_whoAt 17 = .ok (.iaload, 1) ∧ 17 + 1 = 18 := ⟨by decide +kernel, rfl⟩
theorem iX6_whoAt_18 : decode cX6_whoAt 18 = .ok (.iload_n 1, 1) ∧ 18 + 1 = 19 := ⟨by decide +kernel, rfl⟩
theorem iX6_whoAt_19 : decode cX6_whoAt 19 = .ok (.if_icmp .ne 7, 3) ∧ 19 + 3 = 22 := ⟨by decide +kernel, rfl⟩
theorem iX6_whoAt_22 : decode cX6_whoAt 22 = .ok (.iload_n 3, 1) ∧ 22 + 1 = 23 := ⟨by decide +kernel, rfl⟩
theorem iX6_whoAt_23 : decode cX6_whoAt 23 = .ok (.goto 4, 3) ∧ 23 + 3 = 26 := ⟨by decide +kernel, rfl⟩
theorem iX6_whoAt_26 : decode cX6_whoAt 26 = .ok (.iload_n 2, 1) ∧ 26 + 1 = 27 := ⟨by decide +kernel, rfl⟩
theorem iX6_whoAt_27 : decode cX6_whoAt 27 = .ok (.istore_n 2, 1) ∧ 27 + 1 = 28 := ⟨by decide +kernel, rfl⟩
theorem iX6_whoAt_28 : decode cX6_whoAt 28 = .ok (.iinc 3 1, 3) ∧ 28 + 3 = 31 := ⟨by decide +kernel, rfl⟩
theorem iX6_whoAt_31 : decode cX6_whoAt 31 = .ok (.goto (-27), 3) ∧ 31 + 3 = 34 := ⟨by decide +kernel, rfl⟩
theorem iX6_whoAt_34 : decode cX6_whoAt 34 = .ok (.iload_n 2, 1) ∧ 34 + 1 = 35 := ⟨by decide +kernel, rfl⟩
theorem iX6_whoAt_35 : decode cX6_whoAt 35 = .ok (.ireturn, 1) ∧ 35 + 1 = 36 := ⟨by decide +kernel, rfl⟩
theorem iX6_watchersOf_0 : decode cX6_watchersOf 0 = .ok (.iconst 0, 1) ∧ 0 + 1 = 1 := ⟨by decide +kernel, rfl⟩
theorem iX6_watchersOf_1 : decode cX6_watchersOf 1 = .ok (.istore_n 2, 1) ∧ 1 + 1 = 2 := ⟨by decide +kernel, rfl⟩
theorem iX6_watchersOf_2 : decode cX6_watchersOf 2 = .ok (.iconst 0, 1) ∧ 2 + 1 = 3 := ⟨by decide +kernel, rfl⟩
theorem iX6_watchersOf_3 : decode cX6_watchersOf 3 = .ok (.istore_n 3, 1) ∧ 3 + 1 = 4 := ⟨by decide +kernel, rfl⟩
theorem iX6_watchersOf_4 : decode cX6_watchersOf 4 = .ok (.iload_n 3, 1) ∧ 4 + 1 = 5 := ⟨by decide +kernel, rfl⟩
theorem iX6_watchersOf_5 : decode cX6_watchersOf 5 = .ok (.aload_n 0, 1) ∧ 5 + 1 = 6 := ⟨by decide +kernel, rfl⟩
theorem iX6_watchersOf_6 : decode cX6_watchersOf 6 = .ok (.getfield 119, 3) ∧ 6 + 3 = 9 := ⟨by decide +kernel, rfl⟩
theorem iX6_watchersOf_9 : decode cX6_watchersOf 9 = .ok (.if_icmp .ge 31, 3) ∧ 9 + 3 = 12 := ⟨by decide +kernel, rfl⟩
theorem iX6_watchersOf_12 : decode cX6_watchersOf 12 = .ok (.iload_n 2, 1) ∧ 12 + 1 = 13 := ⟨by decide +kernel, rfl⟩
theorem iX6_watchersOf_13 : decode cX6_watchersOf 13 = .ok (.aload_n 0, 1) ∧ 13 + 1 = 14 := ⟨by decide +kernel, rfl⟩
theorem iX6_watchersOf_14 : decode cX6_watchersOf 14 = .ok (.iload_n 3, 1) ∧ 14 + 1 = 15 := ⟨by decide +kernel, rfl⟩
theorem iX6_watchersOf_15 : decode cX6_watchersOf 15 = .ok (.invokevirtual 148, 3) ∧ 15 + 3 = 18 := ⟨by decide +kernel, rfl⟩
theorem iX6_watchersOf_18 : decode cX6_watchersOf 18 = .ok (.iload_n 1, 1) ∧ 18 + 1 = 19 := ⟨by decide +kernel, rfl⟩
theorem iX6_watchersOf_19 : decode cX6_watchersOf 19 = .ok (.invokestatic 92, 3) ∧ 19 + 3 = 22 := ⟨by decide +kernel, rfl⟩
theorem iX6_watchersOf_22 : decode cX6_watchersOf 22 = .ok (.ifCond .eq 9, 3) ∧ 22 + 3 = 25 := ⟨by decide +kernel, rfl⟩
theorem iX6_watchersOf_25 : decode cX6_watchersOf 25 = .ok (.iconst 1, 1) ∧ 25 + 1 = 26 := ⟨by decide +kernel, rfl⟩
theorem iX6_watchersOf_26 : decode cX6_watchersOf 26 = .ok (.iload_n 3, 1) ∧ 26 + 1 = 27 := ⟨by decide +kernel, rfl⟩
theorem iX6_watchersOf_27 : decode cX6_watchersOf 27 = .ok (.ishl, 1) ∧ 27 + 1 = 28 := ⟨by decide +kernel, rfl⟩
theorem iX6_watchersOf_28 : decode cX6_watchersOf 28 = .ok (.goto 4, 3) ∧ 28 + 3 = 31 := ⟨by decide +kernel, rfl⟩
theorem iX6_watchersOf_31 : decode cX6_watchersOf 31 = .ok (.iconst 0, 1) ∧ 31 + 1 = 32 := ⟨by decide +kernel, rfl⟩
theorem iX6_watchersOf_32 : decode cX6_watchersOf 32 = .ok (.ior, 1) ∧ 32 + 1 = 33 := ⟨by decide +kernel, rfl⟩
theorem iX6_watchersOf_33 : decode cX6_watchersOf 33 = .ok (.istore_n 2, 1) ∧ 33 + 1 = 34 := ⟨by decide +kernel, rfl⟩
theorem iX6_watchersOf_34 : decode cX6_watchersOf 34 = .ok (.iinc 3 1, 3) ∧ 34 + 3 = 37 := ⟨by decide +kernel, rfl⟩
theorem iX6_watchersOf_37 : decode cX6_watchersOf 37 = .ok (.goto (-33), 3) ∧ 37 + 3 = 40 := ⟨by decide +kernel, rfl⟩
theorem iX6_watchersOf_40 : decode cX6_watchersOf 40 = .ok (.iload_n 2, 1) ∧ 40 + 1 = 41 := ⟨by decide +kernel, rfl⟩
theorem iX6_watchersOf_41 : decode cX6_watchersOf 41 = .ok (.ireturn, 1) ∧ 41 + 1 = 42 := ⟨by decide +kernel, rfl⟩
theorem iX6_cellNow_0 : decode cX6_cellNow 0 = .ok (.iload_n 2, 1) ∧ 0 + 1 = 1 := ⟨by decide +kernel, rfl⟩
theorem iX6_cellNow_1 : decode cX6_cellNow 1 = .ok (.ifCond .ne 14, 3) ∧ 1 + 3 = 4 := ⟨by decide +kernel, rfl⟩
theorem iX6_cellNow_4 : decode cX6_cellNow 4 = .ok (.aload_n 0, 1) ∧ 4 + 1 = 5 := ⟨by decide +kernel, rfl⟩
theorem iX6_cellNow_5 : decode cX6_cellNow 5 = .ok (.getfield 116, 3) ∧ 5 + 3 = 8 := ⟨by decide +kernel, rfl⟩
theorem iX6_cellNow_8 : decode cX6_cellNow 8 = .ok (.iload_n 1, 1) ∧ 8 + 1 = 9 := ⟨by decide +kernel, rfl⟩
theorem iX6_cellNow_9 : decode cX6_cellNow 9 = .ok (.ishr, 1) ∧ 9 + 1 = 10 := ⟨by decide +kernel, rfl⟩
theorem iX6_cellNow_10 : decode cX6_cellNow 10 = .ok (.iconst 1, 1) ∧ 10 + 1 = 11 := ⟨by decide +kernel, rfl⟩
theorem iX6_cellNow_11 : decode cX6_cellNow 11 = .ok (.iand, 1) ∧ 11 + 1 = 12 := ⟨by decide +kernel, rfl⟩
theorem iX6_cellNow_12 : decode cX6_cellNow 12 = .ok (.goto 21, 3) ∧ 12 + 3 = 15 := ⟨by decide +kernel, rfl⟩
theorem iX6_cellNow_15 : decode cX6_cellNow 15 = .ok (.iload_n 2, 1) ∧ 15 + 1 = 16 := ⟨by decide +kernel, rfl⟩
theorem iX6_cellNow_16 : decode cX6_cellNow 16 = .ok (.iconst 1, 1) ∧ 16 + 1 = 17 := ⟨by decide +kernel, rfl⟩
theorem iX6_cellNow_17 : decode cX6_cellNow 17 = .ok (.if_icmp .ne 11, 3) ∧ 17 + 3 = 20 := ⟨by decide +kernel, rfl⟩
theorem iX6_cellNow_20 : decode cX6_cellNow 20 = .ok (.aload_n 0, 1) ∧ 20 + 1 = 21 := ⟨by decide +kernel, rfl⟩
theorem iX6_cellNow_21 : decode cX6_cellNow 21 = .ok (.iload_n 1, 1) ∧ 21 + 1 = 22 := ⟨by decide +kernel, rfl⟩
theorem iX6_cellNow_22 : decode cX6_cellNow 22 = .ok (.invokevirtual 173, 3) ∧ 22 + 3 = 25 := ⟨by decide +kernel, rfl⟩
theorem iX6_cellNow_25 : decode cX6_cellNow 25 = .ok (.goto 8, 3) ∧ 25 + 3 = 28 := ⟨by decide +kernel, rfl⟩
theorem iX6_cellNow_28 : decode cX6_cellNow 28 = .ok (.aload_n 0, 1) ∧ 28 + 1 = 29 := ⟨by decide +kernel, rfl⟩
theorem iX6_cellNow_29 : decode cX6_cellNow 29 = .ok (.iload_n 1, 1) ∧ 29 + 1 = 30 := ⟨by decide +kernel, rfl⟩
theorem iX6_cellNow_30 : decode cX6_cellNow 30 = .ok (.invokevirtual 176, 3) ∧ 30 + 3 = 33 := ⟨by decide +kernel, rfl⟩
theorem iX6_cellNow_33 : decode cX6_cellNow 33 = .ok (.ireturn, 1) ∧ 33 + 1 = 34 := ⟨by decide +kernel, rfl⟩
theorem iX6_cell_0 : decode cX6_cell 0 = .ok (.aload_n 0, 1) ∧ 0 + 1 = 1 := ⟨by decide +kernel, rfl⟩
theorem iX6_cell_1 : decode cX6_cell 1 = .ok (.iload_n 1, 1) ∧ 1 + 1 = 2 := ⟨by decide +kernel, rfl⟩
theorem iX6_cell_2 : decode cX6_cell 2 = .ok (.invokevirtual 179, 3) ∧ 2 + 3 = 5 := ⟨by decide +kernel, rfl⟩
theorem iX6_cell_5 : decode cX6_cell 5 = .ok (.ifCond .ne 8, 3) ∧ 5 + 3 = 8 := ⟨by decide +kernel, rfl⟩
theorem iX6_cell_8 : decode cX6_cell 8 = .ok (.bipush (-101), 2) ∧ 8 + 2 = 10 := ⟨by decide +kernel, rfl⟩
theorem iX6_cell_10 : decode cX6_cell 10 = .ok (.goto 23, 3) ∧ 10 + 3 = 13 := ⟨by decide +kernel, rfl⟩
theorem iX6_cell_13 : decode cX6_cell 13 = .ok (.iload_n 2, 1) ∧ 13 + 1 = 14 := ⟨by decide +kernel, rfl⟩
theorem iX6_cell_14 : decode cX6_cell 14 = .ok (.iconst 0, 1) ∧ 14 + 1 = 15 := ⟨by decide +kernel, rfl⟩
theorem iX6_cell_15 : decode cX6_cell 15 = .ok (.iconst 2, 1) ∧ 15 + 1 = 16 := ⟨by decide +kernel, rfl⟩
theorem iX6_cell_16 : decode cX6_cell 16 = .ok (.invokestatic 68, 3) ∧ 16 + 3 = 19 := ⟨by decide +kernel, rfl⟩
theorem iX6_cell_19 : decode cX6_cell 19 = .ok (.ifCond .eq 12, 3) ∧ 19 + 3 = 22 := ⟨by decide +kernel, rfl⟩
theorem iX6_cell_22 : decode cX6_cell 22 = .ok (.aload_n 0, 1) ∧ 22 + 1 = 23 := ⟨by decide +kernel, rfl⟩
theorem iX6_cell_23 : decode cX6_cell 23 = .ok (.iload_n 1, 1) ∧ 23 + 1 = 24 := ⟨by decide +kernel, rfl⟩
theorem iX6_cell_24 : decode cX6_cell 24 = .ok (.iload_n 2, 1) ∧ 24 + 1 = 25 := ⟨by decide +kernel, rfl⟩
theorem iX6_cell_25 : decode cX6_cell 25 = .ok (.invokevirtual 182, 3) ∧ 25 + 3 = 28 := ⟨by decide +kernel, rfl⟩
theorem iX6_cell_28 : decode cX6_cell 28 = .ok (.goto 5, 3) ∧ 28 + 3 = 31 := ⟨by decide +kernel, rfl⟩
theorem iX6_cell_31 : decode cX6_cell 31 = .ok (.bipush (-102), 2) ∧ 31 + 2 = 33 := ⟨by decide +kernel, rfl⟩
theorem iX6_cell_33 : decode cX6_cell 33 = .ok (.ireturn, 1) ∧ 33 + 1 = 34 := ⟨by decide +kernel, rfl⟩
theorem iX6_leap_0 : decode cX6_leap 0 = .ok (.aload_n 0, 1) ∧ 0 + 1 = 1 := ⟨by decide +kernel, rfl⟩
theorem iX6_leap_1 : decode cX6_leap 1 = .ok (.iload_n 1, 1) ∧ 1 + 1 = 2 := ⟨by decide +kernel, rfl⟩
theorem iX6_leap_2 : decode cX6_leap 2 = .ok (.invokevirtual 166, 3) ∧ 2 + 3 = 5 := ⟨by decide +kernel, rfl⟩
theorem iX6_leap_5 : decode cX6_leap 5 = .ok (.ifCond .eq 11, 3) ∧ 5 + 3 = 8 := ⟨by decide +kernel, rfl⟩
theorem iX6_leap_8 : decode cX6_leap 8 = .ok (.aload_n 0, 1) ∧ 8 + 1 = 9 := ⟨by decide +kernel, rfl⟩
theorem iX6_leap_9 : decode cX6_leap 9 = .ok (.iload_n 2, 1) ∧ 9 + 1 = 10 := ⟨by decide +kernel, rfl⟩
theorem iX6_leap_10 : decode cX6_leap 10 = .ok (.invokevirtual 179, 3) ∧ 10 + 3 = 13 := ⟨by decide +kernel, rfl⟩
theorem iX6_leap_13 : decode cX6_leap 13 = .ok (.ifCond .ne 6, 3) ∧ 13 + 3 = 16 := ⟨by decide +kernel, rfl⟩
theorem iX6_leap_16 : decode cX6_leap 16 = .ok (.bipush (-101), 2) ∧ 16 + 2 = 18 := ⟨by decide +kernel, rfl⟩
theorem iX6_leap_18 : decode cX6_leap 18 = .ok (.ireturn, 1) ∧ 18 + 1 = 19 := ⟨by decide +kernel, rfl⟩
theorem iX6_leap_19 : decode cX6_leap 19 = .ok (.aload_n 0, 1) ∧ 19 + 1 = 20 := ⟨by decide +kernel, rfl⟩
theorem iX6_leap_20 : decode cX6_leap 20 = .ok (.iload_n 1, 1) ∧ 20 + 1 = 21 := ⟨by decide +kernel, rfl⟩
theorem iX6_leap_21 : decode cX6_leap 21 = .ok (.invokevirtual 154, 3) ∧ 21 + 3 = 24 := ⟨by decide +kernel, rfl⟩
theorem iX6_leap_24 : decode cX6_leap 24 = .ok (.iload_n 2, 1) ∧ 24 + 1 = 25 := ⟨by decide +kernel, rfl⟩
theorem iX6_leap_25 : decode cX6_leap 25 = .ok (.invokestatic 92, 3) ∧ 25 + 3 = 28 := ⟨by decide +kernel, rfl⟩
theorem iX6_leap_28 : decode cX6_leap 28 = .ok (.ifCond .ne 6, 3) ∧ 28 + 3 = 31 := ⟨by decide +kernel, rfl⟩
theorem iX6_leap_31 : decode cX6_leap 31 = .ok (.bipush (-103), 2) ∧ 31 + 2 = 33 := ⟨by decide +kernel, rfl⟩
theorem iX6_leap_33 : decode cX6_leap 33 = .ok (.ireturn, 1) ∧ 33 + 1 = 34 := ⟨by decide +kernel, rfl⟩
theorem iX6_leap_34 : decode cX6_leap 34 = .ok (.aload_n 0, 1) ∧ 34 + 1 = 35 := ⟨by decide +kernel, rfl⟩
theorem iX6_leap_35 : decode cX6_leap 35 = .ok (.getfield 122, 3) ∧ 35 + 3 = 38 := ⟨by decide +kernel, rfl⟩
theorem iX6_leap_38 : decode cX6_leap 38 = .ok (.sipush 999, 3) ∧ 38 + 3 = 41 := ⟨by decide +kernel, rfl⟩
theorem iX6_leap_41 : decode cX6_leap 41 = .ok (.if_icmp .ne 6, 3) ∧ 41 + 3 = 44 := ⟨by decide +kernel, rfl⟩
theorem iX6_leap_44 : decode cX6_leap 44 = .ok (.bipush (-104), 2) ∧ 44 + 2 = 46 := ⟨by decide +kernel, rfl⟩
theorem iX6_leap_46 : decode cX6_leap 46 = .ok (.ireturn, 1) ∧ 46 + 1 = 47 := ⟨by decide +kernel, rfl⟩
theorem iX6_leap_47 : decode cX6_leap 47 = .ok (.aload_n 0, 1) ∧ 47 + 1 = 48 := ⟨by decide +kernel, rfl⟩
theorem iX6_leap_48 : decode cX6_leap 48 = .ok (.getfield 13, 3) ∧ 48 + 3 = 51 := ⟨by decide +kernel, rfl⟩
theorem iX6_leap_51 : decode cX6_leap 51 = .ok (.iload_n 1, 1) ∧ 51 + 1 = 52 := ⟨by decide +kernel, rfl⟩
theorem iX6_leap_52 : decode cX6_leap 52 = .ok (.iload_n 2, 1) ∧ 52 + 1 = 53 := ⟨by decide +kernel, rfl⟩
theorem iX6_leap_53 : decode cX6_leap 53 = .ok (.iastore, 1) ∧ 53 + 1 = 54 := ⟨by decide +kernel, rfl⟩
theorem iX6_leap_54 : decode cX6_leap 54 = .ok (.aload_n 0, 1) ∧ 54 + 1 = 55 := ⟨by decide +kernel, rfl⟩
theorem iX6_leap_55 : decode cX6_leap 55 = .ok (.dup, 1) ∧ 55 + 1 = 56 := ⟨by decide +kernel, rfl⟩
theorem iX6_leap_56 : decode cX6_leap 56 = .ok (.getfield 122, 3) ∧ 56 + 3 = 59 := ⟨by decide +kernel, rfl⟩
theorem iX6_leap_59 : decode cX6_leap 59 = .ok (.iconst 1, 1) ∧ 59 + 1 = 60 := ⟨by decide +kernel, rfl⟩
theorem iX6_leap_60 : decode cX6_leap 60 = .ok (.iadd, 1) ∧ 60 + 1 = 61 := ⟨by decide +kernel, rfl⟩
theorem iX6_leap_61 : decode cX6_leap 61 = .ok (.putfield 122, 3) ∧ 61 + 3 = 64 := ⟨by decide +kernel, rfl⟩
theorem iX6_leap_64 : decode cX6_leap 64 = .ok (.aload_n 0, 1) ∧ 64 + 1 = 65 := ⟨by decide +kernel, rfl⟩
theorem iX6_leap_65 : decode cX6_leap 65 = .ok (.getfield 122, 3) ∧ 65 + 3 = 68 := ⟨by decide +kernel, rfl⟩
theorem iX6_leap_68 : decode cX6_leap 68 = .ok (.ireturn, 1) ∧ 68 + 1 = 69 := ⟨by decide +kernel, rfl⟩
theorem iX6_dig_0 : decode cX6_dig 0 = .ok (.aload_n 0, 1) ∧ 0 + 1 = 1 := ⟨by decide +kernel, rfl⟩
theorem iX6_dig_1 : decode cX6_dig 1 = .ok (.iload_n 1, 1) ∧ 1 + 1 = 2 := ⟨by decide +kernel, rfl⟩
theorem iX6_dig_2 : decode cX6_dig 2 = .ok (.invokevirtual 179, 3) ∧ 2 + 3 = 5 := ⟨by decide +kernel, rfl⟩
theorem iX6_dig_5 : decode cX6_dig 5 = .ok (.ifCond .ne 6, 3) ∧ 5 + 3 = 8 := ⟨by decide +kernel, rfl⟩
theorem iX6_dig_8 : decode cX6_dig 8 = .ok (.bipush (-101), 2) ∧ 8 + 2 = 10 := ⟨by decide +kernel, rfl⟩
theorem iX6_dig_10 : decode cX6_dig 10 = .ok (.ireturn, 1) ∧ 10 + 1 = 11 := ⟨by decide +kernel, rfl⟩
theorem iX6_dig_11 : decode cX6_dig 11 = .ok (.aload_n 0, 1) ∧ 11 + 1 = 12 := ⟨by decide +kernel, rfl⟩
theorem iX6_dig_12 : decode cX6_dig 12 = .ok (.getfield 116, 3) ∧ 12 + 3 = 15 := ⟨by decide +kernel, rfl⟩
theorem iX6_dig_15 : decode cX6_dig 15 = .ok (.aload_n 0, 1) ∧ 15 + 1 = 16 := ⟨by decide +kernel, rfl⟩
theorem iX6_dig_16 : decode cX6_dig 16 = .ok (.invokevirtual 151, 3) ∧ 16 + 3 = 19 := ⟨by decide +kernel, rfl⟩
theorem iX6_dig_19 : decode cX6_dig 19 = .ok (.iconst (-1), 1) ∧ 19 + 1 = 20 := ⟨by decide +kernel, rfl⟩
theorem iX6_dig_20 : decode cX6_dig 20 = .ok (.ixor, 1) ∧ 20 + 1 = 21 := ⟨by decide +kernel, rfl⟩
theorem iX6_dig_21 : decode cX6_dig 21 = .ok (.iand, 1) ∧ 21 + 1 = 22 := ⟨by decide +kernel, rfl⟩
theorem iX6_dig_22 : decode cX6_dig 22 = .ok (.iload_n 1, 1) ∧ 22 + 1 = 23 := ⟨by decide +kernel, rfl⟩
theorem iX6_dig_23 : decode cX6_dig 23 = .ok (.invokestatic 92, 3) ∧ 23 + 3 = 26 := ⟨by decide +kernel, rfl⟩
theorem iX6_dig_26 : decode cX6_dig 26 = .ok (.ifCond .ne 6, 3) ∧ 26 + 3 = 29 := ⟨by decide +kernel, rfl⟩
theorem iX6_dig_29 : decode cX6_dig 29 = .ok (.bipush (-103), 2) ∧ 29 + 2 = 31 := ⟨by decide +kernel, rfl⟩
theorem iX6_dig_31 : decode cX6_dig 31 = .ok (.ireturn, 1) ∧ 31 + 1 = 32 := ⟨by decide +kernel, rfl⟩
theorem iX6_dig_32 : decode cX6_dig 32 = .ok (.aload_n 0, 1) ∧ 32 + 1 = 33 := ⟨by decide +kernel, rfl⟩
theorem iX6_dig_33 : decode cX6_dig 33 = .ok (.dup, 1) ∧ 33 + 1 = 34 := ⟨by decide +kernel, rfl⟩
theorem iX6_dig_34 : decode cX6_dig 34 = .ok (.getfield 116, 3) ∧ 34 + 3 = 37 := ⟨by decide +kernel, rfl⟩
theorem iX6_dig_37 : decode cX6_dig 37 = .ok (.iconst 1, 1) ∧ 37 + 1 = 38 := ⟨by decide +kernel, rfl⟩
theorem iX6_dig_38 : decode cX6_dig 38 = .ok (.iload_n 1, 1) ∧ 38 + 1 = 39 := ⟨by decide +kernel, rfl⟩
theorem iX6_dig_39 : decode cX6_dig 39 = .ok (.ishl, 1) ∧ 39 + 1 = 40 := ⟨by decide +kernel, rfl⟩
theorem iX6_dig_40 : decode cX6_dig 40 = .ok (.iconst (-1), 1) ∧ 40 + 1 = 41 := ⟨by decide +kernel, rfl⟩
theorem iX6_dig_41 : decode cX6_dig 41 = .ok (.ixor, 1) ∧ 41 + 1 = 42 := ⟨by decide +kernel, rfl⟩
theorem iX6_dig_42 : decode cX6_dig 42 = .ok (.iand, 1) ∧ 42 + 1 = 43 := ⟨by decide +kernel, rfl⟩
theorem iX6_dig_43 : decode cX6_dig 43 = .ok (.putfield 116, 3) ∧ 43 + 3 = 46 := ⟨by decide +kernel, rfl⟩
theorem iX6_dig_46 : decode cX6_dig 46 = .ok (.aload_n 0, 1) ∧ 46 + 1 = 47 := ⟨by decide +kernel, rfl⟩
theorem iX6_dig_47 : decode cX6_dig 47 = .ok (.getfield 116, 3) ∧ 47 + 3 = 50 := ⟨by decide +kernel, rfl⟩
theorem iX6_dig_50 : decode cX6_dig 50 = .ok (.invokestatic 185, 3) ∧ 50 + 3 = 53 := ⟨by decide +kernel, rfl⟩
theorem iX6_dig_53 : decode cX6_dig 53 = .ok (.ireturn, 1) ∧ 53 + 1 = 54 := ⟨by decide +kernel, rfl⟩
theorem iX6_fill_0 : decode cX6_fill 0 = .ok (.aload_n 0, 1) ∧ 0 + 1 = 1 := ⟨by decide +kernel, rfl⟩
theorem iX6_fill_1 : decode cX6_fill 1 = .ok (.iload_n 1, 1) ∧ 1 + 1 = 2 := ⟨by decide +kernel, rfl⟩
theorem iX6_fill_2 : decode cX6_fill 2 = .ok (.invokevirtual 179, 3) ∧ 2 + 3 = 5 := ⟨by decide +kernel, rfl⟩
theorem iX6_fill_5 : decode cX6_fill 5 = .ok (.ifCond .ne 6, 3) ∧ 5 + 3 = 8 := ⟨by decide +kernel, rfl⟩
theorem iX6_fill_8 : decode cX6_fill 8 = .ok (.bipush (-101), 2) ∧ 8 + 2 = 10 := ⟨by decide +kernel, rfl⟩
theorem iX6_fill_10 : decode cX6_fill 10 = .ok (.ireturn, 1) ∧ 10 + 1 = 11 := ⟨by decide +kernel, rfl⟩
theorem iX6_fill_11 : decode cX6_fill 11 = .ok (.aload_n 0, 1) ∧ 11 + 1 = 12 := ⟨by decide +kernel, rfl⟩
theorem iX6_fill_12 : decode cX6_fill 12 = .ok (.getfield 116, 3) ∧ 12 + 3 = 15 := ⟨by decide +kernel, rfl⟩
theorem iX6_fill_15 : decode cX6_fill 15 = .ok (.iload_n 1, 1) ∧ 15 + 1 = 16 := ⟨by decide +kernel, rfl⟩
theorem iX6_fill_16 : decode cX6_fill 16 = .ok (.invokestatic 92, 3) ∧ 16 + 3 = 19 := ⟨by decide +kernel, rfl⟩
theorem iX6_fill_19 : decode cX6_fill 19 = .ok (.ifCond .eq 6, 3) ∧ 19 + 3 = 22 := ⟨by decide +kernel, rfl⟩
theorem iX6_fill_22 : decode cX6_fill 22 = .ok (.bipush (-103), 2) ∧ 22 + 2 = 24 := ⟨by decide +kernel, rfl⟩
theorem iX6_fill_24 : decode cX6_fill 24 = .ok (.ireturn, 1) ∧ 24 + 1 = 25 := ⟨by decide +kernel, rfl⟩
theorem iX6_fill_25 : decode cX6_fill 25 = .ok (.aload_n 0, 1) ∧ 25 + 1 = 26 := ⟨by decide +kernel, rfl⟩
theorem iX6_fill_26 : decode cX6_fill 26 = .ok (.dup, 1) ∧ 26 + 1 = 27 := ⟨by decide +kernel, rfl⟩
theorem iX6_fill_27 : decode cX6_fill 27 = .ok (.getfield 116, 3) ∧ 27 + 3 = 30 := ⟨by decide +kernel, rfl⟩
theorem iX6_fill_30 : decode cX6_fill 30 = .ok (.iconst 1, 1) ∧ 30 + 1 = 31 := ⟨by decide +kernel, rfl⟩
theorem iX6_fill_31 : decode cX6_fill 31 = .ok (.iload_n 1, 1) ∧ 31 + 1 = 32 := ⟨by decide +kernel, rfl⟩
theorem iX6_fill_32 : decode cX6_fill 32 = .ok (.ishl, 1) ∧ 32 + 1 = 33 := ⟨by decide +kernel, rfl⟩
theorem iX6_fill_33 : decode cX6_fill 33 = .ok (.ior, 1) ∧ 33 + 1 = 34 := ⟨by decide +kernel, rfl⟩
theorem iX6_fill_34 : decode cX6_fill 34 = .ok (.putfield 116, 3) ∧ 34 + 3 = 37 := ⟨by decide +kernel, rfl⟩
theorem iX6_fill_37 : decode cX6_fill 37 = .ok (.aload_n 0, 1) ∧ 37 + 1 = 38 := ⟨by decide +kernel, rfl⟩
theorem iX6_fill_38 : decode cX6_fill 38 = .ok (.getfield 116, 3) ∧ 38 + 3 = 41 := ⟨by decide +kernel, rfl⟩
theorem iX6_fill_41 : decode cX6_fill 41 = .ok (.invokestatic 185, 3) ∧ 41 + 3 = 44 := ⟨by decide +kernel, rfl⟩
theorem iX6_fill_44 : decode cX6_fill 44 = .ok (.ireturn, 1) ∧ 44 + 1 = 45 := ⟨by decide +kernel, rfl⟩
theorem iX6_be_0 : decode cX6_be 0 = .ok (.aload_n 0, 1) ∧ 0 + 1 = 1 := ⟨by decide +kernel, rfl⟩
theorem iX6_be_1 : decode cX6_be 1 = .ok (.iload_n 1, 1) ∧ 1 + 1 = 2 := ⟨by decide +kernel, rfl⟩
theorem iX6_be_2 : decode cX6_be 2 = .ok (.invokevirtual 166, 3) ∧ 2 + 3 = 5 := ⟨by decide +kernel, rfl⟩
theorem iX6_be_5 : decode cX6_be 5 = .ok (.ifCond .ne 6, 3) ∧ 5 + 3 = 8 := ⟨by decide +kernel, rfl⟩
theorem iX6_be_8 : decode cX6_be 8 = .ok (.bipush (-101), 2) ∧ 8 + 2 = 10 := ⟨by decide +kernel, rfl⟩
theorem iX6_be_10 : decode cX6_be 10 = .ok (.ireturn, 1) ∧ 10 + 1 = 11 := ⟨by decide +kernel, rfl⟩
theorem iX6_be_11 : decode cX6_be 11 = .ok (.iload_n 2, 1) ∧ 11 + 1 = 12 := ⟨by decide +kernel, rfl⟩
theorem iX6_be_12 : decode cX6_be 12 = .ok (.iconst 0, 1) ∧ 12 + 1 = 13 := ⟨by decide +kernel, rfl⟩
theorem iX6_be_13 : decode cX6_be 13 = .ok (.iconst 4, 1) ∧ 13 + 1 = 14 := ⟨by decide +kernel, rfl⟩
theorem iX6_be_14 : decode cX6_be 14 = .ok (.invokestatic 68, 3) ∧ 14 + 3 = 17 := ⟨by decide +kernel, rfl⟩
theorem iX6_be_17 : decode cX6_be 17 = .ok (.ifCond .ne 6, 3) ∧ 17 + 3 = 20 := ⟨by decide +kernel, rfl⟩
theorem iX6_be_20 : decode cX6_be 20 = .ok (.bipush (-102), 2) ∧ 20 + 2 = 22 := ⟨by decide +kernel, rfl⟩
theorem iX6_be_22 : decode cX6_be 22 = .ok (.ireturn, 1) ∧ 22 + 1 = 23 := ⟨by decide +kernel, rfl⟩
theorem iX6_be_23 : decode cX6_be 23 = .ok (.aload_n 0, 1) ∧ 23 + 1 = 24 := ⟨by decide +kernel, rfl⟩
theorem iX6_be_24 : decode cX6_be 24 = .ok (.getfield 7, 3) ∧ 24 + 3 = 27 := ⟨by decide +kernel, rfl⟩
theorem iX6_be_27 : decode cX6_be 27 = .ok (.iload_n 1, 1) ∧ 27 + 1 = 28 := ⟨by decide +kernel, rfl⟩
theorem iX6_be_28 : decode cX6_be 28 = .ok (.iaload, 1) ∧ 28 + 1 = 29 := ⟨by decide +kernel, rfl⟩
theorem iX6_be_29 : decode cX6_be 29 = .ok (.istore_n 3, 1) ∧ 29 + 1 = 30 := ⟨by decide +kernel, rfl⟩
theorem iX6_be_30 : decode cX6_be 30 = .ok (.aload_n 0, 1) ∧ 30 + 1 = 31 := ⟨by decide +kernel, rfl⟩
theorem iX6_be_31 : decode cX6_be 31 = .ok (.getfield 7, 3) ∧ 31 + 3 = 34 := ⟨by decide +kernel, rfl⟩
theorem iX6_be_34 : decode cX6_be 34 = .ok (.iload_n 1, 1) ∧ 34 + 1 = 35 := ⟨by decide +kernel, rfl⟩
theorem iX6_be_35 : decode cX6_be 35 = .ok (.iload_n 2, 1) ∧ 35 + 1 = 36 := ⟨by decide +kernel, rfl⟩
theorem iX6_be_36 : decode cX6_be 36 = .ok (.iastore, 1) ∧ 36 + 1 = 37 := ⟨by decide +kernel, rfl⟩
theorem iX6_be_37 : decode cX6_be 37 = .ok (.iload_n 3, 1) ∧ 37 + 1 = 38 := ⟨by decide +kernel, rfl⟩
theorem iX6_be_38 : decode cX6_be 38 = .ok (.ireturn, 1) ∧ 38 + 1 = 39 := ⟨by decide +kernel, rfl⟩
theorem iX6_aroundAll_0 : decode cX6_aroundAll 0 = .ok (.iconst 0, 1) ∧ 0 + 1 = 1 := ⟨by decide +kernel, rfl⟩
theorem iX6_aroundAll_1 : decode cX6_aroundAll 1 = .ok (.istore_n 3, 1) ∧ 1 + 1 = 2 := ⟨by decide +kernel, rfl⟩
theorem iX6_aroundAll_2 : decode cX6_aroundAll 2 = .ok (.iconst 0, 1) ∧ 2 + 1 = 3 := ⟨by decide +kernel, rfl⟩
theorem iX6_aroundAll_3 : decode cX6_aroundAll 3 = .ok (.istore 4, 2) ∧ 3 + 2 = 5 := ⟨by decide +kernel, rfl⟩
theorem iX6_aroundAll_5 : decode cX6_aroundAll 5 = .ok (.iload 4, 2) ∧ 5 + 2 = 7 := ⟨by decide +kernel, rfl⟩
theorem iX6_aroundAll_7 : decode cX6_aroundAll 7 = .ok (.aload_n 0, 1) ∧ 7 + 1 = 8 := ⟨by decide +kernel, rfl⟩
theorem iX6_aroundAll_8 : decode cX6_aroundAll 8 = .ok (.invokevirtual 131, 3) ∧ 8 + 3 = 11 := ⟨by decide +kernel, rfl⟩
theorem iX6_aroundAll_11 : decode cX6_aroundAll 11 = .ok (.if_icmp .ge 32, 3) ∧ 11 + 3 = 14 := ⟨by decide +kernel, rfl⟩
theorem iX6_aroundAll_14 : decode cX6_aroundAll 14 = .ok (.iload_n 3, 1) ∧ 14 + 1 = 15 := ⟨by decide +kernel, rfl⟩
theorem iX6_aroundAll_15 : decode cX6_aroundAll 15 = .ok (.iload_n 2, 1) ∧ 15 + 1 = 16 := ⟨by decide +kernel, rfl⟩
theorem iX6_aroundAll_16 : decode cX6_aroundAll 16 = .ok (.iload 4, 2) ∧ 16 + 2 = 18 := ⟨by decide +kernel, rfl⟩
theorem iX6_aroundAll_18 : decode cX6_aroundAll 18 = .ok (.invokestatic 92, 3) ∧ 18 + 3 = 21 := ⟨by decide +kernel, rfl⟩
theorem iX6_aroundAll_21 : decode cX6_aroundAll 21 = .ok (.ifCond .eq 13, 3) ∧ 21 + 3 = 24 := ⟨by decide +kernel, rfl⟩
theorem iX6_aroundAll_24 : decode cX6_aroundAll 24 = .ok (.aload_n 0, 1) ∧ 24 + 1 = 25 := ⟨by decide +kernel, rfl⟩
theorem iX6_aroundAll_25 : decode cX6_aroundAll 25 = .ok (.iload_n 1, 1) ∧ 25 + 1 = 26 := ⟨by decide +kernel, rfl⟩
theorem iX6_aroundAll_26 : decode cX6_aroundAll 26 = .ok (.iload 4, 2) ∧ 26 + 2 = 28 := ⟨by decide +kernel, rfl⟩
theorem iX6_aroundAll_28 : decode cX6_aroundAll 28 = .ok (.invokevirtual 145, 3) ∧ 28 + 3 = 31 := ⟨by decide +kernel, rfl⟩
theorem iX6_aroundAll_31 : decode cX6_aroundAll 31 = .ok (.goto 4, 3) ∧ 31 + 3 = 34 := ⟨by decide +kernel, rfl⟩
theorem iX6_aroundAll_34 : decode cX6_aroundAll 34 = .ok (.iconst 0, 1) ∧ 34 + 1 = 35 := ⟨by decide +kernel, rfl⟩
theorem iX6_aroundAll_35 : decode cX6_aroundAll 35 = .ok (.ior, 1) ∧ 35 + 1 = 36 := ⟨by decide +kernel, rfl⟩
theorem iX6_aroundAll_36 : decode cX6_aroundAll 36 = .ok (.istore_n 3, 1) ∧ 36 + 1 = 37 := ⟨by decide +kernel, rfl⟩
theorem iX6_aroundAll_37 : decode cX6_aroundAll 37 = .ok (.iinc 4 1, 3) ∧ 37 + 3 = 40 := ⟨by decide +kernel, rfl⟩
theorem iX6_aroundAll_40 : decode cX6_aroundAll 40 = .ok (.goto (-35), 3) ∧ 40 + 3 = 43 := ⟨by decide +kernel, rfl⟩
theorem iX6_aroundAll_43 : decode cX6_aroundAll 43 = .ok (.iload_n 3, 1) ∧ 43 + 1 = 44 := ⟨by decide +kernel, rfl⟩
theorem iX6_aroundAll_44 : decode cX6_aroundAll 44 = .ok (.ireturn, 1) ∧ 44 + 1 = 45 := ⟨by decide +kernel, rfl⟩
theorem iX6_hopsNow_0 : decode cX6_hopsNow 0 = .ok (.iconst 1, 1) ∧ 0 + 1 = 1 := ⟨by decide +kernel, rfl⟩
theorem iX6_hopsNow_1 : decode cX6_hopsNow 1 = .ok (.aload_n 0, 1) ∧ 1 + 1 = 2 := ⟨by decide +kernel, rfl⟩
theorem iX6_hopsNow_2 : decode cX6_hopsNow 2 = .ok (.getfield 13, 3) ∧ 2 + 3 = 5 := ⟨by decide +kernel, rfl⟩
theorem iX6_hopsNow_5 : decode cX6_hopsNow 5 = .ok (.iload_n 1, 1) ∧ 5 + 1 = 6 := ⟨by decide +kernel, rfl⟩
theorem iX6_hopsNow_6 : decode cX6_hopsNow 6 = .ok (.iaload, 1) ∧ 6 + 1 = 7 := ⟨by decide +kernel, rfl⟩
theorem iX6_hopsNow_7 : decode cX6_hopsNow 7 = .ok (.ishl, 1) ∧ 7 + 1 = 8 := ⟨by decide +kernel, rfl⟩
theorem iX6_hopsNow_8 : decode cX6_hopsNow 8 = .ok (.istore_n 3, 1) ∧ 8 + 1 = 9 := ⟨by decide +kernel, rfl⟩
theorem iX6_hopsNow_9 : decode cX6_hopsNow 9 = .ok (.iconst 0, 1) ∧ 9 + 1 = 10 := ⟨by decide +kernel, rfl⟩
theorem iX6_hopsNow_10 : decode cX6_hopsNow 10 = .ok (.istore 4, 2) ∧ 10 + 2 = 12 := ⟨by decide +kernel, rfl⟩
theorem iX6_hopsNow_12 : decode cX6_hopsNow 12 = .ok (.iload_n 3, 1) ∧ 12 + 1 = 13 := ⟨by decide +kernel, rfl⟩
theorem iX6_hopsNow_13 : decode cX6_hopsNow 13 = .ok (.iload_n 2, 1) ∧ 13 + 1 = 14 := ⟨by decide +kernel, rfl⟩
theorem iX6_hopsNow_14 : decode cX6_hopsNow 14 = .ok (.invokestatic 92, 3) ∧ 14 + 3 = 17 := ⟨by decide +kernel, rfl⟩
theorem iX6_hopsNow_17 : decode cX6_hopsNow 17 = .ok (.ifCond .ne 43, 3) ∧ 17 + 3 = 20 := ⟨by decide +kernel, rfl⟩
theorem iX6_hopsNow_20 : decode cX6_hopsNow 20 = .ok (.iload_n 3, 1) ∧ 20 + 1 = 21 := ⟨by decide +kernel, rfl⟩
theorem iX6_hopsNow_21 : decode cX6_hopsNow 21 = .ok (.aload_n 0, 1) ∧ 21 + 1 = 22 := ⟨by decide +kernel, rfl⟩
theorem iX6_hopsNow_22 : decode cX6_hopsNow 22 = .ok (.aload_n 0, 1) ∧ 22 + 1 = 23 := ⟨by decide +kernel, rfl⟩
theorem iX6_hopsNow_23 : decode cX6_hopsNow 23 = .ok (.getfield 7, 3) ∧ 23 + 3 = 26 := ⟨by decide +kernel, rfl⟩
theorem iX6_hopsNow_26 : decode cX6_hopsNow 26 = .ok (.iload_n 1, 1) ∧ 26 + 1 = 27 := ⟨by decide +kernel, rfl⟩
theorem iX6_hopsNow_27 : decode cX6_hopsNow 27 = .ok (.iaload, 1) ∧ 27 + 1 = 28 := ⟨by decide +kernel, rfl⟩
theorem iX6_hopsNow_28 : decode cX6_hopsNow 28 = .ok (.iload_n 3, 1) ∧ 28 + 1 = 29 := ⟨by decide +kernel, rfl⟩
theorem iX6_hopsNow_29 : decode cX6_hopsNow 29 = .ok (.invokevirtual 188, 3) ∧ 29 + 3 = 32 := ⟨by decide +kernel, rfl⟩
theorem iX6_hopsNow_32 : decode cX6_hopsNow 32 = .ok (.aload_n 0, 1) ∧ 32 + 1 = 33 := ⟨by decide +kernel, rfl⟩
theorem iX6_hopsNow_33 : decode cX6_hopsNow 33 = .ok (.iload_n 1, 1) ∧ 33 + 1 = 34 := ⟨by decide +kernel, rfl⟩
theorem iX6_hopsNow_34 : decode cX6_hopsNow 34 = .ok (.invokevirtual 191, 3) ∧ 34 + 3 = 37 := ⟨by decide +kernel, rfl⟩
theorem iX6_hopsNow_37 : decode cX6_hopsNow 37 = .ok (.iconst (-1), 1) ∧ 37 + 1 = 38 := ⟨by decide +kernel, rfl⟩
theorem iX6_hopsNow_38 : decode cX6_hopsNow 38 = .ok (.ixor, 1) ∧ 38 + 1 = 39 := ⟨by decide +kernel, rfl⟩
theorem iX6_hopsNow_39 : decode cX6_hopsNow 39 = .ok (.iand, 1) ∧ 39 + 1 = 40 := ⟨by decide +kernel, rfl⟩
theorem iX6_hopsNow_40 : decode cX6_hopsNow 40 = .ok (.ior, 1) ∧ 40 + 1 = 41 := ⟨by decide +kernel, rfl⟩
theorem iX6_hopsNow_41 : decode cX6_hopsNow 41 = .ok (.istore 5, 2) ∧ 41 + 2 = 43 := ⟨by decide +kernel, rfl⟩
theorem iX6_hopsNow_43 : decode cX6_hopsNow 43 = .ok (.iload 5, 2) ∧ 43 + 2 = 45 := ⟨by decide +kernel, rfl⟩
theorem iX6_hopsNow_45 : decode cX6_hopsNow 45 = .ok (.iload_n 3, 1) ∧ 45 + 1 = 46 := ⟨by decide +kernel, rfl⟩
theorem iX6_hopsNow_46 : decode cX6_hopsNow 46 = .ok (.if_icmp .ne 5, 3) ∧ 46 + 3 = 49 := ⟨by decide +kernel, rfl⟩
theorem iX6_hopsNow_49 : decode cX6_hopsNow 49 = .ok (.iconst (-1), 1) ∧ 49 + 1 = 50 := ⟨by decide +kernel, rfl⟩
theorem iX6_hopsNow_50 : decode cX6_hopsNow 50 = .ok (.ireturn, 1) ∧ 50 + 1 = 51 := ⟨by decide +kernel, rfl⟩
theorem iX6_hopsNow_51 : decode cX6_hopsNow 51 = .ok (.iload 5, 2) ∧ 51 + 2 = 53 := ⟨by decide +kernel, rfl⟩
theorem iX6_hopsNow_53 : decode cX6_hopsNow 53 = .ok (.istore_n 3, 1) ∧ 53 + 1 = 54 := ⟨by decide +kernel, rfl⟩
theorem iX6_hopsNow_54 : decode cX6_hopsNow 54 = .ok (.iinc 4 1, 3) ∧ 54 + 3 = 57 := ⟨by decide +kernel, rfl⟩
theorem iX6_hopsNow_57 : decode cX6_hopsNow 57 = .ok (.goto (-45), 3) ∧ 57 + 3 = 60 := ⟨by decide +kernel, rfl⟩
theorem iX6_hopsNow_60 : decode cX6_hopsNow 60 = .ok (.iload 4, 2) ∧ 60 + 2 = 62 := ⟨by decide +kernel, rfl⟩
theorem iX6_hopsNow_62 : decode cX6_hopsNow 62 = .ok (.ireturn, 1) ∧ 62 + 1 = 63 := ⟨by decide +kernel, rfl⟩
theorem iX6_hops_0 : decode cX6_hops 0 = .ok (.aload_n 0, 1) ∧ 0 + 1 = 1 := ⟨by decide +kernel, rfl⟩
theorem iX6_hops_1 : decode cX6_hops 1 = .ok (.iload_n 1, 1) ∧ 1 + 1 = 2 := ⟨by decide +kernel, rfl⟩
theorem iX6_hops_2 : decode cX6_hops 2 = .ok (.invokevirtual 166, 3) ∧ 2 + 3 = 5 := ⟨by decide +kernel, rfl⟩
theorem iX6_hops_5 : decode cX6_hops 5 = .ok (.ifCond .eq 20, 3) ∧ 5 + 3 = 8 := ⟨by decide +kernel, rfl⟩
theorem iX6_hops_8 : decode cX6_hops 8 = .ok (.aload_n 0, 1) ∧ 8 + 1 = 9 := ⟨by decide +kernel, rfl⟩
theorem iX6_hops_9 : decode cX6_hops 9 = .ok (.iload_n 2, 1) ∧ 9 + 1 = 10 := ⟨by decide +kernel, rfl⟩
theorem iX6_hops_10 : decode cX6_hops 10 = .ok (.invokevirtual 179, 3) ∧ 10 + 3 = 13 := ⟨by decide +kernel, rfl⟩
theorem iX6_hops_13 : decode cX6_hops 13 = .ok (.ifCond .eq 12, 3) ∧ 13 + 3 = 16 := ⟨by decide +kernel, rfl⟩
theorem iX6_hops_16 : decode cX6_hops 16 = .ok (.aload_n 0, 1) ∧ 16 + 1 = 17 := ⟨by decide +kernel, rfl⟩
theorem iX6_hops_17 : decode cX6_hops 17 = .ok (.iload_n 1, 1) ∧ 17 + 1 = 18 := ⟨by decide +kernel, rfl⟩
theorem iX6_hops_18 : decode cX6_hops 18 = .ok (.iload_n 2, 1) ∧ 18 + 1 = 19 := ⟨by decide +kernel, rfl⟩
theorem iX6_hops_19 : decode cX6_hops 19 = .ok (.invokevirtual 194, 3) ∧ 19 + 3 = 22 := ⟨by decide +kernel, rfl⟩
theorem iX6_hops_22 : decode cX6_hops 22 = .ok (.goto 5, 3) ∧ 22 + 3 = 25 := ⟨by decide +kernel, rfl⟩
theorem iX6_hops_25 : decode cX6_hops 25 = .ok (.bipush (-101), 2) ∧ 25 + 2 = 27 := ⟨by decide +kernel, rfl⟩
theorem iX6_hops_27 : decode cX6_hops 27 = .ok (.ireturn, 1) ∧ 27 + 1 = 28 := ⟨by decide +kernel, rfl⟩
theorem iX6_comeTo_0 : decode cX6_comeTo 0 = .ok (.aload_n 0, 1) ∧ 0 + 1 = 1 := ⟨by decide +kernel, rfl⟩
theorem iX6_comeTo_1 : decode cX6_comeTo 1 = .ok (.getfield 32, 3) ∧ 1 + 3 = 4 := ⟨by decide +kernel, rfl⟩
theorem iX6_comeTo_4 : decode cX6_comeTo 4 = .ok (.iload_n 1, 1) ∧ 4 + 1 = 5 := ⟨by decide +kernel, rfl⟩
theorem iX6_comeTo_5 : decode cX6_comeTo 5 = .ok (.iaload, 1) ∧ 5 + 1 = 6 := ⟨by decide +kernel, rfl⟩
theorem iX6_comeTo_6 : decode cX6_comeTo 6 = .ok (.ldc 197, 2) ∧ 6 + 2 = 8 := ⟨by decide +kernel, rfl⟩
theorem iX6_comeTo_8 : decode cX6_comeTo 8 = .ok (.if_icmp .ne 30, 3) ∧ 8 + 3 = 11 := ⟨by decide +kernel, rfl⟩
theorem iX6_comeTo_11 : decode cX6_comeTo 11 = .ok (.aload_n 0, 1) ∧ 11 + 1 = 12 := ⟨by decide +kernel, rfl⟩
theorem iX6_comeTo_12 : decode cX6_comeTo 12 = .ok (.getfield 32, 3) ∧ 12 + 3 = 15 := ⟨by decide +kernel, rfl⟩
theorem iX6_comeTo_15 : decode cX6_comeTo 15 = .ok (.iload_n 1, 1) ∧ 15 + 1 = 16 := ⟨by decide +kernel, rfl⟩
theorem iX6_comeTo_16 : decode cX6_comeTo 16 = .ok (.iload_n 2, 1) ∧ 16 + 1 = 17 := ⟨by decide +kernel, rfl⟩
theorem iX6_comeTo_17 : decode cX6_comeTo 17 = .ok (.iastore, 1) ∧ 17 + 1 = 18 := ⟨by decide +kernel, rfl⟩
theorem iX6_comeTo_18 : decode cX6_comeTo 18 = .ok (.aload_n 0, 1) ∧ 18 + 1 = 19 := ⟨by decide +kernel, rfl⟩
theorem iX6_comeTo_19 : decode cX6_comeTo 19 = .ok (.getfield 35, 3) ∧ 19 + 3 = 22 := ⟨by decide +kernel, rfl⟩
theorem iX6_comeTo_22 : decode cX6_comeTo 22 = .ok (.aload_n 0, 1) ∧ 22 + 1 = 23 := ⟨by decide +kernel, rfl⟩
theorem iX6_comeTo_23 : decode cX6_comeTo 23 = .ok (.getfield 198, 3) ∧ 23 + 3 = 26 := ⟨by decide +kernel, rfl⟩
theorem iX6_comeTo_26 : decode cX6_comeTo 26 = .ok (.iload_n 1, 1) ∧ 26 + 1 = 27 := ⟨by decide +kernel, rfl⟩
theorem iX6_comeTo_27 : decode cX6_comeTo 27 = .ok (.iastore, 1) ∧ 27 + 1 = 28 := ⟨by decide +kernel, rfl⟩
theorem iX6_comeTo_28 : decode cX6_comeTo 28 = .ok (.aload_n 0, 1) ∧ 28 + 1 = 29 := ⟨by decide +kernel, rfl⟩
theorem iX6_comeTo_29 : decode cX6_comeTo 29 = .ok (.dup, 1) ∧ 29 + 1 = 30 := ⟨by decide +kernel, rfl⟩
theorem iX6_comeTo_30 : decode cX6_comeTo 30 = .ok (.getfield 198, 3) ∧ 30 + 3 = 33 := ⟨by decide +kernel, rfl⟩
theorem iX6_comeTo_33 : decode cX6_comeTo 33 = .ok (.iconst 1, 1) ∧ 33 + 1 = 34 := ⟨by decide +kernel, rfl⟩
theorem iX6_comeTo_34 : decode cX6_comeTo 34 = .ok (.iadd, 1) ∧ 34 + 1 = 35 := ⟨by decide +kernel, rfl⟩
theorem iX6_comeTo_35 : decode cX6_comeTo 35 = .ok (.putfield 198, 3) ∧ 35 + 3 = 38 := ⟨by decide +kernel, rfl⟩
theorem iX6_comeTo_38 : decode cX6_comeTo 38 = .ok (.return_, 1) ∧ 38 + 1 = 39 := ⟨by decide +kernel, rfl⟩
theorem iX6_comeFrom_0 : decode cX6_comeFrom 0 = .ok (.iload_n 1, 1) ∧ 0 + 1 = 1 := ⟨by decide +kernel, rfl⟩
theorem iX6_comeFrom_1 : decode cX6_comeFrom 1 = .ok (.bipush 12, 2) ∧ 1 + 2 = 3 := ⟨by decide +kernel, rfl⟩
theorem iX6_comeFrom_3 : decode cX6_comeFrom 3 = .ok (.idiv, 1) ∧ 3 + 1 = 4 := ⟨by decide +kernel, rfl⟩
theorem iX6_comeFrom_4 : decode cX6_comeFrom 4 = .ok (.istore 5, 2) ∧ 4 + 2 = 6 := ⟨by decide +kernel, rfl⟩
theorem iX6_comeFrom_6 : decode cX6_comeFrom 6 = .ok (.iload_n 1, 1) ∧ 6 + 1 = 7 := ⟨by decide +kernel, rfl⟩
theorem iX6_comeFrom_7 : decode cX6_comeFrom 7 = .ok (.bipush 12, 2) ∧ 7 + 2 = 9 := ⟨by decide +kernel, rfl⟩
theorem iX6_comeFrom_9 : decode cX6_comeFrom 9 = .ok (.irem, 1) ∧ 9 + 1 = 10 := ⟨by decide +kernel, rfl⟩
theorem iX6_comeFrom_10 : decode cX6_comeFrom 10 = .ok (.istore 6, 2) ∧ 10 + 2 = 12 := ⟨by decide +kernel, rfl⟩
theorem iX6_comeFrom_12 : decode cX6_comeFrom 12 = .ok (.aload_n 0, 1) ∧ 12 + 1 = 13 := ⟨by decide +kernel, rfl⟩
theorem iX6_comeFrom_13 : decode cX6_comeFrom 13 = .ok (.aload_n 0, 1) ∧ 13 + 1 = 14 := ⟨by decide +kernel, rfl⟩
theorem iX6_comeFrom_14 : decode cX6_comeFrom 14 = .ok (.getfield 7, 3) ∧ 14 + 3 = 17 := ⟨by decide +kernel, rfl⟩
theorem iX6_comeFrom_17 : decode cX6_comeFrom 17 = .ok (.iload_n 2, 1) ∧ 17 + 1 = 18 := ⟨by decide +kernel, rfl⟩
theorem iX6_comeFrom_18 : decode cX6_comeFrom 18 = .ok (.iaload, 1) ∧ 18 + 1 = 19 := ⟨by decide +kernel, rfl⟩
theorem iX6_comeFrom_19 : decode cX6_comeFrom 19 = .ok (.iload 5, 2) ∧ 19 + 2 = 21 := ⟨by decide +kernel, rfl⟩
theorem iX6_comeFrom_21 : decode cX6_comeFrom 21 = .ok (.invokevirtual 145, 3) ∧ 21 + 3 = 24 := ⟨by decide +kernel, rfl⟩
theorem iX6_comeFrom_24 : decode cX6_comeFrom 24 = .ok (.iload 4, 2) ∧ 24 + 2 = 26 := ⟨by decide +kernel, rfl⟩
theorem iX6_comeFrom_26 : decode cX6_comeFrom 26 = .ok (.iconst (-1), 1) ∧ 26 + 1 = 27 := ⟨by decide +kernel, rfl⟩
theorem iX6_comeFrom_27 : decode cX6_comeFrom 27 = .ok (.ixor, 1) ∧ 27 + 1 = 28 := ⟨by decide +kernel, rfl⟩
theorem iX6_comeFrom_28 : decode cX6_comeFrom 28 = .ok (.iand, 1) ∧ 28 + 1 = 29 := ⟨by decide +kernel, rfl⟩
theorem iX6_comeFrom_29 : decode cX6_comeFrom 29 = .ok (.iconst 1, 1) ∧ 29 + 1 = 30 := ⟨by decide +kernel, rfl⟩
theorem iX6_comeFrom_30 : decode cX6_comeFrom 30 = .ok (.iload 6, 2) ∧ 30 + 2 = 32 := ⟨by decide +kernel, rfl⟩
theorem iX6_comeFrom_32 : decode cX6_comeFrom 32 = .ok (.ishl, 1) ∧ 32 + 1 = 33 := ⟨by decide +kernel, rfl⟩
theorem iX6_comeFrom_33 : decode cX6_comeFrom 33 = .ok (.iconst (-1), 1) ∧ 33 + 1 = 34 := ⟨by decide +kernel, rfl⟩
theorem iX6_comeFrom_34 : decode cX6_comeFrom 34 = .ok (.ixor, 1) ∧ 34 + 1 = 35 := ⟨by decide +kernel, rfl⟩
theorem iX6_comeFrom_35 : decode cX6_comeFrom 35 = .ok (.iand, 1) ∧ 35 + 1 = 36 := ⟨by decide +kernel, rfl⟩
theorem iX6_comeFrom_36 : decode cX6_comeFrom 36 = .ok (.istore 7, 2) ∧ 36 + 2 = 38 := ⟨by decide +kernel, rfl⟩
theorem iX6_comeFrom_38 : decode cX6_comeFrom 38 = .ok (.aload_n 0, 1) ∧ 38 + 1 = 39 := ⟨by decide +kernel, rfl⟩
theorem iX6_comeFrom_39 : decode cX6_comeFrom 39 = .ok (.aload_n 0, 1) ∧ 39 + 1 = 40 := ⟨by decide +kernel, rfl⟩
theorem iX6_comeFrom_40 : decode cX6_comeFrom 40 = .ok (.getfield 7, 3) ∧ 40 + 3 = 43 := ⟨by decide +kernel, rfl⟩
theorem iX6_comeFrom_43 : decode cX6_comeFrom 43 = .ok (.iload_n 3, 1) ∧ 43 + 1 = 44 := ⟨by decide +kernel, rfl⟩
theorem iX6_comeFrom_44 : decode cX6_comeFrom 44 = .ok (.iaload, 1) ∧ 44 + 1 = 45 := ⟨by decide +kernel, rfl⟩
theorem iX6_comeFrom_45 : decode cX6_comeFrom 45 = .ok (.iload 6, 2) ∧ 45 + 2 = 47 := ⟨by decide +kernel, rfl⟩
theorem iX6_comeFrom_47 : decode cX6_comeFrom 47 = .ok (.invokevirtual 145, 3) ∧ 47 + 3 = 50 := ⟨by decide +kernel, rfl⟩
theorem iX6_comeFrom_50 : decode cX6_comeFrom 50 = .ok (.iload 4, 2) ∧ 50 + 2 = 52 := ⟨by decide +kernel, rfl⟩
theorem iX6_comeFrom_52 : decode cX6_comeFrom 52 = .ok (.iconst (-1), 1) ∧ 52 + 1 = 53 := ⟨by decide +kernel, rfl⟩
theorem iX6_comeFrom_53 : decode cX6_comeFrom 53 = .ok (.ixor, 1) ∧ 53 + 1 = 54 := ⟨by decide +kernel, rfl⟩
theorem iX6_comeFrom_54 : decode cX6_comeFrom 54 = .ok (.iand, 1) ∧ 54 + 1 = 55 := ⟨by decide +kernel, rfl⟩
theorem iX6_comeFrom_55 : decode cX6_comeFrom 55 = .ok (.iconst 1, 1) ∧ 55 + 1 = 56 := ⟨by decide +kernel, rfl⟩
theorem iX6_comeFrom_56 : decode cX6_comeFrom 56 = .ok (.iload 5, 2) ∧ 56 + 2 = 58 := ⟨by decide +kernel, rfl⟩
theorem iX6_comeFrom_58 : decode cX6_comeFrom 58 = .ok (.ishl, 1) ∧ 58 + 1 = 59 := ⟨by decide +kernel, rfl⟩
theorem iX6_comeFrom_59 : decode cX6_comeFrom 59 = .ok (.iconst (-1), 1) ∧ 59 + 1 = 60 := ⟨by decide +kernel, rfl⟩
theorem iX6_comeFrom_60 : decode cX6_comeFrom 60 = .ok (.ixor, 1) ∧ 60 + 1 = 61 := ⟨by decide +kernel, rfl⟩
theorem iX6_comeFrom_61 : decode cX6_comeFrom 61 = .ok (.iand, 1) ∧ 61 + 1 = 62 := ⟨by decide +kernel, rfl⟩
theorem iX6_comeFrom_62 : decode cX6_comeFrom 62 = .ok (.istore 8, 2) ∧ 62 + 2 = 64 := ⟨by decide +kernel, rfl⟩
theorem iX6_comeFrom_64 : decode cX6_comeFrom 64 = .ok (.iconst 0, 1) ∧ 64 + 1 = 65 := ⟨by decide +kernel, rfl⟩
theorem iX6_comeFrom_65 : decode cX6_comeFrom 65 = .ok (.istore 9, 2) ∧ 65 + 2 = 67 := ⟨by decide +kernel, rfl⟩
theorem iX6_comeFrom_67 : decode cX6_comeFrom 67 = .ok (.iload 9, 2) ∧ 67 + 2 = 69 := ⟨by decide +kernel, rfl⟩
theorem iX6_comeFrom_69 : decode cX6_comeFrom 69 = .ok (.aload_n 0, 1) ∧ 69 + 1 = 70 := ⟨by decide +kernel, rfl⟩
theorem iX6_comeFrom_70 : decode cX6_comeFrom 70 = .ok (.invokevirtual 131, 3) ∧ 70 + 3 = 73 := ⟨by decide +kernel, rfl⟩
theorem iX6_comeFrom_73 : decode cX6_comeFrom 73 = .ok (.if_icmp .ge 69, 3) ∧ 73 + 3 = 76 := ⟨by decide +kernel, rfl⟩
theorem iX6_comeFrom_76 : decode cX6_comeFrom 76 = .ok (.iload 7, 2) ∧ 76 + 2 = 78 := ⟨by decide +kernel, rfl⟩
theorem iX6_comeFrom_78 : decode cX6_comeFrom 78 = .ok (.iload 9, 2) ∧ 78 + 2 = 80 := ⟨by decide +kernel, rfl⟩
theorem iX6_comeFrom_80 : decode cX6_comeFrom 80 = .ok (.invokestatic 92, 3) ∧ 80 + 3 = 83 := ⟨by decide +kernel, rfl⟩
theorem iX6_comeFrom_83 : decode cX6_comeFrom 83 = .ok (.ifCond .eq 23, 3) ∧ 83 + 3 = 86 := ⟨by decide +kernel, rfl⟩
theorem iX6_comeFrom_86 : decode cX6_comeFrom 86 = .ok (.aload_n 0, 1) ∧ 86 + 1 = 87 := ⟨by decide +kernel, rfl⟩
theorem iX6_comeFrom_87 : decode cX6_comeFrom 87 = .ok (.bipush 12, 2) ∧ 87 + 2 = 89 := ⟨by decide +kernel, rfl⟩
theorem iX6_comeFrom_89 : decode cX6_comeFrom 89 = .ok (.iload 9, 2) ∧ 89 + 2 = 91 := ⟨by decide +kernel, rfl⟩
theorem iX6_comeFrom_91 : decode cX6_comeFrom 91 = .ok (.imul, 1) ∧ 91 + 1 = 92 := ⟨by decide +kernel, rfl⟩
theorem iX6_comeFrom_92 : decode cX6_comeFrom 92 = .ok (.iload 6, 2) ∧ 92 + 2 = 94 := ⟨by decide +kernel, rfl⟩
theorem iX6_comeFrom_94 : decode cX6_comeFrom 94 = .ok (.iadd, 1) ∧ 94 + 1 = 95 := ⟨by decide +kernel, rfl⟩
theorem iX6_comeFrom_95 : decode cX6_comeFrom 95 = .ok (.aload_n 0, 1) ∧ 95 + 1 = 96 := ⟨by decide +kernel, rfl⟩
theorem iX6_comeFrom_96 : decode cX6_comeFrom 96 = .ok (.getfield 32, 3) ∧ 96 + 3 = 99 := ⟨by decide +kernel, rfl⟩
theorem iX6_comeFrom_99 : decode cX6_comeFrom 99 = .ok (.iload_n 1, 1) ∧ 99 + 1 = 100 := ⟨by decide +kernel, rfl⟩
theorem iX6_comeFrom_100 : decode cX6_comeFrom 100 = .ok (.iaload, 1) ∧ 100 + 1 = 101 := ⟨by decide +kernel, rfl⟩
theorem iX6_comeFrom_101 : decode cX6_comeFrom 101 = .ok (.iconst 1, 1) ∧ 101 + 1 = 102 := ⟨by decide +kernel, rfl⟩
theorem iX6_comeFrom_102 : decode cX6_comeFrom 102 = .ok (.iadd, 1) ∧ 102 + 1 = 103 := ⟨by decide +kernel, rfl⟩
theorem iX6_comeFrom_103 : decode cX6_comeFrom 103 = .ok (.invokevirtual 201, 3) ∧ 103 + 3 = 106 := ⟨by decide +kernel, rfl⟩
theorem iX6_comeFrom_106 : decode cX6_comeFrom 106 = .ok (.iload 8, 2) ∧ 106 + 2 = 108 := ⟨by decide +kernel, rfl⟩
theorem iX6_comeFrom_108 : decode cX6_comeFrom 108 = .ok (.iload 9, 2) ∧ 108 + 2 = 110 := ⟨by decide +kernel, rfl⟩
theorem iX6_comeFrom_110 : decode cX6_comeFrom 110 = .ok (.invokestatic 92, 3) ∧ 110 + 3 = 113 := ⟨by decide +kernel, rfl⟩
theorem iX6_comeFrom_113 : decode cX6_comeFrom 113 = .ok (.ifCond .eq 23, 3) ∧ 113 + 3 = 116 := ⟨by decide +kernel, rfl⟩
theorem iX6_comeFrom_116 : decode cX6_comeFrom 116 = .ok (.aload_n 0, 1) ∧ 116 + 1 = 117 := ⟨by decide +kernel, rfl⟩
theorem iX6_comeFrom_117 : decode cX6_comeFrom 117 = .ok (.bipush 12, 2) ∧ 117 + 2 = 119 := ⟨by decide +kernel, rfl⟩
theorem iX6_comeFrom_119 : decode cX6_comeFrom 119 = .ok (.iload 5, 2) ∧ 119 + 2 = 121 := ⟨by decide +kernel, rfl⟩
theorem iX6_comeFrom_121 : decode cX6_comeFrom 121 = .ok (.imul, 1) ∧ 121 + 1 = 122 := ⟨by decide +kernel, rfl⟩
theorem iX6_comeFrom_122 : decode cX6_comeFrom 122 = .ok (.iload 9, 2) ∧ 122 + 2 = 124 := ⟨by decide +kernel, rfl⟩
theorem iX6_comeFrom_124 : decode cX6_comeFrom 124 = .ok (.iadd, 1) ∧ 124 + 1 = 125 := ⟨by decide +kernel, rfl⟩
theorem iX6_comeFrom_125 : decode cX6_comeFrom 125 = .ok (.aload_n 0, 1) ∧ 125 + 1 = 126 := ⟨by decide +kernel, rfl⟩
theorem iX6_comeFrom_126 : decode cX6_comeFrom 126 = .ok (.getfield 32, 3) ∧ 126 + 3 = 129 := ⟨by decide +kernel, rfl⟩
theorem iX6_comeFrom_129 : decode cX6_comeFrom 129 = .ok (.iload_n 1, 1) ∧ 129 + 1 = 130 := ⟨by decide +kernel, rfl⟩
theorem iX6_comeFrom_130 : decode cX6_comeFrom 130 = .ok (.iaload, 1) ∧ 130 + 1 = 131 := ⟨by decide +kernel, rfl⟩
theorem iX6_comeFrom_131 : decode cX6_comeFrom 131 = .ok (.iconst 1, 1) ∧ 131 + 1 = 132 := ⟨by decide +kernel, rfl⟩
theorem iX6_comeFrom_132 : decode cX6_comeFrom 132 = .ok (.iadd, 1) ∧ 132 + 1 = 133 := ⟨by decide +kernel, rfl⟩
theorem iX6_comeFrom_133 : decode cX6_comeFrom 133 = .ok (.invokevirtual 201, 3) ∧ 133 + 3 = 136 := ⟨by decide +kernel, rfl⟩
theorem iX6_comeFrom_136 : decode cX6_comeFrom 136 = .ok (.iinc 9 1, 3) ∧ 136 + 3 = 139 := ⟨by decide +kernel, rfl⟩
theorem iX6_comeFrom_139 : decode cX6_comeFrom 139 = .ok (.goto (-72), 3) ∧ 139 + 3 = 142 := ⟨by decide +kernel, rfl⟩
theorem iX6_comeFrom_142 : decode cX6_comeFrom 142 = .ok (.return_, 1) ∧ 142 + 1 = 143 := ⟨by decide +kernel, rfl⟩
theorem iX6_tradeNow_0 : decode cX6_tradeNow 0 = .ok (.aload_n 0, 1) ∧ 0 + 1 = 1 := ⟨by decide +kernel, rfl⟩
theorem iX6_tradeNow_1 : decode cX6_tradeNow 1 = .ok (.invokevirtual 151, 3) ∧ 1 + 3 = 4 := ⟨by decide +kernel, rfl⟩
theorem iX6_tradeNow_4 : decode cX6_tradeNow 4 = .ok (.iconst 1, 1) ∧ 4 + 1 = 5 := ⟨by decide +kernel, rfl⟩
theorem iX6_tradeNow_5 : decode cX6_tradeNow 5 = .ok (.aload_n 0, 1) ∧ 5 + 1 = 6 := ⟨by decide +kernel, rfl⟩
theorem iX6_tradeNow_6 : decode cX6_tradeNow 6 = .ok (.getfield 13, 3) ∧ 6 + 3 = 9 := ⟨by decide +kernel, rfl⟩
theorem iX6_tradeNow_9 : decode cX6_tradeNow 9 = .ok (.iload_n 1, 1) ∧ 9 + 1 = 10 := ⟨by decide +kernel, rfl⟩
theorem iX6_tradeNow_10 : decode cX6_tradeNow 10 = .ok (.iaload, 1) ∧ 10 + 1 = 11 := ⟨by decide +kernel, rfl⟩
theorem iX6_tradeNow_11 : decode cX6_tradeNow 11 = .ok (.ishl, 1) ∧ 11 + 1 = 12 := ⟨by decide +kernel, rfl⟩
theorem iX6_tradeNow_12 : decode cX6_tradeNow 12 = .ok (.iconst 1, 1) ∧ 12 + 1 = 13 := ⟨by decide +kernel, rfl⟩
theorem iX6_tradeNow_13 : decode cX6_tradeNow 13 = .ok (.aload_n 0, 1) ∧ 13 + 1 = 14 := ⟨by decide +kernel, rfl⟩
theorem iX6_tradeNow_14 : decode cX6_tradeNow 14 = .ok (.getfield 13, 3) ∧ 14 + 3 = 17 := ⟨by decide +kernel, rfl⟩
theorem iX6_tradeNow_17 : decode cX6_tradeNow 17 = .ok (.iload_n 2, 1) ∧ 17 + 1 = 18 := ⟨by decide +kernel, rfl⟩
theorem iX6_tradeNow_18 : decode cX6_tradeNow 18 = .ok (.iaload, 1) ∧ 18 + 1 = 19 := ⟨by decide +kernel, rfl⟩
theorem iX6_tradeNow_19 : decode cX6_tradeNow 19 = .ok (.ishl, 1) ∧ 19 + 1 = 20 := ⟨by decide +kernel, rfl⟩
theorem iX6_tradeNow_20 : decode cX6_tradeNow 20 = .ok (.ior, 1) ∧ 20 + 1 = 21 := ⟨by decide +kernel, rfl⟩
theorem iX6_tradeNow_21 : decode cX6_tradeNow 21 = .ok (.iconst (-1), 1) ∧ 21 + 1 = 22 := ⟨by decide +kernel, rfl⟩
theorem iX6_tradeNow_22 : decode cX6_tradeNow 22 = .ok (.ixor, 1) ∧ 22 + 1 = 23 := ⟨by decide +kernel, rfl⟩
theorem iX6_tradeNow_23 : decode cX6_tradeNow 23 = .ok (.iand, 1) ∧ 23 + 1 = 24 := ⟨by decide +kernel, rfl⟩
theorem iX6_tradeNow_24 : decode cX6_tradeNow 24 = .ok (.istore_n 3, 1) ∧ 24 + 1 = 25 := ⟨by decide +kernel, rfl⟩
theorem iX6_tradeNow_25 : decode cX6_tradeNow 25 = .ok (.iconst 0, 1) ∧ 25 + 1 = 26 := ⟨by decide +kernel, rfl⟩
theorem iX6_tradeNow_26 : decode cX6_tradeNow 26 = .ok (.istore 4, 2) ∧ 26 + 2 = 28 := ⟨by decide +kernel, rfl⟩
theorem iX6_tradeNow_28 : decode cX6_tradeNow 28 = .ok (.iload 4, 2) ∧ 28 + 2 = 30 := ⟨by decide +kernel, rfl⟩
theorem iX6_tradeNow_30 : decode cX6_tradeNow 30 = .ok (.sipush 144, 3) ∧ 30 + 3 = 33 := ⟨by decide +kernel, rfl⟩
theorem iX6_tradeNow_33 : decode cX6_tradeNow 33 = .ok (.if_icmp .ge 18, 3) ∧ 33 + 3 = 36 := ⟨by decide +kernel, rfl⟩
theorem iX6_tradeNow_36 : decode cX6_tradeNow 36 = .ok (.aload_n 0, 1) ∧ 36 + 1 = 37 := ⟨by decide +kernel, rfl⟩
theorem iX6_tradeNow_37 : decode cX6_tradeNow 37 = .ok (.getfield 32, 3) ∧ 37 + 3 = 40 := ⟨by decide +kernel, rfl⟩
theorem iX6_tradeNow_40 : decode cX6_tradeNow 40 = .ok (.iload 4, 2) ∧ 40 + 2 = 42 := ⟨by decide +kernel, rfl⟩
theorem iX6_tradeNow_42 : decode cX6_tradeNow 42 = .ok (.ldc 197, 2) ∧ 42 + 2 = 44 := ⟨by decide +kernel, rfl⟩
theorem iX6_tradeNow_44 : decode cX6_tradeNow 44 = .ok (.iastore, 1) ∧ 44 + 1 = 45 := ⟨by decide +kernel, rfl⟩
theorem iX6_tradeNow_45 : decode cX6_tradeNow 45 = .ok (.iinc 4 1, 3) ∧ 45 + 3 = 48 := ⟨by decide +kernel, rfl⟩
theorem iX6_tradeNow_48 : decode cX6_tradeNow 48 = .ok (.goto (-20), 3) ∧ 48 + 3 = 51 := ⟨by decide +kernel, rfl⟩
theorem iX6_tradeNow_51 : decode cX6_tradeNow 51 = .ok (.aload_n 0, 1) ∧ 51 + 1 = 52 := ⟨by decide +kernel, rfl⟩
theorem iX6_tradeNow_52 : decode cX6_tradeNow 52 = .ok (.iconst 0, 1) ∧ 52 + 1 = 53 := ⟨by decide +kernel, rfl⟩
theorem iX6_tradeNow_53 : decode cX6_tradeNow 53 = .ok (.putfield 198, 3) ∧ 53 + 3 = 56 := ⟨by decide +kernel, rfl⟩
theorem iX6_tradeNow_56 : decode cX6_tradeNow 56 = .ok (.aload_n 0, 1) ∧ 56 + 1 = 57 := ⟨by decide +kernel, rfl⟩
theorem iX6_tradeNow_57 : decode cX6_tradeNow 57 = .ok (.bipush 12, 2) ∧ 57 + 2 = 59 := ⟨by decide +kernel, rfl⟩
theorem iX6_tradeNow_59 : decode cX6_tradeNow 59 = .ok (.aload_n 0, 1) ∧ 59 + 1 = 60 := ⟨by decide +kernel, rfl⟩
theorem iX6_tradeNow_60 : decode cX6_tradeNow 60 = .ok (.getfield 13, 3) ∧ 60 + 3 = 63 := ⟨by decide +kernel, rfl⟩
theorem iX6_tradeNow_63 : decode cX6_tradeNow 63 = .ok (.iload_n 1, 1) ∧ 63 + 1 = 64 := ⟨by decide +kernel, rfl⟩
theorem iX6_tradeNow_64 : decode cX6_tradeNow 64 = .ok (.iaload, 1) ∧ 64 + 1 = 65 := ⟨by decide +kernel, rfl⟩
theorem iX6_tradeNow_65 : decode cX6_tradeNow 65 = .ok (.imul, 1) ∧ 65 + 1 = 66 := ⟨by decide +kernel, rfl⟩
theorem iX6_tradeNow_66 : decode cX6_tradeNow 66 = .ok (.aload_n 0, 1) ∧ 66 + 1 = 67 := ⟨by decide +kernel, rfl⟩
theorem iX6_tradeNow_67 : decode cX6_tradeNow 67 = .ok (.getfield 13, 3) ∧ 67 + 3 = 70 := ⟨by decide +kernel, rfl⟩
theorem iX6_tradeNow_70 : decode cX6_tradeNow 70 = .ok (.iload_n 2, 1) ∧ 70 + 1 = 71 := ⟨by decide +kernel, rfl⟩
theorem iX6_tradeNow_71 : decode cX6_tradeNow 71 = .ok (.iaload, 1) ∧ 71 + 1 = 72 := ⟨by decide +kernel, rfl⟩
theorem iX6_tradeNow_72 : decode cX6_tradeNow 72 = .ok (.iadd, 1) ∧ 72 + 1 = 73 := ⟨by decide +kernel, rfl⟩
theorem iX6_tradeNow_73 : decode cX6_tradeNow 73 = .ok (.iconst 0, 1) ∧ 73 + 1 = 74 := ⟨by decide +kernel, rfl⟩
theorem iX6_tradeNow_74 : decode cX6_tradeNow 74 = .ok (.invokevirtual 201, 3) ∧ 74 + 3 = 77 := ⟨by decide +kernel, rfl⟩
theorem iX6_tradeNow_77 : decode cX6_tradeNow 77 = .ok (.iconst 0, 1) ∧ 77 + 1 = 78 := ⟨by decide +kernel, rfl⟩
theorem iX6_tradeNow_78 : decode cX6_tradeNow 78 = .ok (.istore 4, 2) ∧ 78 + 2 = 80 := ⟨by decide +kernel, rfl⟩
theorem iX6_tradeNow_80 : decode cX6_tradeNow 80 = .ok (.iload 4, 2) ∧ 80 + 2 = 82 := ⟨by decide +kernel, rfl⟩
theorem iX6_tradeNow_82 : decode cX6_tradeNow 82 = .ok (.aload_n 0, 1) ∧ 82 + 1 = 83 := ⟨by decide +kernel, rfl⟩
theorem iX6_tradeNow_83 : decode cX6_tradeNow 83 = .ok (.getfield 198, 3) ∧ 83 + 3 = 86 := ⟨by decide +kernel, rfl⟩
theorem iX6_tradeNow_86 : decode cX6_tradeNow 86 = .ok (.if_icmp .ge 23, 3) ∧ 86 + 3 = 89 := ⟨by decide +kernel, rfl⟩
theorem iX6_tradeNow_89 : decode cX6_tradeNow 89 = .ok (.aload_n 0, 1) ∧ 89 + 1 = 90 := ⟨by decide +kernel, rfl⟩
theorem iX6_tradeNow_90 : decode cX6_tradeNow 90 = .ok (.aload_n 0, 1) ∧ 90 + 1 = 91 := ⟨by decide +kernel, rfl⟩
theorem iX6_tradeNow_91 : decode cX6_tradeNow 91 = .ok (.getfield 35, 3) ∧ 91 + 3 = 94 := ⟨by decide +kernel, rfl⟩
theorem iX6_tradeNow_94 : decode cX6_tradeNow 94 = .ok (.iload 4, 2) ∧ 94 + 2 = 96 := ⟨by decide +kernel, rfl⟩
theorem iX6_tradeNow_96 : decode cX6_tradeNow 96 = .ok (.iaload, 1) ∧ 96 + 1 = 97 := ⟨by decide +kernel, rfl⟩
theorem iX6_tradeNow_97 : decode cX6_tradeNow 97 = .ok (.iload_n 1, 1) ∧ 97 + 1 = 98 := ⟨by decide +kernel, rfl⟩
theorem iX6_tradeNow_98 : decode cX6_tradeNow 98 = .ok (.iload_n 2, 1) ∧ 98 + 1 = 99 := ⟨by decide +kernel, rfl⟩
theorem iX6_tradeNow_99 : decode cX6_tradeNow 99 = .ok (.iload_n 3, 1) ∧ 99 + 1 = 100 := ⟨by decide +kernel, rfl⟩
theorem iX6_tradeNow_100 : decode cX6_tradeNow 100 = .ok (.invokevirtual 205, 3) ∧ 100 + 3 = 103 := ⟨by decide +kernel, rfl⟩
theorem iX6_tradeNow_103 : decode cX6_tradeNow 103 = .ok (.iinc 4 1, 3) ∧ 103 + 3 = 106 := ⟨by decide +kernel, rfl⟩
theorem iX6_tradeNow_106 : decode cX6_tradeNow 106 = .ok (.goto (-26), 3) ∧ 106 + 3 = 109 := ⟨by decide +kernel, rfl⟩
theorem iX6_tradeNow_109 : decode cX6_tradeNow 109 = .ok (.aload_n 0, 1) ∧ 109 + 1 = 110 := ⟨by decide +kernel, rfl⟩
theorem iX6_tradeNow_110 : decode cX6_tradeNow 110 = .ok (.getfield 32, 3) ∧ 110 + 3 = 113 := ⟨by decide +kernel, rfl⟩
theorem iX6_tradeNow_113 : decode cX6_tradeNow 113 = .ok (.bipush 12, 2) ∧ 113 + 2 = 115 := ⟨by decide +kernel, rfl⟩
theorem iX6_tradeNow_115 : decode cX6_tradeNow 115 = .ok (.aload_n 0, 1) ∧ 115 + 1 = 116 := ⟨by decide +kernel, rfl⟩
theorem iX6_tradeNow_116 : decode cX6_tradeNow 116 = .ok (.getfield 13, 3) ∧ 116 + 3 = 119 := ⟨by decide +kernel, rfl⟩
theorem iX6_tradeNow_119 : decode cX6_tradeNow 119 = .ok (.iload_n 2, 1) ∧ 119 + 1 = 120 := ⟨by decide +kernel, rfl⟩
theorem iX6_tradeNow_120 : decode cX6_tradeNow 120 = .ok (.iaload, 1) ∧ 120 + 1 = 121 := ⟨by decide +kernel, rfl⟩
theorem iX6_tradeNow_121 : decode cX6_tradeNow 121 = .ok (.imul, 1) ∧ 121 + 1 = 122 := ⟨by decide +kernel, rfl⟩
theorem iX6_tradeNow_122 : decode cX6_tradeNow 122 = .ok (.aload_n 0, 1) ∧ 122 + 1 = 123 := ⟨by decide +kernel, rfl⟩
theorem iX6_tradeNow_123 : decode cX6_tradeNow 123 = .ok (.getfield 13, 3) ∧ 123 + 3 = 126 := ⟨by decide +kernel, rfl⟩
theorem iX6_tradeNow_126 : decode cX6_tradeNow 126 = .ok (.iload_n 1, 1) ∧ 126 + 1 = 127 := ⟨by decide +kernel, rfl⟩
theorem iX6_tradeNow_127 : decode cX6_tradeNow 127 = .ok (.iaload, 1) ∧ 127 + 1 = 128 := ⟨by decide +kernel, rfl⟩
theorem iX6_tradeNow_128 : decode cX6_tradeNow 128 = .ok (.iadd, 1) ∧ 128 + 1 = 129 := ⟨by decide +kernel, rfl⟩
theorem iX6_tradeNow_129 : decode cX6_tradeNow 129 = .ok (.iaload, 1) ∧ 129 + 1 = 130 := ⟨by decide +kernel, rfl⟩
theorem iX6_tradeNow_130 : decode cX6_tradeNow 130 = .ok (.istore 4, 2) ∧ 130 + 2 = 132 := ⟨by decide +kernel, rfl⟩
theorem iX6_tradeNow_132 : decode cX6_tradeNow 132 = .ok (.iload 4, 2) ∧ 132 + 2 = 134 := ⟨by decide +kernel, rfl⟩
theorem iX6_tradeNow_134 : decode cX6_tradeNow 134 = .ok (.ldc 197, 2) ∧ 134 + 2 = 136 := ⟨by decide +kernel, rfl⟩
theorem iX6_tradeNow_136 : decode cX6_tradeNow 136 = .ok (.if_icmp .ne 7, 3) ∧ 136 + 3 = 139 := ⟨by decide +kernel, rfl⟩
theorem iX6_tradeNow_139 : decode cX6_tradeNow 139 = .ok (.iconst (-1), 1) ∧ 139 + 1 = 140 := ⟨by decide +kernel, rfl⟩
theorem iX6_tradeNow_140 : decode cX6_tradeNow 140 = .ok (.goto 5, 3) ∧ 140 + 3 = 143 := ⟨by decide +kernel, rfl⟩
theorem iX6_tradeNow_143 : decode cX6_tradeNow 143 = .ok (.iload 4, 2) ∧ 143 + 2 = 145 := ⟨by decide +kernel, rfl⟩
theorem iX6_tradeNow_145 : decode cX6_tradeNow 145 = .ok (.ireturn, 1) ∧ 145 + 1 = 146 := ⟨by decide +kernel, rfl⟩
theorem iX6_trade_0 : decode cX6_trade 0 = .ok (.aload_n 0, 1) ∧ 0 + 1 = 1 := ⟨by decide +kernel, rfl⟩
theorem iX6_trade_1 : decode cX6_trade 1 = .ok (.iload_n 1, 1) ∧ 1 + 1 = 2 := ⟨by decide +kernel, rfl⟩
theorem iX6_trade_2 : decode cX6_trade 2 = .ok (.invokevirtual 166, 3) ∧ 2 + 3 = 5 := ⟨by decide +kernel, rfl⟩
theorem iX6_trade_5 : decode cX6_trade 5 = .ok (.ifCond .eq 25, 3) ∧ 5 + 3 = 8 := ⟨by decide +kernel, rfl⟩
theorem iX6_trade_8 : decode cX6_trade 8 = .ok (.aload_n 0, 1) ∧ 8 + 1 = 9 := ⟨by decide +kernel, rfl⟩
theorem iX6_trade_9 : decode cX6_trade 9 = .ok (.iload_n 2, 1) ∧ 9 + 1 = 10 := ⟨by decide +kernel, rfl⟩
theorem iX6_trade_10 : decode cX6_trade 10 = .ok (.invokevirtual 166, 3) ∧ 10 + 3 = 13 := ⟨by decide +kernel, rfl⟩
theorem iX6_trade_13 : decode cX6_trade 13 = .ok (.ifCond .eq 17, 3) ∧ 13 + 3 = 16 := ⟨by decide +kernel, rfl⟩
theorem iX6_trade_16 : decode cX6_trade 16 = .ok (.iload_n 1, 1) ∧ 16 + 1 = 17 := ⟨by decide +kernel, rfl⟩
theorem iX6_trade_17 : decode cX6_trade 17 = .ok (.iload_n 2, 1) ∧ 17 + 1 = 18 := ⟨by decide +kernel, rfl⟩
theorem iX6_trade_18 : decode cX6_trade 18 = .ok (.if_icmp .eq 12, 3) ∧ 18 + 3 = 21 := ⟨by decide +kernel, rfl⟩
theorem iX6_trade_21 : decode cX6_trade 21 = .ok (.aload_n 0, 1) ∧ 21 + 1 = 22 := ⟨by decide +kernel, rfl⟩
theorem iX6_trade_22 : decode cX6_trade 22 = .ok (.iload_n 1, 1) ∧ 22 + 1 = 23 := ⟨by decide +kernel, rfl⟩
theorem iX6_trade_23 : decode cX6_trade 23 = .ok (.iload_n 2, 1) ∧ 23 + 1 = 24 := ⟨by decide +kernel, rfl⟩
theorem iX6_trade_24 : decode cX6_trade 24 = .ok (.invokevirtual 209, 3) ∧ 24 + 3 = 27 := ⟨by decide +kernel, rfl⟩
theorem iX6_trade_27 : decode cX6_trade 27 = .ok (.goto 5, 3) ∧ 27 + 3 = 30 := ⟨by decide +kernel, rfl⟩
theorem iX6_trade_30 : decode cX6_trade 30 = .ok (.bipush (-101), 2) ∧ 30 + 2 = 32 := ⟨by decide +kernel, rfl⟩
theorem iX6_trade_32 : decode cX6_trade 32 = .ok (.ireturn, 1) ∧ 32 + 1 = 33 := ⟨by decide +kernel, rfl⟩
theorem iX6_goOn_0 : decode cX6_goOn 0 = .ok (.iconst 0, 1) ∧ 0 + 1 = 1 := ⟨by decide +kernel, rfl⟩
theorem iX6_goOn_1 : decode cX6_goOn 1 = .ok (.istore 4, 2) ∧ 1 + 2 = 3 := ⟨by decide +kernel, rfl⟩
theorem iX6_goOn_3 : decode cX6_goOn 3 = .ok (.iload 4, 2) ∧ 3 + 2 = 5 := ⟨by decide +kernel, rfl⟩
theorem iX6_goOn_5 : decode cX6_goOn 5 = .ok (.aload_n 0, 1) ∧ 5 + 1 = 6 := ⟨by decide +kernel, rfl⟩
theorem iX6_goOn_6 : decode cX6_goOn 6 = .ok (.invokevirtual 131, 3) ∧ 6 + 3 = 9 := ⟨by decide +kernel, rfl⟩
theorem iX6_goOn_9 : decode cX6_goOn 9 = .ok (.if_icmp .ge 84, 3) ∧ 9 + 3 = 12 := ⟨by decide +kernel, rfl⟩
theorem iX6_goOn_12 : decode cX6_goOn 12 = .ok (.aload_n 0, 1) ∧ 12 + 1 = 13 := ⟨by decide +kernel, rfl⟩
theorem iX6_goOn_13 : decode cX6_goOn 13 = .ok (.getfield 38, 3) ∧ 13 + 3 = 16 := ⟨by decide +kernel, rfl⟩
theorem iX6_goOn_16 : decode cX6_goOn 16 = .ok (.iload_n 2, 1) ∧ 16 + 1 = 17 := ⟨by decide +kernel, rfl⟩
theorem iX6_goOn_17 : decode cX6_goOn 17 = .ok (.iaload, 1) ∧ 17 + 1 = 18 := ⟨by decide +kernel, rfl⟩
theorem iX6_goOn_18 : decode cX6_goOn 18 = .ok (.iload 4, 2) ∧ 18 + 2 = 20 := ⟨by decide +kernel, rfl⟩
theorem iX6_goOn_20 : decode cX6_goOn 20 = .ok (.invokestatic 92, 3) ∧ 20 + 3 = 23 := ⟨by decide +kernel, rfl⟩
theorem iX6_goOn_23 : decode cX6_goOn 23 = .ok (.ifCond .eq 64, 3) ∧ 23 + 3 = 26 := ⟨by decide +kernel, rfl⟩
theorem iX6_goOn_26 : decode cX6_goOn 26 = .ok (.aload_n 0, 1) ∧ 26 + 1 = 27 := ⟨by decide +kernel, rfl⟩
theorem iX6_goOn_27 : decode cX6_goOn 27 = .ok (.iload_n 1, 1) ∧ 27 + 1 = 28 := ⟨by decide +kernel, rfl⟩
theorem iX6_goOn_28 : decode cX6_goOn 28 = .ok (.iload 4, 2) ∧ 28 + 2 = 30 := ⟨by decide +kernel, rfl⟩
theorem iX6_goOn_30 : decode cX6_goOn 30 = .ok (.invokevirtual 145, 3) ∧ 30 + 3 = 33 := ⟨by decide +kernel, rfl⟩
theorem iX6_goOn_33 : decode cX6_goOn 33 = .ok (.iload_n 3, 1) ∧ 33 + 1 = 34 := ⟨by decide +kernel, rfl⟩
theorem iX6_goOn_34 : decode cX6_goOn 34 = .ok (.iand, 1) ∧ 34 + 1 = 35 := ⟨by decide +kernel, rfl⟩
theorem iX6_goOn_35 : decode cX6_goOn 35 = .ok (.iload_n 2, 1) ∧ 35 + 1 = 36 := ⟨by decide +kernel, rfl⟩
theorem iX6_goOn_36 : decode cX6_goOn 36 = .ok (.iconst (-1), 1) ∧ 36 + 1 = 37 := ⟨by decide +kernel, rfl⟩
theorem iX6_goOn_37 : decode cX6_goOn 37 = .ok (.ixor, 1) ∧ 37 + 1 = 38 := ⟨by decide +kernel, rfl⟩
theorem iX6_goOn_38 : decode cX6_goOn 38 = .ok (.iand, 1) ∧ 38 + 1 = 39 := ⟨by decide +kernel, rfl⟩
theorem iX6_goOn_39 : decode cX6_goOn 39 = .ok (.istore 5, 2) ∧ 39 + 2 = 41 := ⟨by decide +kernel, rfl⟩
theorem iX6_goOn_41 : decode cX6_goOn 41 = .ok (.iconst 0, 1) ∧ 41 + 1 = 42 := ⟨by decide +kernel, rfl⟩
theorem iX6_goOn_42 : decode cX6_goOn 42 = .ok (.istore 6, 2) ∧ 42 + 2 = 44 := ⟨by decide +kernel, rfl⟩
theorem iX6_goOn_44 : decode cX6_goOn 44 = .ok (.iload 6, 2) ∧ 44 + 2 = 46 := ⟨by decide +kernel, rfl⟩
theorem iX6_goOn_46 : decode cX6_goOn 46 = .ok (.aload_n 0, 1) ∧ 46 + 1 = 47 := ⟨by decide +kernel, rfl⟩
theorem iX6_goOn_47 : decode cX6_goOn 47 = .ok (.invokevirtual 131, 3) ∧ 47 + 3 = 50 := ⟨by decide +kernel, rfl⟩
theorem iX6_goOn_50 : decode cX6_goOn 50 = .ok (.if_icmp .ge 37, 3) ∧ 50 + 3 = 53 := ⟨by decide +kernel, rfl⟩
theorem iX6_goOn_53 : decode cX6_goOn 53 = .ok (.iload 5, 2) ∧ 53 + 2 = 55 := ⟨by decide +kernel, rfl⟩
theorem iX6_goOn_55 : decode cX6_goOn 55 = .ok (.iload 6, 2) ∧ 55 + 2 = 57 := ⟨by decide +kernel, rfl⟩
theorem iX6_goOn_57 : decode cX6_goOn 57 = .ok (.invokestatic 92, 3) ∧ 57 + 3 = 60 := ⟨by decide +kernel, rfl⟩
theorem iX6_goOn_60 : decode cX6_goOn 60 = .ok (.ifCond .eq 21, 3) ∧ 60 + 3 = 63 := ⟨by decide +kernel, rfl⟩
theorem iX6_goOn_63 : decode cX6_goOn 63 = .ok (.aload_n 0, 1) ∧ 63 + 1 = 64 := ⟨by decide +kernel, rfl⟩
theorem iX6_goOn_64 : decode cX6_goOn 64 = .ok (.getfield 38, 3) ∧ 64 + 3 = 67 := ⟨by decide +kernel, rfl⟩
theorem iX6_goOn_67 : decode cX6_goOn 67 = .ok (.iload_n 2, 1) ∧ 67 + 1 = 68 := ⟨by decide +kernel, rfl⟩
theorem iX6_goOn_68 : decode cX6_goOn 68 = .ok (.iconst 1, 1) ∧ 68 + 1 = 69 := ⟨by decide +kernel, rfl⟩
theorem iX6_goOn_69 : decode cX6_goOn 69 = .ok (.iload 6, 2) ∧ 69 + 2 = 71 := ⟨by decide +kernel, rfl⟩
theorem iX6_goOn_71 : decode cX6_goOn 71 = .ok (.ishl, 1) ∧ 71 + 1 = 72 := ⟨by decide +kernel, rfl⟩
theorem iX6_goOn_72 : decode cX6_goOn 72 = .ok (.ior, 1) ∧ 72 + 1 = 73 := ⟨by decide +kernel, rfl⟩
theorem iX6_goOn_73 : decode cX6_goOn 73 = .ok (.dup2, 1) ∧ 73 + 1 = 74 := ⟨by decide +kernel, rfl⟩
theorem iX6_goOn_74 : decode cX6_goOn 74 = .ok (.iaload, 1) ∧ 74 + 1 = 75 := ⟨by decide +kernel, rfl⟩
theorem iX6_goOn_75 : decode cX6_goOn 75 = .ok (.iconst 1, 1) ∧ 75 + 1 = 76 := ⟨by decide +kernel, rfl⟩
theorem iX6_goOn_76 : decode cX6_goOn 76 = .ok (.iload 6, 2) ∧ 76 + 2 = 78 := ⟨by decide +kernel, rfl⟩
theorem iX6_goOn_78 : decode cX6_goOn 78 = .ok (.ishl, 1) ∧ 78 + 1 = 79 := ⟨by decide +kernel, rfl⟩
theorem iX6_goOn_79 : decode cX6_goOn 79 = .ok (.ior, 1) ∧ 79 + 1 = 80 := ⟨by decide +kernel, rfl⟩
theorem iX6_goOn_80 : decode cX6_goOn 80 = .ok (.iastore, 1) ∧ 80 + 1 = 81 := ⟨by decide +kernel, rfl⟩
theorem iX6_goOn_81 : decode cX6_goOn 81 = .ok (.iinc 6 1, 3) ∧ 81 + 3 = 84 := ⟨by decide +kernel, rfl⟩
theorem iX6_goOn_84 : decode cX6_goOn 84 = .ok (.goto (-40), 3) ∧ 84 + 3 = 87 := ⟨by decide +kernel, rfl⟩
theorem iX6_goOn_87 : decode cX6_goOn 87 = .ok (.iinc 4 1, 3) ∧ 87 + 3 = 90 := ⟨by decide +kernel, rfl⟩
theorem iX6_goOn_90 : decode cX6_goOn 90 = .ok (.goto (-87), 3) ∧ 90 + 3 = 93 := ⟨by decide +kernel, rfl⟩
theorem iX6_goOn_93 : decode cX6_goOn 93 = .ok (.return_, 1) ∧ 93 + 1 = 94 := ⟨by decide +kernel, rfl⟩
theorem iX6_longestBy_0 : decode cX6_longestBy 0 = .ok (.iconst 0, 1) ∧ 0 + 1 = 1 := ⟨by decide +kernel, rfl⟩
theorem iX6_longestBy_1 : decode cX6_longestBy 1 = .ok (.istore_n 3, 1) ∧ 1 + 1 = 2 := ⟨by decide +kernel, rfl⟩
theorem iX6_longestBy_2 : decode cX6_longestBy 2 = .ok (.iload_n 3, 1) ∧ 2 + 1 = 3 := ⟨by decide +kernel, rfl⟩
theorem iX6_longestBy_3 : decode cX6_longestBy 3 = .ok (.sipush 4096, 3) ∧ 3 + 3 = 6 := ⟨by decide +kernel, rfl⟩
theorem iX6_longestBy_6 : decode cX6_longestBy 6 = .ok (.if_icmp .ge 16, 3) ∧ 6 + 3 = 9 := ⟨by decide +kernel, rfl⟩
theorem iX6_longestBy_9 : decode cX6_longestBy 9 = .ok (.aload_n 0, 1) ∧ 9 + 1 = 10 := ⟨by decide +kernel, rfl⟩
theorem iX6_longestBy_10 : decode cX6_longestBy 10 = .ok (.getfield 38, 3) ∧ 10 + 3 = 13 := ⟨by decide +kernel, rfl⟩
theorem iX6_longestBy_13 : decode cX6_longestBy 13 = .ok (.iload_n 3, 1) ∧ 13 + 1 = 14 := ⟨by decide +kernel, rfl⟩
theorem iX6_longestBy_14 : decode cX6_longestBy 14 = .ok (.iconst 0, 1) ∧ 14 + 1 = 15 := ⟨by decide +kernel, rfl⟩
theorem iX6_longestBy_15 : decode cX6_longestBy 15 = .ok (.iastore, 1) ∧ 15 + 1 = 16 := ⟨by decide +kernel, rfl⟩
theorem iX6_longestBy_16 : decode cX6_longestBy 16 = .ok (.iinc 3 1, 3) ∧ 16 + 3 = 19 := ⟨by decide +kernel, rfl⟩
theorem iX6_longestBy_19 : decode cX6_longestBy 19 = .ok (.goto (-17), 3) ∧ 19 + 3 = 22 := ⟨by decide +kernel, rfl⟩
theorem iX6_longestBy_22 : decode cX6_longestBy 22 = .ok (.iconst 1, 1) ∧ 22 + 1 = 23 := ⟨by decide +kernel, rfl⟩
theorem iX6_longestBy_23 : decode cX6_longestBy 23 = .ok (.aload_n 0, 1) ∧ 23 + 1 = 24 := ⟨by decide +kernel, rfl⟩
theorem iX6_longestBy_24 : decode cX6_longestBy 24 = .ok (.getfield 13, 3) ∧ 24 + 3 = 27 := ⟨by decide +kernel, rfl⟩
theorem iX6_longestBy_27 : decode cX6_longestBy 27 = .ok (.iload_n 1, 1) ∧ 27 + 1 = 28 := ⟨by decide +kernel, rfl⟩
theorem iX6_longestBy_28 : decode cX6_longestBy 28 = .ok (.iaload, 1) ∧ 28 + 1 = 29 := ⟨by decide +kernel, rfl⟩
theorem iX6_longestBy_29 : decode cX6_longestBy 29 = .ok (.ishl, 1) ∧ 29 + 1 = 30 := ⟨by decide +kernel, rfl⟩
theorem iX6_longestBy_30 : decode cX6_longestBy 30 = .ok (.iconst 1, 1) ∧ 30 + 1 = 31 := ⟨by decide +kernel, rfl⟩
theorem iX6_longestBy_31 : decode cX6_longestBy 31 = .ok (.iload_n 2, 1) ∧ 31 + 1 = 32 := ⟨by decide +kernel, rfl⟩
theorem iX6_longestBy_32 : decode cX6_longestBy 32 = .ok (.ishl, 1) ∧ 32 + 1 = 33 := ⟨by decide +kernel, rfl⟩
theorem iX6_longestBy_33 : decode cX6_longestBy 33 = .ok (.ior, 1) ∧ 33 + 1 = 34 := ⟨by decide +kernel, rfl⟩
theorem iX6_longestBy_34 : decode cX6_longestBy 34 = .ok (.istore_n 3, 1) ∧ 34 + 1 = 35 := ⟨by decide +kernel, rfl⟩
theorem iX6_longestBy_35 : decode cX6_longestBy 35 = .ok (.aload_n 0, 1) ∧ 35 + 1 = 36 := ⟨by decide +kernel, rfl⟩
theorem iX6_longestBy_36 : decode cX6_longestBy 36 = .ok (.getfield 116, 3) ∧ 36 + 3 = 39 := ⟨by decide +kernel, rfl⟩
theorem iX6_longestBy_39 : decode cX6_longestBy 39 = .ok (.aload_n 0, 1) ∧ 39 + 1 = 40 := ⟨by decide +kernel, rfl⟩
theorem iX6_longestBy_40 : decode cX6_longestBy 40 = .ok (.iload_n 1, 1) ∧ 40 + 1 = 41 := ⟨by decide +kernel, rfl⟩
theorem iX6_longestBy_41 : decode cX6_longestBy 41 = .ok (.invokevirtual 191, 3) ∧ 41 + 3 = 44 := ⟨by decide +kernel, rfl⟩
theorem iX6_longestBy_44 : decode cX6_longestBy 44 = .ok (.iconst (-1), 1) ∧ 44 + 1 = 45 := ⟨by decide +kernel, rfl⟩
theorem iX6_longestBy_45 : decode cX6_longestBy 45 = .ok (.ixor, 1) ∧ 45 + 1 = 46 := ⟨by decide +kernel, rfl⟩
theorem iX6_longestBy_46 : decode cX6_longestBy 46 = .ok (.iand, 1) ∧ 46 + 1 = 47 := ⟨by decide +kernel, rfl⟩
theorem iX6_longestBy_47 : decode cX6_longestBy 47 = .ok (.istore 4, 2) ∧ 47 + 2 = 49 := ⟨by decide +kernel, rfl⟩
theorem iX6_longestBy_49 : decode cX6_longestBy 49 = .ok (.aload_n 0, 1) ∧ 49 + 1 = 50 := ⟨by decide +kernel, rfl⟩
theorem iX6_longestBy_50 : decode cX6_longestBy 50 = .ok (.getfield 38, 3) ∧ 50 + 3 = 53 := ⟨by decide +kernel, rfl⟩
theorem iX6_longestBy_53 : decode cX6_longestBy 53 = .ok (.iload_n 3, 1) ∧ 53 + 1 = 54 := ⟨by decide +kernel, rfl⟩
theorem iX6_longestBy_54 : decode cX6_longestBy 54 = .ok (.iconst 1, 1) ∧ 54 + 1 = 55 := ⟨by decide +kernel, rfl⟩
theorem iX6_longestBy_55 : decode cX6_longestBy 55 = .ok (.iload_n 2, 1) ∧ 55 + 1 = 56 := ⟨by decide +kernel, rfl⟩
theorem iX6_longestBy_56 : decode cX6_longestBy 56 = .ok (.ishl, 1) ∧ 56 + 1 = 57 := ⟨by decide +kernel, rfl⟩
theorem iX6_longestBy_57 : decode cX6_longestBy 57 = .ok (.iastore, 1) ∧ 57 + 1 = 58 := ⟨by decide +kernel, rfl⟩
theorem iX6_longestBy_58 : decode cX6_longestBy 58 = .ok (.iconst 0, 1) ∧ 58 + 1 = 59 := ⟨by decide +kernel, rfl⟩
theorem iX6_longestBy_59 : decode cX6_longestBy 59 = .ok (.istore 5, 2) ∧ 59 + 2 = 61 := ⟨by decide +kernel, rfl⟩
theorem iX6_longestBy_61 : decode cX6_longestBy 61 = .ok (.iload_n 3, 1) ∧ 61 + 1 = 62 := ⟨by decide +kernel, rfl⟩
theorem iX6_longestBy_62 : decode cX6_longestBy 62 = .ok (.istore 6, 2) ∧ 62 + 2 = 64 := ⟨by decide +kernel, rfl⟩
theorem iX6_longestBy_64 : decode cX6_longestBy 64 = .ok (.iload 6, 2) ∧ 64 + 2 = 66 := ⟨by decide +kernel, rfl⟩
theorem iX6_longestBy_66 : decode cX6_longestBy 66 = .ok (.iconst 1, 1) ∧ 66 + 1 = 67 := ⟨by decide +kernel, rfl⟩
theorem iX6_longestBy_67 : decode cX6_longestBy 67 = .ok (.aload_n 0, 1) ∧ 67 + 1 = 68 := ⟨by decide +kernel, rfl⟩
theorem iX6_longestBy_68 : decode cX6_longestBy 68 = .ok (.invokevirtual 131, 3) ∧ 68 + 3 = 71 := ⟨by decide +kernel, rfl⟩
theorem iX6_longestBy_71 : decode cX6_longestBy 71 = .ok (.ishl, 1) ∧ 71 + 1 = 72 := ⟨by decide +kernel, rfl⟩
theorem iX6_longestBy_72 : decode cX6_longestBy 72 = .ok (.if_icmp .ge 55, 3) ∧ 72 + 3 = 75 := ⟨by decide +kernel, rfl⟩
theorem iX6_longestBy_75 : decode cX6_longestBy 75 = .ok (.aload_n 0, 1) ∧ 75 + 1 = 76 := ⟨by decide +kernel, rfl⟩
theorem iX6_longestBy_76 : decode cX6_longestBy 76 = .ok (.getfield 38, 3) ∧ 76 + 3 = 79 := ⟨by decide +kernel, rfl⟩
theorem iX6_longestBy_79 : decode cX6_longestBy 79 = .ok (.iload 6, 2) ∧ 79 + 2 = 81 := ⟨by decide +kernel, rfl⟩
theorem iX6_longestBy_81 : decode cX6_longestBy 81 = .ok (.iaload, 1) ∧ 81 + 1 = 82 := ⟨by decide +kernel, rfl⟩
theorem iX6_longestBy_82 : decode cX6_longestBy 82 = .ok (.ifCond .eq 39, 3) ∧ 82 + 3 = 85 := ⟨by decide +kernel, rfl⟩
theorem iX6_longestBy_85 : decode cX6_longestBy 85 = .ok (.iload 6, 2) ∧ 85 + 2 = 87 := ⟨by decide +kernel, rfl⟩
theorem iX6_longestBy_87 : decode cX6_longestBy 87 = .ok (.invokestatic 185, 3) ∧ 87 + 3 = 90 := ⟨by decide +kernel, rfl⟩
theorem iX6_longestBy_90 : decode cX6_longestBy 90 = .ok (.iload 5, 2) ∧ 90 + 2 = 92 := ⟨by decide +kernel, rfl⟩
theorem iX6_longestBy_92 : decode cX6_longestBy 92 = .ok (.if_icmp .le 11, 3) ∧ 92 + 3 = 95 := ⟨by decide +kernel, rfl⟩
theorem iX6_longestBy_95 : decode cX6_longestBy 95 = .ok (.iload 6, 2) ∧ 95 + 2 = 97 := ⟨by decide +kernel, rfl⟩
theorem iX6_longestBy_97 : decode cX6_longestBy 97 = .ok (.invokestatic 185, 3) ∧ 97 + 3 = 100 := ⟨by decide +kernel, rfl⟩
theorem iX6_longestBy_100 : decode cX6_longestBy 100 = .ok (.goto 5, 3) ∧ 100 + 3 = 103 := ⟨by decide +kernel, rfl⟩
theorem iX6_longestBy_103 : decode cX6_longestBy 103 = .ok (.iload 5, 2) ∧ 103 + 2 = 105 := ⟨by decide +kernel, rfl⟩
theorem iX6_longestBy_105 : decode cX6_longestBy 105 = .ok (.istore 5, 2) ∧ 105 + 2 = 107 := ⟨by decide +kernel, rfl⟩
theorem iX6_longestBy_107 : decode cX6_longestBy 107 = .ok (.aload_n 0, 1) ∧ 107 + 1 = 108 := ⟨by decide +kernel, rfl⟩
theorem iX6_longestBy_108 : decode cX6_longestBy 108 = .ok (.aload_n 0, 1) ∧ 108 + 1 = 109 := ⟨by decide +kernel, rfl⟩
theorem iX6_longestBy_109 : decode cX6_longestBy 109 = .ok (.getfield 7, 3) ∧ 109 + 3 = 112 := ⟨by decide +kernel, rfl⟩
theorem iX6_longestBy_112 : decode cX6_longestBy 112 = .ok (.iload_n 1, 1) ∧ 112 + 1 = 113 := ⟨by decide +kernel, rfl⟩
theorem iX6_longestBy_113 : decode cX6_longestBy 113 = .ok (.iaload, 1) ∧ 113 + 1 = 114 := ⟨by decide +kernel, rfl⟩
theorem iX6_longestBy_114 : decode cX6_longestBy 114 = .ok (.iload 6, 2) ∧ 114 + 2 = 116 := ⟨by decide +kernel, rfl⟩
theorem iX6_longestBy_116 : decode cX6_longestBy 116 = .ok (.iload 4, 2) ∧ 116 + 2 = 118 := ⟨by decide +kernel, rfl⟩
theorem iX6_longestBy_118 : decode cX6_longestBy 118 = .ok (.invokevirtual 212, 3) ∧ 118 + 3 = 121 := ⟨by decide +kernel, rfl⟩
theorem iX6_longestBy_121 : decode cX6_longestBy 121 = .ok (.iinc 6 1, 3) ∧ 121 + 3 = 124 := ⟨by decide +kernel, rfl⟩
theorem iX6_longestBy_124 : decode cX6_longestBy 124 = .ok (.goto (-60), 3) ∧ 124 + 3 = 127 := ⟨by decide +kernel, rfl⟩
theorem iX6_longestBy_127 : decode cX6_longestBy 127 = .ok (.iload 5, 2) ∧ 127 + 2 = 129 := ⟨by decide +kernel, rfl⟩
theorem iX6_longestBy_129 : decode cX6_longestBy 129 = .ok (.ireturn, 1) ∧ 129 + 1 = 130 := ⟨by decide +kernel, rfl⟩
theorem iX6_wayOf_0 : decode cX6_wayOf 0 = .ok (.iconst 1, 1) ∧ 0 + 1 = 1 := ⟨by decide +kernel, rfl⟩
theorem iX6_wayOf_1 : decode cX6_wayOf 1 = .ok (.istore_n 3, 1) ∧ 1 + 1 = 2 := ⟨by decide +kernel, rfl⟩
theorem iX6_wayOf_2 : decode cX6_wayOf 2 = .ok (.iconst (-1), 1) ∧ 2 + 1 = 3 := ⟨by decide +kernel, rfl⟩
theorem iX6_wayOf_3 : decode cX6_wayOf 3 = .ok (.istore 4, 2) ∧ 3 + 2 = 5 := ⟨by decide +kernel, rfl⟩
theorem iX6_wayOf_5 : decode cX6_wayOf 5 = .ok (.aload_n 0, 1) ∧ 5 + 1 = 6 := ⟨by decide +kernel, rfl⟩
theorem iX6_wayOf_6 : decode cX6_wayOf 6 = .ok (.iload_n 1, 1) ∧ 6 + 1 = 7 := ⟨by decide +kernel, rfl⟩
theorem iX6_wayOf_7 : decode cX6_wayOf 7 = .ok (.invokevirtual 154, 3) ∧ 7 + 3 = 10 := ⟨by decide +kernel, rfl⟩
theorem iX6_wayOf_10 : decode cX6_wayOf 10 = .ok (.istore 5, 2) ∧ 10 + 2 = 12 := ⟨by decide +kernel, rfl⟩
theorem iX6_wayOf_12 : decode cX6_wayOf 12 = .ok (.iconst 0, 1) ∧ 12 + 1 = 13 := ⟨by decide +kernel, rfl⟩
theorem iX6_wayOf_13 : decode cX6_wayOf 13 = .ok (.istore 6, 2) ∧ 13 + 2 = 15 := ⟨by decide +kernel, rfl⟩
theorem iX6_wayOf_15 : decode cX6_wayOf 15 = .ok (.iload 6, 2) ∧ 15 + 2 = 17 := ⟨by decide +kernel, rfl⟩
theorem iX6_wayOf_17 : decode cX6_wayOf 17 = .ok (.aload_n 0, 1) ∧ 17 + 1 = 18 := ⟨by decide +kernel, rfl⟩
theorem iX6_wayOf_18 : decode cX6_wayOf 18 = .ok (.invokevirtual 131, 3) ∧ 18 + 3 = 21 := ⟨by decide +kernel, rfl⟩
theorem iX6_wayOf_21 : decode cX6_wayOf 21 = .ok (.if_icmp .ge 60, 3) ∧ 21 + 3 = 24 := ⟨by decide +kernel, rfl⟩
theorem iX6_wayOf_24 : decode cX6_wayOf 24 = .ok (.iload 5, 2) ∧ 24 + 2 = 26 := ⟨by decide +kernel, rfl⟩
theorem iX6_wayOf_26 : decode cX6_wayOf 26 = .ok (.iload 6, 2) ∧ 26 + 2 = 28 := ⟨by decide +kernel, rfl⟩
theorem iX6_wayOf_28 : decode cX6_wayOf 28 = .ok (.invokestatic 92, 3) ∧ 28 + 3 = 31 := ⟨by decide +kernel, rfl⟩
theorem iX6_wayOf_31 : decode cX6_wayOf 31 = .ok (.ifCond .eq 13, 3) ∧ 31 + 3 = 34 := ⟨by decide +kernel, rfl⟩
theorem iX6_wayOf_34 : decode cX6_wayOf 34 = .ok (.aload_n 0, 1) ∧ 34 + 1 = 35 := ⟨by decide +kernel, rfl⟩
theorem iX6_wayOf_35 : decode cX6_wayOf 35 = .ok (.iload_n 1, 1) ∧ 35 + 1 = 36 := ⟨by decide +kernel, rfl⟩
theorem iX6_wayOf_36 : decode cX6_wayOf 36 = .ok (.iload 6, 2) ∧ 36 + 2 = 38 := ⟨by decide +kernel, rfl⟩
theorem iX6_wayOf_38 : decode cX6_wayOf 38 = .ok (.invokevirtual 216, 3) ∧ 38 + 3 = 41 := ⟨by decide +kernel, rfl⟩
theorem iX6_wayOf_41 : decode cX6_wayOf 41 = .ok (.goto 4, 3) ∧ 41 + 3 = 44 := ⟨by decide +kernel, rfl⟩
theorem iX6_wayOf_44 : decode cX6_wayOf 44 = .ok (.iconst 0, 1) ∧ 44 + 1 = 45 := ⟨by decide +kernel, rfl⟩
theorem iX6_wayOf_45 : decode cX6_wayOf 45 = .ok (.istore 7, 2) ∧ 45 + 2 = 47 := ⟨by decide +kernel, rfl⟩
theorem iX6_wayOf_47 : decode cX6_wayOf 47 = .ok (.iload 7, 2) ∧ 47 + 2 = 49 := ⟨by decide +kernel, rfl⟩
theorem iX6_wayOf_49 : decode cX6_wayOf 49 = .ok (.iload_n 3, 1) ∧ 49 + 1 = 50 := ⟨by decide +kernel, rfl⟩
theorem iX6_wayOf_50 : decode cX6_wayOf 50 = .ok (.if_icmp .le 8, 3) ∧ 50 + 3 = 53 := ⟨by decide +kernel, rfl⟩
theorem iX6_wayOf_53 : decode cX6_wayOf 53 = .ok (.iload 6, 2) ∧ 53 + 2 = 55 := ⟨by decide +kernel, rfl⟩
theorem iX6_wayOf_55 : decode cX6_wayOf 55 = .ok (.goto 5, 3) ∧ 55 + 3 = 58 := ⟨by decide +kernel, rfl⟩
theorem iX6_wayOf_58 : decode cX6_wayOf 58 = .ok (.iload 4, 2) ∧ 58 + 2 = 60 := ⟨by decide +kernel, rfl⟩
theorem iX6_wayOf_60 : decode cX6_wayOf 60 = .ok (.istore 4, 2) ∧ 60 + 2 = 62 := ⟨by decide +kernel, rfl⟩
theorem iX6_wayOf_62 : decode cX6_wayOf 62 = .ok (.iload 7, 2) ∧ 62 + 2 = 64 := ⟨by decide +kernel, rfl⟩
theorem iX6_wayOf_64 : decode cX6_wayOf 64 = .ok (.iload_n 3, 1) ∧ 64 + 1 = 65 := ⟨by decide +kernel, rfl⟩
theorem iX6_wayOf_65 : decode cX6_wayOf 65 = .ok (.if_icmp .le 8, 3) ∧ 65 + 3 = 68 := ⟨by decide +kernel, rfl⟩
theorem iX6_wayOf_68 : decode cX6_wayOf 68 = .ok (.iload 7, 2) ∧ 68 + 2 = 70 := ⟨by decide +kernel, rfl⟩
theorem iX6_wayOf_70 : decode cX6_wayOf 70 = .ok (.goto 4, 3) ∧ 70 + 3 = 73 := ⟨by decide +kernel, rfl⟩
theorem iX6_wayOf_73 : decode cX6_wayOf 73 = .ok (.iload_n 3, 1) ∧ 73 + 1 = 74 := ⟨by decide +kernel, rfl⟩
theorem iX6_wayOf_74 : decode cX6_wayOf 74 = .ok (.istore_n 3, 1) ∧ 74 + 1 = 75 := ⟨by decide +kernel, rfl⟩
theorem iX6_wayOf_75 : decode cX6_wayOf 75 = .ok (.iinc 6 1, 3) ∧ 75 + 3 = 78 := ⟨by decide +kernel, rfl⟩
theorem iX6_wayOf_78 : decode cX6_wayOf 78 = .ok (.goto (-63), 3) ∧ 78 + 3 = 81 := ⟨by decide +kernel, rfl⟩
theorem iX6_wayOf_81 : decode cX6_wayOf 81 = .ok (.iload_n 2, 1) ∧ 81 + 1 = 82 := ⟨by decide +kernel, rfl⟩
theorem iX6_wayOf_82 : decode cX6_wayOf 82 = .ok (.ifCond .ne 7, 3) ∧ 82 + 3 = 85 := ⟨by decide +kernel, rfl⟩
theorem iX6_wayOf_85 : decode cX6_wayOf 85 = .ok (.iload_n 3, 1) ∧ 85 + 1 = 86 := ⟨by decide +kernel, rfl⟩
theorem iX6_wayOf_86 : decode cX6_wayOf 86 = .ok (.goto 5, 3) ∧ 86 + 3 = 89 := ⟨by decide +kernel, rfl⟩
theorem iX6_wayOf_89 : decode cX6_wayOf 89 = .ok (.iload 4, 2) ∧ 89 + 2 = 91 := ⟨by decide +kernel, rfl⟩
theorem iX6_wayOf_91 : decode cX6_wayOf 91 = .ok (.ireturn, 1) ∧ 91 + 1 = 92 := ⟨by decide +kernel, rfl⟩
theorem iX6_peaceSet_0 : decode cX6_peaceSet 0 = .ok (.iconst 0, 1) ∧ 0 + 1 = 1 := ⟨by decide +kernel, rfl⟩
theorem iX6_peaceSet_1 : decode cX6_peaceSet 1 = .ok (.istore_n 2, 1) ∧ 1 + 1 = 2 := ⟨by decide +kernel, rfl⟩
theorem iX6_peaceSet_2 : decode cX6_peaceSet 2 = .ok (.iconst 0, 1) ∧ 2 + 1 = 3 := ⟨by decide +kernel, rfl⟩
theorem iX6_peaceSet_3 : decode cX6_peaceSet 3 = .ok (.istore_n 3, 1) ∧ 3 + 1 = 4 := ⟨by decide +kernel, rfl⟩
theorem iX6_peaceSet_4 : decode cX6_peaceSet 4 = .ok (.iload_n 3, 1) ∧ 4 + 1 = 5 := ⟨by decide +kernel, rfl⟩
theorem iX6_peaceSet_5 : decode cX6_peaceSet 5 = .ok (.aload_n 0, 1) ∧ 5 + 1 = 6 := ⟨by decide +kernel, rfl⟩
theorem iX6_peaceSet_6 : decode cX6_peaceSet 6 = .ok (.getfield 116, 3) ∧ 6 + 3 = 9 := ⟨by decide +kernel, rfl⟩
theorem iX6_peaceSet_9 : decode cX6_peaceSet 9 = .ok (.if_icmp .gt 60, 3) ∧ 9 + 3 = 12 := ⟨by decide +kernel, rfl⟩
theorem iX6_peaceSet_12 : decode cX6_peaceSet 12 = .ok (.iload_n 3, 1) ∧ 12 + 1 = 13 := ⟨by decide +kernel, rfl⟩
theorem iX6_peaceSet_13 : decode cX6_peaceSet 13 = .ok (.aload_n 0, 1) ∧ 13 + 1 = 14 := ⟨by decide +kernel, rfl⟩
theorem iX6_peaceSet_14 : decode cX6_peaceSet 14 = .ok (.getfield 116, 3) ∧ 14 + 3 = 17 := ⟨by decide +kernel, rfl⟩
theorem iX6_peaceSet_17 : decode cX6_peaceSet 17 = .ok (.iconst (-1), 1) ∧ 17 + 1 = 18 := ⟨by decide +kernel, rfl⟩
theorem iX6_peaceSet_18 : decode cX6_peaceSet 18 = .ok (.ixor, 1) ∧ 18 + 1 = 19 := ⟨by decide +kernel, rfl⟩
theorem iX6_peaceSet_19 : decode cX6_peaceSet 19 = .ok (.iand, 1) ∧ 19 + 1 = 20 := ⟨by decide +kernel, rfl⟩
theorem iX6_peaceSet_20 : decode cX6_peaceSet 20 = .ok (.ifCond .ne 18, 3) ∧ 20 + 3 = 23 := ⟨by decide +kernel, rfl⟩
theorem iX6_peaceSet_23 : decode cX6_peaceSet 23 = .ok (.iload_n 3, 1) ∧ 23 + 1 = 24 := ⟨by decide +kernel, rfl⟩
theorem iX6_peaceSet_24 : decode cX6_peaceSet 24 = .ok (.invokestatic 185, 3) ∧ 24 + 3 = 27 := ⟨by decide +kernel, rfl⟩
theorem iX6_peaceSet_27 : decode cX6_peaceSet 27 = .ok (.iload_n 2, 1) ∧ 27 + 1 = 28 := ⟨by decide +kernel, rfl⟩
theorem iX6_peaceSet_28 : decode cX6_peaceSet 28 = .ok (.invokestatic 185, 3) ∧ 28 + 3 = 31 := ⟨by decide +kernel, rfl⟩
theorem iX6_peaceSet_31 : decode cX6_peaceSet 31 = .ok (.if_icmp .le 7, 3) ∧ 31 + 3 = 34 := ⟨by decide +kernel, rfl⟩
theorem iX6_peaceSet_34 : decode cX6_peaceSet 34 = .ok (.iconst 1, 1) ∧ 34 + 1 = 35 := ⟨by decide +kernel, rfl⟩
theorem iX6_peaceSet_35 : decode cX6_peaceSet 35 = .ok (.goto 4, 3) ∧ 35 + 3 = 38 := ⟨by decide +kernel, rfl⟩
theorem iX6_peaceSet_38 : decode cX6_peaceSet 38 = .ok (.iconst 0, 1) ∧ 38 + 1 = 39 := ⟨by decide +kernel, rfl⟩
theorem iX6_peaceSet_39 : decode cX6_peaceSet 39 = .ok (.istore 4, 2) ∧ 39 + 2 = 41 := ⟨by decide +kernel, rfl⟩
theorem iX6_peaceSet_41 : decode cX6_peaceSet 41 = .ok (.iload 4, 2) ∧ 41 + 2 = 43 := ⟨by decide +kernel, rfl⟩
theorem iX6_peaceSet_43 : decode cX6_peaceSet 43 = .ok (.ifCond .eq 18, 3) ∧ 43 + 3 = 46 := ⟨by decide +kernel, rfl⟩
theorem iX6_peaceSet_46 : decode cX6_peaceSet 46 = .ok (.aload_n 0, 1) ∧ 46 + 1 = 47 := ⟨by decide +kernel, rfl⟩
theorem iX6_peaceSet_47 : decode cX6_peaceSet 47 = .ok (.iload_n 1, 1) ∧ 47 + 1 = 48 := ⟨by decide +kernel, rfl⟩
theorem iX6_peaceSet_48 : decode cX6_peaceSet 48 = .ok (.iload_n 3, 1) ∧ 48 + 1 = 49 := ⟨by decide +kernel, rfl⟩
theorem iX6_peaceSet_49 : decode cX6_peaceSet 49 = .ok (.invokevirtual 188, 3) ∧ 49 + 3 = 52 := ⟨by decide +kernel, rfl⟩
theorem iX6_peaceSet_52 : decode cX6_peaceSet 52 = .ok (.iload_n 3, 1) ∧ 52 + 1 = 53 := ⟨by decide +kernel, rfl⟩
theorem iX6_peaceSet_53 : decode cX6_peaceSet 53 = .ok (.iand, 1) ∧ 53 + 1 = 54 := ⟨by decide +kernel, rfl⟩
theorem iX6_peaceSet_54 : decode cX6_peaceSet 54 = .ok (.ifCond .ne 7, 3) ∧ 54 + 3 = 57 := ⟨by decide +kernel, rfl⟩
theorem iX6_peaceSet_57 : decode cX6_peaceSet 57 = .ok (.iload_n 3, 1) ∧ 57 + 1 = 58 := ⟨by decide +kernel, rfl⟩
theorem iX6_peaceSet_58 : decode cX6_peaceSet 58 = .ok (.goto 4, 3) ∧ 58 + 3 = 61 := ⟨by decide +kernel, rfl⟩
theorem iX6_peaceSet_61 : decode cX6_peaceSet 61 = .ok (.iload_n 2, 1) ∧ 61 + 1 = 62 := ⟨by decide +kernel, rfl⟩
theorem iX6_peaceSet_62 : decode cX6_peaceSet 62 = .ok (.istore_n 2, 1) ∧ 62 + 1 = 63 := ⟨by decide +kernel, rfl⟩
theorem iX6_peaceSet_63 : decode cX6_peaceSet 63 = .ok (.iinc 3 1, 3) ∧ 63 + 3 = 66 := ⟨by decide +kernel, rfl⟩
theorem iX6_peaceSet_66 : decode cX6_peaceSet 66 = .ok (.goto (-62), 3) ∧ 66 + 3 = 69 := ⟨by decide +kernel, rfl⟩
theorem iX6_peaceSet_69 : decode cX6_peaceSet 69 = .ok (.iload_n 2, 1) ∧ 69 + 1 = 70 := ⟨by decide +kernel, rfl⟩
theorem iX6_peaceSet_70 : decode cX6_peaceSet 70 = .ok (.ireturn, 1) ∧ 70 + 1 = 71 := ⟨by decide +kernel, rfl⟩
theorem iX6_guardSet_0 : decode cX6_guardSet 0 = .ok (.aload_n 0, 1) ∧ 0 + 1 = 1 := ⟨by decide +kernel, rfl⟩
theorem iX6_guardSet_1 : decode cX6_guardSet 1 = .ok (.getfield 116, 3) ∧ 1 + 3 = 4 := ⟨by decide +kernel, rfl⟩
theorem iX6_guardSet_4 : decode cX6_guardSet 4 = .ok (.istore_n 2, 1) ∧ 4 + 1 = 5 := ⟨by decide +kernel, rfl⟩
theorem iX6_guardSet_5 : decode cX6_guardSet 5 = .ok (.iconst 0, 1) ∧ 5 + 1 = 6 := ⟨by decide +kernel, rfl⟩
theorem iX6_guardSet_6 : decode cX6_guardSet 6 = .ok (.istore_n 3, 1) ∧ 6 + 1 = 7 := ⟨by decide +kernel, rfl⟩
theorem iX6_guardSet_7 : decode cX6_guardSet 7 = .ok (.iload_n 3, 1) ∧ 7 + 1 = 8 := ⟨by decide +kernel, rfl⟩
theorem iX6_guardSet_8 : decode cX6_guardSet 8 = .ok (.aload_n 0, 1) ∧ 8 + 1 = 9 := ⟨by decide +kernel, rfl⟩
theorem iX6_guardSet_9 : decode cX6_guardSet 9 = .ok (.getfield 116, 3) ∧ 9 + 3 = 12 := ⟨by decide +kernel, rfl⟩
theorem iX6_guardSet_12 : decode cX6_guardSet 12 = .ok (.if_icmp .gt 64, 3) ∧ 12 + 3 = 15 := ⟨by decide +kernel, rfl⟩
theorem iX6_guardSet_15 : decode cX6_guardSet 15 = .ok (.iload_n 3, 1) ∧ 15 + 1 = 16 := ⟨by decide +kernel, rfl⟩
theorem iX6_guardSet_16 : decode cX6_guardSet 16 = .ok (.aload_n 0, 1) ∧ 16 + 1 = 17 := ⟨by decide +kernel, rfl⟩
theorem iX6_guardSet_17 : decode cX6_guardSet 17 = .ok (.getfield 116, 3) ∧ 17 + 3 = 20 := ⟨by decide +kernel, rfl⟩
theorem iX6_guardSet_20 : decode cX6_guardSet 20 = .ok (.iconst (-1), 1) ∧ 20 + 1 = 21 := ⟨by decide +kernel, rfl⟩
theorem iX6_guardSet_21 : decode cX6_guardSet 21 = .ok (.ixor, 1) ∧ 21 + 1 = 22 := ⟨by decide +kernel, rfl⟩
theorem iX6_guardSet_22 : decode cX6_guardSet 22 = .ok (.iand, 1) ∧ 22 + 1 = 23 := ⟨by decide +kernel, rfl⟩
theorem iX6_guardSet_23 : decode cX6_guardSet 23 = .ok (.ifCond .ne 18, 3) ∧ 23 + 3 = 26 := ⟨by decide +kernel, rfl⟩
theorem iX6_guardSet_26 : decode cX6_guardSet 26 = .ok (.iload_n 3, 1) ∧ 26 + 1 = 27 := ⟨by decide +kernel, rfl⟩
theorem iX6_guardSet_27 : decode cX6_guardSet 27 = .ok (.invokestatic 185, 3) ∧ 27 + 3 = 30 := ⟨by decide +kernel, rfl⟩
theorem iX6_guardSet_30 : decode cX6_guardSet 30 = .ok (.iload_n 2, 1) ∧ 30 + 1 = 31 := ⟨by decide +kernel, rfl⟩
theorem iX6_guardSet_31 : decode cX6_guardSet 31 = .ok (.invokestatic 185, 3) ∧ 31 + 3 = 34 := ⟨by decide +kernel, rfl⟩
theorem iX6_guardSet_34 : decode cX6_guardSet 34 = .ok (.if_icmp .ge 7, 3) ∧ 34 + 3 = 37 := ⟨by decide +kernel, rfl⟩
theorem iX6_guardSet_37 : decode cX6_guardSet 37 = .ok (.iconst 1, 1) ∧ 37 + 1 = 38 := ⟨by decide +kernel, rfl⟩
theorem iX6_guardSet_38 : decode cX6_guardSet 38 = .ok (.goto 4, 3) ∧ 38 + 3 = 41 := ⟨by decide +kernel, rfl⟩
theorem iX6_guardSet_41 : decode cX6_guardSet 41 = .ok (.iconst 0, 1) ∧ 41 + 1 = 42 := ⟨by decide +kernel, rfl⟩
theorem iX6_guardSet_42 : decode cX6_guardSet 42 = .ok (.istore 4, 2) ∧ 42 + 2 = 44 := ⟨by decide +kernel, rfl⟩
theorem iX6_guardSet_44 : decode cX6_guardSet 44 = .ok (.iload 4, 2) ∧ 44 + 2 = 46 := ⟨by decide +kernel, rfl⟩
theorem iX6_guardSet_46 : decode cX6_guardSet 46 = .ok (.ifCond .eq 22, 3) ∧ 46 + 3 = 49 := ⟨by decide +kernel, rfl⟩
theorem iX6_guardSet_49 : decode cX6_guardSet 49 = .ok (.aload_n 0, 1) ∧ 49 + 1 = 50 := ⟨by decide +kernel, rfl⟩
theorem iX6_guardSet_50 : decode cX6_guardSet 50 = .ok (.iload_n 1, 1) ∧ 50 + 1 = 51 := ⟨by decide +kernel, rfl⟩
theorem iX6_guardSet_51 : decode cX6_guardSet 51 = .ok (.iload_n 3, 1) ∧ 51 + 1 = 52 := ⟨by decide +kernel, rfl⟩
theorem iX6_guardSet_52 : decode cX6_guardSet 52 = .ok (.invokevirtual 188, 3) ∧ 52 + 3 = 55 := ⟨by decide +kernel, rfl⟩
theorem iX6_guardSet_55 : decode cX6_guardSet 55 = .ok (.iload_n 3, 1) ∧ 55 + 1 = 56 := ⟨by decide +kernel, rfl⟩
theorem iX6_guardSet_56 : decode cX6_guardSet 56 = .ok (.ior, 1) ∧ 56 + 1 = 57 := ⟨by decide +kernel, rfl⟩
theorem iX6_guardSet_57 : decode cX6_guardSet 57 = .ok (.aload_n 0, 1) ∧ 57 + 1 = 58 := ⟨by decide +kernel, rfl⟩
theorem iX6_guardSet_58 : decode cX6_guardSet 58 = .ok (.getfield 116, 3) ∧ 58 + 3 = 61 := ⟨by decide +kernel, rfl⟩
theorem iX6_guardSet_61 : decode cX6_guardSet 61 = .ok (.if_icmp .ne 7, 3) ∧ 61 + 3 = 64 := ⟨by decide +kernel, rfl⟩
theorem iX6_guardSet_64 : decode cX6_guardSet 64 = .ok (.iload_n 3, 1) ∧ 64 + 1 = 65 := ⟨by decide +kernel, rfl⟩
theorem iX6_guardSet_65 : decode cX6_guardSet 65 = .ok (.goto 4, 3) ∧ 65 + 3 = 68 := ⟨by decide +kernel, rfl⟩
theorem iX6_guardSet_68 : decode cX6_guardSet 68 = .ok (.iload_n 2, 1) ∧ 68 + 1 = 69 := ⟨by decide +kernel, rfl⟩
theorem iX6_guardSet_69 : decode cX6_guardSet 69 = .ok (.istore_n 2, 1) ∧ 69 + 1 = 70 := ⟨by decide +kernel, rfl⟩
theorem iX6_guardSet_70 : decode cX6_guardSet 70 = .ok (.iinc 3 1, 3) ∧ 70 + 3 = 73 := ⟨by decide +kernel, rfl⟩
theorem iX6_guardSet_73 : decode cX6_guardSet 73 = .ok (.goto (-66), 3) ∧ 73 + 3 = 76 := ⟨by decide +kernel, rfl⟩
theorem iX6_guardSet_76 : decode cX6_guardSet 76 = .ok (.iload_n 2, 1) ∧ 76 + 1 = 77 := ⟨by decide +kernel, rfl⟩
theorem iX6_guardSet_77 : decode cX6_guardSet 77 = .ok (.ireturn, 1) ∧ 77 + 1 = 78 := ⟨by decide +kernel, rfl⟩
theorem iX6_isKind_0 : decode cX6_isKind 0 = .ok (.iload_n 0, 1) ∧ 0 + 1 = 1 := ⟨by decide +kernel, rfl⟩
theorem iX6_isKind_1 : decode cX6_isKind 1 = .ok (.iconst 0, 1) ∧ 1 + 1 = 2 := ⟨by decide +kernel, rfl⟩
theorem iX6_isKind_2 : decode cX6_isKind 2 = .ok (.iconst 4, 1) ∧ 2 + 1 = 3 := ⟨by decide +kernel, rfl⟩
theorem iX6_isKind_3 : decode cX6_isKind 3 = .ok (.invokestatic 68, 3) ∧ 3 + 3 = 6 := ⟨by decide +kernel, rfl⟩
theorem iX6_isKind_6 : decode cX6_isKind 6 = .ok (.ireturn, 1) ∧ 6 + 1 = 7 := ⟨by decide +kernel, rfl⟩
theorem iX6_refused_0 : decode cX6_refused 0 = .ok (.iload_n 1, 1) ∧ 0 + 1 = 1 := ⟨by decide +kernel, rfl⟩
theorem iX6_refused_1 : decode cX6_refused 1 = .ok (.invokestatic 219, 3) ∧ 1 + 3 = 4 := ⟨by decide +kernel, rfl⟩
theorem iX6_refused_4 : decode cX6_refused 4 = .ok (.ifCond .eq 12, 3) ∧ 4 + 3 = 7 := ⟨by decide +kernel, rfl⟩
theorem iX6_refused_7 : decode cX6_refused 7 = .ok (.iload_n 2, 1) ∧ 7 + 1 = 8 := ⟨by decide +kernel, rfl⟩
theorem iX6_refused_8 : decode cX6_refused 8 = .ok (.iconst 0, 1) ∧ 8 + 1 = 9 := ⟨by decide +kernel, rfl⟩
theorem iX6_refused_9 : decode cX6_refused 9 = .ok (.iconst 1, 1) ∧ 9 + 1 = 10 := ⟨by decide +kernel, rfl⟩
theorem iX6_refused_10 : decode cX6_refused 10 = .ok (.invokestatic 68, 3) ∧ 10 + 3 = 13 := ⟨by decide +kernel, rfl⟩
theorem iX6_refused_13 : decode cX6_refused 13 = .ok (.ifCond .ne 8, 3) ∧ 13 + 3 = 16 := ⟨by decide +kernel, rfl⟩
theorem iX6_refused_16 : decode cX6_refused 16 = .ok (.bipush (-102), 2) ∧ 16 + 2 = 18 := ⟨by decide +kernel, rfl⟩
theorem iX6_refused_18 : decode cX6_refused 18 = .ok (.goto 16, 3) ∧ 18 + 3 = 21 := ⟨by decide +kernel, rfl⟩
theorem iX6_refused_21 : decode cX6_refused 21 = .ok (.aload_n 0, 1) ∧ 21 + 1 = 22 := ⟨by decide +kernel, rfl⟩
theorem iX6_refused_22 : decode cX6_refused 22 = .ok (.getfield 119, 3) ∧ 22 + 3 = 25 := ⟨by decide +kernel, rfl⟩
theorem iX6_refused_25 : decode cX6_refused 25 = .ok (.ifCond .ne 8, 3) ∧ 25 + 3 = 28 := ⟨by decide +kernel, rfl⟩
theorem iX6_refused_28 : decode cX6_refused 28 = .ok (.bipush (-103), 2) ∧ 28 + 2 = 30 := ⟨by decide +kernel, rfl⟩
theorem iX6_refused_30 : decode cX6_refused 30 = .ok (.goto 4, 3) ∧ 30 + 3 = 33 := ⟨by decide +kernel, rfl⟩
theorem iX6_refused_33 : decode cX6_refused 33 = .ok (.iconst 0, 1) ∧ 33 + 1 = 34 := ⟨by decide +kernel, rfl⟩
theorem iX6_refused_34 : decode cX6_refused 34 = .ok (.ireturn, 1) ∧ 34 + 1 = 35 := ⟨by decide +kernel, rfl⟩
theorem iX6_peaceNow_0 : decode cX6_peaceNow 0 = .ok (.iload_n 2, 1) ∧ 0 + 1 = 1 := ⟨by decide +kernel, rfl⟩
theorem iX6_peaceNow_1 : decode cX6_peaceNow 1 = .ok (.ifCond .ne 14, 3) ∧ 1 + 3 = 4 := ⟨by decide +kernel, rfl⟩
theorem iX6_peaceNow_4 : decode cX6_peaceNow 4 = .ok (.aload_n 0, 1) ∧ 4 + 1 = 5 := ⟨by decide +kernel, rfl⟩
theorem iX6_peaceNow_5 : decode cX6_peaceNow 5 = .ok (.iload_n 1, 1) ∧ 5 + 1 = 6 := ⟨by decide +kernel, rfl⟩
theorem iX6_peaceNow_6 : decode cX6_peaceNow 6 = .ok (.invokevirtual 222, 3) ∧ 6 + 3 = 9 := ⟨by decide +kernel, rfl⟩
theorem iX6_peaceNow_9 : decode cX6_peaceNow 9 = .ok (.invokestatic 185, 3) ∧ 9 + 3 = 12 := ⟨by decide +kernel, rfl⟩
theorem iX6_peaceNow_12 : decode cX6_peaceNow 12 = .ok (.goto 8, 3) ∧ 12 + 3 = 15 := ⟨by decide +kernel, rfl⟩
theorem iX6_peaceNow_15 : decode cX6_peaceNow 15 = .ok (.aload_n 0, 1) ∧ 15 + 1 = 16 := ⟨by decide +kernel, rfl⟩
theorem iX6_peaceNow_16 : decode cX6_peaceNow 16 = .ok (.iload_n 1, 1) ∧ 16 + 1 = 17 := ⟨by decide +kernel, rfl⟩
theorem iX6_peaceNow_17 : decode cX6_peaceNow 17 = .ok (.invokevirtual 222, 3) ∧ 17 + 3 = 20 := ⟨by decide +kernel, rfl⟩
theorem iX6_peaceNow_20 : decode cX6_peaceNow 20 = .ok (.ireturn, 1) ∧ 20 + 1 = 21 := ⟨by decide +kernel, rfl⟩
theorem iX6_peace_0 : decode cX6_peace 0 = .ok (.aload_n 0, 1) ∧ 0 + 1 = 1 := ⟨by decide +kernel, rfl⟩
theorem iX6_peace_1 : decode cX6_peace 1 = .ok (.iload_n 1, 1) ∧ 1 + 1 = 2 := ⟨by decide +kernel, rfl⟩
theorem iX6_peace_2 : decode cX6_peace 2 = .ok (.iload_n 2, 1) ∧ 2 + 1 = 3 := ⟨by decide +kernel, rfl⟩
theorem iX6_peace_3 : decode cX6_peace 3 = .ok (.invokevirtual 225, 3) ∧ 3 + 3 = 6 := ⟨by decide +kernel, rfl⟩
theorem iX6_peace_6 : decode cX6_peace 6 = .ok (.ifCond .ge 12, 3) ∧ 6 + 3 = 9 := ⟨by decide +kernel, rfl⟩
theorem iX6_peace_9 : decode cX6_peace 9 = .ok (.aload_n 0, 1) ∧ 9 + 1 = 10 := ⟨by decide +kernel, rfl⟩
theorem iX6_peace_10 : decode cX6_peace 10 = .ok (.iload_n 1, 1) ∧ 10 + 1 = 11 := ⟨by decide +kernel, rfl⟩
theorem iX6_peace_11 : decode cX6_peace 11 = .ok (.iload_n 2, 1) ∧ 11 + 1 = 12 := ⟨by decide +kernel, rfl⟩
theorem iX6_peace_12 : decode cX6_peace 12 = .ok (.invokevirtual 225, 3) ∧ 12 + 3 = 15 := ⟨by decide +kernel, rfl⟩
theorem iX6_peace_15 : decode cX6_peace 15 = .ok (.goto 9, 3) ∧ 15 + 3 = 18 := ⟨by decide +kernel, rfl⟩
theorem iX6_peace_18 : decode cX6_peace 18 = .ok (.aload_n 0, 1) ∧ 18 + 1 = 19 := ⟨by decide +kernel, rfl⟩
theorem iX6_peace_19 : decode cX6_peace 19 = .ok (.iload_n 1, 1) ∧ 19 + 1 = 20 := ⟨by decide +kernel, rfl⟩
theorem iX6_peace_20 : decode cX6_peace 20 = .ok (.iload_n 2, 1) ∧ 20 + 1 = 21 := ⟨by decide +kernel, rfl⟩
theorem iX6_peace_21 : decode cX6_peace 21 = .ok (.invokevirtual 228, 3) ∧ 21 + 3 = 24 := ⟨by decide +kernel, rfl⟩
theorem iX6_peace_24 : decode cX6_peace 24 = .ok (.ireturn, 1) ∧ 24 + 1 = 25 := ⟨by decide +kernel, rfl⟩
theorem iX6_guardNow_0 : decode cX6_guardNow 0 = .ok (.iload_n 2, 1) ∧ 0 + 1 = 1 := ⟨by decide +kernel, rfl⟩
theorem iX6_guardNow_1 : decode cX6_guardNow 1 = .ok (.ifCond .ne 14, 3) ∧ 1 + 3 = 4 := ⟨by decide +kernel, rfl⟩
theorem iX6_guardNow_4 : decode cX6_guardNow 4 = .ok (.aload_n 0, 1) ∧ 4 + 1 = 5 := ⟨by decide +kernel, rfl⟩
theorem iX6_guardNow_5 : decode cX6_guardNow 5 = .ok (.iload_n 1, 1) ∧ 5 + 1 = 6 := ⟨by decide +kernel, rfl⟩
theorem iX6_guardNow_6 : decode cX6_guardNow 6 = .ok (.invokevirtual 231, 3) ∧ 6 + 3 = 9 := ⟨by decide +kernel, rfl⟩
theorem iX6_guardNow_9 : decode cX6_guardNow 9 = .ok (.invokestatic 185, 3) ∧ 9 + 3 = 12 := ⟨by decide +kernel, rfl⟩
theorem iX6_guardNow_12 : decode cX6_guardNow 12 = .ok (.goto 8, 3) ∧ 12 + 3 = 15 := ⟨by decide +kernel, rfl⟩
theorem iX6_guardNow_15 : decode cX6_guardNow 15 = .ok (.aload_n 0, 1) ∧ 15 + 1 = 16 := ⟨by decide +kernel, rfl⟩
theorem iX6_guardNow_16 : decode cX6_guardNow 16 = .ok (.iload_n 1, 1) ∧ 16 + 1 = 17 := ⟨by decide +kernel, rfl⟩
theorem iX6_guardNow_17 : decode cX6_guardNow 17 = .ok (.invokevirtual 231, 3) ∧ 17 + 3 = 20 := ⟨by decide +kernel, rfl⟩
theorem iX6_guardNow_20 : decode cX6_guardNow 20 = .ok (.ireturn, 1) ∧ 20 + 1 = 21 := ⟨by decide +kernel, rfl⟩
theorem iX6_guard_0 : decode cX6_guard 0 = .ok (.aload_n 0, 1) ∧ 0 + 1 = 1 := ⟨by decide +kernel, rfl⟩
theorem iX6_guard_1 : decode cX6_guard 1 = .ok (.iload_n 1, 1) ∧ 1 + 1 = 2 := ⟨by decide +kernel, rfl⟩
theorem iX6_guard_2 : decode cX6_guard 2 = .ok (.iload_n 2, 1) ∧ 2 + 1 = 3 := ⟨by decide +kernel, rfl⟩
theorem iX6_guard_3 : decode cX6_guard 3 = .ok (.invokevirtual 225, 3) ∧ 3 + 3 = 6 := ⟨by decide +kernel, rfl⟩
theorem iX6_guard_6 : decode cX6_guard 6 = .ok (.ifCond .ge 12, 3) ∧ 6 + 3 = 9 := ⟨by decide +kernel, rfl⟩
theorem iX6_guard_9 : decode cX6_guard 9 = .ok (.aload_n 0, 1) ∧ 9 + 1 = 10 := ⟨by decide +kernel, rfl⟩
theorem iX6_guard_10 : decode cX6_guard 10 = .ok (.iload_n 1, 1) ∧ 10 + 1 = 11 := ⟨by decide +kernel, rfl⟩
theorem iX6_guard_11 : decode cX6_guard 11 = .ok (.iload_n 2, 1) ∧ 11 + 1 = 12 := ⟨by decide +kernel, rfl⟩
theorem iX6_guard_12 : decode cX6_guard 12 = .ok (.invokevirtual 225, 3) ∧ 12 + 3 = 15 := ⟨by decide +kernel, rfl⟩
theorem iX6_guard_15 : decode cX6_guard 15 = .ok (.goto 9, 3) ∧ 15 + 3 = 18 := ⟨by decide +kernel, rfl⟩
theorem iX6_guard_18 : decode cX6_guard 18 = .ok (.aload_n 0, 1) ∧ 18 + 1 = 19 := ⟨by decide +kernel, rfl⟩
theorem iX6_guard_19 : decode cX6_guard 19 = .ok (.iload_n 1, 1) ∧ 19 + 1 = 20 := ⟨by decide +kernel, rfl⟩
theorem iX6_guard_20 : decode cX6_guard 20 = .ok (.iload_n 2, 1) ∧ 20 + 1 = 21 := ⟨by decide +kernel, rfl⟩
theorem iX6_guard_21 : decode cX6_guard 21 = .ok (.invokevirtual 234, 3) ∧ 21 + 3 = 24 := ⟨by decide +kernel, rfl⟩
theorem iX6_guard_24 : decode cX6_guard 24 = .ok (.ireturn, 1) ∧ 24 + 1 = 25 := ⟨by decide +kernel, rfl⟩
theorem iX6_partOf_0 : decode cX6_partOf 0 = .ok (.iconst 1, 1) ∧ 0 + 1 = 1 := ⟨by decide +kernel, rfl⟩
theorem iX6_partOf_1 : decode cX6_partOf 1 = .ok (.iload_n 2, 1) ∧ 1 + 1 = 2 := ⟨by decide +kernel, rfl⟩
theorem iX6_partOf_2 : decode cX6_partOf 2 = .ok (.ishl, 1) ∧ 2 + 1 = 3 := ⟨by decide +kernel, rfl⟩
theorem iX6_partOf_3 : decode cX6_partOf 3 = .ok (.istore_n 3, 1) ∧ 3 + 1 = 4 := ⟨by decide +kernel, rfl⟩
theorem iX6_partOf_4 : decode cX6_partOf 4 = .ok (.iload_n 3, 1) ∧ 4 + 1 = 5 := ⟨by decide +kernel, rfl⟩
theorem iX6_partOf_5 : decode cX6_partOf 5 = .ok (.aload_n 0, 1) ∧ 5 + 1 = 6 := ⟨by decide +kernel, rfl⟩
theorem iX6_partOf_6 : decode cX6_partOf 6 = .ok (.iload_n 1, 1) ∧ 6 + 1 = 7 := ⟨by decide +kernel, rfl⟩
theorem iX6_partOf_7 : decode cX6_partOf 7 = .ok (.iload_n 3, 1) ∧ 7 + 1 = 8 := ⟨by decide +kernel, rfl⟩
theorem iX6_partOf_8 : decode cX6_partOf 8 = .ok (.invokevirtual 188, 3) ∧ 8 + 3 = 11 := ⟨by decide +kernel, rfl⟩
theorem iX6_partOf_11 : decode cX6_partOf 11 = .ok (.ior, 1) ∧ 11 + 1 = 12 := ⟨by decide +kernel, rfl⟩
theorem iX6_partOf_12 : decode cX6_partOf 12 = .ok (.istore 4, 2) ∧ 12 + 2 = 14 := ⟨by decide +kernel, rfl⟩
theorem iX6_partOf_14 : decode cX6_partOf 14 = .ok (.iload 4, 2) ∧ 14 + 2 = 16 := ⟨by decide +kernel, rfl⟩
theorem iX6_partOf_16 : decode cX6_partOf 16 = .ok (.iload_n 3, 1) ∧ 16 + 1 = 17 := ⟨by decide +kernel, rfl⟩
theorem iX6_partOf_17 : decode cX6_partOf 17 = .ok (.if_icmp .eq 19, 3) ∧ 17 + 3 = 20 := ⟨by decide +kernel, rfl⟩
theorem iX6_partOf_20 : decode cX6_partOf 20 = .ok (.iload 4, 2) ∧ 20 + 2 = 22 := ⟨by decide +kernel, rfl⟩
theorem iX6_partOf_22 : decode cX6_partOf 22 = .ok (.istore_n 3, 1) ∧ 22 + 1 = 23 := ⟨by decide +kernel, rfl⟩
theorem iX6_partOf_23 : decode cX6_partOf 23 = .ok (.iload_n 3, 1) ∧ 23 + 1 = 24 := ⟨by decide +kernel, rfl⟩
theorem iX6_partOf_24 : decode cX6_partOf 24 = .ok (.aload_n 0, 1) ∧ 24 + 1 = 25 := ⟨by decide +kernel, rfl⟩
theorem iX6_partOf_25 : decode cX6_partOf 25 = .ok (.iload_n 1, 1) ∧ 25 + 1 = 26 := ⟨by decide +kernel, rfl⟩
theorem iX6_partOf_26 : decode cX6_partOf 26 = .ok (.iload_n 3, 1) ∧ 26 + 1 = 27 := ⟨by decide +kernel, rfl⟩
theorem iX6_partOf_27 : decode cX6_partOf 27 = .ok (.invokevirtual 188, 3) ∧ 27 + 3 = 30 := ⟨by decide +kernel, rfl⟩
theorem iX6_partOf_30 : decode cX6_partOf 30 = .ok (.ior, 1) ∧ 30 + 1 = 31 := ⟨by decide +kernel, rfl⟩
theorem iX6_partOf_31 : decode cX6_partOf 31 = .ok (.istore 4, 2) ∧ 31 + 2 = 33 := ⟨by decide +kernel, rfl⟩
theorem iX6_partOf_33 : decode cX6_partOf 33 = .ok (.goto (-19), 3) ∧ 33 + 3 = 36 := ⟨by decide +kernel, rfl⟩
theorem iX6_partOf_36 : decode cX6_partOf 36 = .ok (.iload_n 3, 1) ∧ 36 + 1 = 37 := ⟨by decide +kernel, rfl⟩
theorem iX6_partOf_37 : decode cX6_partOf 37 = .ok (.ireturn, 1) ∧ 37 + 1 = 38 := ⟨by decide +kernel, rfl⟩
theorem iX6_partsNow_0 : decode cX6_partsNow 0 = .ok (.iconst 0, 1) ∧ 0 + 1 = 1 := ⟨by decide +kernel, rfl⟩
theorem iX6_partsNow_1 : decode cX6_partsNow 1 = .ok (.istore_n 2, 1) ∧ 1 + 1 = 2 := ⟨by decide +kernel, rfl⟩
theorem iX6_partsNow_2 : decode cX6_partsNow 2 = .ok (.aload_n 0, 1) ∧ 2 + 1 = 3 := ⟨by decide +kernel, rfl⟩
theorem iX6_partsNow_3 : decode cX6_partsNow 3 = .ok (.getfield 116, 3) ∧ 3 + 3 = 6 := ⟨by decide +kernel, rfl⟩
theorem iX6_partsNow_6 : decode cX6_partsNow 6 = .ok (.istore_n 3, 1) ∧ 6 + 1 = 7 := ⟨by decide +kernel, rfl⟩
theorem iX6_partsNow_7 : decode cX6_partsNow 7 = .ok (.iconst 0, 1) ∧ 7 + 1 = 8 := ⟨by decide +kernel, rfl⟩
theorem iX6_partsNow_8 : decode cX6_partsNow 8 = .ok (.istore 4, 2) ∧ 8 + 2 = 10 := ⟨by decide +kernel, rfl⟩
theorem iX6_partsNow_10 : decode cX6_partsNow 10 = .ok (.iload 4, 2) ∧ 10 + 2 = 12 := ⟨by decide +kernel, rfl⟩
theorem iX6_partsNow_12 : decode cX6_partsNow 12 = .ok (.aload_n 0, 1) ∧ 12 + 1 = 13 := ⟨by decide +kernel, rfl⟩
theorem iX6_partsNow_13 : decode cX6_partsNow 13 = .ok (.invokevirtual 131, 3) ∧ 13 + 3 = 16 := ⟨by decide +kernel, rfl⟩
theorem iX6_partsNow_16 : decode cX6_partsNow 16 = .ok (.if_icmp .ge 33, 3) ∧ 16 + 3 = 19 := ⟨by decide +kernel, rfl⟩
theorem iX6_partsNow_19 : decode cX6_partsNow 19 = .ok (.iload_n 3, 1) ∧ 19 + 1 = 20 := ⟨by decide +kernel, rfl⟩
theorem iX6_partsNow_20 : decode cX6_partsNow 20 = .ok (.iload 4, 2) ∧ 20 + 2 = 22 := ⟨by decide +kernel, rfl⟩
theorem iX6_partsNow_22 : decode cX6_partsNow 22 = .ok (.invokestatic 92, 3) ∧ 22 + 3 = 25 := ⟨by decide +kernel, rfl⟩
theorem iX6_partsNow_25 : decode cX6_partsNow 25 = .ok (.ifCond .eq 18, 3) ∧ 25 + 3 = 28 := ⟨by decide +kernel, rfl⟩
theorem iX6_partsNow_28 : decode cX6_partsNow 28 = .ok (.iload_n 3, 1) ∧ 28 + 1 = 29 := ⟨by decide +kernel, rfl⟩
theorem iX6_partsNow_29 : decode cX6_partsNow 29 = .ok (.aload_n 0, 1) ∧ 29 + 1 = 30 := ⟨by decide +kernel, rfl⟩
theorem iX6_partsNow_30 : decode cX6_partsNow 30 = .ok (.iload_n 1, 1) ∧ 30 + 1 = 31 := ⟨by decide +kernel, rfl⟩
theorem iX6_partsNow_31 : decode cX6_partsNow 31 = .ok (.iload 4, 2) ∧ 31 + 2 = 33 := ⟨by decide +kernel, rfl⟩
theorem iX6_partsNow_33 : decode cX6_partsNow 33 = .ok (.invokevirtual 237, 3) ∧ 33 + 3 = 36 := ⟨by decide +kernel, rfl⟩
theorem iX6_partsNow_36 : decode cX6_partsNow 36 = .ok (.iconst (-1), 1) ∧ 36 + 1 = 37 := ⟨by decide +kernel, rfl⟩
theorem iX6_partsNow_37 : decode cX6_partsNow 37 = .ok (.ixor, 1) ∧ 37 + 1 = 38 := ⟨by decide +kernel, rfl⟩
theorem iX6_partsNow_38 : decode cX6_partsNow 38 = .ok (.iand, 1) ∧ 38 + 1 = 39 := ⟨by decide +kernel, rfl⟩
theorem iX6_partsNow_39 : decode cX6_partsNow 39 = .ok (.istore_n 3, 1) ∧ 39 + 1 = 40 := ⟨by decide +kernel, rfl⟩
theorem iX6_partsNow_40 : decode cX6_partsNow 40 = .ok (.iinc 2 1, 3) ∧ 40 + 3 = 43 := ⟨by decide +kernel, rfl⟩
theorem iX6_partsNow_43 : decode cX6_partsNow 43 = .ok (.iinc 4 1, 3) ∧ 43 + 3 = 46 := ⟨by decide +kernel, rfl⟩
theorem iX6_partsNow_46 : decode cX6_partsNow 46 = .ok (.goto (-36), 3) ∧ 46 + 3 = 49 := ⟨by decide +kernel, rfl⟩
theorem iX6_partsNow_49 : decode cX6_partsNow 49 = .ok (.iload_n 2, 1) ∧ 49 + 1 = 50 := ⟨by decide +kernel, rfl⟩
theorem iX6_partsNow_50 : decode cX6_partsNow 50 = .ok (.ireturn, 1) ∧ 50 + 1 = 51 := ⟨by decide +kernel, rfl⟩
theorem iX6_areShades_0 : decode cX6_areShades 0 = .ok (.iconst 1, 1) ∧ 0 + 1 = 1 := ⟨by decide +kernel, rfl⟩
theorem iX6_areShades_1 : decode cX6_areShades 1 = .ok (.istore_n 2, 1) ∧ 1 + 1 = 2 := ⟨by decide +kernel, rfl⟩
theorem iX6_areShades_2 : decode cX6_areShades 2 = .ok (.iconst 0, 1) ∧ 2 + 1 = 3 := ⟨by decide +kernel, rfl⟩
theorem iX6_areShades_3 : decode cX6_areShades 3 = .ok (.istore_n 3, 1) ∧ 3 + 1 = 4 := ⟨by decide +kernel, rfl⟩
theorem iX6_areShades_4 : decode cX6_areShades 4 = .ok (.iload_n 3, 1) ∧ 4 + 1 = 5 := ⟨by decide +kernel, rfl⟩
theorem iX6_areShades_5 : decode cX6_areShades 5 = .ok (.aload_n 0, 1) ∧ 5 + 1 = 6 := ⟨by decide +kernel, rfl⟩
theorem iX6_areShades_6 : decode cX6_areShades 6 = .ok (.invokevirtual 131, 3) ∧ 6 + 3 = 9 := ⟨by decide +kernel, rfl⟩
theorem iX6_areShades_9 : decode cX6_areShades 9 = .ok (.if_icmp .ge 90, 3) ∧ 9 + 3 = 12 := ⟨by decide +kernel, rfl⟩
theorem iX6_areShades_12 : decode cX6_areShades 12 = .ok (.aload_n 0, 1) ∧ 12 + 1 = 13 := ⟨by decide +kernel, rfl⟩
theorem iX6_areShades_13 : decode cX6_areShades 13 = .ok (.getfield 116, 3) ∧ 13 + 3 = 16 := ⟨by decide +kernel, rfl⟩
theorem iX6_areShades_16 : decode cX6_areShades 16 = .ok (.iload_n 3, 1) ∧ 16 + 1 = 17 := ⟨by decide +kernel, rfl⟩
theorem iX6_areShades_17 : decode cX6_areShades 17 = .ok (.invokestatic 92, 3) ∧ 17 + 3 = 20 := ⟨by decide +kernel, rfl⟩
theorem iX6_areShades_20 : decode cX6_areShades 20 = .ok (.ifCond .eq 9, 3) ∧ 20 + 3 = 23 := ⟨by decide +kernel, rfl⟩
theorem iX6_areShades_23 : decode cX6_areShades 23 = .ok (.iconst 1, 1) ∧ 23 + 1 = 24 := ⟨by decide +kernel, rfl⟩
theorem iX6_areShades_24 : decode cX6_areShades 24 = .ok (.iload_n 3, 1) ∧ 24 + 1 = 25 := ⟨by decide +kernel, rfl⟩
theorem iX6_areShades_25 : decode cX6_areShades 25 = .ok (.ishl, 1) ∧ 25 + 1 = 26 := ⟨by decide +kernel, rfl⟩
theorem iX6_areShades_26 : decode cX6_areShades 26 = .ok (.goto 4, 3) ∧ 26 + 3 = 29 := ⟨by decide +kernel, rfl⟩
theorem iX6_areShades_29 : decode cX6_areShades 29 = .ok (.iconst 0, 1) ∧ 29 + 1 = 30 := ⟨by decide +kernel, rfl⟩
theorem iX6_areShades_30 : decode cX6_areShades 30 = .ok (.istore 4, 2) ∧ 30 + 2 = 32 := ⟨by decide +kernel, rfl⟩
theorem iX6_areShades_32 : decode cX6_areShades 32 = .ok (.iconst 0, 1) ∧ 32 + 1 = 33 := ⟨by decide +kernel, rfl⟩
theorem iX6_areShades_33 : decode cX6_areShades 33 = .ok (.istore 5, 2) ∧ 33 + 2 = 35 := ⟨by decide +kernel, rfl⟩
theorem iX6_areShades_35 : decode cX6_areShades 35 = .ok (.iconst 0, 1) ∧ 35 + 1 = 36 := ⟨by decide +kernel, rfl⟩
theorem iX6_areShades_36 : decode cX6_areShades 36 = .ok (.istore 6, 2) ∧ 36 + 2 = 38 := ⟨by decide +kernel, rfl⟩
theorem iX6_areShades_38 : decode cX6_areShades 38 = .ok (.iload 6, 2) ∧ 38 + 2 = 40 := ⟨by decide +kernel, rfl⟩
theorem iX6_areShades_40 : decode cX6_areShades 40 = .ok (.bipush 12, 2) ∧ 40 + 2 = 42 := ⟨by decide +kernel, rfl⟩
theorem iX6_areShades_42 : decode cX6_areShades 42 = .ok (.if_icmp .ge 33, 3) ∧ 42 + 3 = 45 := ⟨by decide +kernel, rfl⟩
theorem iX6_areShades_45 : decode cX6_areShades 45 = .ok (.iload 5, 2) ∧ 45 + 2 = 47 := ⟨by decide +kernel, rfl⟩
theorem iX6_areShades_47 : decode cX6_areShades 47 = .ok (.aload_n 0, 1) ∧ 47 + 1 = 48 := ⟨by decide +kernel, rfl⟩
theorem iX6_areShades_48 : decode cX6_areShades 48 = .ok (.iload_n 1, 1) ∧ 48 + 1 = 49 := ⟨by decide +kernel, rfl⟩
theorem iX6_areShades_49 : decode cX6_areShades 49 = .ok (.iload 4, 2) ∧ 49 + 2 = 51 := ⟨by decide +kernel, rfl⟩
theorem iX6_areShades_51 : decode cX6_areShades 51 = .ok (.invokevirtual 188, 3) ∧ 51 + 3 = 54 := ⟨by decide +kernel, rfl⟩
theorem iX6_areShades_54 : decode cX6_areShades 54 = .ok (.ior, 1) ∧ 54 + 1 = 55 := ⟨by decide +kernel, rfl⟩
theorem iX6_areShades_55 : decode cX6_areShades 55 = .ok (.istore 5, 2) ∧ 55 + 2 = 57 := ⟨by decide +kernel, rfl⟩
theorem iX6_areShades_57 : decode cX6_areShades 57 = .ok (.iload 4, 2) ∧ 57 + 2 = 59 := ⟨by decide +kernel, rfl⟩
theorem iX6_areShades_59 : decode cX6_areShades 59 = .ok (.aload_n 0, 1) ∧ 59 + 1 = 60 := ⟨by decide +kernel, rfl⟩
theorem iX6_areShades_60 : decode cX6_areShades 60 = .ok (.iload_n 1, 1) ∧ 60 + 1 = 61 := ⟨by decide +kernel, rfl⟩
theorem iX6_areShades_61 : decode cX6_areShades 61 = .ok (.iload 5, 2) ∧ 61 + 2 = 63 := ⟨by decide +kernel, rfl⟩
theorem iX6_areShades_63 : decode cX6_areShades 63 = .ok (.invokevirtual 188, 3) ∧ 63 + 3 = 66 := ⟨by decide +kernel, rfl⟩
theorem iX6_areShades_66 : decode cX6_areShades 66 = .ok (.ior, 1) ∧ 66 + 1 = 67 := ⟨by decide +kernel, rfl⟩
theorem iX6_areShades_67 : decode cX6_areShades 67 = .ok (.istore 4, 2) ∧ 67 + 2 = 69 := ⟨by decide +kernel, rfl⟩
theorem iX6_areShades_69 : decode cX6_areShades 69 = .ok (.iinc 6 1, 3) ∧ 69 + 3 = 72 := ⟨by decide +kernel, rfl⟩
theorem iX6_areShades_72 : decode cX6_areShades 72 = .ok (.goto (-34), 3) ∧ 72 + 3 = 75 := ⟨by decide +kernel, rfl⟩
theorem iX6_areShades_75 : decode cX6_areShades 75 = .ok (.iload_n 2, 1) ∧ 75 + 1 = 76 := ⟨by decide +kernel, rfl⟩
theorem iX6_areShades_76 : decode cX6_areShades 76 = .ok (.ifCond .eq 15, 3) ∧ 76 + 3 = 79 := ⟨by decide +kernel, rfl⟩
theorem iX6_areShades_79 : decode cX6_areShades 79 = .ok (.iload 4, 2) ∧ 79 + 2 = 81 := ⟨by decide +kernel, rfl⟩
theorem iX6_areShades_81 : decode cX6_areShades 81 = .ok (.iload 5, 2) ∧ 81 + 2 = 83 := ⟨by decide +kernel, rfl⟩
theorem iX6_areShades_83 : decode cX6_areShades 83 = .ok (.iand, 1) ∧ 83 + 1 = 84 := ⟨by decide +kernel, rfl⟩
theorem iX6_areShades_84 : decode cX6_areShades 84 = .ok (.ifCond .ne 7, 3) ∧ 84 + 3 = 87 := ⟨by decide +kernel, rfl⟩
theorem iX6_areShades_87 : decode cX6_areShades 87 = .ok (.iconst 1, 1) ∧ 87 + 1 = 88 := ⟨by decide +kernel, rfl⟩
theorem iX6_areShades_88 : decode cX6_areShades 88 = .ok (.goto 4, 3) ∧ 88 + 3 = 91 := ⟨by decide +kernel, rfl⟩
theorem iX6_areShades_91 : decode cX6_areShades 91 = .ok (.iconst 0, 1) ∧ 91 + 1 = 92 := ⟨by decide +kernel, rfl⟩
theorem iX6_areShades_92 : decode cX6_areShades 92 = .ok (.istore_n 2, 1) ∧ 92 + 1 = 93 := ⟨by decide +kernel, rfl⟩
theorem iX6_areShades_93 : decode cX6_areShades 93 = .ok (.iinc 3 1, 3) ∧ 93 + 3 = 96 := ⟨by decide +kernel, rfl⟩
theorem iX6_areShades_96 : decode cX6_areShades 96 = .ok (.goto (-92), 3) ∧ 96 + 3 = 99 := ⟨by decide +kernel, rfl⟩
theorem iX6_areShades_99 : decode cX6_areShades 99 = .ok (.iload_n 2, 1) ∧ 99 + 1 = 100 := ⟨by decide +kernel, rfl⟩
theorem iX6_areShades_100 : decode cX6_areShades 100 = .ok (.ireturn, 1) ∧ 100 + 1 = 101 := ⟨by decide +kernel, rfl⟩
theorem iX6_partsTold_0 : decode cX6_partsTold 0 = .ok (.iload_n 2, 1) ∧ 0 + 1 = 1 := ⟨by decide +kernel, rfl⟩
theorem iX6_partsTold_1 : decode cX6_partsTold 1 = .ok (.ifCond .ne 11, 3) ∧ 1 + 3 = 4 := ⟨by decide +kernel, rfl⟩
theorem iX6_partsTold_4 : decode cX6_partsTold 4 = .ok (.aload_n 0, 1) ∧ 4 + 1 = 5 := ⟨by decide +kernel, rfl⟩
theorem iX6_partsTold_5 : decode cX6_partsTold 5 = .ok (.iload_n 1, 1) ∧ 5 + 1 = 6 := ⟨by decide +kernel, rfl⟩
theorem iX6_partsTold_6 : decode cX6_partsTold 6 = .ok (.invokevirtual 240, 3) ∧ 6 + 3 = 9 := ⟨by decide +kernel, rfl⟩
theorem iX6_partsTold_9 : decode cX6_partsTold 9 = .ok (.goto 16, 3) ∧ 9 + 3 = 12 := ⟨by decide +kernel, rfl⟩
theorem iX6_partsTold_12 : decode cX6_partsTold 12 = .ok (.aload_n 0, 1) ∧ 12 + 1 = 13 := ⟨by decide +kernel, rfl⟩
theorem iX6_partsTold_13 : decode cX6_partsTold 13 = .ok (.iload_n 1, 1) ∧ 13 + 1 = 14 := ⟨by decide +kernel, rfl⟩
theorem iX6_partsTold_14 : decode cX6_partsTold 14 = .ok (.invokevirtual 243, 3) ∧ 14 + 3 = 17 := ⟨by decide +kernel, rfl⟩
theorem iX6_partsTold_17 : decode cX6_partsTold 17 = .ok (.ifCond .eq 7, 3) ∧ 17 + 3 = 20 := ⟨by decide +kernel, rfl⟩
theorem iX6_partsTold_20 : decode cX6_partsTold 20 = .ok (.iconst 1, 1) ∧ 20 + 1 = 21 := ⟨by decide +kernel, rfl⟩
theorem iX6_partsTold_21 : decode cX6_partsTold 21 = .ok (.goto 4, 3) ∧ 21 + 3 = 24 := ⟨by decide +kernel, rfl⟩
theorem iX6_partsTold_24 : decode cX6_partsTold 24 = .ok (.iconst 0, 1) ∧ 24 + 1 = 25 := ⟨by decide +kernel, rfl⟩
theorem iX6_partsTold_25 : decode cX6_partsTold 25 = .ok (.ireturn, 1) ∧ 25 + 1 = 26 := ⟨by decide +kernel, rfl⟩
theorem iX6_parts_0 : decode cX6_parts 0 = .ok (.aload_n 0, 1) ∧ 0 + 1 = 1 := ⟨by decide +kernel, rfl⟩
theorem iX6_parts_1 : decode cX6_parts 1 = .ok (.iload_n 1, 1) ∧ 1 + 1 = 2 := ⟨by decide +kernel, rfl⟩
theorem iX6_parts_2 : decode cX6_parts 2 = .ok (.iload_n 2, 1) ∧ 2 + 1 = 3 := ⟨by decide +kernel, rfl⟩
theorem iX6_parts_3 : decode cX6_parts 3 = .ok (.invokevirtual 225, 3) ∧ 3 + 3 = 6 := ⟨by decide +kernel, rfl⟩
theorem iX6_parts_6 : decode cX6_parts 6 = .ok (.ifCond .ge 12, 3) ∧ 6 + 3 = 9 := ⟨by decide +kernel, rfl⟩
theorem iX6_parts_9 : decode cX6_parts 9 = .ok (.aload_n 0, 1) ∧ 9 + 1 = 10 := ⟨by decide +kernel, rfl⟩
theorem iX6_parts_10 : decode cX6_parts 10 = .ok (.iload_n 1, 1) ∧ 10 + 1 = 11 := ⟨by decide +kernel, rfl⟩
theorem iX6_parts_11 : decode cX6_parts 11 = .ok (.iload_n 2, 1) ∧ 11 + 1 = 12 := ⟨by decide +kernel, rfl⟩
theorem iX6_parts_12 : decode cX6_parts 12 = .ok (.invokevirtual 225, 3) ∧ 12 + 3 = 15 := ⟨by decide +kernel, rfl⟩
theorem iX6_parts_15 : decode cX6_parts 15 = .ok (.goto 9, 3) ∧ 15 + 3 = 18 := ⟨by decide +kernel, rfl⟩
theorem iX6_parts_18 : decode cX6_parts 18 = .ok (.aload_n 0, 1) ∧ 18 + 1 = 19 := ⟨by decide +kernel, rfl⟩
theorem iX6_parts_19 : decode cX6_parts 19 = .ok (.iload_n 1, 1) ∧ 19 + 1 = 20 := ⟨by decide +kernel, rfl⟩
theorem iX6_parts_20 : decode cX6_parts 20 = .ok (.iload_n 2, 1) ∧ 20 + 1 = 21 := ⟨by decide +kernel, rfl⟩
theorem iX6_parts_21 : decode cX6_parts 21 = .ok (.invokevirtual 246, 3) ∧ 21 + 3 = 24 := ⟨by decide +kernel, rfl⟩
theorem iX6_parts_24 : decode cX6_parts 24 = .ok (.ireturn, 1) ∧ 24 + 1 = 25 := ⟨by decide +kernel, rfl⟩
theorem iX6_chanceFrom_0 : decode cX6_chanceFrom 0 = .ok (.aload_n 0, 1) ∧ 0 + 1 = 1 := ⟨by decide +kernel, rfl⟩
theorem iX6_chanceFrom_1 : decode cX6_chanceFrom 1 = .ok (.iload_n 1, 1) ∧ 1 + 1 = 2 := ⟨by decide +kernel, rfl⟩
theorem iX6_chanceFrom_2 : decode cX6_chanceFrom 2 = .ok (.iload_n 2, 1) ∧ 2 + 1 = 3 := ⟨by decide +kernel, rfl⟩
theorem iX6_chanceFrom_3 : decode cX6_chanceFrom 3 = .ok (.invokevirtual 145, 3) ∧ 3 + 3 = 6 := ⟨by decide +kernel, rfl⟩
theorem iX6_chanceFrom_6 : decode cX6_chanceFrom 6 = .ok (.iload_n 3, 1) ∧ 6 + 1 = 7 := ⟨by decide +kernel, rfl⟩
theorem iX6_chanceFrom_7 : decode cX6_chanceFrom 7 = .ok (.iconst (-1), 1) ∧ 7 + 1 = 8 := ⟨by decide +kernel, rfl⟩
theorem iX6_chanceFrom_8 : decode cX6_chanceFrom 8 = .ok (.ixor, 1) ∧ 8 + 1 = 9 := ⟨by decide +kernel, rfl⟩
theorem iX6_chanceFrom_9 : decode cX6_chanceFrom 9 = .ok (.iand, 1) ∧ 9 + 1 = 10 := ⟨by decide +kernel, rfl⟩
theorem iX6_chanceFrom_10 : decode cX6_chanceFrom 10 = .ok (.istore 4, 2) ∧ 10 + 2 = 12 := ⟨by decide +kernel, rfl⟩
theorem iX6_chanceFrom_12 : decode cX6_chanceFrom 12 = .ok (.iconst 0, 1) ∧ 12 + 1 = 13 := ⟨by decide +kernel, rfl⟩
theorem iX6_chanceFrom_13 : decode cX6_chanceFrom 13 = .ok (.istore 5, 2) ∧ 13 + 2 = 15 := ⟨by decide +kernel, rfl⟩
theorem iX6_chanceFrom_15 : decode cX6_chanceFrom 15 = .ok (.iconst 0, 1) ∧ 15 + 1 = 16 := ⟨by decide +kernel, rfl⟩
theorem iX6_chanceFrom_16 : decode cX6_chanceFrom 16 = .ok (.istore 6, 2) ∧ 16 + 2 = 18 := ⟨by decide +kernel, rfl⟩
theorem iX6_chanceFrom_18 : decode cX6_chanceFrom 18 = .ok (.iconst 0, 1) ∧ 18 + 1 = 19 := ⟨by decide +kernel, rfl⟩
theorem iX6_chanceFrom_19 : decode cX6_chanceFrom 19 = .ok (.istore 7, 2) ∧ 19 + 2 = 21 := ⟨by decide +kernel, rfl⟩
theorem iX6_chanceFrom_21 : decode cX6_chanceFrom 21 = .ok (.iload 7, 2) ∧ 21 + 2 = 23 := ⟨by decide +kernel, rfl⟩
theorem iX6_chanceFrom_23 : decode cX6_chanceFrom 23 = .ok (.aload_n 0, 1) ∧ 23 + 1 = 24 := ⟨by decide +kernel, rfl⟩
theorem iX6_chanceFrom_24 : decode cX6_chanceFrom 24 = .ok (.invokevirtual 131, 3) ∧ 24 + 3 = 27 := ⟨by decide +kernel, rfl⟩
theorem iX6_chanceFrom_27 : decode cX6_chanceFrom 27 = .ok (.if_icmp .ge 47, 3) ∧ 27 + 3 = 30 := ⟨by decide +kernel, rfl⟩
theorem iX6_chanceFrom_30 : decode cX6_chanceFrom 30 = .ok (.iload 5, 2) ∧ 30 + 2 = 32 := ⟨by decide +kernel, rfl⟩
theorem iX6_chanceFrom_32 : decode cX6_chanceFrom 32 = .ok (.iload 4, 2) ∧ 32 + 2 = 34 := ⟨by decide +kernel, rfl⟩
theorem iX6_chanceFrom_34 : decode cX6_chanceFrom 34 = .ok (.iload 7, 2) ∧ 34 + 2 = 36 := ⟨by decide +kernel, rfl⟩
theorem iX6_chanceFrom_36 : decode cX6_chanceFrom 36 = .ok (.ishr, 1) ∧ 36 + 1 = 37 := ⟨by decide +kernel, rfl⟩
theorem iX6_chanceFrom_37 : decode cX6_chanceFrom 37 = .ok (.iconst 1, 1) ∧ 37 + 1 = 38 := ⟨by decide +kernel, rfl⟩
theorem iX6_chanceFrom_38 : decode cX6_chanceFrom 38 = .ok (.iand, 1) ∧ 38 + 1 = 39 := ⟨by decide +kernel, rfl⟩
theorem iX6_chanceFrom_39 : decode cX6_chanceFrom 39 = .ok (.iadd, 1) ∧ 39 + 1 = 40 := ⟨by decide +kernel, rfl⟩
theorem iX6_chanceFrom_40 : decode cX6_chanceFrom 40 = .ok (.istore 5, 2) ∧ 40 + 2 = 42 := ⟨by decide +kernel, rfl⟩
theorem iX6_chanceFrom_42 : decode cX6_chanceFrom 42 = .ok (.iload 6, 2) ∧ 42 + 2 = 44 := ⟨by decide +kernel, rfl⟩
theorem iX6_chanceFrom_44 : decode cX6_chanceFrom 44 = .ok (.iload 4, 2) ∧ 44 + 2 = 46 := ⟨by decide +kernel, rfl⟩
theorem iX6_chanceFrom_46 : decode cX6_chanceFrom 46 = .ok (.iload 7, 2) ∧ 46 + 2 = 48 := ⟨by decide +kernel, rfl⟩
theorem iX6_chanceFrom_48 : decode cX6_chanceFrom 48 = .ok (.invokestatic 92, 3) ∧ 48 + 3 = 51 := ⟨by decide +kernel, rfl⟩
theorem iX6_chanceFrom_51 : decode cX6_chanceFrom 51 = .ok (.ifCond .eq 13, 3) ∧ 51 + 3 = 54 := ⟨by decide +kernel, rfl⟩
theorem iX6_chanceFrom_54 : decode cX6_chanceFrom 54 = .ok (.aload_n 0, 1) ∧ 54 + 1 = 55 := ⟨by decide +kernel, rfl⟩
theorem iX6_chanceFrom_55 : decode cX6_chanceFrom 55 = .ok (.getfield 41, 3) ∧ 55 + 3 = 58 := ⟨by decide +kernel, rfl⟩
theorem iX6_chanceFrom_58 : decode cX6_chanceFrom 58 = .ok (.iload 7, 2) ∧ 58 + 2 = 60 := ⟨by decide +kernel, rfl⟩
theorem iX6_chanceFrom_60 : decode cX6_chanceFrom 60 = .ok (.iaload, 1) ∧ 60 + 1 = 61 := ⟨by decide +kernel, rfl⟩
theorem iX6_chanceFrom_61 : decode cX6_chanceFrom 61 = .ok (.goto 4, 3) ∧ 61 + 3 = 64 := ⟨by decide +kernel, rfl⟩
theorem iX6_chanceFrom_64 : decode cX6_chanceFrom 64 = .ok (.iconst 0, 1) ∧ 64 + 1 = 65 := ⟨by decide +kernel, rfl⟩
theorem iX6_chanceFrom_65 : decode cX6_chanceFrom 65 = .ok (.iadd, 1) ∧ 65 + 1 = 66 := ⟨by decide +kernel, rfl⟩
theorem iX6_chanceFrom_66 : decode cX6_chanceFrom 66 = .ok (.istore 6, 2) ∧ 66 + 2 = 68 := ⟨by decide +kernel, rfl⟩
theorem iX6_chanceFrom_68 : decode cX6_chanceFrom 68 = .ok (.iinc 7 1, 3) ∧ 68 + 3 = 71 := ⟨by decide +kernel, rfl⟩
theorem iX6_chanceFrom_71 : decode cX6_chanceFrom 71 = .ok (.goto (-50), 3) ∧ 71 + 3 = 74 := ⟨by decide +kernel, rfl⟩
theorem iX6_chanceFrom_74 : decode cX6_chanceFrom 74 = .ok (.iload 5, 2) ∧ 74 + 2 = 76 := ⟨by decide +kernel, rfl⟩
theorem iX6_chanceFrom_76 : decode cX6_chanceFrom 76 = .ok (.ifCond .ne 7, 3) ∧ 76 + 3 = 79 := ⟨by decide +kernel, rfl⟩
theorem iX6_chanceFrom_79 : decode cX6_chanceFrom 79 = .ok (.iconst (-1), 1) ∧ 79 + 1 = 80 := ⟨by decide +kernel, rfl⟩
theorem iX6_chanceFrom_80 : decode cX6_chanceFrom 80 = .ok (.goto 8, 3) ∧ 80 + 3 = 83 := ⟨by decide +kernel, rfl⟩
theorem iX6_chanceFrom_83 : decode cX6_chanceFrom 83 = .ok (.iload 6, 2) ∧ 83 + 2 = 85 := ⟨by decide +kernel, rfl⟩
theorem iX6_chanceFrom_85 : decode cX6_chanceFrom 85 = .ok (.iload 5, 2) ∧ 85 + 2 = 87 := ⟨by decide +kernel, rfl⟩
theorem iX6_chanceFrom_87 : decode cX6_chanceFrom 87 = .ok (.idiv, 1) ∧ 87 + 1 = 88 := ⟨by decide +kernel, rfl⟩
theorem iX6_chanceFrom_88 : decode cX6_chanceFrom 88 = .ok (.ireturn, 1) ∧ 88 + 1 = 89 := ⟨by decide +kernel, rfl⟩
theorem iX6_chanceNow_0 : decode cX6_chanceNow 0 = .ok (.iconst 0, 1) ∧ 0 + 1 = 1 := ⟨by decide +kernel, rfl⟩
theorem iX6_chanceNow_1 : decode cX6_chanceNow 1 = .ok (.istore 4, 2) ∧ 1 + 2 = 3 := ⟨by decide +kernel, rfl⟩
theorem iX6_chanceNow_3 : decode cX6_chanceNow 3 = .ok (.iload 4, 2) ∧ 3 + 2 = 5 := ⟨by decide +kernel, rfl⟩
theorem iX6_chanceNow_5 : decode cX6_chanceNow 5 = .ok (.aload_n 0, 1) ∧ 5 + 1 = 6 := ⟨by decide +kernel, rfl⟩
theorem iX6_chanceNow_6 : decode cX6_chanceNow 6 = .ok (.invokevirtual 131, 3) ∧ 6 + 3 = 9 := ⟨by decide +kernel, rfl⟩
theorem iX6_chanceNow_9 : decode cX6_chanceNow 9 = .ok (.if_icmp .ge 28, 3) ∧ 9 + 3 = 12 := ⟨by decide +kernel, rfl⟩
theorem iX6_chanceNow_12 : decode cX6_chanceNow 12 = .ok (.aload_n 0, 1) ∧ 12 + 1 = 13 := ⟨by decide +kernel, rfl⟩
theorem iX6_chanceNow_13 : decode cX6_chanceNow 13 = .ok (.getfield 41, 3) ∧ 13 + 3 = 16 := ⟨by decide +kernel, rfl⟩
theorem iX6_chanceNow_16 : decode cX6_chanceNow 16 = .ok (.iload 4, 2) ∧ 16 + 2 = 18 := ⟨by decide +kernel, rfl⟩
theorem iX6_chanceNow_18 : decode cX6_chanceNow 18 = .ok (.iload 4, 2) ∧ 18 + 2 = 20 := ⟨by decide +kernel, rfl⟩
theorem iX6_chanceNow_20 : decode cX6_chanceNow 20 = .ok (.iload_n 2, 1) ∧ 20 + 1 = 21 := ⟨by decide +kernel, rfl⟩
theorem iX6_chanceNow_21 : decode cX6_chanceNow 21 = .ok (.if_icmp .ne 8, 3) ∧ 21 + 3 = 24 := ⟨by decide +kernel, rfl⟩
theorem iX6_chanceNow_24 : decode cX6_chanceNow 24 = .ok (.ldc 249, 2) ∧ 24 + 2 = 26 := ⟨by decide +kernel, rfl⟩
theorem iX6_chanceNow_26 : decode cX6_chanceNow 26 = .ok (.goto 4, 3) ∧ 26 + 3 = 29 := ⟨by decide +kernel, rfl⟩
theorem iX6_chanceNow_29 : decode cX6_chanceNow 29 = .ok (.iconst 0, 1) ∧ 29 + 1 = 30 := ⟨by decide +kernel, rfl⟩
theorem iX6_chanceNow_30 : decode cX6_chanceNow 30 = .ok (.iastore, 1) ∧ 30 + 1 = 31 := ⟨by decide +kernel, rfl⟩
theorem iX6_chanceNow_31 : decode cX6_chanceNow 31 = .ok (.iinc 4 1, 3) ∧ 31 + 3 = 34 := ⟨by decide +kernel, rfl⟩
theorem iX6_chanceNow_34 : decode cX6_chanceNow 34 = .ok (.goto (-31), 3) ∧ 34 + 3 = 37 := ⟨by decide +kernel, rfl⟩
theorem iX6_chanceNow_37 : decode cX6_chanceNow 37 = .ok (.iconst 0, 1) ∧ 37 + 1 = 38 := ⟨by decide +kernel, rfl⟩
theorem iX6_chanceNow_38 : decode cX6_chanceNow 38 = .ok (.istore 4, 2) ∧ 38 + 2 = 40 := ⟨by decide +kernel, rfl⟩
theorem iX6_chanceNow_40 : decode cX6_chanceNow 40 = .ok (.iload 4, 2) ∧ 40 + 2 = 42 := ⟨by decide +kernel, rfl⟩
theorem iX6_chanceNow_42 : decode cX6_chanceNow 42 = .ok (.iload_n 3, 1) ∧ 42 + 1 = 43 := ⟨by decide +kernel, rfl⟩
theorem iX6_chanceNow_43 : decode cX6_chanceNow 43 = .ok (.if_icmp .ge 108, 3) ∧ 43 + 3 = 46 := ⟨by decide +kernel, rfl⟩
theorem iX6_chanceNow_46 : decode cX6_chanceNow 46 = .ok (.iconst 0, 1) ∧ 46 + 1 = 47 := ⟨by decide +kernel, rfl⟩
theorem iX6_chanceNow_47 : decode cX6_chanceNow 47 = .ok (.istore 5, 2) ∧ 47 + 2 = 49 := ⟨by decide +kernel, rfl⟩
theorem iX6_chanceNow_49 : decode cX6_chanceNow 49 = .ok (.iload 5, 2) ∧ 49 + 2 = 51 := ⟨by decide +kernel, rfl⟩
theorem iX6_chanceNow_51 : decode cX6_chanceNow 51 = .ok (.aload_n 0, 1) ∧ 51 + 1 = 52 := ⟨by decide +kernel, rfl⟩
theorem iX6_chanceNow_52 : decode cX6_chanceNow 52 = .ok (.invokevirtual 131, 3) ∧ 52 + 3 = 55 := ⟨by decide +kernel, rfl⟩
theorem iX6_chanceNow_55 : decode cX6_chanceNow 55 = .ok (.if_icmp .ge 58, 3) ∧ 55 + 3 = 58 := ⟨by decide +kernel, rfl⟩
theorem iX6_chanceNow_58 : decode cX6_chanceNow 58 = .ok (.aload_n 0, 1) ∧ 58 + 1 = 59 := ⟨by decide +kernel, rfl⟩
theorem iX6_chanceNow_59 : decode cX6_chanceNow 59 = .ok (.aload_n 0, 1) ∧ 59 + 1 = 60 := ⟨by decide +kernel, rfl⟩
theorem iX6_chanceNow_60 : decode cX6_chanceNow 60 = .ok (.getfield 7, 3) ∧ 60 + 3 = 63 := ⟨by decide +kernel, rfl⟩
theorem iX6_chanceNow_63 : decode cX6_chanceNow 63 = .ok (.iload_n 1, 1) ∧ 63 + 1 = 64 := ⟨by decide +kernel, rfl⟩
theorem iX6_chanceNow_64 : decode cX6_chanceNow 64 = .ok (.iaload, 1) ∧ 64 + 1 = 65 := ⟨by decide +kernel, rfl⟩
theorem iX6_chanceNow_65 : decode cX6_chanceNow 65 = .ok (.iload 5, 2) ∧ 65 + 2 = 67 := ⟨by decide +kernel, rfl⟩
theorem iX6_chanceNow_67 : decode cX6_chanceNow 67 = .ok (.aload_n 0, 1) ∧ 67 + 1 = 68 := ⟨by decide +kernel, rfl⟩
theorem iX6_chanceNow_68 : decode cX6_chanceNow 68 = .ok (.iload_n 1, 1) ∧ 68 + 1 = 69 := ⟨by decide +kernel, rfl⟩
theorem iX6_chanceNow_69 : decode cX6_chanceNow 69 = .ok (.invokevirtual 191, 3) ∧ 69 + 3 = 72 := ⟨by decide +kernel, rfl⟩
theorem iX6_chanceNow_72 : decode cX6_chanceNow 72 = .ok (.invokevirtual 250, 3) ∧ 72 + 3 = 75 := ⟨by decide +kernel, rfl⟩
theorem iX6_chanceNow_75 : decode cX6_chanceNow 75 = .ok (.istore 6, 2) ∧ 75 + 2 = 77 := ⟨by decide +kernel, rfl⟩
theorem iX6_chanceNow_77 : decode cX6_chanceNow 77 = .ok (.aload_n 0, 1) ∧ 77 + 1 = 78 := ⟨by decide +kernel, rfl⟩
theorem iX6_chanceNow_78 : decode cX6_chanceNow 78 = .ok (.getfield 44, 3) ∧ 78 + 3 = 81 := ⟨by decide +kernel, rfl⟩
theorem iX6_chanceNow_81 : decode cX6_chanceNow 81 = .ok (.iload 5, 2) ∧ 81 + 2 = 83 := ⟨by decide +kernel, rfl⟩
theorem iX6_chanceNow_83 : decode cX6_chanceNow 83 = .ok (.iload 6, 2) ∧ 83 + 2 = 85 := ⟨by decide +kernel, rfl⟩
theorem iX6_chanceNow_85 : decode cX6_chanceNow 85 = .ok (.iconst (-1), 1) ∧ 85 + 1 = 86 := ⟨by decide +kernel, rfl⟩
theorem iX6_chanceNow_86 : decode cX6_chanceNow 86 = .ok (.if_icmp .eq 8, 3) ∧ 86 + 3 = 89 := ⟨by decide +kernel, rfl⟩
theorem iX6_chanceNow_89 : decode cX6_chanceNow 89 = .ok (.iload 6, 2) ∧ 89 + 2 = 91 := ⟨by decide +kernel, rfl⟩
theorem iX6_chanceNow_91 : decode cX6_chanceNow 91 = .ok (.goto 15, 3) ∧ 91 + 3 = 94 := ⟨by decide +kernel, rfl⟩
theorem iX6_chanceNow_94 : decode cX6_chanceNow 94 = .ok (.iload 5, 2) ∧ 94 + 2 = 96 := ⟨by decide +kernel, rfl⟩
theorem iX6_chanceNow_96 : decode cX6_chanceNow 96 = .ok (.iload_n 2, 1) ∧ 96 + 1 = 97 := ⟨by decide +kernel, rfl⟩
theorem iX6_chanceNow_97 : decode cX6_chanceNow 97 = .ok (.if_icmp .ne 8, 3) ∧ 97 + 3 = 100 := ⟨by decide +kernel, rfl⟩
theorem iX6_chanceNow_100 : decode cX6_chanceNow 100 = .ok (.ldc 249, 2) ∧ 100 + 2 = 102 := ⟨by decide +kernel, rfl⟩
theorem iX6_chanceNow_102 : decode cX6_chanceNow 102 = .ok (.goto 4, 3) ∧ 102 + 3 = 105 := ⟨by decide +kernel, rfl⟩
theorem iX6_chanceNow_105 : decode cX6_chanceNow 105 = .ok (.iconst 0, 1) ∧ 105 + 1 = 106 := ⟨by decide +kernel, rfl⟩
theorem iX6_chanceNow_106 : decode cX6_chanceNow 106 = .ok (.iastore, 1) ∧ 106 + 1 = 107 := ⟨by decide +kernel, rfl⟩
theorem iX6_chanceNow_107 : decode cX6_chanceNow 107 = .ok (.iinc 5 1, 3) ∧ 107 + 3 = 110 := ⟨by decide +kernel, rfl⟩
theorem iX6_chanceNow_110 : decode cX6_chanceNow 110 = .ok (.goto (-61), 3) ∧ 110 + 3 = 113 := ⟨by decide +kernel, rfl⟩
theorem iX6_chanceNow_113 : decode cX6_chanceNow 113 = .ok (.iconst 0, 1) ∧ 113 + 1 = 114 := ⟨by decide +kernel, rfl⟩
theorem iX6_chanceNow_114 : decode cX6_chanceNow 114 = .ok (.istore 5, 2) ∧ 114 + 2 = 116 := ⟨by decide +kernel, rfl⟩
theorem iX6_chanceNow_116 : decode cX6_chanceNow 116 = .ok (.iload 5, 2) ∧ 116 + 2 = 118 := ⟨by decide +kernel, rfl⟩
theorem iX6_chanceNow_118 : decode cX6_chanceNow 118 = .ok (.aload_n 0, 1) ∧ 118 + 1 = 119 := ⟨by decide +kernel, rfl⟩
theorem iX6_chanceNow_119 : decode cX6_chanceNow 119 = .ok (.invokevirtual 131, 3) ∧ 119 + 3 = 122 := ⟨by decide +kernel, rfl⟩
theorem iX6_chanceNow_122 : decode cX6_chanceNow 122 = .ok (.if_icmp .ge 23, 3) ∧ 122 + 3 = 125 := ⟨by decide +kernel, rfl⟩
theorem iX6_chanceNow_125 : decode cX6_chanceNow 125 = .ok (.aload_n 0, 1) ∧ 125 + 1 = 126 := ⟨by decide +kernel, rfl⟩
theorem iX6_chanceNow_126 : decode cX6_chanceNow 126 = .ok (.getfield 41, 3) ∧ 126 + 3 = 129 := ⟨by decide +kernel, rfl⟩
theorem iX6_chanceNow_129 : decode cX6_chanceNow 129 = .ok (.iload 5, 2) ∧ 129 + 2 = 131 := ⟨by decide +kernel, rfl⟩
theorem iX6_chanceNow_131 : decode cX6_chanceNow 131 = .ok (.aload_n 0, 1) ∧ 131 + 1 = 132 := ⟨by decide +kernel, rfl⟩
theorem iX6_chanceNow_132 : decode cX6_chanceNow 132 = .ok (.getfield 44, 3) ∧ 132 + 3 = 135 := ⟨by decide +kernel, rfl⟩
theorem iX6_chanceNow_135 : decode cX6_chanceNow 135 = .ok (.iload 5, 2) ∧ 135 + 2 = 137 := ⟨by decide +kernel, rfl⟩
theorem iX6_chanceNow_137 : decode cX6_chanceNow 137 = .ok (.iaload, 1) ∧ 137 + 1 = 138 := ⟨by decide +kernel, rfl⟩
theorem iX6_chanceNow_138 : decode cX6_chanceNow 138 = .ok (.iastore, 1) ∧ 138 + 1 = 139 := ⟨by decide +kernel, rfl⟩
theorem iX6_chanceNow_139 : decode cX6_chanceNow 139 = .ok (.iinc 5 1, 3) ∧ 139 + 3 = 142 := ⟨by decide +kernel, rfl⟩
theorem iX6_chanceNow_142 : decode cX6_chanceNow 142 = .ok (.goto (-26), 3) ∧ 142 + 3 = 145 := ⟨by decide +kernel, rfl⟩
theorem iX6_chanceNow_145 : decode cX6_chanceNow 145 = .ok (.iinc 4 1, 3) ∧ 145 + 3 = 148 := ⟨by decide +kernel, rfl⟩
theorem iX6_chanceNow_148 : decode cX6_chanceNow 148 = .ok (.goto (-108), 3) ∧ 148 + 3 = 151 := ⟨by decide +kernel, rfl⟩
theorem iX6_chanceNow_151 : decode cX6_chanceNow 151 = .ok (.aload_n 0, 1) ∧ 151 + 1 = 152 := ⟨by decide +kernel, rfl⟩
theorem iX6_chanceNow_152 : decode cX6_chanceNow 152 = .ok (.getfield 41, 3) ∧ 152 + 3 = 155 := ⟨by decide +kernel, rfl⟩
theorem iX6_chanceNow_155 : decode cX6_chanceNow 155 = .ok (.aload_n 0, 1) ∧ 155 + 1 = 156 := ⟨by decide +kernel, rfl⟩
theorem iX6_chanceNow_156 : decode cX6_chanceNow 156 = .ok (.getfield 13, 3) ∧ 156 + 3 = 159 := ⟨by decide +kernel, rfl⟩
theorem iX6_chanceNow_159 : decode cX6_chanceNow 159 = .ok (.iload_n 1, 1) ∧ 159 + 1 = 160 := ⟨by decide +kernel, rfl⟩
theorem iX6_chanceNow_160 : decode cX6_chanceNow 160 = .ok (.iaload, 1) ∧ 160 + 1 = 161 := ⟨by decide +kernel, rfl⟩
theorem iX6_chanceNow_161 : decode cX6_chanceNow 161 = .ok (.iaload, 1) ∧ 161 + 1 = 162 := ⟨by decide +kernel, rfl⟩
theorem iX6_chanceNow_162 : decode cX6_chanceNow 162 = .ok (.ireturn, 1) ∧ 162 + 1 = 163 := ⟨by decide +kernel, rfl⟩
theorem iX6_chance_0 : decode cX6_chance 0 = .ok (.aload_n 0, 1) ∧ 0 + 1 = 1 := ⟨by decide +kernel, rfl⟩
theorem iX6_chance_1 : decode cX6_chance 1 = .ok (.iload_n 1, 1) ∧ 1 + 1 = 2 := ⟨by decide +kernel, rfl⟩
theorem iX6_chance_2 : decode cX6_chance 2 = .ok (.invokevirtual 166, 3) ∧ 2 + 3 = 5 := ⟨by decide +kernel, rfl⟩
theorem iX6_chance_5 : decode cX6_chance 5 = .ok (.ifCond .eq 11, 3) ∧ 5 + 3 = 8 := ⟨by decide +kernel, rfl⟩
theorem iX6_chance_8 : decode cX6_chance 8 = .ok (.aload_n 0, 1) ∧ 8 + 1 = 9 := ⟨by decide +kernel, rfl⟩
theorem iX6_chance_9 : decode cX6_chance 9 = .ok (.iload_n 2, 1) ∧ 9 + 1 = 10 := ⟨by decide +kernel, rfl⟩
theorem iX6_chance_10 : decode cX6_chance 10 = .ok (.invokevirtual 179, 3) ∧ 10 + 3 = 13 := ⟨by decide +kernel, rfl⟩
theorem iX6_chance_13 : decode cX6_chance 13 = .ok (.ifCond .ne 6, 3) ∧ 13 + 3 = 16 := ⟨by decide +kernel, rfl⟩
theorem iX6_chance_16 : decode cX6_chance 16 = .ok (.bipush (-101), 2) ∧ 16 + 2 = 18 := ⟨by decide +kernel, rfl⟩
theorem iX6_chance_18 : decode cX6_chance 18 = .ok (.ireturn, 1) ∧ 18 + 1 = 19 := ⟨by decide +kernel, rfl⟩
theorem iX6_chance_19 : decode cX6_chance 19 = .ok (.iload_n 3, 1) ∧ 19 + 1 = 20 := ⟨by decide +kernel, rfl⟩
theorem iX6_chance_20 : decode cX6_chance 20 = .ok (.iconst 0, 1) ∧ 20 + 1 = 21 := ⟨by decide +kernel, rfl⟩
theorem iX6_chance_21 : decode cX6_chance 21 = .ok (.bipush 6, 2) ∧ 21 + 2 = 23 := ⟨by decide +kernel, rfl⟩
theorem iX6_chance_23 : decode cX6_chance 23 = .ok (.invokestatic 68, 3) ∧ 23 + 3 = 26 := ⟨by decide +kernel, rfl⟩
theorem iX6_chance_26 : decode cX6_chance 26 = .ok (.ifCond .eq 13, 3) ∧ 26 + 3 = 29 := ⟨by decide +kernel, rfl⟩
theorem iX6_chance_29 : decode cX6_chance 29 = .ok (.aload_n 0, 1) ∧ 29 + 1 = 30 := ⟨by decide +kernel, rfl⟩
theorem iX6_chance_30 : decode cX6_chance 30 = .ok (.iload_n 1, 1) ∧ 30 + 1 = 31 := ⟨by decide +kernel, rfl⟩
theorem iX6_chance_31 : decode cX6_chance 31 = .ok (.iload_n 2, 1) ∧ 31 + 1 = 32 := ⟨by decide +kernel, rfl⟩
theorem iX6_chance_32 : decode cX6_chance 32 = .ok (.iload_n 3, 1) ∧ 32 + 1 = 33 := ⟨by decide +kernel, rfl⟩
theorem iX6_chance_33 : decode cX6_chance 33 = .ok (.invokevirtual 254, 3) ∧ 33 + 3 = 36 := ⟨by decide +kernel, rfl⟩
theorem iX6_chance_36 : decode cX6_chance 36 = .ok (.goto 5, 3) ∧ 36 + 3 = 39 := ⟨by decide +kernel, rfl⟩
theorem iX6_chance_39 : decode cX6_chance 39 = .ok (.bipush (-102), 2) ∧ 39 + 2 = 41 := ⟨by decide +kernel, rfl⟩
theorem iX6_chance_41 : decode cX6_chance 41 = .ok (.ireturn, 1) ∧ 41 + 1 = 42 := ⟨by decide +kernel, rfl⟩
theorem iX6_see_0 : decode cX6_see 0 = .ok (.aload_n 0, 1) ∧ 0 + 1 = 1 := ⟨by decide +kernel, rfl⟩
theorem iX6_see_1 : decode cX6_see 1 = .ok (.iload_n 1, 1) ∧ 1 + 1 = 2 := ⟨by decide +kernel, rfl⟩
theorem iX6_see_2 : decode cX6_see 2 = .ok (.invokevirtual 166, 3) ∧ 2 + 3 = 5 := ⟨by decide +kernel, rfl⟩
theorem iX6_see_5 : decode cX6_see 5 = .ok (.ifCond .ne 6, 3) ∧ 5 + 3 = 8 := ⟨by decide +kernel, rfl⟩
theorem iX6_see_8 : decode cX6_see 8 = .ok (.bipush (-101), 2) ∧ 8 + 2 = 10 := ⟨by decide +kernel, rfl⟩
theorem iX6_see_10 : decode cX6_see 10 = .ok (.ireturn, 1) ∧ 10 + 1 = 11 := ⟨by decide +kernel, rfl⟩
theorem iX6_see_11 : decode cX6_see 11 = .ok (.iload_n 2, 1) ∧ 11 + 1 = 12 := ⟨by decide +kernel, rfl⟩
theorem iX6_see_12 : decode cX6_see 12 = .ok (.iconst 0, 1) ∧ 12 + 1 = 13 := ⟨by decide +kernel, rfl⟩
theorem iX6_see_13 : decode cX6_see 13 = .ok (.iconst 3, 1) ∧ 13 + 1 = 14 := ⟨by decide +kernel, rfl⟩
theorem iX6_see_14 : decode cX6_see 14 = .ok (.invokestatic 68, 3) ∧ 14 + 3 = 17 := ⟨by decide +kernel, rfl⟩
theorem iX6_see_17 : decode cX6_see 17 = .ok (.ifCond .eq 12, 3) ∧ 17 + 3 = 20 := ⟨by decide +kernel, rfl⟩
theorem iX6_see_20 : decode cX6_see 20 = .ok (.iload_n 3, 1) ∧ 20 + 1 = 21 := ⟨by decide +kernel, rfl⟩
theorem iX6_see_21 : decode cX6_see 21 = .ok (.iconst 0, 1) ∧ 21 + 1 = 22 := ⟨by decide +kernel, rfl⟩
theorem iX6_see_22 : decode cX6_see 22 = .ok (.iconst 3, 1) ∧ 22 + 1 = 23 := ⟨by decide +kernel, rfl⟩
theorem iX6_see_23 : decode cX6_see 23 = .ok (.invokestatic 68, 3) ∧ 23 + 3 = 26 := ⟨by decide +kernel, rfl⟩
theorem iX6_see_26 : decode cX6_see 26 = .ok (.ifCond .ne 6, 3) ∧ 26 + 3 = 29 := ⟨by decide +kernel, rfl⟩
theorem iX6_see_29 : decode cX6_see 29 = .ok (.bipush (-102), 2) ∧ 29 + 2 = 31 := ⟨by decide +kernel, rfl⟩
theorem iX6_see_31 : decode cX6_see 31 = .ok (.ireturn, 1) ∧ 31 + 1 = 32 := ⟨by decide +kernel, rfl⟩
theorem iX6_see_32 : decode cX6_see 32 = .ok (.aload_n 0, 1) ∧ 32 + 1 = 33 := ⟨by decide +kernel, rfl⟩
theorem iX6_see_33 : decode cX6_see 33 = .ok (.getfield 128, 3) ∧ 33 + 3 = 36 := ⟨by decide +kernel, rfl⟩
theorem iX6_see_36 : decode cX6_see 36 = .ok (.bipush 6, 2) ∧ 36 + 2 = 38 := ⟨by decide +kernel, rfl⟩
theorem iX6_see_38 : decode cX6_see 38 = .ok (.if_icmp .ne 6, 3) ∧ 38 + 3 = 41 := ⟨by decide +kernel, rfl⟩
theorem iX6_see_41 : decode cX6_see 41 = .ok (.bipush (-104), 2) ∧ 41 + 2 = 43 := ⟨by decide +kernel, rfl⟩
theorem iX6_see_43 : decode cX6_see 43 = .ok (.ireturn, 1) ∧ 43 + 1 = 44 := ⟨by decide +kernel, rfl⟩
theorem iX6_see_44 : decode cX6_see 44 = .ok (.aload_n 0, 1) ∧ 44 + 1 = 45 := ⟨by decide +kernel, rfl⟩
theorem iX6_see_45 : decode cX6_see 45 = .ok (.getfield 16, 3) ∧ 45 + 3 = 48 := ⟨by decide +kernel, rfl⟩
theorem iX6_see_48 : decode cX6_see 48 = .ok (.aload_n 0, 1) ∧ 48 + 1 = 49 := ⟨by decide +kernel, rfl⟩
theorem iX6_see_49 : decode cX6_see 49 = .ok (.getfield 128, 3) ∧ 49 + 3 = 52 := ⟨by decide +kernel, rfl⟩
theorem iX6_see_52 : decode cX6_see 52 = .ok (.iload_n 1, 1) ∧ 52 + 1 = 53 := ⟨by decide +kernel, rfl⟩
theorem iX6_see_53 : decode cX6_see 53 = .ok (.iastore, 1) ∧ 53 + 1 = 54 := ⟨by decide +kernel, rfl⟩
theorem iX6_see_54 : decode cX6_see 54 = .ok (.aload_n 0, 1) ∧ 54 + 1 = 55 := ⟨by decide +kernel, rfl⟩
theorem iX6_see_55 : decode cX6_see 55 = .ok (.getfield 19, 3) ∧ 55 + 3 = 58 := ⟨by decide +kernel, rfl⟩
theorem iX6_see_58 : decode cX6_see 58 = .ok (.aload_n 0, 1) ∧ 58 + 1 = 59 := ⟨by decide +kernel, rfl⟩
theorem iX6_see_59 : decode cX6_see 59 = .ok (.getfield 128, 3) ∧ 59 + 3 = 62 := ⟨by decide +kernel, rfl⟩
theorem iX6_see_62 : decode cX6_see 62 = .ok (.iload_n 2, 1) ∧ 62 + 1 = 63 := ⟨by decide +kernel, rfl⟩
theorem iX6_see_63 : decode cX6_see 63 = .ok (.iastore, 1) ∧ 63 + 1 = 64 := ⟨by decide +kernel, rfl⟩
theorem iX6_see_64 : decode cX6_see 64 = .ok (.aload_n 0, 1) ∧ 64 + 1 = 65 := ⟨by decide +kernel, rfl⟩
theorem iX6_see_65 : decode cX6_see 65 = .ok (.getfield 22, 3) ∧ 65 + 3 = 68 := ⟨by decide +kernel, rfl⟩
theorem iX6_see_68 : decode cX6_see 68 = .ok (.aload_n 0, 1) ∧ 68 + 1 = 69 := ⟨by decide +kernel, rfl⟩
theorem iX6_see_69 : decode cX6_see 69 = .ok (.getfield 128, 3) ∧ 69 + 3 = 72 := ⟨by decide +kernel, rfl⟩
theorem iX6_see_72 : decode cX6_see 72 = .ok (.iload_n 3, 1) ∧ 72 + 1 = 73 := ⟨by decide +kernel, rfl⟩
theorem iX6_see_73 : decode cX6_see 73 = .ok (.iastore, 1) ∧ 73 + 1 = 74 := ⟨by decide +kernel, rfl⟩
theorem iX6_see_74 : decode cX6_see 74 = .ok (.aload_n 0, 1) ∧ 74 + 1 = 75 := ⟨by decide +kernel, rfl⟩
theorem iX6_see_75 : decode cX6_see 75 = .ok (.getfield 25, 3) ∧ 75 + 3 = 78 := ⟨by decide +kernel, rfl⟩
theorem iX6_see_78 : decode cX6_see 78 = .ok (.aload_n 0, 1) ∧ 78 + 1 = 79 := ⟨by decide +kernel, rfl⟩
theorem iX6_see_79 : decode cX6_see 79 = .ok (.getfield 128, 3) ∧ 79 + 3 = 82 := ⟨by decide +kernel, rfl⟩
theorem iX6_see_82 : decode cX6_see 82 = .ok (.iload 4, 2) ∧ 82 + 2 = 84 := ⟨by decide +kernel, rfl⟩
theorem iX6_see_84 : decode cX6_see 84 = .ok (.ifCond .eq 7, 3) ∧ 84 + 3 = 87 := ⟨by decide +kernel, rfl⟩
theorem iX6_see_87 : decode cX6_see 87 = .ok (.iconst 1, 1) ∧ 87 + 1 = 88 := ⟨by decide +kernel, rfl⟩
theorem iX6_see_88 : decode cX6_see 88 = .ok (.goto 4, 3) ∧ 88 + 3 = 91 := ⟨by decide +kernel, rfl⟩
theorem iX6_see_91 : decode cX6_see 91 = .ok (.iconst 0, 1) ∧ 91 + 1 = 92 := ⟨by decide +kernel, rfl⟩
theorem iX6_see_92 : decode cX6_see 92 = .ok (.iastore, 1) ∧ 92 + 1 = 93 := ⟨by decide +kernel, rfl⟩
theorem iX6_see_93 : decode cX6_see 93 = .ok (.aload_n 0, 1) ∧ 93 + 1 = 94 := ⟨by decide +kernel, rfl⟩
theorem iX6_see_94 : decode cX6_see 94 = .ok (.dup, 1) ∧ 94 + 1 = 95 := ⟨by decide +kernel, rfl⟩
theorem iX6_see_95 : decode cX6_see 95 = .ok (.getfield 128, 3) ∧ 95 + 3 = 98 := ⟨by decide +kernel, rfl⟩
theorem iX6_see_98 : decode cX6_see 98 = .ok (.iconst 1, 1) ∧ 98 + 1 = 99 := ⟨by decide +kernel, rfl⟩
theorem iX6_see_99 : decode cX6_see 99 = .ok (.iadd, 1) ∧ 99 + 1 = 100 := ⟨by decide +kernel, rfl⟩
theorem iX6_see_100 : decode cX6_see 100 = .ok (.putfield 128, 3) ∧ 100 + 3 = 103 := ⟨by decide +kernel, rfl⟩
theorem iX6_see_103 : decode cX6_see 103 = .ok (.aload_n 0, 1) ∧ 103 + 1 = 104 := ⟨by decide +kernel, rfl⟩
theorem iX6_see_104 : decode cX6_see 104 = .ok (.getfield 128, 3) ∧ 104 + 3 = 107 := ⟨by decide +kernel, rfl⟩
theorem iX6_see_107 : decode cX6_see 107 = .ok (.ireturn, 1) ∧ 107 + 1 = 108 := ⟨by decide +kernel, rfl⟩
theorem iX6_forget_0 : decode cX6_forget 0 = .ok (.aload_n 0, 1) ∧ 0 + 1 = 1 := ⟨by decide +kernel, rfl⟩
theorem iX6_forget_1 : decode cX6_forget 1 = .ok (.getfield 128, 3) ∧ 1 + 3 = 4 := ⟨by decide +kernel, rfl⟩
theorem iX6_forget_4 : decode cX6_forget 4 = .ok (.istore_n 1, 1) ∧ 4 + 1 = 5 := ⟨by decide +kernel, rfl⟩
theorem iX6_forget_5 : decode cX6_forget 5 = .ok (.aload_n 0, 1) ∧ 5 + 1 = 6 := ⟨by decide +kernel, rfl⟩
theorem iX6_forget_6 : decode cX6_forget 6 = .ok (.iconst 0, 1) ∧ 6 + 1 = 7 := ⟨by decide +kernel, rfl⟩
theorem iX6_forget_7 : decode cX6_forget 7 = .ok (.putfield 128, 3) ∧ 7 + 3 = 10 := ⟨by decide +kernel, rfl⟩
theorem iX6_forget_10 : decode cX6_forget 10 = .ok (.iload_n 1, 1) ∧ 10 + 1 = 11 := ⟨by decide +kernel, rfl⟩
theorem iX6_forget_11 : decode cX6_forget 11 = .ok (.ireturn, 1) ∧ 11 + 1 = 12 := ⟨by decide +kernel, rfl⟩
theorem iX6_sortsOf_0 : decode cX6_sortsOf 0 = .ok (.iconst 0, 1) ∧ 0 + 1 = 1 := ⟨by decide +kernel, rfl⟩
theorem iX6_sortsOf_1 : decode cX6_sortsOf 1 = .ok (.istore_n 2, 1) ∧ 1 + 1 = 2 := ⟨by decide +kernel, rfl⟩
theorem iX6_sortsOf_2 : decode cX6_sortsOf 2 = .ok (.iconst 0, 1) ∧ 2 + 1 = 3 := ⟨by decide +kernel, rfl⟩
theorem iX6_sortsOf_3 : decode cX6_sortsOf 3 = .ok (.istore_n 3, 1) ∧ 3 + 1 = 4 := ⟨by decide +kernel, rfl⟩
theorem iX6_sortsOf_4 : decode cX6_sortsOf 4 = .ok (.iload_n 3, 1) ∧ 4 + 1 = 5 := ⟨by decide +kernel, rfl⟩
theorem iX6_sortsOf_5 : decode cX6_sortsOf 5 = .ok (.iconst 4, 1) ∧ 5 + 1 = 6 := ⟨by decide +kernel, rfl⟩
theorem iX6_sortsOf_6 : decode cX6_sortsOf 6 = .ok (.if_icmp .gt 105, 3) ∧ 6 + 3 = 9 := ⟨by decide +kernel, rfl⟩
theorem iX6_sortsOf_9 : decode cX6_sortsOf 9 = .ok (.iconst 1, 1) ∧ 9 + 1 = 10 := ⟨by decide +kernel, rfl⟩
theorem iX6_sortsOf_10 : decode cX6_sortsOf 10 = .ok (.istore 4, 2) ∧ 10 + 2 = 12 := ⟨by decide +kernel, rfl⟩
theorem iX6_sortsOf_12 : decode cX6_sortsOf 12 = .ok (.iconst 0, 1) ∧ 12 + 1 = 13 := ⟨by decide +kernel, rfl⟩
theorem iX6_sortsOf_13 : decode cX6_sortsOf 13 = .ok (.istore 5, 2) ∧ 13 + 2 = 15 := ⟨by decide +kernel, rfl⟩
theorem iX6_sortsOf_15 : decode cX6_sortsOf 15 = .ok (.iload 5, 2) ∧ 15 + 2 = 17 := ⟨by decide +kernel, rfl⟩
theorem iX6_sortsOf_17 : decode cX6_sortsOf 17 = .ok (.aload_n 0, 1) ∧ 17 + 1 = 18 := ⟨by decide +kernel, rfl⟩
theorem iX6_sortsOf_18 : decode cX6_sortsOf 18 = .ok (.getfield 128, 3) ∧ 18 + 3 = 21 := ⟨by decide +kernel, rfl⟩
theorem iX6_sortsOf_21 : decode cX6_sortsOf 21 = .ok (.if_icmp .ge 69, 3) ∧ 21 + 3 = 24 := ⟨by decide +kernel, rfl⟩
theorem iX6_sortsOf_24 : decode cX6_sortsOf 24 = .ok (.iload 4, 2) ∧ 24 + 2 = 26 := ⟨by decide +kernel, rfl⟩
theorem iX6_sortsOf_26 : decode cX6_sortsOf 26 = .ok (.ifCond .eq 55, 3) ∧ 26 + 3 = 29 := ⟨by decide +kernel, rfl⟩
theorem iX6_sortsOf_29 : decode cX6_sortsOf 29 = .ok (.aload_n 0, 1) ∧ 29 + 1 = 30 := ⟨by decide +kernel, rfl⟩
theorem iX6_sortsOf_30 : decode cX6_sortsOf 30 = .ok (.getfield 16, 3) ∧ 30 + 3 = 33 := ⟨by decide +kernel, rfl⟩
theorem iX6_sortsOf_33 : decode cX6_sortsOf 33 = .ok (.iload 5, 2) ∧ 33 + 2 = 35 := ⟨by decide +kernel, rfl⟩
theorem iX6_sortsOf_35 : decode cX6_sortsOf 35 = .ok (.iaload, 1) ∧ 35 + 1 = 36 := ⟨by decide +kernel, rfl⟩
theorem iX6_sortsOf_36 : decode cX6_sortsOf 36 = .ok (.iload_n 1, 1) ∧ 36 + 1 = 37 := ⟨by decide +kernel, rfl⟩
theorem iX6_sortsOf_37 : decode cX6_sortsOf 37 = .ok (.if_icmp .ne 40, 3) ∧ 37 + 3 = 40 := ⟨by decide +kernel, rfl⟩
theorem iX6_sortsOf_40 : decode cX6_sortsOf 40 = .ok (.iload_n 3, 1) ∧ 40 + 1 = 41 := ⟨by decide +kernel, rfl⟩
theorem iX6_sortsOf_41 : decode cX6_sortsOf 41 = .ok (.aload_n 0, 1) ∧ 41 + 1 = 42 := ⟨by decide +kernel, rfl⟩
theorem iX6_sortsOf_42 : decode cX6_sortsOf 42 = .ok (.getfield 19, 3) ∧ 42 + 3 = 45 := ⟨by decide +kernel, rfl⟩
theorem iX6_sortsOf_45 : decode cX6_sortsOf 45 = .ok (.iload 5, 2) ∧ 45 + 2 = 47 := ⟨by decide +kernel, rfl⟩
theorem iX6_sortsOf_47 : decode cX6_sortsOf 47 = .ok (.iaload, 1) ∧ 47 + 1 = 48 := ⟨by decide +kernel, rfl⟩
theorem iX6_sortsOf_48 : decode cX6_sortsOf 48 = .ok (.aload_n 0, 1) ∧ 48 + 1 = 49 := ⟨by decide +kernel, rfl⟩
theorem iX6_sortsOf_49 : decode cX6_sortsOf 49 = .ok (.getfield 22, 3) ∧ 49 + 3 = 52 := ⟨by decide +kernel, rfl⟩
theorem iX6_sortsOf_52 : decode cX6_sortsOf 52 = .ok (.iload 5, 2) ∧ 52 + 2 = 54 := ⟨by decide +kernel, rfl⟩
theorem iX6_sortsOf_54 : decode cX6_sortsOf 54 = .ok (.iaload, 1) ∧ 54 + 1 = 55 := ⟨by decide +kernel, rfl⟩
theorem iX6_sortsOf_55 : decode cX6_sortsOf 55 = .ok (.invokestatic 142, 3) ∧ 55 + 3 = 58 := ⟨by decide +kernel, rfl⟩
theorem iX6_sortsOf_58 : decode cX6_sortsOf 58 = .ok (.aload_n 0, 1) ∧ 58 + 1 = 59 := ⟨by decide +kernel, rfl⟩
theorem iX6_sortsOf_59 : decode cX6_sortsOf 59 = .ok (.getfield 25, 3) ∧ 59 + 3 = 62 := ⟨by decide +kernel, rfl⟩
theorem iX6_sortsOf_62 : decode cX6_sortsOf 62 = .ok (.iload 5, 2) ∧ 62 + 2 = 64 := ⟨by decide +kernel, rfl⟩
theorem iX6_sortsOf_64 : decode cX6_sortsOf 64 = .ok (.iaload, 1) ∧ 64 + 1 = 65 := ⟨by decide +kernel, rfl⟩
theorem iX6_sortsOf_65 : decode cX6_sortsOf 65 = .ok (.iconst 1, 1) ∧ 65 + 1 = 66 := ⟨by decide +kernel, rfl⟩
theorem iX6_sortsOf_66 : decode cX6_sortsOf 66 = .ok (.if_icmp .ne 7, 3) ∧ 66 + 3 = 69 := ⟨by decide +kernel, rfl⟩
theorem iX6_sortsOf_69 : decode cX6_sortsOf 69 = .ok (.iconst 1, 1) ∧ 69 + 1 = 70 := ⟨by decide +kernel, rfl⟩
theorem iX6_sortsOf_70 : decode cX6_sortsOf 70 = .ok (.goto 4, 3) ∧ 70 + 3 = 73 := ⟨by decide +kernel, rfl⟩
theorem iX6_sortsOf_73 : decode cX6_sortsOf 73 = .ok (.iconst 0, 1) ∧ 73 + 1 = 74 := ⟨by decide +kernel, rfl⟩
theorem iX6_sortsOf_74 : decode cX6_sortsOf 74 = .ok (.if_icmp .ne 7, 3) ∧ 74 + 3 = 77 := ⟨by decide +kernel, rfl⟩
theorem iX6_sortsOf_77 : decode cX6_sortsOf 77 = .ok (.iconst 1, 1) ∧ 77 + 1 = 78 := ⟨by decide +kernel, rfl⟩
theorem iX6_sortsOf_78 : decode cX6_sortsOf 78 = .ok (.goto 4, 3) ∧ 78 + 3 = 81 := ⟨by decide +kernel, rfl⟩
theorem iX6_sortsOf_81 : decode cX6_sortsOf 81 = .ok (.iconst 0, 1) ∧ 81 + 1 = 82 := ⟨by decide +kernel, rfl⟩
theorem iX6_sortsOf_82 : decode cX6_sortsOf 82 = .ok (.istore 4, 2) ∧ 82 + 2 = 84 := ⟨by decide +kernel, rfl⟩
theorem iX6_sortsOf_84 : decode cX6_sortsOf 84 = .ok (.iinc 5 1, 3) ∧ 84 + 3 = 87 := ⟨by decide +kernel, rfl⟩
theorem iX6_sortsOf_87 : decode cX6_sortsOf 87 = .ok (.goto (-72), 3) ∧ 87 + 3 = 90 := ⟨by decide +kernel, rfl⟩
theorem iX6_sortsOf_90 : decode cX6_sortsOf 90 = .ok (.iload_n 2, 1) ∧ 90 + 1 = 91 := ⟨by decide +kernel, rfl⟩
theorem iX6_sortsOf_91 : decode cX6_sortsOf 91 = .ok (.iload 4, 2) ∧ 91 + 2 = 93 := ⟨by decide +kernel, rfl⟩
theorem iX6_sortsOf_93 : decode cX6_sortsOf 93 = .ok (.ifCond .eq 9, 3) ∧ 93 + 3 = 96 := ⟨by decide +kernel, rfl⟩
theorem iX6_sortsOf_96 : decode cX6_sortsOf 96 = .ok (.iconst 1, 1) ∧ 96 + 1 = 97 := ⟨by decide +kernel, rfl⟩
theorem iX6_sortsOf_97 : decode cX6_sortsOf 97 = .ok (.iload_n 3, 1) ∧ 97 + 1 = 98 := ⟨by decide +kernel, rfl⟩
theorem iX6_sortsOf_98 : decode cX6_sortsOf 98 = .ok (.ishl, 1) ∧ 98 + 1 = 99 := ⟨by decide +kernel, rfl⟩
theorem iX6_sortsOf_99 : decode cX6_sortsOf 99 = .ok (.goto 4, 3) ∧ 99 + 3 = 102 := ⟨by decide +kernel, rfl⟩
theorem iX6_sortsOf_102 : decode cX6_sortsOf 102 = .ok (.iconst 0, 1) ∧ 102 + 1 = 103 := ⟨by decide +kernel, rfl⟩
theorem iX6_sortsOf_103 : decode cX6_sortsOf 103 = .ok (.ior, 1) ∧ 103 + 1 = 104 := ⟨by decide +kernel, rfl⟩
theorem iX6_sortsOf_104 : decode cX6_sortsOf 104 = .ok (.istore_n 2, 1) ∧ 104 + 1 = 105 := ⟨by decide +kernel, rfl⟩
theorem iX6_sortsOf_105 : decode cX6_sortsOf 105 = .ok (.iinc 3 1, 3) ∧ 105 + 3 = 108 := ⟨by decide +kernel, rfl⟩
theorem iX6_sortsOf_108 : decode cX6_sortsOf 108 = .ok (.goto (-104), 3) ∧ 108 + 3 = 111 := ⟨by decide +kernel, rfl⟩
theorem iX6_sortsOf_111 : decode cX6_sortsOf 111 = .ok (.iload_n 2, 1) ∧ 111 + 1 = 112 := ⟨by decide +kernel, rfl⟩
theorem iX6_sortsOf_112 : decode cX6_sortsOf 112 = .ok (.ireturn, 1) ∧ 112 + 1 = 113 := ⟨by decide +kernel, rfl⟩
theorem iX6_askOf_0 : decode cX6_askOf 0 = .ok (.aload_n 0, 1) ∧ 0 + 1 = 1 := ⟨by decide +kernel, rfl⟩
theorem iX6_askOf_1 : decode cX6_askOf 1 = .ok (.iload_n 1, 1) ∧ 1 + 1 = 2 := ⟨by decide +kernel, rfl⟩
theorem iX6_askOf_2 : decode cX6_askOf 2 = .ok (.invokevirtual 157, 3) ∧ 2 + 3 = 5 := ⟨by decide +kernel, rfl⟩
theorem iX6_askOf_5 : decode cX6_askOf 5 = .ok (.istore_n 2, 1) ∧ 5 + 1 = 6 := ⟨by decide +kernel, rfl⟩
theorem iX6_askOf_6 : decode cX6_askOf 6 = .ok (.iconst (-1), 1) ∧ 6 + 1 = 7 := ⟨by decide +kernel, rfl⟩
theorem iX6_askOf_7 : decode cX6_askOf 7 = .ok (.istore_n 3, 1) ∧ 7 + 1 = 8 := ⟨by decide +kernel, rfl⟩
theorem iX6_askOf_8 : decode cX6_askOf 8 = .ok (.ldc 197, 2) ∧ 8 + 2 = 10 := ⟨by decide +kernel, rfl⟩
theorem iX6_askOf_10 : decode cX6_askOf 10 = .ok (.istore 4, 2) ∧ 10 + 2 = 12 := ⟨by decide +kernel, rfl⟩
theorem iX6_askOf_12 : decode cX6_askOf 12 = .ok (.iconst 0, 1) ∧ 12 + 1 = 13 := ⟨by decide +kernel, rfl⟩
theorem iX6_askOf_13 : decode cX6_askOf 13 = .ok (.istore 5, 2) ∧ 13 + 2 = 15 := ⟨by decide +kernel, rfl⟩
theorem iX6_askOf_15 : decode cX6_askOf 15 = .ok (.iload 5, 2) ∧ 15 + 2 = 17 := ⟨by decide +kernel, rfl⟩
theorem iX6_askOf_17 : decode cX6_askOf 17 = .ok (.bipush 16, 2) ∧ 17 + 2 = 19 := ⟨by decide +kernel, rfl⟩
theorem iX6_askOf_19 : decode cX6_askOf 19 = .ok (.if_icmp .ge 131, 3) ∧ 19 + 3 = 22 := ⟨by decide +kernel, rfl⟩
theorem iX6_askOf_22 : decode cX6_askOf 22 = .ok (.iload_n 2, 1) ∧ 22 + 1 = 23 := ⟨by decide +kernel, rfl⟩
theorem iX6_askOf_23 : decode cX6_askOf 23 = .ok (.ifCond .eq 127, 3) ∧ 23 + 3 = 26 := ⟨by decide +kernel, rfl⟩
theorem iX6_askOf_26 : decode cX6_askOf 26 = .ok (.iconst 0, 1) ∧ 26 + 1 = 27 := ⟨by decide +kernel, rfl⟩
theorem iX6_askOf_27 : decode cX6_askOf 27 = .ok (.istore 6, 2) ∧ 27 + 2 = 29 := ⟨by decide +kernel, rfl⟩
theorem iX6_askOf_29 : decode cX6_askOf 29 = .ok (.iconst 0, 1) ∧ 29 + 1 = 30 := ⟨by decide +kernel, rfl⟩
theorem iX6_askOf_30 : decode cX6_askOf 30 = .ok (.istore 7, 2) ∧ 30 + 2 = 32 := ⟨by decide +kernel, rfl⟩
theorem iX6_askOf_32 : decode cX6_askOf 32 = .ok (.iload 7, 2) ∧ 32 + 2 = 34 := ⟨by decide +kernel, rfl⟩
theorem iX6_askOf_34 : decode cX6_askOf 34 = .ok (.iconst 4, 1) ∧ 34 + 1 = 35 := ⟨by decide +kernel, rfl⟩
theorem iX6_askOf_35 : decode cX6_askOf 35 = .ok (.if_icmp .gt 44, 3) ∧ 35 + 3 = 38 := ⟨by decide +kernel, rfl⟩
theorem iX6_askOf_38 : decode cX6_askOf 38 = .ok (.iload 6, 2) ∧ 38 + 2 = 40 := ⟨by decide +kernel, rfl⟩
theorem iX6_askOf_40 : decode cX6_askOf 40 = .ok (.iload_n 2, 1) ∧ 40 + 1 = 41 := ⟨by decide +kernel, rfl⟩
theorem iX6_askOf_41 : decode cX6_askOf 41 = .ok (.iload 7, 2) ∧ 41 + 2 = 43 := ⟨by decide +kernel, rfl⟩
theorem iX6_askOf_43 : decode cX6_askOf 43 = .ok (.invokestatic 92, 3) ∧ 43 + 3 = 46 := ⟨by decide +kernel, rfl⟩
theorem iX6_askOf_46 : decode cX6_askOf 46 = .ok (.ifCond .eq 23, 3) ∧ 46 + 3 = 49 := ⟨by decide +kernel, rfl⟩
theorem iX6_askOf_49 : decode cX6_askOf 49 = .ok (.iload 7, 2) ∧ 49 + 2 = 51 := ⟨by decide +kernel, rfl⟩
theorem iX6_askOf_51 : decode cX6_askOf 51 = .ok (.iload 5, 2) ∧ 51 + 2 = 53 := ⟨by decide +kernel, rfl⟩
theorem iX6_askOf_53 : decode cX6_askOf 53 = .ok (.iconst 4, 1) ∧ 53 + 1 = 54 := ⟨by decide +kernel, rfl⟩
theorem iX6_askOf_54 : decode cX6_askOf 54 = .ok (.idiv, 1) ∧ 54 + 1 = 55 := ⟨by decide +kernel, rfl⟩
theorem iX6_askOf_55 : decode cX6_askOf 55 = .ok (.iload 5, 2) ∧ 55 + 2 = 57 := ⟨by decide +kernel, rfl⟩
theorem iX6_askOf_57 : decode cX6_askOf 57 = .ok (.iconst 4, 1) ∧ 57 + 1 = 58 := ⟨by decide +kernel, rfl⟩
theorem iX6_askOf_58 : decode cX6_askOf 58 = .ok (.irem, 1) ∧ 58 + 1 = 59 := ⟨by decide +kernel, rfl⟩
theorem iX6_askOf_59 : decode cX6_askOf 59 = .ok (.invokestatic 142, 3) ∧ 59 + 3 = 62 := ⟨by decide +kernel, rfl⟩
theorem iX6_askOf_62 : decode cX6_askOf 62 = .ok (.ifCond .eq 7, 3) ∧ 62 + 3 = 65 := ⟨by decide +kernel, rfl⟩
theorem iX6_askOf_65 : decode cX6_askOf 65 = .ok (.iconst 1, 1) ∧ 65 + 1 = 66 := ⟨by decide +kernel, rfl⟩
theorem iX6_askOf_66 : decode cX6_askOf 66 = .ok (.goto 4, 3) ∧ 66 + 3 = 69 := ⟨by decide +kernel, rfl⟩
theorem iX6_askOf_69 : decode cX6_askOf 69 = .ok (.iconst 0, 1) ∧ 69 + 1 = 70 := ⟨by decide +kernel, rfl⟩
theorem iX6_askOf_70 : decode cX6_askOf 70 = .ok (.iadd, 1) ∧ 70 + 1 = 71 := ⟨by decide +kernel, rfl⟩
theorem iX6_askOf_71 : decode cX6_askOf 71 = .ok (.istore 6, 2) ∧ 71 + 2 = 73 := ⟨by decide +kernel, rfl⟩
theorem iX6_askOf_73 : decode cX6_askOf 73 = .ok (.iinc 7 1, 3) ∧ 73 + 3 = 76 := ⟨by decide +kernel, rfl⟩
theorem iX6_askOf_76 : decode cX6_askOf 76 = .ok (.goto (-44), 3) ∧ 76 + 3 = 79 := ⟨by decide +kernel, rfl⟩
theorem iX6_askOf_79 : decode cX6_askOf 79 = .ok (.iload_n 2, 1) ∧ 79 + 1 = 80 := ⟨by decide +kernel, rfl⟩
theorem iX6_askOf_80 : decode cX6_askOf 80 = .ok (.invokestatic 185, 3) ∧ 80 + 3 = 83 := ⟨by decide +kernel, rfl⟩
theorem iX6_askOf_83 : decode cX6_askOf 83 = .ok (.iload 6, 2) ∧ 83 + 2 = 85 := ⟨by decide +kernel, rfl⟩
theorem iX6_askOf_85 : decode cX6_askOf 85 = .ok (.isub, 1) ∧ 85 + 1 = 86 := ⟨by decide +kernel, rfl⟩
theorem iX6_askOf_86 : decode cX6_askOf 86 = .ok (.istore 7, 2) ∧ 86 + 2 = 88 := ⟨by decide +kernel, rfl⟩
theorem iX6_askOf_88 : decode cX6_askOf 88 = .ok (.iload 6, 2) ∧ 88 + 2 = 90 := ⟨by decide +kernel, rfl⟩
theorem iX6_askOf_90 : decode cX6_askOf 90 = .ok (.iload 7, 2) ∧ 90 + 2 = 92 := ⟨by decide +kernel, rfl⟩
theorem iX6_askOf_92 : decode cX6_askOf 92 = .ok (.if_icmp .le 8, 3) ∧ 92 + 3 = 95 := ⟨by decide +kernel, rfl⟩
theorem iX6_askOf_95 : decode cX6_askOf 95 = .ok (.iload 6, 2) ∧ 95 + 2 = 97 := ⟨by decide +kernel, rfl⟩
theorem iX6_askOf_97 : decode cX6_askOf 97 = .ok (.goto 5, 3) ∧ 97 + 3 = 100 := ⟨by decide +kernel, rfl⟩
theorem iX6_askOf_100 : decode cX6_askOf 100 = .ok (.iload 7, 2) ∧ 100 + 2 = 102 := ⟨by decide +kernel, rfl⟩
theorem iX6_askOf_102 : decode cX6_askOf 102 = .ok (.istore 8, 2) ∧ 102 + 2 = 104 := ⟨by decide +kernel, rfl⟩
theorem iX6_askOf_104 : decode cX6_askOf 104 = .ok (.iload 8, 2) ∧ 104 + 2 = 106 := ⟨by decide +kernel, rfl⟩
theorem iX6_askOf_106 : decode cX6_askOf 106 = .ok (.iload 4, 2) ∧ 106 + 2 = 108 := ⟨by decide +kernel, rfl⟩
theorem iX6_askOf_108 : decode cX6_askOf 108 = .ok (.if_icmp .ge 18, 3) ∧ 108 + 3 = 111 := ⟨by decide +kernel, rfl⟩
theorem iX6_askOf_111 : decode cX6_askOf 111 = .ok (.bipush 10, 2) ∧ 111 + 2 = 113 := ⟨by decide +kernel, rfl⟩
theorem iX6_askOf_113 : decode cX6_askOf 113 = .ok (.iload 5, 2) ∧ 113 + 2 = 115 := ⟨by decide +kernel, rfl⟩
theorem iX6_askOf_115 : decode cX6_askOf 115 = .ok (.iconst 4, 1) ∧ 115 + 1 = 116 := ⟨by decide +kernel, rfl⟩
theorem iX6_askOf_116 : decode cX6_askOf 116 = .ok (.idiv, 1) ∧ 116 + 1 = 117 := ⟨by decide +kernel, rfl⟩
theorem iX6_askOf_117 : decode cX6_askOf 117 = .ok (.imul, 1) ∧ 117 + 1 = 118 := ⟨by decide +kernel, rfl⟩
theorem iX6_askOf_118 : decode cX6_askOf 118 = .ok (.iload 5, 2) ∧ 118 + 2 = 120 := ⟨by decide +kernel, rfl⟩
theorem iX6_askOf_120 : decode cX6_askOf 120 = .ok (.iconst 4, 1) ∧ 120 + 1 = 121 := ⟨by decide +kernel, rfl⟩
theorem iX6_askOf_121 : decode cX6_askOf 121 = .ok (.irem, 1) ∧ 121 + 1 = 122 := ⟨by decide +kernel, rfl⟩
theorem iX6_askOf_122 : decode cX6_askOf 122 = .ok (.iadd, 1) ∧ 122 + 1 = 123 := ⟨by decide +kernel, rfl⟩
theorem iX6_askOf_123 : decode cX6_askOf 123 = .ok (.goto 4, 3) ∧ 123 + 3 = 126 := ⟨by decide +kernel, rfl⟩
theorem iX6_askOf_126 : decode cX6_askOf 126 = .ok (.iload_n 3, 1) ∧ 126 + 1 = 127 := ⟨by decide +kernel, rfl⟩
theorem iX6_askOf_127 : decode cX6_askOf 127 = .ok (.istore_n 3, 1) ∧ 127 + 1 = 128 := ⟨by decide +kernel, rfl⟩
theorem iX6_askOf_128 : decode cX6_askOf 128 = .ok (.iload 8, 2) ∧ 128 + 2 = 130 := ⟨by decide +kernel, rfl⟩
theorem iX6_askOf_130 : decode cX6_askOf 130 = .ok (.iload 4, 2) ∧ 130 + 2 = 132 := ⟨by decide +kernel, rfl⟩
theorem iX6_askOf_132 : decode cX6_askOf 132 = .ok (.if_icmp .ge 8, 3) ∧ 132 + 3 = 135 := ⟨by decide +kernel, rfl⟩
theorem iX6_askOf_135 : decode cX6_askOf 135 = .ok (.iload 8, 2) ∧ 135 + 2 = 137 := ⟨by decide +kernel, rfl⟩
theorem iX6_askOf_137 : decode cX6_askOf 137 = .ok (.goto 5, 3) ∧ 137 + 3 = 140 := ⟨by decide +kernel, rfl⟩
theorem iX6_askOf_140 : decode cX6_askOf 140 = .ok (.iload 4, 2) ∧ 140 + 2 = 142 := ⟨by decide +kernel, rfl⟩
theorem iX6_askOf_142 : decode cX6_askOf 142 = .ok (.istore 4, 2) ∧ 142 + 2 = 144 := ⟨by decide +kernel, rfl⟩
theorem iX6_askOf_144 : decode cX6_askOf 144 = .ok (.iinc 5 1, 3) ∧ 144 + 3 = 147 := ⟨by decide +kernel, rfl⟩
theorem iX6_askOf_147 : decode cX6_askOf 147 = .ok (.goto (-132), 3) ∧ 147 + 3 = 150 := ⟨by decide +kernel, rfl⟩
theorem iX6_askOf_150 : decode cX6_askOf 150 = .ok (.iload_n 3, 1) ∧ 150 + 1 = 151 := ⟨by decide +kernel, rfl⟩
theorem iX6_askOf_151 : decode cX6_askOf 151 = .ok (.ireturn, 1) ∧ 151 + 1 = 152 := ⟨by decide +kernel, rfl⟩
theorem iX6_draw_0 : decode cX6_draw 0 = .ok (.aload_n 0, 1) ∧ 0 + 1 = 1 := ⟨by decide +kernel, rfl⟩
theorem iX6_draw_1 : decode cX6_draw 1 = .ok (.ldc2_w 257, 3) ∧ 1 + 3 = 4 := ⟨by decide +kernel, rfl⟩
theorem iX6_draw_4 : decode cX6_draw 4 = .ok (.aload_n 0, 1) ∧ 4 + 1 = 5 := ⟨by decide +kernel, rfl⟩
theorem iX6_draw_5 : decode cX6_draw 5 = .ok (.getfield 259, 3) ∧ 5 + 3 = 8 := ⟨by decide +kernel, rfl⟩
theorem iX6_draw_8 : decode cX6_draw 8 = .ok (.lmul, 1) ∧ 8 + 1 = 9 := ⟨by decide +kernel, rfl⟩
theorem iX6_draw_9 : decode cX6_draw 9 = .ok (.ldc2_w 263, 3) ∧ 9 + 3 = 12 := ⟨by decide +kernel, rfl⟩
theorem iX6_draw_12 : decode cX6_draw 12 = .ok (.ladd, 1) ∧ 12 + 1 = 13 := ⟨by decide +kernel, rfl⟩
theorem iX6_draw_13 : decode cX6_draw 13 = .ok (.ldc2_w 265, 3) ∧ 13 + 3 = 16 := ⟨by decide +kernel, rfl⟩
theorem iX6_draw_16 : decode cX6_draw 16 = .ok (.land, 1) ∧ 16 + 1 = 17 := ⟨by decide +kernel, rfl⟩
theorem iX6_draw_17 : decode cX6_draw 17 = .ok (.putfield 259, 3) ∧ 17 + 3 = 20 := ⟨by decide +kernel, rfl⟩
theorem iX6_draw_20 : decode cX6_draw 20 = .ok (.aload_n 0, 1) ∧ 20 + 1 = 21 := ⟨by decide +kernel, rfl⟩
theorem iX6_draw_21 : decode cX6_draw 21 = .ok (.getfield 259, 3) ∧ 21 + 3 = 24 := ⟨by decide +kernel, rfl⟩
theorem iX6_draw_24 : decode cX6_draw 24 = .ok (.ldc2_w 267, 3) ∧ 24 + 3 = 27 := ⟨by decide +kernel, rfl⟩
theorem iX6_draw_27 : decode cX6_draw 27 = .ok (.ldiv, 1) ∧ 27 + 1 = 28 := ⟨by decide +kernel, rfl⟩
theorem iX6_draw_28 : decode cX6_draw 28 = .ok (.iload_n 1, 1) ∧ 28 + 1 = 29 := ⟨by decide +kernel, rfl⟩
theorem iX6_draw_29 : decode cX6_draw 29 = .ok (.i2l, 1) ∧ 29 + 1 = 30 := ⟨by decide +kernel, rfl⟩
theorem iX6_draw_30 : decode cX6_draw 30 = .ok (.lrem, 1) ∧ 30 + 1 = 31 := ⟨by decide +kernel, rfl⟩
theorem iX6_draw_31 : decode cX6_draw 31 = .ok (.l2i, 1) ∧ 31 + 1 = 32 := ⟨by decide +kernel, rfl⟩
theorem iX6_draw_32 : decode cX6_draw 32 = .ok (.ireturn, 1) ∧ 32 + 1 = 33 := ⟨by decide +kernel, rfl⟩
theorem iX6_ofSet_0 : decode cX6_ofSet 0 = .ok (.iconst 0, 1) ∧ 0 + 1 = 1 := ⟨by decide +kernel, rfl⟩
theorem iX6_ofSet_1 : decode cX6_ofSet 1 = .ok (.istore_n 2, 1) ∧ 1 + 1 = 2 := ⟨by decide +kernel, rfl⟩
theorem iX6_ofSet_2 : decode cX6_ofSet 2 = .ok (.iload_n 1, 1) ∧ 2 + 1 = 3 := ⟨by decide +kernel, rfl⟩
theorem iX6_ofSet_3 : decode cX6_ofSet 3 = .ok (.istore_n 3, 1) ∧ 3 + 1 = 4 := ⟨by decide +kernel, rfl⟩
theorem iX6_ofSet_4 : decode cX6_ofSet 4 = .ok (.iload_n 0, 1) ∧ 4 + 1 = 5 := ⟨by decide +kernel, rfl⟩
theorem iX6_ofSet_5 : decode cX6_ofSet 5 = .ok (.iload_n 2, 1) ∧ 5 + 1 = 6 := ⟨by decide +kernel, rfl⟩
theorem iX6_ofSet_6 : decode cX6_ofSet 6 = .ok (.invokestatic 92, 3) ∧ 6 + 3 = 9 := ⟨by decide +kernel, rfl⟩
theorem iX6_ofSet_9 : decode cX6_ofSet 9 = .ok (.ifCond .eq 7, 3) ∧ 9 + 3 = 12 := ⟨by decide +kernel, rfl⟩
theorem iX6_ofSet_12 : decode cX6_ofSet 12 = .ok (.iload_n 3, 1) ∧ 12 + 1 = 13 := ⟨by decide +kernel, rfl⟩
theorem iX6_ofSet_13 : decode cX6_ofSet 13 = .ok (.ifCond .le 25, 3) ∧ 13 + 3 = 16 := ⟨by decide +kernel, rfl⟩
theorem iX6_ofSet_16 : decode cX6_ofSet 16 = .ok (.iload_n 3, 1) ∧ 16 + 1 = 17 := ⟨by decide +kernel, rfl⟩
theorem iX6_ofSet_17 : decode cX6_ofSet 17 = .ok (.iload_n 0, 1) ∧ 17 + 1 = 18 := ⟨by decide +kernel, rfl⟩
theorem iX6_ofSet_18 : decode cX6_ofSet 18 = .ok (.iload_n 2, 1) ∧ 18 + 1 = 19 := ⟨by decide +kernel, rfl⟩
theorem iX6_ofSet_19 : decode cX6_ofSet 19 = .ok (.invokestatic 92, 3) ∧ 19 + 3 = 22 := ⟨by decide +kernel, rfl⟩
theorem iX6_ofSet_22 : decode cX6_ofSet 22 = .ok (.ifCond .eq 7, 3) ∧ 22 + 3 = 25 := ⟨by decide +kernel, rfl⟩
theorem iX6_ofSet_25 : decode cX6_ofSet 25 = .ok (.iconst 1, 1) ∧ 25 + 1 = 26 := ⟨by decide +kernel, rfl⟩
theorem iX6_ofSet_26 : decode cX6_ofSet 26 = .ok (.goto 4, 3) ∧ 26 + 3 = 29 := ⟨by decide +kernel, rfl⟩
theorem iX6_ofSet_29 : decode cX6_ofSet 29 = .ok (.iconst 0, 1) ∧ 29 + 1 = 30 := ⟨by decide +kernel, rfl⟩
theorem iX6_ofSet_30 : decode cX6_ofSet 30 = .ok (.isub, 1) ∧ 30 + 1 = 31 := ⟨by decide +kernel, rfl⟩
theorem iX6_ofSet_31 : decode cX6_ofSet 31 = .ok (.istore_n 3, 1) ∧ 31 + 1 = 32 := ⟨by decide +kernel, rfl⟩
theorem iX6_ofSet_32 : decode cX6_ofSet 32 = .ok (.iinc 2 1, 3) ∧ 32 + 3 = 35 := ⟨by decide +kernel, rfl⟩
theorem iX6_ofSet_35 : decode cX6_ofSet 35 = .ok (.goto (-31), 3) ∧ 35 + 3 = 38 := ⟨by decide +kernel, rfl⟩
theorem iX6_ofSet_38 : decode cX6_ofSet 38 = .ok (.iload_n 2, 1) ∧ 38 + 1 = 39 := ⟨by decide +kernel, rfl⟩
theorem iX6_ofSet_39 : decode cX6_ofSet 39 = .ok (.ireturn, 1) ∧ 39 + 1 = 40 := ⟨by decide +kernel, rfl⟩
theorem iX6_watchedFree_0 : decode cX6_watchedFree 0 = .ok (.iconst 0, 1) ∧ 0 + 1 = 1 := ⟨by decide +kernel, rfl⟩
theorem iX6_watchedFree_1 : decode cX6_watchedFree 1 = .ok (.istore_n 1, 1) ∧ 1 + 1 = 2 := ⟨by decide +kernel, rfl⟩
theorem iX6_watchedFree_2 : decode cX6_watchedFree 2 = .ok (.iconst 0, 1) ∧ 2 + 1 = 3 := ⟨by decide +kernel, rfl⟩
theorem iX6_watchedFree_3 : decode cX6_watchedFree 3 = .ok (.istore_n 2, 1) ∧ 3 + 1 = 4 := ⟨by decide +kernel, rfl⟩
theorem iX6_watchedFree_4 : decode cX6_watchedFree 4 = .ok (.iload_n 2, 1) ∧ 4 + 1 = 5 := ⟨by decide +kernel, rfl⟩
theorem iX6_watchedFree_5 : decode cX6_watchedFree 5 = .ok (.aload_n 0, 1) ∧ 5 + 1 = 6 := ⟨by decide +kernel, rfl⟩
theorem iX6_watchedFree_6 : decode cX6_watchedFree 6 = .ok (.getfield 119, 3) ∧ 6 + 3 = 9 := ⟨by decide +kernel, rfl⟩
theorem iX6_watchedFree_9 : decode cX6_watchedFree 9 = .ok (.if_icmp .ge 17, 3) ∧ 9 + 3 = 12 := ⟨by decide +kernel, rfl⟩
theorem iX6_watchedFree_12 : decode cX6_watchedFree 12 = .ok (.iload_n 1, 1) ∧ 12 + 1 = 13 := ⟨by decide +kernel, rfl⟩
theorem iX6_watchedFree_13 : decode cX6_watchedFree 13 = .ok (.aload_n 0, 1) ∧ 13 + 1 = 14 := ⟨by decide +kernel, rfl⟩
theorem iX6_watchedFree_14 : decode cX6_watchedFree 14 = .ok (.iload_n 2, 1) ∧ 14 + 1 = 15 := ⟨by decide +kernel, rfl⟩
theorem iX6_watchedFree_15 : decode cX6_watchedFree 15 = .ok (.invokevirtual 148, 3) ∧ 15 + 3 = 18 := ⟨by decide +kernel, rfl⟩
theorem iX6_watchedFree_18 : decode cX6_watchedFree 18 = .ok (.ior, 1) ∧ 18 + 1 = 19 := ⟨by decide +kernel, rfl⟩
theorem iX6_watchedFree_19 : decode cX6_watchedFree 19 = .ok (.istore_n 1, 1) ∧ 19 + 1 = 20 := ⟨by decide +kernel, rfl⟩
theorem iX6_watchedFree_20 : decode cX6_watchedFree 20 = .ok (.iinc 2 1, 3) ∧ 20 + 3 = 23 := ⟨by decide +kernel, rfl⟩
theorem iX6_watchedFree_23 : decode cX6_watchedFree 23 = .ok (.goto (-19), 3) ∧ 23 + 3 = 26 := ⟨by decide +kernel, rfl⟩
theorem iX6_watchedFree_26 : decode cX6_watchedFree 26 = .ok (.iload_n 1, 1) ∧ 26 + 1 = 27 := ⟨by decide +kernel, rfl⟩
theorem iX6_watchedFree_27 : decode cX6_watchedFree 27 = .ok (.aload_n 0, 1) ∧ 27 + 1 = 28 := ⟨by decide +kernel, rfl⟩
theorem iX6_watchedFree_28 : decode cX6_watchedFree 28 = .ok (.invokevirtual 151, 3) ∧ 28 + 3 = 31 := ⟨by decide +kernel, rfl⟩
theorem iX6_watchedFree_31 : decode cX6_watchedFree 31 = .ok (.iconst (-1), 1) ∧ 31 + 1 = 32 := ⟨by decide +kernel, rfl⟩
theorem iX6_watchedFree_32 : decode cX6_watchedFree 32 = .ok (.ixor, 1) ∧ 32 + 1 = 33 := ⟨by decide +kernel, rfl⟩
theorem iX6_watchedFree_33 : decode cX6_watchedFree 33 = .ok (.iand, 1) ∧ 33 + 1 = 34 := ⟨by decide +kernel, rfl⟩
theorem iX6_watchedFree_34 : decode cX6_watchedFree 34 = .ok (.invokestatic 185, 3) ∧ 34 + 3 = 37 := ⟨by decide +kernel, rfl⟩
theorem iX6_watchedFree_37 : decode cX6_watchedFree 37 = .ok (.ireturn, 1) ∧ 37 + 1 = 38 := ⟨by decide +kernel, rfl⟩
theorem iX6_walksNow_0 : decode cX6_walksNow 0 = .ok (.iconst 0, 1) ∧ 0 + 1 = 1 := ⟨by decide +kernel, rfl⟩
theorem iX6_walksNow_1 : decode cX6_walksNow 1 = .ok (.istore 4, 2) ∧ 1 + 2 = 3 := ⟨by decide +kernel, rfl⟩
theorem iX6_walksNow_3 : decode cX6_walksNow 3 = .ok (.iload 4, 2) ∧ 3 + 2 = 5 := ⟨by decide +kernel, rfl⟩
theorem iX6_walksNow_5 : decode cX6_walksNow 5 = .ok (.iconst 4, 1) ∧ 5 + 1 = 6 := ⟨by decide +kernel, rfl⟩
theorem iX6_walksNow_6 : decode cX6_walksNow 6 = .ok (.if_icmp .ge 23, 3) ∧ 6 + 3 = 9 := ⟨by decide +kernel, rfl⟩
theorem iX6_walksNow_9 : decode cX6_walksNow 9 = .ok (.aload_n 0, 1) ∧ 9 + 1 = 10 := ⟨by decide +kernel, rfl⟩
theorem iX6_walksNow_10 : decode cX6_walksNow 10 = .ok (.getfield 47, 3) ∧ 10 + 3 = 13 := ⟨by decide +kernel, rfl⟩
theorem iX6_walksNow_13 : decode cX6_walksNow 13 = .ok (.iload 4, 2) ∧ 13 + 2 = 15 := ⟨by decide +kernel, rfl⟩
theorem iX6_walksNow_15 : decode cX6_walksNow 15 = .ok (.aload_n 0, 1) ∧ 15 + 1 = 16 := ⟨by decide +kernel, rfl⟩
theorem iX6_walksNow_16 : decode cX6_walksNow 16 = .ok (.getfield 13, 3) ∧ 16 + 3 = 19 := ⟨by decide +kernel, rfl⟩
theorem iX6_walksNow_19 : decode cX6_walksNow 19 = .ok (.iload 4, 2) ∧ 19 + 2 = 21 := ⟨by decide +kernel, rfl⟩
theorem iX6_walksNow_21 : decode cX6_walksNow 21 = .ok (.iaload, 1) ∧ 21 + 1 = 22 := ⟨by decide +kernel, rfl⟩
theorem iX6_walksNow_22 : decode cX6_walksNow 22 = .ok (.iastore, 1) ∧ 22 + 1 = 23 := ⟨by decide +kernel, rfl⟩
theorem iX6_walksNow_23 : decode cX6_walksNow 23 = .ok (.iinc 4 1, 3) ∧ 23 + 3 = 26 := ⟨by decide +kernel, rfl⟩
theorem iX6_walksNow_26 : decode cX6_walksNow 26 = .ok (.goto (-23), 3) ∧ 26 + 3 = 29 := ⟨by decide +kernel, rfl⟩
theorem iX6_walksNow_29 : decode cX6_walksNow 29 = .ok (.aload_n 0, 1) ∧ 29 + 1 = 30 := ⟨by decide +kernel, rfl⟩
theorem iX6_walksNow_30 : decode cX6_walksNow 30 = .ok (.iload_n 2, 1) ∧ 30 + 1 = 31 := ⟨by decide +kernel, rfl⟩
theorem iX6_walksNow_31 : decode cX6_walksNow 31 = .ok (.i2l, 1) ∧ 31 + 1 = 32 := ⟨by decide +kernel, rfl⟩
theorem iX6_walksNow_32 : decode cX6_walksNow 32 = .ok (.putfield 259, 3) ∧ 32 + 3 = 35 := ⟨by decide +kernel, rfl⟩
theorem iX6_walksNow_35 : decode cX6_walksNow 35 = .ok (.iconst 0, 1) ∧ 35 + 1 = 36 := ⟨by decide +kernel, rfl⟩
theorem iX6_walksNow_36 : decode cX6_walksNow 36 = .ok (.istore 4, 2) ∧ 36 + 2 = 38 := ⟨by decide +kernel, rfl⟩
theorem iX6_walksNow_38 : decode cX6_walksNow 38 = .ok (.iconst 0, 1) ∧ 38 + 1 = 39 := ⟨by decide +kernel, rfl⟩
theorem iX6_walksNow_39 : decode cX6_walksNow 39 = .ok (.istore 5, 2) ∧ 39 + 2 = 41 := ⟨by decide +kernel, rfl⟩
theorem iX6_walksNow_41 : decode cX6_walksNow 41 = .ok (.iload 5, 2) ∧ 41 + 2 = 43 := ⟨by decide +kernel, rfl⟩
theorem iX6_walksNow_43 : decode cX6_walksNow 43 = .ok (.iload_n 1, 1) ∧ 43 + 1 = 44 := ⟨by decide +kernel, rfl⟩
theorem iX6_walksNow_44 : decode cX6_walksNow 44 = .ok (.if_icmp .ge 56, 3) ∧ 44 + 3 = 47 := ⟨by decide +kernel, rfl⟩
theorem iX6_walksNow_47 : decode cX6_walksNow 47 = .ok (.aload_n 0, 1) ∧ 47 + 1 = 48 := ⟨by decide +kernel, rfl⟩
theorem iX6_walksNow_48 : decode cX6_walksNow 48 = .ok (.aload_n 0, 1) ∧ 48 + 1 = 49 := ⟨by decide +kernel, rfl⟩
theorem iX6_walksNow_49 : decode cX6_walksNow 49 = .ok (.getfield 119, 3) ∧ 49 + 3 = 52 := ⟨by decide +kernel, rfl⟩
theorem iX6_walksNow_52 : decode cX6_walksNow 52 = .ok (.invokevirtual 269, 3) ∧ 52 + 3 = 55 := ⟨by decide +kernel, rfl⟩
theorem iX6_walksNow_55 : decode cX6_walksNow 55 = .ok (.istore 6, 2) ∧ 55 + 2 = 57 := ⟨by decide +kernel, rfl⟩
theorem iX6_walksNow_57 : decode cX6_walksNow 57 = .ok (.aload_n 0, 1) ∧ 57 + 1 = 58 := ⟨by decide +kernel, rfl⟩
theorem iX6_walksNow_58 : decode cX6_walksNow 58 = .ok (.iload 6, 2) ∧ 58 + 2 = 60 := ⟨by decide +kernel, rfl⟩
theorem iX6_walksNow_60 : decode cX6_walksNow 60 = .ok (.invokevirtual 154, 3) ∧ 60 + 3 = 63 := ⟨by decide +kernel, rfl⟩
theorem iX6_walksNow_63 : decode cX6_walksNow 63 = .ok (.istore 7, 2) ∧ 63 + 2 = 65 := ⟨by decide +kernel, rfl⟩
theorem iX6_walksNow_65 : decode cX6_walksNow 65 = .ok (.iload 7, 2) ∧ 65 + 2 = 67 := ⟨by decide +kernel, rfl⟩
theorem iX6_walksNow_67 : decode cX6_walksNow 67 = .ok (.ifCond .eq 27, 3) ∧ 67 + 3 = 70 := ⟨by decide +kernel, rfl⟩
theorem iX6_walksNow_70 : decode cX6_walksNow 70 = .ok (.aload_n 0, 1) ∧ 70 + 1 = 71 := ⟨by decide +kernel, rfl⟩
theorem iX6_walksNow_71 : decode cX6_walksNow 71 = .ok (.getfield 13, 3) ∧ 71 + 3 = 74 := ⟨by decide +kernel, rfl⟩
theorem iX6_walksNow_74 : decode cX6_walksNow 74 = .ok (.iload 6, 2) ∧ 74 + 2 = 76 := ⟨by decide +kernel, rfl⟩
theorem iX6_walksNow_76 : decode cX6_walksNow 76 = .ok (.iload 7, 2) ∧ 76 + 2 = 78 := ⟨by decide +kernel, rfl⟩
theorem iX6_walksNow_78 : decode cX6_walksNow 78 = .ok (.aload_n 0, 1) ∧ 78 + 1 = 79 := ⟨by decide +kernel, rfl⟩
theorem iX6_walksNow_79 : decode cX6_walksNow 79 = .ok (.iload 7, 2) ∧ 79 + 2 = 81 := ⟨by decide +kernel, rfl⟩
theorem iX6_walksNow_81 : decode cX6_walksNow 81 = .ok (.invokestatic 185, 3) ∧ 81 + 3 = 84 := ⟨by decide +kernel, rfl⟩
theorem iX6_walksNow_84 : decode cX6_walksNow 84 = .ok (.invokevirtual 269, 3) ∧ 84 + 3 = 87 := ⟨by decide +kernel, rfl⟩
theorem iX6_walksNow_87 : decode cX6_walksNow 87 = .ok (.invokestatic 272, 3) ∧ 87 + 3 = 90 := ⟨by decide +kernel, rfl⟩
theorem iX6_walksNow_90 : decode cX6_walksNow 90 = .ok (.iastore, 1) ∧ 90 + 1 = 91 := ⟨by decide +kernel, rfl⟩
theorem iX6_walksNow_91 : decode cX6_walksNow 91 = .ok (.iinc 4 1, 3) ∧ 91 + 3 = 94 := ⟨by decide +kernel, rfl⟩
theorem iX6_walksNow_94 : decode cX6_walksNow 94 = .ok (.iinc 5 1, 3) ∧ 94 + 3 = 97 := ⟨by decide +kernel, rfl⟩
theorem iX6_walksNow_97 : decode cX6_walksNow 97 = .ok (.goto (-56), 3) ∧ 97 + 3 = 100 := ⟨by decide +kernel, rfl⟩
theorem iX6_walksNow_100 : decode cX6_walksNow 100 = .ok (.iload_n 3, 1) ∧ 100 + 1 = 101 := ⟨by decide +kernel, rfl⟩
theorem iX6_walksNow_101 : decode cX6_walksNow 101 = .ok (.ifCond .ne 8, 3) ∧ 101 + 3 = 104 := ⟨by decide +kernel, rfl⟩
theorem iX6_walksNow_104 : decode cX6_walksNow 104 = .ok (.iload 4, 2) ∧ 104 + 2 = 106 := ⟨by decide +kernel, rfl⟩
theorem iX6_walksNow_106 : decode cX6_walksNow 106 = .ok (.goto 20, 3) ∧ 106 + 3 = 109 := ⟨by decide +kernel, rfl⟩
theorem iX6_walksNow_109 : decode cX6_walksNow 109 = .ok (.iload_n 3, 1) ∧ 109 + 1 = 110 := ⟨by decide +kernel, rfl⟩
theorem iX6_walksNow_110 : decode cX6_walksNow 110 = .ok (.iconst 1, 1) ∧ 110 + 1 = 111 := ⟨by decide +kernel, rfl⟩
theorem iX6_walksNow_111 : decode cX6_walksNow 111 = .ok (.if_icmp .ne 10, 3) ∧ 111 + 3 = 114 := ⟨by decide +kernel, rfl⟩
theorem iX6_walksNow_114 : decode cX6_walksNow 114 = .ok (.aload_n 0, 1) ∧ 114 + 1 = 115 := ⟨by decide +kernel, rfl⟩
theorem iX6_walksNow_115 : decode cX6_walksNow 115 = .ok (.invokevirtual 275, 3) ∧ 115 + 3 = 118 := ⟨by decide +kernel, rfl⟩
theorem iX6_walksNow_118 : decode cX6_walksNow 118 = .ok (.goto 8, 3) ∧ 118 + 3 = 121 := ⟨by decide +kernel, rfl⟩
theorem iX6_walksNow_121 : decode cX6_walksNow 121 = .ok (.aload_n 0, 1) ∧ 121 + 1 = 122 := ⟨by decide +kernel, rfl⟩
theorem iX6_walksNow_122 : decode cX6_walksNow 122 = .ok (.getfield 259, 3) ∧ 122 + 3 = 125 := ⟨by decide +kernel, rfl⟩
theorem iX6_walksNow_125 : decode cX6_walksNow 125 = .ok (.l2i, 1) ∧ 125 + 1 = 126 := ⟨by decide +kernel, rfl⟩
theorem iX6_walksNow_126 : decode cX6_walksNow 126 = .ok (.istore 5, 2) ∧ 126 + 2 = 128 := ⟨by decide +kernel, rfl⟩
theorem iX6_walksNow_128 : decode cX6_walksNow 128 = .ok (.iconst 0, 1) ∧ 128 + 1 = 129 := ⟨by decide +kernel, rfl⟩
theorem iX6_walksNow_129 : decode cX6_walksNow 129 = .ok (.istore 6, 2) ∧ 129 + 2 = 131 := ⟨by decide +kernel, rfl⟩
theorem iX6_walksNow_131 : decode cX6_walksNow 131 = .ok (.iload 6, 2) ∧ 131 + 2 = 133 := ⟨by decide +kernel, rfl⟩
theorem iX6_walksNow_133 : decode cX6_walksNow 133 = .ok (.iconst 4, 1) ∧ 133 + 1 = 134 := ⟨by decide +kernel, rfl⟩
theorem iX6_walksNow_134 : decode cX6_walksNow 134 = .ok (.if_icmp .ge 23, 3) ∧ 134 + 3 = 137 := ⟨by decide +kernel, rfl⟩
theorem iX6_walksNow_137 : decode cX6_walksNow 137 = .ok (.aload_n 0, 1) ∧ 137 + 1 = 138 := ⟨by decide +kernel, rfl⟩
theorem iX6_walksNow_138 : decode cX6_walksNow 138 = .ok (.getfield 13, 3) ∧ 138 + 3 = 141 := ⟨by decide +kernel, rfl⟩
theorem iX6_walksNow_141 : decode cX6_walksNow 141 = .ok (.iload 6, 2) ∧ 141 + 2 = 143 := ⟨by decide +kernel, rfl⟩
theorem iX6_walksNow_143 : decode cX6_walksNow 143 = .ok (.aload_n 0, 1) ∧ 143 + 1 = 144 := ⟨by decide +kernel, rfl⟩
theorem iX6_walksNow_144 : decode cX6_walksNow 144 = .ok (.getfield 47, 3) ∧ 144 + 3 = 147 := ⟨by decide +kernel, rfl⟩
theorem iX6_walksNow_147 : decode cX6_walksNow 147 = .ok (.iload 6, 2) ∧ 147 + 2 = 149 := ⟨by decide +kernel, rfl⟩
theorem iX6_walksNow_149 : decode cX6_walksNow 149 = .ok (.iaload, 1) ∧ 149 + 1 = 150 := ⟨by decide +kernel, rfl⟩
theorem iX6_walksNow_150 : decode cX6_walksNow 150 = .ok (.iastore, 1) ∧ 150 + 1 = 151 := ⟨by decide +kernel, rfl⟩
theorem iX6_walksNow_151 : decode cX6_walksNow 151 = .ok (.iinc 6 1, 3) ∧ 151 + 3 = 154 := ⟨by decide +kernel, rfl⟩
theorem iX6_walksNow_154 : decode cX6_walksNow 154 = .ok (.goto (-23), 3) ∧ 154 + 3 = 157 := ⟨by decide +kernel, rfl⟩
theorem iX6_walksNow_157 : decode cX6_walksNow 157 = .ok (.iload 5, 2) ∧ 157 + 2 = 159 := ⟨by decide +kernel, rfl⟩
theorem iX6_walksNow_159 : decode cX6_walksNow 159 = .ok (.ireturn, 1) ∧ 159 + 1 = 160 := ⟨by decide +kernel, rfl⟩
theorem iX6_walks_0 : decode cX6_walks 0 = .ok (.iload_n 1, 1) ∧ 0 + 1 = 1 := ⟨by decide +kernel, rfl⟩
theorem iX6_walks_1 : decode cX6_walks 1 = .ok (.iconst 1, 1) ∧ 1 + 1 = 2 := ⟨by decide +kernel, rfl⟩
theorem iX6_walks_2 : decode cX6_walks 2 = .ok (.bipush 60, 2) ∧ 2 + 2 = 4 := ⟨by decide +kernel, rfl⟩
theorem iX6_walks_4 : decode cX6_walks 4 = .ok (.invokestatic 68, 3) ∧ 4 + 3 = 7 := ⟨by decide +kernel, rfl⟩
theorem iX6_walks_7 : decode cX6_walks 7 = .ok (.ifCond .eq 16, 3) ∧ 7 + 3 = 10 := ⟨by decide +kernel, rfl⟩
theorem iX6_walks_10 : decode cX6_walks 10 = .ok (.iload_n 2, 1) ∧ 10 + 1 = 11 := ⟨by decide +kernel, rfl⟩
theorem iX6_walks_11 : decode cX6_walks 11 = .ok (.ifCond .lt 12, 3) ∧ 11 + 3 = 14 := ⟨by decide +kernel, rfl⟩
theorem iX6_walks_14 : decode cX6_walks 14 = .ok (.iload_n 3, 1) ∧ 14 + 1 = 15 := ⟨by decide +kernel, rfl⟩
theorem iX6_walks_15 : decode cX6_walks 15 = .ok (.iconst 0, 1) ∧ 15 + 1 = 16 := ⟨by decide +kernel, rfl⟩
theorem iX6_walks_16 : decode cX6_walks 16 = .ok (.iconst 2, 1) ∧ 16 + 1 = 17 := ⟨by decide +kernel, rfl⟩
theorem iX6_walks_17 : decode cX6_walks 17 = .ok (.invokestatic 68, 3) ∧ 17 + 3 = 20 := ⟨by decide +kernel, rfl⟩
theorem iX6_walks_20 : decode cX6_walks 20 = .ok (.ifCond .ne 6, 3) ∧ 20 + 3 = 23 := ⟨by decide +kernel, rfl⟩
theorem iX6_walks_23 : decode cX6_walks 23 = .ok (.bipush (-102), 2) ∧ 23 + 2 = 25 := ⟨by decide +kernel, rfl⟩
theorem iX6_walks_25 : decode cX6_walks 25 = .ok (.ireturn, 1) ∧ 25 + 1 = 26 := ⟨by decide +kernel, rfl⟩
theorem iX6_walks_26 : decode cX6_walks 26 = .ok (.aload_n 0, 1) ∧ 26 + 1 = 27 := ⟨by decide +kernel, rfl⟩
theorem iX6_walks_27 : decode cX6_walks 27 = .ok (.getfield 119, 3) ∧ 27 + 3 = 30 := ⟨by decide +kernel, rfl⟩
theorem iX6_walks_30 : decode cX6_walks 30 = .ok (.ifCond .ne 8, 3) ∧ 30 + 3 = 33 := ⟨by decide +kernel, rfl⟩
theorem iX6_walks_33 : decode cX6_walks 33 = .ok (.bipush (-103), 2) ∧ 33 + 2 = 35 := ⟨by decide +kernel, rfl⟩
theorem iX6_walks_35 : decode cX6_walks 35 = .ok (.goto 10, 3) ∧ 35 + 3 = 38 := ⟨by decide +kernel, rfl⟩
theorem iX6_walks_38 : decode cX6_walks 38 = .ok (.aload_n 0, 1) ∧ 38 + 1 = 39 := ⟨by decide +kernel, rfl⟩
theorem iX6_walks_39 : decode cX6_walks 39 = .ok (.iload_n 1, 1) ∧ 39 + 1 = 40 := ⟨by decide +kernel, rfl⟩
theorem iX6_walks_40 : decode cX6_walks 40 = .ok (.iload_n 2, 1) ∧ 40 + 1 = 41 := ⟨by decide +kernel, rfl⟩
theorem iX6_walks_41 : decode cX6_walks 41 = .ok (.iload_n 3, 1) ∧ 41 + 1 = 42 := ⟨by decide +kernel, rfl⟩
theorem iX6_walks_42 : decode cX6_walks 42 = .ok (.invokevirtual 278, 3) ∧ 42 + 3 = 45 := ⟨by decide +kernel, rfl⟩
theorem iX6_walks_45 : decode cX6_walks 45 = .ok (.ireturn, 1) ∧ 45 + 1 = 46 := ⟨by decide +kernel, rfl⟩
theorem iX6_image_0 : decode cX6_image 0 = .ok (.aload_n 0, 1) ∧ 0 + 1 = 1 := ⟨by decide +kernel, rfl⟩
theorem iX6_image_1 : decode cX6_image 1 = .ok (.getfield 119, 3) ∧ 1 + 3 = 4 := ⟨by decide +kernel, rfl⟩
theorem iX6_image_4 : decode cX6_image 4 = .ok (.ifCond .ne 6, 3) ∧ 4 + 3 = 7 := ⟨by decide +kernel, rfl⟩
theorem iX6_image_7 : decode cX6_image 7 = .ok (.bipush (-103), 2) ∧ 7 + 2 = 9 := ⟨by decide +kernel, rfl⟩
theorem iX6_image_9 : decode cX6_image 9 = .ok (.ireturn, 1) ∧ 9 + 1 = 10 := ⟨by decide +kernel, rfl⟩
theorem iX6_image_10 : decode cX6_image 10 = .ok (.aload_n 0, 1) ∧ 10 + 1 = 11 := ⟨by decide +kernel, rfl⟩
theorem iX6_image_11 : decode cX6_image 11 = .ok (.iconst 1, 1) ∧ 11 + 1 = 12 := ⟨by decide +kernel, rfl⟩
theorem iX6_image_12 : decode cX6_image 12 = .ok (.putfield 281, 3) ∧ 12 + 3 = 15 := ⟨by decide +kernel, rfl⟩
theorem iX6_image_15 : decode cX6_image 15 = .ok (.aload_n 0, 1) ∧ 15 + 1 = 16 := ⟨by decide +kernel, rfl⟩
theorem iX6_image_16 : decode cX6_image 16 = .ok (.aload_n 0, 1) ∧ 16 + 1 = 17 := ⟨by decide +kernel, rfl⟩
theorem iX6_image_17 : decode cX6_image 17 = .ok (.getfield 125, 3) ∧ 17 + 3 = 20 := ⟨by decide +kernel, rfl⟩
theorem iX6_image_20 : decode cX6_image 20 = .ok (.putfield 284, 3) ∧ 20 + 3 = 23 := ⟨by decide +kernel, rfl⟩
theorem iX6_image_23 : decode cX6_image 23 = .ok (.aload_n 0, 1) ∧ 23 + 1 = 24 := ⟨by decide +kernel, rfl⟩
theorem iX6_image_24 : decode cX6_image 24 = .ok (.aload_n 0, 1) ∧ 24 + 1 = 25 := ⟨by decide +kernel, rfl⟩
theorem iX6_image_25 : decode cX6_image 25 = .ok (.getfield 116, 3) ∧ 25 + 3 = 28 := ⟨by decide +kernel, rfl⟩
theorem iX6_image_28 : decode cX6_image 28 = .ok (.putfield 287, 3) ∧ 28 + 3 = 31 := ⟨by decide +kernel, rfl⟩
theorem iX6_image_31 : decode cX6_image 31 = .ok (.aload_n 0, 1) ∧ 31 + 1 = 32 := ⟨by decide +kernel, rfl⟩
theorem iX6_image_32 : decode cX6_image 32 = .ok (.aload_n 0, 1) ∧ 32 + 1 = 33 := ⟨by decide +kernel, rfl⟩
theorem iX6_image_33 : decode cX6_image 33 = .ok (.getfield 122, 3) ∧ 33 + 3 = 36 := ⟨by decide +kernel, rfl⟩
theorem iX6_image_36 : decode cX6_image 36 = .ok (.putfield 290, 3) ∧ 36 + 3 = 39 := ⟨by decide +kernel, rfl⟩
theorem iX6_image_39 : decode cX6_image 39 = .ok (.aload_n 0, 1) ∧ 39 + 1 = 40 := ⟨by decide +kernel, rfl⟩
theorem iX6_image_40 : decode cX6_image 40 = .ok (.aload_n 0, 1) ∧ 40 + 1 = 41 := ⟨by decide +kernel, rfl⟩
theorem iX6_image_41 : decode cX6_image 41 = .ok (.getfield 128, 3) ∧ 41 + 3 = 44 := ⟨by decide +kernel, rfl⟩
theorem iX6_image_44 : decode cX6_image 44 = .ok (.putfield 293, 3) ∧ 44 + 3 = 47 := ⟨by decide +kernel, rfl⟩
theorem iX6_image_47 : decode cX6_image 47 = .ok (.iconst 0, 1) ∧ 47 + 1 = 48 := ⟨by decide +kernel, rfl⟩
theorem iX6_image_48 : decode cX6_image 48 = .ok (.istore_n 1, 1) ∧ 48 + 1 = 49 := ⟨by decide +kernel, rfl⟩
theorem iX6_image_49 : decode cX6_image 49 = .ok (.iload_n 1, 1) ∧ 49 + 1 = 50 := ⟨by decide +kernel, rfl⟩
theorem iX6_image_50 : decode cX6_image 50 = .ok (.iconst 4, 1) ∧ 50 + 1 = 51 := ⟨by decide +kernel, rfl⟩
theorem iX6_image_51 : decode cX6_image 51 = .ok (.if_icmp .ge 33, 3) ∧ 51 + 3 = 54 := ⟨by decide +kernel, rfl⟩
theorem iX6_image_54 : decode cX6_image 54 = .ok (.aload_n 0, 1) ∧ 54 + 1 = 55 := ⟨by decide +kernel, rfl⟩
theorem iX6_image_55 : decode cX6_image 55 = .ok (.getfield 50, 3) ∧ 55 + 3 = 58 := ⟨by decide +kernel, rfl⟩
theorem iX6_image_58 : decode cX6_image 58 = .ok (.iload_n 1, 1) ∧ 58 + 1 = 59 := ⟨by decide +kernel, rfl⟩
theorem iX6_image_59 : decode cX6_image 59 = .ok (.aload_n 0, 1) ∧ 59 + 1 = 60 := ⟨by decide +kernel, rfl⟩
theorem iX6_image_60 : decode cX6_image 60 = .ok (.getfield 7, 3) ∧ 60 + 3 = 63 := ⟨by decide +kernel, rfl⟩
theorem iX6_image_63 : decode cX6_image 63 = .ok (.iload_n 1, 1) ∧ 63 + 1 = 64 := ⟨by decide +kernel, rfl⟩
theorem iX6_image_64 : decode cX6_image 64 = .ok (.iaload, 1) ∧ 64 + 1 = 65 := ⟨by decide +kernel, rfl⟩
theorem iX6_image_65 : decode cX6_image 65 = .ok (.iastore, 1) ∧ 65 + 1 = 66 := ⟨by decide +kernel, rfl⟩
theorem iX6_image_66 : decode cX6_image 66 = .ok (.aload_n 0, 1) ∧ 66 + 1 = 67 := ⟨by decide +kernel, rfl⟩
theorem iX6_image_67 : decode cX6_image 67 = .ok (.getfield 53, 3) ∧ 67 + 3 = 70 := ⟨by decide +kernel, rfl⟩
theorem iX6_image_70 : decode cX6_image 70 = .ok (.iload_n 1, 1) ∧ 70 + 1 = 71 := ⟨by decide +kernel, rfl⟩
theorem iX6_image_71 : decode cX6_image 71 = .ok (.aload_n 0, 1) ∧ 71 + 1 = 72 := ⟨by decide +kernel, rfl⟩
theorem iX6_image_72 : decode cX6_image 72 = .ok (.getfield 13, 3) ∧ 72 + 3 = 75 := ⟨by decide +kernel, rfl⟩
theorem iX6_image_75 : decode cX6_image 75 = .ok (.iload_n 1, 1) ∧ 75 + 1 = 76 := ⟨by decide +kernel, rfl⟩
theorem iX6_image_76 : decode cX6_image 76 = .ok (.iaload, 1) ∧ 76 + 1 = 77 := ⟨by decide +kernel, rfl⟩
theorem iX6_image_77 : decode cX6_image 77 = .ok (.iastore, 1) ∧ 77 + 1 = 78 := ⟨by decide +kernel, rfl⟩
theorem iX6_image_78 : decode cX6_image 78 = .ok (.iinc 1 1, 3) ∧ 78 + 3 = 81 := ⟨by decide +kernel, rfl⟩
theorem iX6_image_81 : decode cX6_image 81 = .ok (.goto (-32), 3) ∧ 81 + 3 = 84 := ⟨by decide +kernel, rfl⟩
theorem iX6_image_84 : decode cX6_image 84 = .ok (.iconst 0, 1) ∧ 84 + 1 = 85 := ⟨by decide +kernel, rfl⟩
theorem iX6_image_85 : decode cX6_image 85 = .ok (.istore_n 1, 1) ∧ 85 + 1 = 86 := ⟨by decide +kernel, rfl⟩
theorem iX6_image_86 : decode cX6_image 86 = .ok (.iload_n 1, 1) ∧ 86 + 1 = 87 := ⟨by decide +kernel, rfl⟩
theorem iX6_image_87 : decode cX6_image 87 = .ok (.bipush 6, 2) ∧ 87 + 2 = 89 := ⟨by decide +kernel, rfl⟩
theorem iX6_image_89 : decode cX6_image 89 = .ok (.if_icmp .ge 57, 3) ∧ 89 + 3 = 92 := ⟨by decide +kernel, rfl⟩
theorem iX6_image_92 : decode cX6_image 92 = .ok (.aload_n 0, 1) ∧ 92 + 1 = 93 := ⟨by decide +kernel, rfl⟩
theorem iX6_image_93 : decode cX6_image 93 = .ok (.getfield 56, 3) ∧ 93 + 3 = 96 := ⟨by decide +kernel, rfl⟩
theorem iX6_image_96 : decode cX6_image 96 = .ok (.iload_n 1, 1) ∧ 96 + 1 = 97 := ⟨by decide +kernel, rfl⟩
theorem iX6_image_97 : decode cX6_image 97 = .ok (.aload_n 0, 1) ∧ 97 + 1 = 98 := ⟨by decide +kernel, rfl⟩
theorem iX6_image_98 : decode cX6_image 98 = .ok (.getfield 16, 3) ∧ 98 + 3 = 101 := ⟨by decide +kernel, rfl⟩
theorem iX6_image_101 : decode cX6_image 101 = .ok (.iload_n 1, 1) ∧ 101 + 1 = 102 := ⟨by decide +kernel, rfl⟩
theorem iX6_image_102 : decode cX6_image 102 = .ok (.iaload, 1) ∧ 102 + 1 = 103 := ⟨by decide +kernel, rfl⟩
theorem iX6_image_103 : decode cX6_image 103 = .ok (.iastore, 1) ∧ 103 + 1 = 104 := ⟨by decide +kernel, rfl⟩
theorem iX6_image_104 : decode cX6_image 104 = .ok (.aload_n 0, 1) ∧ 104 + 1 = 105 := ⟨by decide +kernel, rfl⟩
theorem iX6_image_105 : decode cX6_image 105 = .ok (.getfield 59, 3) ∧ 105 + 3 = 108 := ⟨by decide +kernel, rfl⟩
theorem iX6_image_108 : decode cX6_image 108 = .ok (.iload_n 1, 1) ∧ 108 + 1 = 109 := ⟨by decide +kernel, rfl⟩
theorem iX6_image_109 : decode cX6_image 109 = .ok (.aload_n 0, 1) ∧ 109 + 1 = 110 := ⟨by decide +kernel, rfl⟩
theorem iX6_image_110 : decode cX6_image 110 = .ok (.getfield 19, 3) ∧ 110 + 3 = 113 := ⟨by decide +kernel, rfl⟩
theorem iX6_image_113 : decode cX6_image 113 = .ok (.iload_n 1, 1) ∧ 113 + 1 = 114 := ⟨by decide +kernel, rfl⟩
theorem iX6_image_114 : decode cX6_image 114 = .ok (.iaload, 1) ∧ 114 + 1 = 115 := ⟨by decide +kernel, rfl⟩
theorem iX6_image_115 : decode cX6_image 115 = .ok (.iastore, 1) ∧ 115 + 1 = 116 := ⟨by decide +kernel, rfl⟩
theorem iX6_image_116 : decode cX6_image 116 = .ok (.aload_n 0, 1) ∧ 116 + 1 = 117 := ⟨by decide +kernel, rfl⟩
theorem iX6_image_117 : decode cX6_image 117 = .ok (.getfield 62, 3) ∧ 117 + 3 = 120 := ⟨by decide +kernel, rfl⟩
theorem iX6_image_120 : decode cX6_image 120 = .ok (.iload_n 1, 1) ∧ 120 + 1 = 121 := ⟨by decide +kernel, rfl⟩
theorem iX6_image_121 : decode cX6_image 121 = .ok (.aload_n 0, 1) ∧ 121 + 1 = 122 := ⟨by decide +kernel, rfl⟩
theorem iX6_image_122 : decode cX6_image 122 = .ok (.getfield 22, 3) ∧ 122 + 3 = 125 := ⟨by decide +kernel, rfl⟩
theorem iX6_image_125 : decode cX6_image 125 = .ok (.iload_n 1, 1) ∧ 125 + 1 = 126 := ⟨by decide +kernel, rfl⟩
theorem iX6_image_126 : decode cX6_image 126 = .ok (.iaload, 1) ∧ 126 + 1 = 127 := ⟨by decide +kernel, rfl⟩
theorem iX6_image_127 : decode cX6_image 127 = .ok (.iastore, 1) ∧ 127 + 1 = 128 := ⟨by decide +kernel, rfl⟩
theorem iX6_image_128 : decode cX6_image 128 = .ok (.aload_n 0, 1) ∧ 128 + 1 = 129 := ⟨by decide +kernel, rfl⟩
theorem iX6_image_129 : decode cX6_image 129 = .ok (.getfield 65, 3) ∧ 129 + 3 = 132 := ⟨by decide +kernel, rfl⟩
theorem iX6_image_132 : decode cX6_image 132 = .ok (.iload_n 1, 1) ∧ 132 + 1 = 133 := ⟨by decide +kernel, rfl⟩
theorem iX6_image_133 : decode cX6_image 133 = .ok (.aload_n 0, 1) ∧ 133 + 1 = 134 := ⟨by decide +kernel, rfl⟩
theorem iX6_image_134 : decode cX6_image 134 = .ok (.getfield 25, 3) ∧ 134 + 3 = 137 := ⟨by decide +kernel, rfl⟩
theorem iX6_image_137 : decode cX6_image 137 = .ok (.iload_n 1, 1) ∧ 137 + 1 = 138 := ⟨by decide +kernel, rfl⟩
theorem iX6_image_138 : decode cX6_image 138 = .ok (.iaload, 1) ∧ 138 + 1 = 139 := ⟨by decide +kernel, rfl⟩
theorem iX6_image_139 : decode cX6_image 139 = .ok (.iastore, 1) ∧ 139 + 1 = 140 := ⟨by decide +kernel, rfl⟩
theorem iX6_image_140 : decode cX6_image 140 = .ok (.iinc 1 1, 3) ∧ 140 + 3 = 143 := ⟨by decide +kernel, rfl⟩
theorem iX6_image_143 : decode cX6_image 143 = .ok (.goto (-57), 3) ∧ 143 + 3 = 146 := ⟨by decide +kernel, rfl⟩
theorem iX6_image_146 : decode cX6_image 146 = .ok (.aload_n 0, 1) ∧ 146 + 1 = 147 := ⟨by decide +kernel, rfl⟩
theorem iX6_image_147 : decode cX6_image 147 = .ok (.getfield 122, 3) ∧ 147 + 3 = 150 := ⟨by decide +kernel, rfl⟩
theorem iX6_image_150 : decode cX6_image 150 = .ok (.ireturn, 1) ∧ 150 + 1 = 151 := ⟨by decide +kernel, rfl⟩
theorem iX6_restore_0 : decode cX6_restore 0 = .ok (.aload_n 0, 1) ∧ 0 + 1 = 1 := ⟨by decide +kernel, rfl⟩
theorem iX6_restore_1 : decode cX6_restore 1 = .ok (.getfield 281, 3) ∧ 1 + 3 = 4 := ⟨by decide +kernel, rfl⟩
theorem iX6_restore_4 : decode cX6_restore 4 = .ok (.ifCond .eq 14, 3) ∧ 4 + 3 = 7 := ⟨by decide +kernel, rfl⟩
theorem iX6_restore_7 : decode cX6_restore 7 = .ok (.aload_n 0, 1) ∧ 7 + 1 = 8 := ⟨by decide +kernel, rfl⟩
theorem iX6_restore_8 : decode cX6_restore 8 = .ok (.getfield 284, 3) ∧ 8 + 3 = 11 := ⟨by decide +kernel, rfl⟩
theorem iX6_restore_11 : decode cX6_restore 11 = .ok (.aload_n 0, 1) ∧ 11 + 1 = 12 := ⟨by decide +kernel, rfl⟩
theorem iX6_restore_12 : decode cX6_restore 12 = .ok (.getfield 125, 3) ∧ 12 + 3 = 15 := ⟨by decide +kernel, rfl⟩
theorem iX6_restore_15 : decode cX6_restore 15 = .ok (.if_icmp .eq 6, 3) ∧ 15 + 3 = 18 := ⟨by decide +kernel, rfl⟩
theorem iX6_restore_18 : decode cX6_restore 18 = .ok (.bipush (-103), 2) ∧ 18 + 2 = 20 := ⟨by decide +kernel, rfl⟩
theorem iX6_restore_20 : decode cX6_restore 20 = .ok (.ireturn, 1) ∧ 20 + 1 = 21 := ⟨by decide +kernel, rfl⟩
theorem iX6_restore_21 : decode cX6_restore 21 = .ok (.aload_n 0, 1) ∧ 21 + 1 = 22 := ⟨by decide +kernel, rfl⟩
theorem iX6_restore_22 : decode cX6_restore 22 = .ok (.aload_n 0, 1) ∧ 22 + 1 = 23 := ⟨by decide +kernel, rfl⟩
theorem iX6_restore_23 : decode cX6_restore 23 = .ok (.getfield 287, 3) ∧ 23 + 3 = 26 := ⟨by decide +kernel, rfl⟩
theorem iX6_restore_26 : decode cX6_restore 26 = .ok (.putfield 116, 3) ∧ 26 + 3 = 29 := ⟨by decide +kernel, rfl⟩
theorem iX6_restore_29 : decode cX6_restore 29 = .ok (.aload_n 0, 1) ∧ 29 + 1 = 30 := ⟨by decide +kernel, rfl⟩
theorem iX6_restore_30 : decode cX6_restore 30 = .ok (.aload_n 0, 1) ∧ 30 + 1 = 31 := ⟨by decide +kernel, rfl⟩
theorem iX6_restore_31 : decode cX6_restore 31 = .ok (.getfield 290, 3) ∧ 31 + 3 = 34 := ⟨by decide +kernel, rfl⟩
theorem iX6_restore_34 : decode cX6_restore 34 = .ok (.putfield 122, 3) ∧ 34 + 3 = 37 := ⟨by decide +kernel, rfl⟩
theorem iX6_restore_37 : decode cX6_restore 37 = .ok (.aload_n 0, 1) ∧ 37 + 1 = 38 := ⟨by decide +kernel, rfl⟩
theorem iX6_restore_38 : decode cX6_restore 38 = .ok (.aload_n 0, 1) ∧ 38 + 1 = 39 := ⟨by decide +kernel, rfl⟩
theorem iX6_restore_39 : decode cX6_restore 39 = .ok (.getfield 293, 3) ∧ 39 + 3 = 42 := ⟨by decide +kernel, rfl⟩
theorem iX6_restore_42 : decode cX6_restore 42 = .ok (.putfield 128, 3) ∧ 42 + 3 = 45 := ⟨by decide +kernel, rfl⟩
theorem iX6_restore_45 : decode cX6_restore 45 = .ok (.iconst 0, 1) ∧ 45 + 1 = 46 := ⟨by decide +kernel, rfl⟩
theorem iX6_restore_46 : decode cX6_restore 46 = .ok (.istore_n 1, 1) ∧ 46 + 1 = 47 := ⟨by decide +kernel, rfl⟩
theorem iX6_restore_47 : decode cX6_restore 47 = .ok (.iload_n 1, 1) ∧ 47 + 1 = 48 := ⟨by decide +kernel, rfl⟩
theorem iX6_restore_48 : decode cX6_restore 48 = .ok (.iconst 4, 1) ∧ 48 + 1 = 49 := ⟨by decide +kernel, rfl⟩
theorem iX6_restore_49 : decode cX6_restore 49 = .ok (.if_icmp .ge 33, 3) ∧ 49 + 3 = 52 := ⟨by decide +kernel, rfl⟩
theorem iX6_restore_52 : decode cX6_restore 52 = .ok (.aload_n 0, 1) ∧ 52 + 1 = 53 := ⟨by decide +kernel, rfl⟩
theorem iX6_restore_53 : decode cX6_restore 53 = .ok (.getfield 7, 3) ∧ 53 + 3 = 56 := ⟨by decide +kernel, rfl⟩
theorem iX6_restore_56 : decode cX6_restore 56 = .ok (.iload_n 1, 1) ∧ 56 + 1 = 57 := ⟨by decide +kernel, rfl⟩
theorem iX6_restore_57 : decode cX6_restore 57 = .ok (.aload_n 0, 1) ∧ 57 + 1 = 58 := ⟨by decide +kernel, rfl⟩
theorem iX6_restore_58 : decode cX6_restore 58 = .ok (.getfield 50, 3) ∧ 58 + 3 = 61 := ⟨by decide +kernel, rfl⟩
theorem iX6_restore_61 : decode cX6_restore 61 = .ok (.iload_n 1, 1) ∧ 61 + 1 = 62 := ⟨by decide +kernel, rfl⟩
theorem iX6_restore_62 : decode cX6_restore 62 = .ok (.iaload, 1) ∧ 62 + 1 = 63 := ⟨by decide +kernel, rfl⟩
theorem iX6_restore_63 : decode cX6_restore 63 = .ok (.iastore, 1) ∧ 63 + 1 = 64 := ⟨by decide +kernel, rfl⟩
theorem iX6_restore_64 : decode cX6_restore 64 = .ok (.aload_n 0, 1) ∧ 64 + 1 = 65 := ⟨by decide +kernel, rfl⟩
theorem iX6_restore_65 : decode cX6_restore 65 = .ok (.getfield 13, 3) ∧ 65 + 3 = 68 := ⟨by decide +kernel, rfl⟩
theorem iX6_restore_68 : decode cX6_restore 68 = .ok (.iload_n 1, 1) ∧ 68 + 1 = 69 := ⟨by decide +kernel, rfl⟩
theorem iX6_restore_69 : decode cX6_restore 69 = .ok (.aload_n 0, 1) ∧ 69 + 1 = 70 := ⟨by decide +kernel, rfl⟩
theorem iX6_restore_70 : decode cX6_restore 70 = .ok (.getfield 53, 3) ∧ 70 + 3 = 73 := ⟨by decide +kernel, rfl⟩
theorem iX6_restore_73 : decode cX6_restore 73 = .ok (.iload_n 1, 1) ∧ 73 + 1 = 74 := ⟨by decide +kernel, rfl⟩
theorem iX6_restore_74 : decode cX6_restore 74 = .ok (.iaload, 1) ∧ 74 + 1 = 75 := ⟨by decide +kernel, rfl⟩
theorem iX6_restore_75 : decode cX6_restore 75 = .ok (.iastore, 1) ∧ 75 + 1 = 76 := ⟨by decide +kernel, rfl⟩
theorem iX6_restore_76 : decode cX6_restore 76 = .ok (.iinc 1 1, 3) ∧ 76 + 3 = 79 := ⟨by decide +kernel, rfl⟩
theorem iX6_restore_79 : decode cX6_restore 79 = .ok (.goto (-32), 3) ∧ 79 + 3 = 82 := ⟨by decide +kernel, rfl⟩
theorem iX6_restore_82 : decode cX6_restore 82 = .ok (.iconst 0, 1) ∧ 82 + 1 = 83 := ⟨by decide +kernel, rfl⟩
theorem iX6_restore_83 : decode cX6_restore 83 = .ok (.istore_n 1, 1) ∧ 83 + 1 = 84 := ⟨by decide +kernel, rfl⟩
theorem iX6_restore_84 : decode cX6_restore 84 = .ok (.iload_n 1, 1) ∧ 84 + 1 = 85 := ⟨by decide +kernel, rfl⟩
theorem iX6_restore_85 : decode cX6_restore 85 = .ok (.bipush 6, 2) ∧ 85 + 2 = 87 := ⟨by decide +kernel, rfl⟩
theorem iX6_restore_87 : decode cX6_restore 87 = .ok (.if_icmp .ge 57, 3) ∧ 87 + 3 = 90 := ⟨by decide +kernel, rfl⟩
theorem iX6_restore_90 : decode cX6_restore 90 = .ok (.aload_n 0, 1) ∧ 90 + 1 = 91 := ⟨by decide +kernel, rfl⟩
theorem iX6_restore_91 : decode cX6_restore 91 = .ok (.getfield 16, 3) ∧ 91 + 3 = 94 := ⟨by decide +kernel, rfl⟩
theorem iX6_restore_94 : decode cX6_restore 94 = .ok (.iload_n 1, 1) ∧ 94 + 1 = 95 := ⟨by decide +kernel, rfl⟩
theorem iX6_restore_95 : decode cX6_restore 95 = .ok (.aload_n 0, 1) ∧ 95 + 1 = 96 := ⟨by decide +kernel, rfl⟩
theorem iX6_restore_96 : decode cX6_restore 96 = .ok (.getfield 56, 3) ∧ 96 + 3 = 99 := ⟨by decide +kernel, rfl⟩
theorem iX6_restore_99 : decode cX6_restore 99 = .ok (.iload_n 1, 1) ∧ 99 + 1 = 100 := ⟨by decide +kernel, rfl⟩
theorem iX6_restore_100 : decode cX6_restore 100 = .ok (.iaload, 1) ∧ 100 + 1 = 101 := ⟨by decide +kernel, rfl⟩
theorem iX6_restore_101 : decode cX6_restore 101 = .ok (.iastore, 1) ∧ 101 + 1 = 102 := ⟨by decide +kernel, rfl⟩
theorem iX6_restore_102 : decode cX6_restore 102 = .ok (.aload_n 0, 1) ∧ 102 + 1 = 103 := ⟨by decide +kernel, rfl⟩
theorem iX6_restore_103 : decode cX6_restore 103 = .ok (.getfield 19, 3) ∧ 103 + 3 = 106 := ⟨by decide +kernel, rfl⟩
theorem iX6_restore_106 : decode cX6_restore 106 = .ok (.iload_n 1, 1) ∧ 106 + 1 = 107 := ⟨by decide +kernel, rfl⟩
theorem iX6_restore_107 : decode cX6_restore 107 = .ok (.aload_n 0, 1) ∧ 107 + 1 = 108 := ⟨by decide +kernel, rfl⟩
theorem iX6_restore_108 : decode cX6_restore 108 = .ok (.getfield 59, 3) ∧ 108 + 3 = 111 := ⟨by decide +kernel, rfl⟩
theorem iX6_restore_111 : decode cX6_restore 111 = .ok (.iload_n 1, 1) ∧ 111 + 1 = 112 := ⟨by decide +kernel, rfl⟩
theorem iX6_restore_112 : decode cX6_restore 112 = .ok (.iaload, 1) ∧ 112 + 1 = 113 := ⟨by decide +kernel, rfl⟩
theorem iX6_restore_113 : decode cX6_restore 113 = .ok (.iastore, 1) ∧ 113 + 1 = 114 := ⟨by decide +kernel, rfl⟩
theorem iX6_restore_114 : decode cX6_restore 114 = .ok (.aload_n 0, 1) ∧ 114 + 1 = 115 := ⟨by decide +kernel, rfl⟩
theorem iX6_restore_115 : decode cX6_restore 115 = .ok (.getfield 22, 3) ∧ 115 + 3 = 118 := ⟨by decide +kernel, rfl⟩
theorem iX6_restore_118 : decode cX6_restore 118 = .ok (.iload_n 1, 1) ∧ 118 + 1 = 119 := ⟨by decide +kernel, rfl⟩
theorem iX6_restore_119 : decode cX6_restore 119 = .ok (.aload_n 0, 1) ∧ 119 + 1 = 120 := ⟨by decide +kernel, rfl⟩
theorem iX6_restore_120 : decode cX6_restore 120 = .ok (.getfield 62, 3) ∧ 120 + 3 = 123 := ⟨by decide +kernel, rfl⟩
theorem iX6_restore_123 : decode cX6_restore 123 = .ok (.iload_n 1, 1) ∧ 123 + 1 = 124 := ⟨by decide +kernel, rfl⟩
theorem iX6_restore_124 : decode cX6_restore 124 = .ok (.iaload, 1) ∧ 124 + 1 = 125 := ⟨by decide +kernel, rfl⟩
theorem iX6_restore_125 : decode cX6_restore 125 = .ok (.iastore, 1) ∧ 125 + 1 = 126 := ⟨by decide +kernel, rfl⟩
theorem iX6_restore_126 : decode cX6_restore 126 = .ok (.aload_n 0, 1) ∧ 126 + 1 = 127 := ⟨by decide +kernel, rfl⟩
theorem iX6_restore_127 : decode cX6_restore 127 = .ok (.getfield 25, 3) ∧ 127 + 3 = 130 := ⟨by decide +kernel, rfl⟩
theorem iX6_restore_130 : decode cX6_restore 130 = .ok (.iload_n 1, 1) ∧ 130 + 1 = 131 := ⟨by decide +kernel, rfl⟩
theorem iX6_restore_131 : decode cX6_restore 131 = .ok (.aload_n 0, 1) ∧ 131 + 1 = 132 := ⟨by decide +kernel, rfl⟩
theorem iX6_restore_132 : decode cX6_restore 132 = .ok (.getfield 65, 3) ∧ 132 + 3 = 135 := ⟨by decide +kernel, rfl⟩
theorem iX6_restore_135 : decode cX6_restore 135 = .ok (.iload_n 1, 1) ∧ 135 + 1 = 136 := ⟨by decide +kernel, rfl⟩
theorem iX6_restore_136 : decode cX6_restore 136 = .ok (.iaload, 1) ∧ 136 + 1 = 137 := ⟨by decide +kernel, rfl⟩
theorem iX6_restore_137 : decode cX6_restore 137 = .ok (.iastore, 1) ∧ 137 + 1 = 138 := ⟨by decide +kernel, rfl⟩
theorem iX6_restore_138 : decode cX6_restore 138 = .ok (.iinc 1 1, 3) ∧ 138 + 3 = 141 := ⟨by decide +kernel, rfl⟩
theorem iX6_restore_141 : decode cX6_restore 141 = .ok (.goto (-57), 3) ∧ 141 + 3 = 144 := ⟨by decide +kernel, rfl⟩
theorem iX6_restore_144 : decode cX6_restore 144 = .ok (.aload_n 0, 1) ∧ 144 + 1 = 145 := ⟨by decide +kernel, rfl⟩
theorem iX6_restore_145 : decode cX6_restore 145 = .ok (.getfield 122, 3) ∧ 145 + 3 = 148 := ⟨by decide +kernel, rfl⟩
theorem iX6_restore_148 : decode cX6_restore 148 = .ok (.ireturn, 1) ∧ 148 + 1 = 149 := ⟨by decide +kernel, rfl⟩
theorem iX6_howMany_0 : decode cX6_howMany 0 = .ok (.iload_n 1, 1) ∧ 0 + 1 = 1 := ⟨by decide +kernel, rfl⟩
theorem iX6_howMany_1 : decode cX6_howMany 1 = .ok (.tableswitch 99 0 8 #[51, 56, 61, 69, 74, 79, 84, 89, 94], 51) ∧ 1 + 51 = 52 := ⟨by decide +kernel, rfl⟩
theorem iX6_howMany_52 : decode cX6_howMany 52 = .ok (.aload_n 0, 1) ∧ 52 + 1 = 53 := ⟨by decide +kernel, rfl⟩
theorem iX6_howMany_53 : decode cX6_howMany 53 = .ok (.getfield 110, 3) ∧ 53 + 3 = 56 := ⟨by decide +kernel, rfl⟩
theorem iX6_howMany_56 : decode cX6_howMany 56 = .ok (.ireturn, 1) ∧ 56 + 1 = 57 := ⟨by decide +kernel, rfl⟩
theorem iX6_howMany_57 : decode cX6_howMany 57 = .ok (.aload_n 0, 1) ∧ 57 + 1 = 58 := ⟨by decide +kernel, rfl⟩
theorem iX6_howMany_58 : decode cX6_howMany 58 = .ok (.getfield 113, 3) ∧ 58 + 3 = 61 := ⟨by decide +kernel, rfl⟩
theorem iX6_howMany_61 : decode cX6_howMany 61 = .ok (.ireturn, 1) ∧ 61 + 1 = 62 := ⟨by decide +kernel, rfl⟩
theorem iX6_howMany_62 : decode cX6_howMany 62 = .ok (.aload_n 0, 1) ∧ 62 + 1 = 63 := ⟨by decide +kernel, rfl⟩
theorem iX6_howMany_63 : decode cX6_howMany 63 = .ok (.getfield 116, 3) ∧ 63 + 3 = 66 := ⟨by decide +kernel, rfl⟩
theorem iX6_howMany_66 : decode cX6_howMany 66 = .ok (.invokestatic 185, 3) ∧ 66 + 3 = 69 := ⟨by decide +kernel, rfl⟩
theorem iX6_howMany_69 : decode cX6_howMany 69 = .ok (.ireturn, 1) ∧ 69 + 1 = 70 := ⟨by decide +kernel, rfl⟩
theorem iX6_howMany_70 : decode cX6_howMany 70 = .ok (.aload_n 0, 1) ∧ 70 + 1 = 71 := ⟨by decide +kernel, rfl⟩
theorem iX6_howMany_71 : decode cX6_howMany 71 = .ok (.getfield 119, 3) ∧ 71 + 3 = 74 := ⟨by decide +kernel, rfl⟩
theorem iX6_howMany_74 : decode cX6_howMany 74 = .ok (.ireturn, 1) ∧ 74 + 1 = 75 := ⟨by decide +kernel, rfl⟩
theorem iX6_howMany_75 : decode cX6_howMany 75 = .ok (.aload_n 0, 1) ∧ 75 + 1 = 76 := ⟨by decide +kernel, rfl⟩
theorem iX6_howMany_76 : decode cX6_howMany 76 = .ok (.getfield 122, 3) ∧ 76 + 3 = 79 := ⟨by decide +kernel, rfl⟩
theorem iX6_howMany_79 : decode cX6_howMany 79 = .ok (.ireturn, 1) ∧ 79 + 1 = 80 := ⟨by decide +kernel, rfl⟩
theorem iX6_howMany_80 : decode cX6_howMany 80 = .ok (.aload_n 0, 1) ∧ 80 + 1 = 81 := ⟨by decide +kernel, rfl⟩
theorem iX6_howMany_81 : decode cX6_howMany 81 = .ok (.invokevirtual 275, 3) ∧ 81 + 3 = 84 := ⟨by decide +kernel, rfl⟩
theorem iX6_howMany_84 : decode cX6_howMany 84 = .ok (.ireturn, 1) ∧ 84 + 1 = 85 := ⟨by decide +kernel, rfl⟩
theorem iX6_howMany_85 : decode cX6_howMany 85 = .ok (.aload_n 0, 1) ∧ 85 + 1 = 86 := ⟨by decide +kernel, rfl⟩
theorem iX6_howMany_86 : decode cX6_howMany 86 = .ok (.getfield 128, 3) ∧ 86 + 3 = 89 := ⟨by decide +kernel, rfl⟩
theorem iX6_howMany_89 : decode cX6_howMany 89 = .ok (.ireturn, 1) ∧ 89 + 1 = 90 := ⟨by decide +kernel, rfl⟩
theorem iX6_howMany_90 : decode cX6_howMany 90 = .ok (.aload_n 0, 1) ∧ 90 + 1 = 91 := ⟨by decide +kernel, rfl⟩
theorem iX6_howMany_91 : decode cX6_howMany 91 = .ok (.getfield 72, 3) ∧ 91 + 3 = 94 := ⟨by decide +kernel, rfl⟩
theorem iX6_howMany_94 : decode cX6_howMany 94 = .ok (.ireturn, 1) ∧ 94 + 1 = 95 := ⟨by decide +kernel, rfl⟩
theorem iX6_howMany_95 : decode cX6_howMany 95 = .ok (.aload_n 0, 1) ∧ 95 + 1 = 96 := ⟨by decide +kernel, rfl⟩
theorem iX6_howMany_96 : decode cX6_howMany 96 = .ok (.getfield 125, 3) ∧ 96 + 3 = 99 := ⟨by decide +kernel, rfl⟩
theorem iX6_howMany_99 : decode cX6_howMany 99 = .ok (.ireturn, 1) ∧ 99 + 1 = 100 := ⟨by decide +kernel, rfl⟩
theorem iX6_howMany_100 : decode cX6_howMany 100 = .ok (.bipush (-102), 2) ∧ 100 + 2 = 102 := ⟨by decide +kernel, rfl⟩
theorem iX6_howMany_102 : decode cX6_howMany 102 = .ok (.ireturn, 1) ∧ 102 + 1 = 103 := ⟨by decide +kernel, rfl⟩
theorem iX6_count_0 : decode cX6_count 0 = .ok (.aload_n 0, 1) ∧ 0 + 1 = 1 := ⟨by decide +kernel, rfl⟩
theorem iX6_count_1 : decode cX6_count 1 = .ok (.iload_n 1, 1) ∧ 1 + 1 = 2 := ⟨by decide +kernel, rfl⟩
theorem iX6_count_2 : decode cX6_count 2 = .ok (.invokevirtual 296, 3) ∧ 2 + 3 = 5 := ⟨by decide +kernel, rfl⟩
theorem iX6_count_5 : decode cX6_count 5 = .ok (.ireturn, 1) ∧ 5 + 1 = 6 := ⟨by decide +kernel, rfl⟩
theorem iX6_mix_0 : decode cX6_mix 0 = .ok (.aload_n 0, 1) ∧ 0 + 1 = 1 := ⟨by decide +kernel, rfl⟩
theorem iX6_mix_1 : decode cX6_mix 1 = .ok (.ldc2_w 299, 3) ∧ 1 + 3 = 4 := ⟨by decide +kernel, rfl⟩
theorem iX6_mix_4 : decode cX6_mix 4 = .ok (.aload_n 0, 1) ∧ 4 + 1 = 5 := ⟨by decide +kernel, rfl⟩
theorem iX6_mix_5 : decode cX6_mix 5 = .ok (.getfield 301, 3) ∧ 5 + 3 = 8 := ⟨by decide +kernel, rfl⟩
theorem iX6_mix_8 : decode cX6_mix 8 = .ok (.lmul, 1) ∧ 8 + 1 = 9 := ⟨by decide +kernel, rfl⟩
theorem iX6_mix_9 : decode cX6_mix 9 = .ok (.lload_n 1, 1) ∧ 9 + 1 = 10 := ⟨by decide +kernel, rfl⟩
theorem iX6_mix_10 : decode cX6_mix 10 = .ok (.ladd, 1) ∧ 10 + 1 = 11 := ⟨by decide +kernel, rfl⟩
theorem iX6_mix_11 : decode cX6_mix 11 = .ok (.putfield 301, 3) ∧ 11 + 3 = 14 := ⟨by decide +kernel, rfl⟩
theorem iX6_mix_14 : decode cX6_mix 14 = .ok (.return_, 1) ∧ 14 + 1 = 15 := ⟨by decide +kernel, rfl⟩
theorem iX6_mixBoard_0 : decode cX6_mixBoard 0 = .ok (.iconst 0, 1) ∧ 0 + 1 = 1 := ⟨by decide +kernel, rfl⟩
theorem iX6_mixBoard_1 : decode cX6_mixBoard 1 = .ok (.istore_n 1, 1) ∧ 1 + 1 = 2 := ⟨by decide +kernel, rfl⟩
theorem iX6_mixBoard_2 : decode cX6_mixBoard 2 = .ok (.iload_n 1, 1) ∧ 2 + 1 = 3 := ⟨by decide +kernel, rfl⟩
theorem iX6_mixBoard_3 : decode cX6_mixBoard 3 = .ok (.iconst 4, 1) ∧ 3 + 1 = 4 := ⟨by decide +kernel, rfl⟩
theorem iX6_mixBoard_4 : decode cX6_mixBoard 4 = .ok (.if_icmp .gt 81, 3) ∧ 4 + 3 = 7 := ⟨by decide +kernel, rfl⟩
theorem iX6_mixBoard_7 : decode cX6_mixBoard 7 = .ok (.iconst 0, 1) ∧ 7 + 1 = 8 := ⟨by decide +kernel, rfl⟩
theorem iX6_mixBoard_8 : decode cX6_mixBoard 8 = .ok (.istore_n 2, 1) ∧ 8 + 1 = 9 := ⟨by decide +kernel, rfl⟩
theorem iX6_mixBoard_9 : decode cX6_mixBoard 9 = .ok (.iload_n 2, 1) ∧ 9 + 1 = 10 := ⟨by decide +kernel, rfl⟩
theorem iX6_mixBoard_10 : decode cX6_mixBoard 10 = .ok (.iconst 2, 1) ∧ 10 + 1 = 11 := ⟨by decide +kernel, rfl⟩
theorem iX6_mixBoard_11 : decode cX6_mixBoard 11 = .ok (.if_icmp .ge 20, 3) ∧ 11 + 3 = 14 := ⟨by decide +kernel, rfl⟩
theorem iX6_mixBoard_14 : decode cX6_mixBoard 14 = .ok (.aload_n 0, 1) ∧ 14 + 1 = 15 := ⟨by decide +kernel, rfl⟩
theorem iX6_mixBoard_15 : decode cX6_mixBoard 15 = .ok (.aload_n 0, 1) ∧ 15 + 1 = 16 := ⟨by decide +kernel, rfl⟩
theorem iX6_mixBoard_16 : decode cX6_mixBoard 16 = .ok (.iload_n 1, 1) ∧ 16 + 1 = 17 := ⟨by decide +kernel, rfl⟩
theorem iX6_mixBoard_17 : decode cX6_mixBoard 17 = .ok (.iload_n 2, 1) ∧ 17 + 1 = 18 := ⟨by decide +kernel, rfl⟩
theorem iX6_mixBoard_18 : decode cX6_mixBoard 18 = .ok (.invokevirtual 228, 3) ∧ 18 + 3 = 21 := ⟨by decide +kernel, rfl⟩
theorem iX6_mixBoard_21 : decode cX6_mixBoard 21 = .ok (.i2l, 1) ∧ 21 + 1 = 22 := ⟨by decide +kernel, rfl⟩
theorem iX6_mixBoard_22 : decode cX6_mixBoard 22 = .ok (.invokevirtual 304, 3) ∧ 22 + 3 = 25 := ⟨by decide +kernel, rfl⟩
theorem iX6_mixBoard_25 : decode cX6_mixBoard 25 = .ok (.iinc 2 1, 3) ∧ 25 + 3 = 28 := ⟨by decide +kernel, rfl⟩
theorem iX6_mixBoard_28 : decode cX6_mixBoard 28 = .ok (.goto (-19), 3) ∧ 28 + 3 = 31 := ⟨by decide +kernel, rfl⟩
theorem iX6_mixBoard_31 : decode cX6_mixBoard 31 = .ok (.iconst 0, 1) ∧ 31 + 1 = 32 := ⟨by decide +kernel, rfl⟩
theorem iX6_mixBoard_32 : decode cX6_mixBoard 32 = .ok (.istore_n 2, 1) ∧ 32 + 1 = 33 := ⟨by decide +kernel, rfl⟩
theorem iX6_mixBoard_33 : decode cX6_mixBoard 33 = .ok (.iload_n 2, 1) ∧ 33 + 1 = 34 := ⟨by decide +kernel, rfl⟩
theorem iX6_mixBoard_34 : decode cX6_mixBoard 34 = .ok (.iconst 2, 1) ∧ 34 + 1 = 35 := ⟨by decide +kernel, rfl⟩
theorem iX6_mixBoard_35 : decode cX6_mixBoard 35 = .ok (.if_icmp .ge 20, 3) ∧ 35 + 3 = 38 := ⟨by decide +kernel, rfl⟩
theorem iX6_mixBoard_38 : decode cX6_mixBoard 38 = .ok (.aload_n 0, 1) ∧ 38 + 1 = 39 := ⟨by decide +kernel, rfl⟩
theorem iX6_mixBoard_39 : decode cX6_mixBoard 39 = .ok (.aload_n 0, 1) ∧ 39 + 1 = 40 := ⟨by decide +kernel, rfl⟩
theorem iX6_mixBoard_40 : decode cX6_mixBoard 40 = .ok (.iload_n 1, 1) ∧ 40 + 1 = 41 := ⟨by decide +kernel, rfl⟩
theorem iX6_mixBoard_41 : decode cX6_mixBoard 41 = .ok (.iload_n 2, 1) ∧ 41 + 1 = 42 := ⟨by decide +kernel, rfl⟩
theorem iX6_mixBoard_42 : decode cX6_mixBoard 42 = .ok (.invokevirtual 234, 3) ∧ 42 + 3 = 45 := ⟨by decide +kernel, rfl⟩
theorem iX6_mixBoard_45 : decode cX6_mixBoard 45 = .ok (.i2l, 1) ∧ 45 + 1 = 46 := ⟨by decide +kernel, rfl⟩
theorem iX6_mixBoard_46 : decode cX6_mixBoard 46 = .ok (.invokevirtual 304, 3) ∧ 46 + 3 = 49 := ⟨by decide +kernel, rfl⟩
theorem iX6_mixBoard_49 : decode cX6_mixBoard 49 = .ok (.iinc 2 1, 3) ∧ 49 + 3 = 52 := ⟨by decide +kernel, rfl⟩
theorem iX6_mixBoard_52 : decode cX6_mixBoard 52 = .ok (.goto (-19), 3) ∧ 52 + 3 = 55 := ⟨by decide +kernel, rfl⟩
theorem iX6_mixBoard_55 : decode cX6_mixBoard 55 = .ok (.iconst 0, 1) ∧ 55 + 1 = 56 := ⟨by decide +kernel, rfl⟩
theorem iX6_mixBoard_56 : decode cX6_mixBoard 56 = .ok (.istore_n 2, 1) ∧ 56 + 1 = 57 := ⟨by decide +kernel, rfl⟩
theorem iX6_mixBoard_57 : decode cX6_mixBoard 57 = .ok (.iload_n 2, 1) ∧ 57 + 1 = 58 := ⟨by decide +kernel, rfl⟩
theorem iX6_mixBoard_58 : decode cX6_mixBoard 58 = .ok (.iconst 2, 1) ∧ 58 + 1 = 59 := ⟨by decide +kernel, rfl⟩
theorem iX6_mixBoard_59 : decode cX6_mixBoard 59 = .ok (.if_icmp .ge 20, 3) ∧ 59 + 3 = 62 := ⟨by decide +kernel, rfl⟩
theorem iX6_mixBoard_62 : decode cX6_mixBoard 62 = .ok (.aload_n 0, 1) ∧ 62 + 1 = 63 := ⟨by decide +kernel, rfl⟩
theorem iX6_mixBoard_63 : decode cX6_mixBoard 63 = .ok (.aload_n 0, 1) ∧ 63 + 1 = 64 := ⟨by decide +kernel, rfl⟩
theorem iX6_mixBoard_64 : decode cX6_mixBoard 64 = .ok (.iload_n 1, 1) ∧ 64 + 1 = 65 := ⟨by decide +kernel, rfl⟩
theorem iX6_mixBoard_65 : decode cX6_mixBoard 65 = .ok (.iload_n 2, 1) ∧ 65 + 1 = 66 := ⟨by decide +kernel, rfl⟩
theorem iX6_mixBoard_66 : decode cX6_mixBoard 66 = .ok (.invokevirtual 246, 3) ∧ 66 + 3 = 69 := ⟨by decide +kernel, rfl⟩
theorem iX6_mixBoard_69 : decode cX6_mixBoard 69 = .ok (.i2l, 1) ∧ 69 + 1 = 70 := ⟨by decide +kernel, rfl⟩
theorem iX6_mixBoard_70 : decode cX6_mixBoard 70 = .ok (.invokevirtual 304, 3) ∧ 70 + 3 = 73 := ⟨by decide +kernel, rfl⟩
theorem iX6_mixBoard_73 : decode cX6_mixBoard 73 = .ok (.iinc 2 1, 3) ∧ 73 + 3 = 76 := ⟨by decide +kernel, rfl⟩
theorem iX6_mixBoard_76 : decode cX6_mixBoard 76 = .ok (.goto (-19), 3) ∧ 76 + 3 = 79 := ⟨by decide +kernel, rfl⟩
theorem iX6_mixBoard_79 : decode cX6_mixBoard 79 = .ok (.iinc 1 1, 3) ∧ 79 + 3 = 82 := ⟨by decide +kernel, rfl⟩
theorem iX6_mixBoard_82 : decode cX6_mixBoard 82 = .ok (.goto (-80), 3) ∧ 82 + 3 = 85 := ⟨by decide +kernel, rfl⟩
theorem iX6_mixBoard_85 : decode cX6_mixBoard 85 = .ok (.aload_n 0, 1) ∧ 85 + 1 = 86 := ⟨by decide +kernel, rfl⟩
theorem iX6_mixBoard_86 : decode cX6_mixBoard 86 = .ok (.getfield 119, 3) ∧ 86 + 3 = 89 := ⟨by decide +kernel, rfl⟩
theorem iX6_mixBoard_89 : decode cX6_mixBoard 89 = .ok (.iconst 1, 1) ∧ 89 + 1 = 90 := ⟨by decide +kernel, rfl⟩
theorem iX6_mixBoard_90 : decode cX6_mixBoard 90 = .ok (.if_icmp .le 14, 3) ∧ 90 + 3 = 93 := ⟨by decide +kernel, rfl⟩
theorem iX6_mixBoard_93 : decode cX6_mixBoard 93 = .ok (.aload_n 0, 1) ∧ 93 + 1 = 94 := ⟨by decide +kernel, rfl⟩
theorem iX6_mixBoard_94 : decode cX6_mixBoard 94 = .ok (.aload_n 0, 1) ∧ 94 + 1 = 95 := ⟨by decide +kernel, rfl⟩
theorem iX6_mixBoard_95 : decode cX6_mixBoard 95 = .ok (.iconst 0, 1) ∧ 95 + 1 = 96 := ⟨by decide +kernel, rfl⟩
theorem iX6_mixBoard_96 : decode cX6_mixBoard 96 = .ok (.iconst 1, 1) ∧ 96 + 1 = 97 := ⟨by decide +kernel, rfl⟩
theorem iX6_mixBoard_97 : decode cX6_mixBoard 97 = .ok (.invokevirtual 209, 3) ∧ 97 + 3 = 100 := ⟨by decide +kernel, rfl⟩
theorem iX6_mixBoard_100 : decode cX6_mixBoard 100 = .ok (.i2l, 1) ∧ 100 + 1 = 101 := ⟨by decide +kernel, rfl⟩
theorem iX6_mixBoard_101 : decode cX6_mixBoard 101 = .ok (.invokevirtual 304, 3) ∧ 101 + 3 = 104 := ⟨by decide +kernel, rfl⟩
theorem iX6_mixBoard_104 : decode cX6_mixBoard 104 = .ok (.return_, 1) ∧ 104 + 1 = 105 := ⟨by decide +kernel, rfl⟩
theorem iX6_digest_0 : decode cX6_digest 0 = .ok (.aload_n 0, 1) ∧ 0 + 1 = 1 := ⟨by decide +kernel, rfl⟩
theorem iX6_digest_1 : decode cX6_digest 1 = .ok (.ldc2_w 308, 3) ∧ 1 + 3 = 4 := ⟨by decide +kernel, rfl⟩
theorem iX6_digest_4 : decode cX6_digest 4 = .ok (.putfield 301, 3) ∧ 4 + 3 = 7 := ⟨by decide +kernel, rfl⟩
theorem iX6_digest_7 : decode cX6_digest 7 = .ok (.iconst 0, 1) ∧ 7 + 1 = 8 := ⟨by decide +kernel, rfl⟩
theorem iX6_digest_8 : decode cX6_digest 8 = .ok (.istore_n 1, 1) ∧ 8 + 1 = 9 := ⟨by decide +kernel, rfl⟩
theorem iX6_digest_9 : decode cX6_digest 9 = .ok (.iload_n 1, 1) ∧ 9 + 1 = 10 := ⟨by decide +kernel, rfl⟩
theorem iX6_digest_10 : decode cX6_digest 10 = .ok (.aload_n 0, 1) ∧ 10 + 1 = 11 := ⟨by decide +kernel, rfl⟩
theorem iX6_digest_11 : decode cX6_digest 11 = .ok (.getfield 119, 3) ∧ 11 + 3 = 14 := ⟨by decide +kernel, rfl⟩
theorem iX6_digest_14 : decode cX6_digest 14 = .ok (.if_icmp .ge 57, 3) ∧ 14 + 3 = 17 := ⟨by decide +kernel, rfl⟩
theorem iX6_digest_17 : decode cX6_digest 17 = .ok (.iconst 0, 1) ∧ 17 + 1 = 18 := ⟨by decide +kernel, rfl⟩
theorem iX6_digest_18 : decode cX6_digest 18 = .ok (.istore_n 2, 1) ∧ 18 + 1 = 19 := ⟨by decide +kernel, rfl⟩
theorem iX6_digest_19 : decode cX6_digest 19 = .ok (.iload_n 2, 1) ∧ 19 + 1 = 20 := ⟨by decide +kernel, rfl⟩
theorem iX6_digest_20 : decode cX6_digest 20 = .ok (.bipush 8, 2) ∧ 20 + 2 = 22 := ⟨by decide +kernel, rfl⟩
theorem iX6_digest_22 : decode cX6_digest 22 = .ok (.if_icmp .ge 20, 3) ∧ 22 + 3 = 25 := ⟨by decide +kernel, rfl⟩
theorem iX6_digest_25 : decode cX6_digest 25 = .ok (.aload_n 0, 1) ∧ 25 + 1 = 26 := ⟨by decide +kernel, rfl⟩
theorem iX6_digest_26 : decode cX6_digest 26 = .ok (.aload_n 0, 1) ∧ 26 + 1 = 27 := ⟨by decide +kernel, rfl⟩
theorem iX6_digest_27 : decode cX6_digest 27 = .ok (.iload_n 1, 1) ∧ 27 + 1 = 28 := ⟨by decide +kernel, rfl⟩
theorem iX6_digest_28 : decode cX6_digest 28 = .ok (.iload_n 2, 1) ∧ 28 + 1 = 29 := ⟨by decide +kernel, rfl⟩
theorem iX6_digest_29 : decode cX6_digest 29 = .ok (.invokevirtual 170, 3) ∧ 29 + 3 = 32 := ⟨by decide +kernel, rfl⟩
theorem iX6_digest_32 : decode cX6_digest 32 = .ok (.i2l, 1) ∧ 32 + 1 = 33 := ⟨by decide +kernel, rfl⟩
theorem iX6_digest_33 : decode cX6_digest 33 = .ok (.invokevirtual 304, 3) ∧ 33 + 3 = 36 := ⟨by decide +kernel, rfl⟩
theorem iX6_digest_36 : decode cX6_digest 36 = .ok (.iinc 2 1, 3) ∧ 36 + 3 = 39 := ⟨by decide +kernel, rfl⟩
theorem iX6_digest_39 : decode cX6_digest 39 = .ok (.goto (-20), 3) ∧ 39 + 3 = 42 := ⟨by decide +kernel, rfl⟩
theorem iX6_digest_42 : decode cX6_digest 42 = .ok (.aload_n 0, 1) ∧ 42 + 1 = 43 := ⟨by decide +kernel, rfl⟩
theorem iX6_digest_43 : decode cX6_digest 43 = .ok (.aload_n 0, 1) ∧ 43 + 1 = 44 := ⟨by decide +kernel, rfl⟩
theorem iX6_digest_44 : decode cX6_digest 44 = .ok (.iload_n 1, 1) ∧ 44 + 1 = 45 := ⟨by decide +kernel, rfl⟩
theorem iX6_digest_45 : decode cX6_digest 45 = .ok (.iconst 0, 1) ∧ 45 + 1 = 46 := ⟨by decide +kernel, rfl⟩
theorem iX6_digest_46 : decode cX6_digest 46 = .ok (.invokevirtual 310, 3) ∧ 46 + 3 = 49 := ⟨by decide +kernel, rfl⟩
theorem iX6_digest_49 : decode cX6_digest 49 = .ok (.i2l, 1) ∧ 49 + 1 = 50 := ⟨by decide +kernel, rfl⟩
theorem iX6_digest_50 : decode cX6_digest 50 = .ok (.invokevirtual 304, 3) ∧ 50 + 3 = 53 := ⟨by decide +kernel, rfl⟩
theorem iX6_digest_53 : decode cX6_digest 53 = .ok (.aload_n 0, 1) ∧ 53 + 1 = 54 := ⟨by decide +kernel, rfl⟩
theorem iX6_digest_54 : decode cX6_digest 54 = .ok (.aload_n 0, 1) ∧ 54 + 1 = 55 := ⟨by decide +kernel, rfl⟩
theorem iX6_digest_55 : decode cX6_digest 55 = .ok (.iload_n 1, 1) ∧ 55 + 1 = 56 := ⟨by decide +kernel, rfl⟩
theorem iX6_digest_56 : decode cX6_digest 56 = .ok (.iconst 3, 1) ∧ 56 + 1 = 57 := ⟨by decide +kernel, rfl⟩
theorem iX6_digest_57 : decode cX6_digest 57 = .ok (.iconst 3, 1) ∧ 57 + 1 = 58 := ⟨by decide +kernel, rfl⟩
theorem iX6_digest_58 : decode cX6_digest 58 = .ok (.invokevirtual 313, 3) ∧ 58 + 3 = 61 := ⟨by decide +kernel, rfl⟩
theorem iX6_digest_61 : decode cX6_digest 61 = .ok (.i2l, 1) ∧ 61 + 1 = 62 := ⟨by decide +kernel, rfl⟩
theorem iX6_digest_62 : decode cX6_digest 62 = .ok (.invokevirtual 304, 3) ∧ 62 + 3 = 65 := ⟨by decide +kernel, rfl⟩
theorem iX6_digest_65 : decode cX6_digest 65 = .ok (.iinc 1 1, 3) ∧ 65 + 3 = 68 := ⟨by decide +kernel, rfl⟩
theorem iX6_digest_68 : decode cX6_digest 68 = .ok (.goto (-59), 3) ∧ 68 + 3 = 71 := ⟨by decide +kernel, rfl⟩
theorem iX6_digest_71 : decode cX6_digest 71 = .ok (.iconst 0, 1) ∧ 71 + 1 = 72 := ⟨by decide +kernel, rfl⟩
theorem iX6_digest_72 : decode cX6_digest 72 = .ok (.istore_n 1, 1) ∧ 72 + 1 = 73 := ⟨by decide +kernel, rfl⟩
theorem iX6_digest_73 : decode cX6_digest 73 = .ok (.iload_n 1, 1) ∧ 73 + 1 = 74 := ⟨by decide +kernel, rfl⟩
theorem iX6_digest_74 : decode cX6_digest 74 = .ok (.aload_n 0, 1) ∧ 74 + 1 = 75 := ⟨by decide +kernel, rfl⟩
theorem iX6_digest_75 : decode cX6_digest 75 = .ok (.invokevirtual 131, 3) ∧ 75 + 3 = 78 := ⟨by decide +kernel, rfl⟩
theorem iX6_digest_78 : decode cX6_digest 78 = .ok (.if_icmp .ge 33, 3) ∧ 78 + 3 = 81 := ⟨by decide +kernel, rfl⟩
theorem iX6_digest_81 : decode cX6_digest 81 = .ok (.iconst 0, 1) ∧ 81 + 1 = 82 := ⟨by decide +kernel, rfl⟩
theorem iX6_digest_82 : decode cX6_digest 82 = .ok (.istore_n 2, 1) ∧ 82 + 1 = 83 := ⟨by decide +kernel, rfl⟩
theorem iX6_digest_83 : decode cX6_digest 83 = .ok (.iload_n 2, 1) ∧ 83 + 1 = 84 := ⟨by decide +kernel, rfl⟩
theorem iX6_digest_84 : decode cX6_digest 84 = .ok (.iconst 3, 1) ∧ 84 + 1 = 85 := ⟨by decide +kernel, rfl⟩
theorem iX6_digest_85 : decode cX6_digest 85 = .ok (.if_icmp .ge 20, 3) ∧ 85 + 3 = 88 := ⟨by decide +kernel, rfl⟩
theorem iX6_digest_88 : decode cX6_digest 88 = .ok (.aload_n 0, 1) ∧ 88 + 1 = 89 := ⟨by decide +kernel, rfl⟩
theorem iX6_digest_89 : decode cX6_digest 89 = .ok (.aload_n 0, 1) ∧ 89 + 1 = 90 := ⟨by decide +kernel, rfl⟩
theorem iX6_digest_90 : decode cX6_digest 90 = .ok (.iload_n 1, 1) ∧ 90 + 1 = 91 := ⟨by decide +kernel, rfl⟩
theorem iX6_digest_91 : decode cX6_digest 91 = .ok (.iload_n 2, 1) ∧ 91 + 1 = 92 := ⟨by decide +kernel, rfl⟩
theorem iX6_digest_92 : decode cX6_digest 92 = .ok (.invokevirtual 182, 3) ∧ 92 + 3 = 95 := ⟨by decide +kernel, rfl⟩
theorem iX6_digest_95 : decode cX6_digest 95 = .ok (.i2l, 1) ∧ 95 + 1 = 96 := ⟨by decide +kernel, rfl⟩
theorem iX6_digest_96 : decode cX6_digest 96 = .ok (.invokevirtual 304, 3) ∧ 96 + 3 = 99 := ⟨by decide +kernel, rfl⟩
theorem iX6_digest_99 : decode cX6_digest 99 = .ok (.iinc 2 1, 3) ∧ 99 + 3 = 102 := ⟨by decide +kernel, rfl⟩
theorem iX6_digest_102 : decode cX6_digest 102 = .ok (.goto (-19), 3) ∧ 102 + 3 = 105 := ⟨by decide +kernel, rfl⟩
theorem iX6_digest_105 : decode cX6_digest 105 = .ok (.iinc 1 1, 3) ∧ 105 + 3 = 108 := ⟨by decide +kernel, rfl⟩
theorem iX6_digest_108 : decode cX6_digest 108 = .ok (.goto (-35), 3) ∧ 108 + 3 = 111 := ⟨by decide +kernel, rfl⟩
theorem iX6_digest_111 : decode cX6_digest 111 = .ok (.aload_n 0, 1) ∧ 111 + 1 = 112 := ⟨by decide +kernel, rfl⟩
theorem iX6_digest_112 : decode cX6_digest 112 = .ok (.getfield 119, 3) ∧ 112 + 3 = 115 := ⟨by decide +kernel, rfl⟩
theorem iX6_digest_115 : decode cX6_digest 115 = .ok (.ifCond .le 7, 3) ∧ 115 + 3 = 118 := ⟨by decide +kernel, rfl⟩
theorem iX6_digest_118 : decode cX6_digest 118 = .ok (.aload_n 0, 1) ∧ 118 + 1 = 119 := ⟨by decide +kernel, rfl⟩
theorem iX6_digest_119 : decode cX6_digest 119 = .ok (.invokevirtual 316, 3) ∧ 119 + 3 = 122 := ⟨by decide +kernel, rfl⟩
theorem iX6_digest_122 : decode cX6_digest 122 = .ok (.iconst 0, 1) ∧ 122 + 1 = 123 := ⟨by decide +kernel, rfl⟩
theorem iX6_digest_123 : decode cX6_digest 123 = .ok (.istore_n 1, 1) ∧ 123 + 1 = 124 := ⟨by decide +kernel, rfl⟩
theorem iX6_digest_124 : decode cX6_digest 124 = .ok (.iload_n 1, 1) ∧ 124 + 1 = 125 := ⟨by decide +kernel, rfl⟩
theorem iX6_digest_125 : decode cX6_digest 125 = .ok (.aload_n 0, 1) ∧ 125 + 1 = 126 := ⟨by decide +kernel, rfl⟩
theorem iX6_digest_126 : decode cX6_digest 126 = .ok (.getfield 72, 3) ∧ 126 + 3 = 129 := ⟨by decide +kernel, rfl⟩
theorem iX6_digest_129 : decode cX6_digest 129 = .ok (.if_icmp .ge 20, 3) ∧ 129 + 3 = 132 := ⟨by decide +kernel, rfl⟩
theorem iX6_digest_132 : decode cX6_digest 132 = .ok (.aload_n 0, 1) ∧ 132 + 1 = 133 := ⟨by decide +kernel, rfl⟩
theorem iX6_digest_133 : decode cX6_digest 133 = .ok (.aload_n 0, 1) ∧ 133 + 1 = 134 := ⟨by decide +kernel, rfl⟩
theorem iX6_digest_134 : decode cX6_digest 134 = .ok (.getfield 28, 3) ∧ 134 + 3 = 137 := ⟨by decide +kernel, rfl⟩
theorem iX6_digest_137 : decode cX6_digest 137 = .ok (.iload_n 1, 1) ∧ 137 + 1 = 138 := ⟨by decide +kernel, rfl⟩
theorem iX6_digest_138 : decode cX6_digest 138 = .ok (.baload, 1) ∧ 138 + 1 = 139 := ⟨by decide +kernel, rfl⟩
theorem iX6_digest_139 : decode cX6_digest 139 = .ok (.i2l, 1) ∧ 139 + 1 = 140 := ⟨by decide +kernel, rfl⟩
theorem iX6_digest_140 : decode cX6_digest 140 = .ok (.invokevirtual 304, 3) ∧ 140 + 3 = 143 := ⟨by decide +kernel, rfl⟩
theorem iX6_digest_143 : decode cX6_digest 143 = .ok (.iinc 1 1, 3) ∧ 143 + 3 = 146 := ⟨by decide +kernel, rfl⟩
theorem iX6_digest_146 : decode cX6_digest 146 = .ok (.goto (-22), 3) ∧ 146 + 3 = 149 := ⟨by decide +kernel, rfl⟩
theorem iX6_digest_149 : decode cX6_digest 149 = .ok (.iconst 0, 1) ∧ 149 + 1 = 150 := ⟨by decide +kernel, rfl⟩
theorem iX6_digest_150 : decode cX6_digest 150 = .ok (.istore_n 1, 1) ∧ 150 + 1 = 151 := ⟨by decide +kernel, rfl⟩
theorem iX6_digest_151 : decode cX6_digest 151 = .ok (.iload_n 1, 1) ∧ 151 + 1 = 152 := ⟨by decide +kernel, rfl⟩
theorem iX6_digest_152 : decode cX6_digest 152 = .ok (.bipush 9, 2) ∧ 152 + 2 = 154 := ⟨by decide +kernel, rfl⟩
theorem iX6_digest_154 : decode cX6_digest 154 = .ok (.if_icmp .ge 19, 3) ∧ 154 + 3 = 157 := ⟨by decide +kernel, rfl⟩
theorem iX6_digest_157 : decode cX6_digest 157 = .ok (.aload_n 0, 1) ∧ 157 + 1 = 158 := ⟨by decide +kernel, rfl⟩
theorem iX6_digest_158 : decode cX6_digest 158 = .ok (.aload_n 0, 1) ∧ 158 + 1 = 159 := ⟨by decide +kernel, rfl⟩
theorem iX6_digest_159 : decode cX6_digest 159 = .ok (.iload_n 1, 1) ∧ 159 + 1 = 160 := ⟨by decide +kernel, rfl⟩
theorem iX6_digest_160 : decode cX6_digest 160 = .ok (.invokevirtual 296, 3) ∧ 160 + 3 = 163 := ⟨by decide +kernel, rfl⟩
theorem iX6_digest_163 : decode cX6_digest 163 = .ok (.i2l, 1) ∧ 163 + 1 = 164 := ⟨by decide +kernel, rfl⟩
theorem iX6_digest_164 : decode cX6_digest 164 = .ok (.invokevirtual 304, 3) ∧ 164 + 3 = 167 := ⟨by decide +kernel, rfl⟩
theorem iX6_digest_167 : decode cX6_digest 167 = .ok (.iinc 1 1, 3) ∧ 167 + 3 = 170 := ⟨by decide +kernel, rfl⟩
theorem iX6_digest_170 : decode cX6_digest 170 = .ok (.goto (-19), 3) ∧ 170 + 3 = 173 := ⟨by decide +kernel, rfl⟩
theorem iX6_digest_173 : decode cX6_digest 173 = .ok (.aload_n 0, 1) ∧ 173 + 1 = 174 := ⟨by decide +kernel, rfl⟩
theorem iX6_digest_174 : decode cX6_digest 174 = .ok (.getfield 301, 3) ∧ 174 + 3 = 177 := ⟨by decide +kernel, rfl⟩
theorem iX6_digest_177 : decode cX6_digest 177 = .ok (.lreturn, 1) ∧ 177 + 1 = 178 := ⟨by decide +kernel, rfl⟩
theorem iJ11_isValidCodePoint_0 : decode cJ11_isValidCodePoint_9a6ad 0 = .ok (.iload_n 0, 1) ∧ 0 + 1 = 1 := ⟨by decide +kernel, rfl⟩
theorem iJ11_isValidCodePoint_1 : decode cJ11_isValidCodePoint_9a6ad 1 = .ok (.bipush 16, 2) ∧ 1 + 2 = 3 := ⟨by decide +kernel, rfl⟩
theorem iJ11_isValidCodePoint_3 : decode cJ11_isValidCodePoint_9a6ad 3 = .ok (.iushr, 1) ∧ 3 + 1 = 4 := ⟨by decide +kernel, rfl⟩
theorem iJ11_isValidCodePoint_4 : decode cJ11_isValidCodePoint_9a6ad 4 = .ok (.istore_n 1, 1) ∧ 4 + 1 = 5 := ⟨by decide +kernel, rfl⟩
theorem iJ11_isValidCodePoint_5 : decode cJ11_isValidCodePoint_9a6ad 5 = .ok (.iload_n 1, 1) ∧ 5 + 1 = 6 := ⟨by decide +kernel, rfl⟩
theorem iJ11_isValidCodePoint_6 : decode cJ11_isValidCodePoint_9a6ad 6 = .ok (.bipush 17, 2) ∧ 6 + 2 = 8 := ⟨by decide +kernel, rfl⟩
theorem iJ11_isValidCodePoint_8 : decode cJ11_isValidCodePoint_9a6ad 8 = .ok (.if_icmp .ge 7, 3) ∧ 8 + 3 = 11 := ⟨by decide +kernel, rfl⟩
theorem iJ11_isValidCodePoint_11 : decode cJ11_isValidCodePoint_9a6ad 11 = .ok (.iconst 1, 1) ∧ 11 + 1 = 12 := ⟨by decide +kernel, rfl⟩
theorem iJ11_isValidCodePoint_12 : decode cJ11_isValidCodePoint_9a6ad 12 = .ok (.goto 4, 3) ∧ 12 + 3 = 15 := ⟨by decide +kernel, rfl⟩
theorem iJ11_isValidCodePoint_15 : decode cJ11_isValidCodePoint_9a6ad 15 = .ok (.iconst 0, 1) ∧ 15 + 1 = 16 := ⟨by decide +kernel, rfl⟩
theorem iJ11_isValidCodePoint_16 : decode cJ11_isValidCodePoint_9a6ad 16 = .ok (.ireturn, 1) ∧ 16 + 1 = 17 := ⟨by decide +kernel, rfl⟩
theorem iJ11_highSurrogate_0 : decode cJ11_highSurrogate_5068e 0 = .ok (.iload_n 0, 1) ∧ 0 + 1 = 1 := ⟨by decide +kernel, rfl⟩
theorem iJ11_highSurrogate_1 : decode cJ11_highSurrogate_5068e 1 = .ok (.bipush 10, 2) ∧ 1 + 2 = 3 := ⟨by decide +kernel, rfl⟩
theorem iJ11_highSurrogate_3 : decode cJ11_highSurrogate_5068e 3 = .ok (.iushr, 1) ∧ 3 + 1 = 4 := ⟨by decide +kernel, rfl⟩
theorem iJ11_highSurrogate_4 : decode cJ11_highSurrogate_5068e 4 = .ok (.ldc 110, 2) ∧ 4 + 2 = 6 := ⟨by decide +kernel, rfl⟩
theorem iJ11_highSurrogate_6 : decode cJ11_highSurrogate_5068e 6 = .ok (.iadd, 1) ∧ 6 + 1 = 7 := ⟨by decide +kernel, rfl⟩
theorem iJ11_highSurrogate_7 : decode cJ11_highSurrogate_5068e 7 = .ok (.i2c, 1) ∧ 7 + 1 = 8 := ⟨by decide +kernel, rfl⟩
theorem iJ11_highSurrogate_8 : decode cJ11_highSurrogate_5068e 8 = .ok (.ireturn, 1) ∧ 8 + 1 = 9 := ⟨by decide +kernel, rfl⟩
theorem iJ11_lowSurrogate_0 : decode cJ11_lowSurrogate_5068e 0 = .ok (.iload_n 0, 1) ∧ 0 + 1 = 1 := ⟨by decide +kernel, rfl⟩
theorem iJ11_lowSurrogate_1 : decode cJ11_lowSurrogate_5068e 1 = .ok (.sipush 1023, 3) ∧ 1 + 3 = 4 := ⟨by decide +kernel, rfl⟩
theorem iJ11_lowSurrogate_4 : decode cJ11_lowSurrogate_5068e 4 = .ok (.iand, 1) ∧ 4 + 1 = 5 := ⟨by decide +kernel, rfl⟩
theorem iJ11_lowSurrogate_5 : decode cJ11_lowSurrogate_5068e 5 = .ok (.ldc 76, 2) ∧ 5 + 2 = 7 := ⟨by decide +kernel, rfl⟩
theorem iJ11_lowSurrogate_7 : decode cJ11_lowSurrogate_5068e 7 = .ok (.iadd, 1) ∧ 7 + 1 = 8 := ⟨by decide +kernel, rfl⟩
theorem iJ11_lowSurrogate_8 : decode cJ11_lowSurrogate_5068e 8 = .ok (.i2c, 1) ∧ 8 + 1 = 9 := ⟨by decide +kernel, rfl⟩
theorem iJ11_lowSurrogate_9 : decode cJ11_lowSurrogate_5068e 9 = .ok (.ireturn, 1) ∧ 9 + 1 = 10 := ⟨by decide +kernel, rfl⟩
theorem iJ6_bitCount_0 : decode cJ6_bitCount_0f7a4 0 = .ok (.iload_n 0, 1) ∧ 0 + 1 = 1 := ⟨by decide +kernel, rfl⟩
theorem iJ6_bitCount_1 : decode cJ6_bitCount_0f7a4 1 = .ok (.iload_n 0, 1) ∧ 1 + 1 = 2 := ⟨by decide +kernel, rfl⟩
theorem iJ6_bitCount_2 : decode cJ6_bitCount_0f7a4 2 = .ok (.iconst 1, 1) ∧ 2 + 1 = 3 := ⟨by decide +kernel, rfl⟩
theorem iJ6_bitCount_3 : decode cJ6_bitCount_0f7a4 3 = .ok (.iushr, 1) ∧ 3 + 1 = 4 := ⟨by decide +kernel, rfl⟩
theorem iJ6_bitCount_4 : decode cJ6_bitCount_0f7a4 4 = .ok (.ldc_w 265, 3) ∧ 4 + 3 = 7 := ⟨by decide +kernel, rfl⟩
theorem iJ6_bitCount_7 : decode cJ6_bitCount_0f7a4 7 = .ok (.iand, 1) ∧ 7 + 1 = 8 := ⟨by decide +kernel, rfl⟩
theorem iJ6_bitCount_8 : decode cJ6_bitCount_0f7a4 8 = .ok (.isub, 1) ∧ 8 + 1 = 9 := ⟨by decide +kernel, rfl⟩
theorem iJ6_bitCount_9 : decode cJ6_bitCount_0f7a4 9 = .ok (.istore_n 0, 1) ∧ 9 + 1 = 10 := ⟨by decide +kernel, rfl⟩
theorem iJ6_bitCount_10 : decode cJ6_bitCount_0f7a4 10 = .ok (.iload_n 0, 1) ∧ 10 + 1 = 11 := ⟨by decide +kernel, rfl⟩
theorem iJ6_bitCount_11 : decode cJ6_bitCount_0f7a4 11 = .ok (.ldc_w 266, 3) ∧ 11 + 3 = 14 := ⟨by decide +kernel, rfl⟩
theorem iJ6_bitCount_14 : decode cJ6_bitCount_0f7a4 14 = .ok (.iand, 1) ∧ 14 + 1 = 15 := ⟨by decide +kernel, rfl⟩
theorem iJ6_bitCount_15 : decode cJ6_bitCount_0f7a4 15 = .ok (.iload_n 0, 1) ∧ 15 + 1 = 16 := ⟨by decide +kernel, rfl⟩
theorem iJ6_bitCount_16 : decode cJ6_bitCount_0f7a4 16 = .ok (.iconst 2, 1) ∧ 16 + 1 = 17 := ⟨by decide +kernel, rfl⟩
theorem iJ6_bitCount_17 : decode cJ6_bitCount_0f7a4 17 = .ok (.iushr, 1) ∧ 17 + 1 = 18 := ⟨by decide +kernel, rfl⟩
theorem iJ6_bitCount_18 : decode cJ6_bitCount_0f7a4 18 = .ok (.ldc_w 266, 3) ∧ 18 + 3 = 21 := ⟨by decide +kernel, rfl⟩
theorem iJ6_bitCount_21 : decode cJ6_bitCount_0f7a4 21 = .ok (.iand, 1) ∧ 21 + 1 = 22 := ⟨by decide +kernel, rfl⟩
theorem iJ6_bitCount_22 : decode cJ6_bitCount_0f7a4 22 = .ok (.iadd, 1) ∧ 22 + 1 = 23 := ⟨by decide +kernel, rfl⟩
theorem iJ6_bitCount_23 : decode cJ6_bitCount_0f7a4 23 = .ok (.istore_n 0, 1) ∧ 23 + 1 = 24 := ⟨by decide +kernel, rfl⟩
theorem iJ6_bitCount_24 : decode cJ6_bitCount_0f7a4 24 = .ok (.iload_n 0, 1) ∧ 24 + 1 = 25 := ⟨by decide +kernel, rfl⟩
theorem iJ6_bitCount_25 : decode cJ6_bitCount_0f7a4 25 = .ok (.iload_n 0, 1) ∧ 25 + 1 = 26 := ⟨by decide +kernel, rfl⟩
theorem iJ6_bitCount_26 : decode cJ6_bitCount_0f7a4 26 = .ok (.iconst 4, 1) ∧ 26 + 1 = 27 := ⟨by decide +kernel, rfl⟩
theorem iJ6_bitCount_27 : decode cJ6_bitCount_0f7a4 27 = .ok (.iushr, 1) ∧ 27 + 1 = 28 := ⟨by decide +kernel, rfl⟩
theorem iJ6_bitCount_28 : decode cJ6_bitCount_0f7a4 28 = .ok (.iadd, 1) ∧ 28 + 1 = 29 := ⟨by decide +kernel, rfl⟩
theorem iJ6_bitCount_29 : decode cJ6_bitCount_0f7a4 29 = .ok (.ldc_w 267, 3) ∧ 29 + 3 = 32 := ⟨by decide +kernel, rfl⟩
theorem iJ6_bitCount_32 : decode cJ6_bitCount_0f7a4 32 = .ok (.iand, 1) ∧ 32 + 1 = 33 := ⟨by decide +kernel, rfl⟩
theorem iJ6_bitCount_33 : decode cJ6_bitCount_0f7a4 33 = .ok (.istore_n 0, 1) ∧ 33 + 1 = 34 := ⟨by decide +kernel, rfl⟩
theorem iJ6_bitCount_34 : decode cJ6_bitCount_0f7a4 34 = .ok (.iload_n 0, 1) ∧ 34 + 1 = 35 := ⟨by decide +kernel, rfl⟩
theorem iJ6_bitCount_35 : decode cJ6_bitCount_0f7a4 35 = .ok (.iload_n 0, 1) ∧ 35 + 1 = 36 := ⟨by decide +kernel, rfl⟩
theorem iJ6_bitCount_36 : decode cJ6_bitCount_0f7a4 36 = .ok (.bipush 8, 2) ∧ 36 + 2 = 38 := ⟨by decide +kernel, rfl⟩
theorem iJ6_bitCount_38 : decode cJ6_bitCount_0f7a4 38 = .ok (.iushr, 1) ∧ 38 + 1 = 39 := ⟨by decide +kernel, rfl⟩
theorem iJ6_bitCount_39 : decode cJ6_bitCount_0f7a4 39 = .ok (.iadd, 1) ∧ 39 + 1 = 40 := ⟨by decide +kernel, rfl⟩
theorem iJ6_bitCount_40 : decode cJ6_bitCount_0f7a4 40 = .ok (.istore_n 0, 1) ∧ 40 + 1 = 41 := ⟨by decide +kernel, rfl⟩
theorem iJ6_bitCount_41 : decode cJ6_bitCount_0f7a4 41 = .ok (.iload_n 0, 1) ∧ 41 + 1 = 42 := ⟨by decide +kernel, rfl⟩
theorem iJ6_bitCount_42 : decode cJ6_bitCount_0f7a4 42 = .ok (.iload_n 0, 1) ∧ 42 + 1 = 43 := ⟨by decide +kernel, rfl⟩
theorem iJ6_bitCount_43 : decode cJ6_bitCount_0f7a4 43 = .ok (.bipush 16, 2) ∧ 43 + 2 = 45 := ⟨by decide +kernel, rfl⟩
theorem iJ6_bitCount_45 : decode cJ6_bitCount_0f7a4 45 = .ok (.iushr, 1) ∧ 45 + 1 = 46 := ⟨by decide +kernel, rfl⟩
theorem iJ6_bitCount_46 : decode cJ6_bitCount_0f7a4 46 = .ok (.iadd, 1) ∧ 46 + 1 = 47 := ⟨by decide +kernel, rfl⟩
theorem iJ6_bitCount_47 : decode cJ6_bitCount_0f7a4 47 = .ok (.istore_n 0, 1) ∧ 47 + 1 = 48 := ⟨by decide +kernel, rfl⟩
theorem iJ6_bitCount_48 : decode cJ6_bitCount_0f7a4 48 = .ok (.iload_n 0, 1) ∧ 48 + 1 = 49 := ⟨by decide +kernel, rfl⟩
theorem iJ6_bitCount_49 : decode cJ6_bitCount_0f7a4 49 = .ok (.bipush 63, 2) ∧ 49 + 2 = 51 := ⟨by decide +kernel, rfl⟩
theorem iJ6_bitCount_51 : decode cJ6_bitCount_0f7a4 51 = .ok (.iand, 1) ∧ 51 + 1 = 52 := ⟨by decide +kernel, rfl⟩
theorem iJ6_bitCount_52 : decode cJ6_bitCount_0f7a4 52 = .ok (.ireturn, 1) ∧ 52 + 1 = 53 := ⟨by decide +kernel, rfl⟩
theorem iJ0_length_0 : decode cJ0_length_8abf5 0 = .ok (.aload_n 0, 1) ∧ 0 + 1 = 1 := ⟨by decide +kernel, rfl⟩
theorem iJ0_length_1 : decode cJ0_length_8abf5 1 = .ok (.getfield 9, 3) ∧ 1 + 3 = 4 := ⟨by decide +kernel, rfl⟩
theorem iJ0_length_4 : decode cJ0_length_8abf5 4 = .ok (.arraylength, 1) ∧ 4 + 1 = 5 := ⟨by decide +kernel, rfl⟩
theorem iJ0_length_5 : decode cJ0_length_8abf5 5 = .ok (.aload_n 0, 1) ∧ 5 + 1 = 6 := ⟨by decide +kernel, rfl⟩
theorem iJ0_length_6 : decode cJ0_length_8abf5 6 = .ok (.invokevirtual 335, 3) ∧ 6 + 3 = 9 := ⟨by decide +kernel, rfl⟩
theorem iJ0_length_9 : decode cJ0_length_8abf5 9 = .ok (.ishr, 1) ∧ 9 + 1 = 10 := ⟨by decide +kernel, rfl⟩
theorem iJ0_length_10 : decode cJ0_length_8abf5 10 = .ok (.ireturn, 1) ∧ 10 + 1 = 11 := ⟨by decide +kernel, rfl⟩
theorem iJ0_indexOf1_0 : decode cJ0_indexOf_0f7a4 0 = .ok (.aload_n 0, 1) ∧ 0 + 1 = 1 := ⟨by decide +kernel, rfl⟩
theorem iJ0_indexOf1_1 : decode cJ0_indexOf_0f7a4 1 = .ok (.iload_n 1, 1) ∧ 1 + 1 = 2 := ⟨by decide +kernel, rfl⟩
theorem iJ0_indexOf1_2 : decode cJ0_indexOf_0f7a4 2 = .ok (.iconst 0, 1) ∧ 2 + 1 = 3 := ⟨by decide +kernel, rfl⟩
theorem iJ0_indexOf1_3 : decode cJ0_indexOf_0f7a4 3 = .ok (.invokevirtual 633, 3) ∧ 3 + 3 = 6 := ⟨by decide +kernel, rfl⟩
theorem iJ0_indexOf1_6 : decode cJ0_indexOf_0f7a4 6 = .ok (.ireturn, 1) ∧ 6 + 1 = 7 := ⟨by decide +kernel, rfl⟩
theorem iJ0_indexOf2_0 : decode cJ0_indexOf_7cf53 0 = .ok (.aload_n 0, 1) ∧ 0 + 1 = 1 := ⟨by decide +kernel, rfl⟩
theorem iJ0_indexOf2_1 : decode cJ0_indexOf_7cf53 1 = .ok (.invokevirtual 492, 3) ∧ 1 + 3 = 4 := ⟨by decide +kernel, rfl⟩
theorem iJ0_indexOf2_4 : decode cJ0_indexOf_7cf53 4 = .ok (.ifCond .eq 19, 3) ∧ 4 + 3 = 7 := ⟨by decide +kernel, rfl⟩
theorem iJ0_indexOf2_7 : decode cJ0_indexOf_7cf53 7 = .ok (.aload_n 0, 1) ∧ 7 + 1 = 8 := ⟨by decide +kernel, rfl⟩
theorem iJ0_indexOf2_8 : decode cJ0_indexOf_7cf53 8 = .ok (.getfield 9, 3) ∧ 8 + 3 = 11 := ⟨by decide +kernel, rfl⟩
theorem iJ0_indexOf2_11 : decode cJ0_indexOf_7cf53 11 = .ok (.iload_n 1, 1) ∧ 11 + 1 = 12 := ⟨by decide +kernel, rfl⟩
theorem iJ0_indexOf2_12 : decode cJ0_indexOf_7cf53 12 = .ok (.iload_n 2, 1) ∧ 12 + 1 = 13 := ⟨by decide +kernel, rfl⟩
theorem iJ0_indexOf2_13 : decode cJ0_indexOf_7cf53 13 = .ok (.aload_n 0, 1) ∧ 13 + 1 = 14 := ⟨by decide +kernel, rfl⟩
theorem iJ0_indexOf2_14 : decode cJ0_indexOf_7cf53 14 = .ok (.invokevirtual 505, 3) ∧ 14 + 3 = 17 := ⟨by decide +kernel, rfl⟩
theorem iJ0_indexOf2_17 : decode cJ0_indexOf_7cf53 17 = .ok (.invokestatic 637, 3) ∧ 17 + 3 = 20 := ⟨by decide +kernel, rfl⟩
theorem iJ0_indexOf2_20 : decode cJ0_indexOf_7cf53 20 = .ok (.goto 16, 3) ∧ 20 + 3 = 23 := ⟨by decide +kernel, rfl⟩
theorem iJ0_indexOf2_23 : decode cJ0_indexOf_7cf53 23 = .ok (.aload_n 0, 1) ∧ 23 + 1 = 24 := ⟨by decide +kernel, rfl⟩
theorem iJ0_indexOf2_24 : decode cJ0_indexOf_7cf53 24 = .ok (.getfield 9, 3) ∧ 24 + 3 = 27 := ⟨by decide +kernel, rfl⟩
theorem iJ0_indexOf2_27 : decode cJ0_indexOf_7cf53 27 = .ok (.iload_n 1, 1) ∧ 27 + 1 = 28 := ⟨by decide +kernel, rfl⟩
theorem iJ0_indexOf2_28 : decode cJ0_indexOf_7cf53 28 = .ok (.iload_n 2, 1) ∧ 28 + 1 = 29 := ⟨by decide +kernel, rfl⟩
theorem iJ0_indexOf2_29 : decode cJ0_indexOf_7cf53 29 = .ok (.aload_n 0, 1) ∧ 29 + 1 = 30 := ⟨by decide +kernel, rfl⟩
theorem iJ0_indexOf2_30 : decode cJ0_indexOf_7cf53 30 = .ok (.invokevirtual 505, 3) ∧ 30 + 3 = 33 := ⟨by decide +kernel, rfl⟩
theorem iJ0_indexOf2_33 : decode cJ0_indexOf_7cf53 33 = .ok (.invokestatic 640, 3) ∧ 33 + 3 = 36 := ⟨by decide +kernel, rfl⟩
theorem iJ0_indexOf2_36 : decode cJ0_indexOf_7cf53 36 = .ok (.ireturn, 1) ∧ 36 + 1 = 37 := ⟨by decide +kernel, rfl⟩
theorem iJ0_coder_0 : decode cJ0_coder_7d493 0 = .ok (.getstatic 38, 3) ∧ 0 + 3 = 3 := ⟨by decide +kernel, rfl⟩
theorem iJ0_coder_3 : decode cJ0_coder_7d493 3 = .ok (.ifCond .eq 10, 3) ∧ 3 + 3 = 6 := ⟨by decide +kernel, rfl⟩
theorem iJ0_coder_6 : decode cJ0_coder_7d493 6 = .ok (.aload_n 0, 1) ∧ 6 + 1 = 7 := ⟨by decide +kernel, rfl⟩
theorem iJ0_coder_7 : decode cJ0_coder_7d493 7 = .ok (.getfield 15, 3) ∧ 7 + 3 = 10 := ⟨by decide +kernel, rfl⟩
theorem iJ0_coder_10 : decode cJ0_coder_7d493 10 = .ok (.goto 4, 3) ∧ 10 + 3 = 13 := ⟨by decide +kernel, rfl⟩
theorem iJ0_coder_13 : decode cJ0_coder_7d493 13 = .ok (.iconst 1, 1) ∧ 13 + 1 = 14 := ⟨by decide +kernel, rfl⟩
theorem iJ0_coder_14 : decode cJ0_coder_7d493 14 = .ok (.ireturn, 1) ∧ 14 + 1 = 15 := ⟨by decide +kernel, rfl⟩
theorem iJ0_isLatin1_0 : decode cJ0_isLatin1_aae02 0 = .ok (.getstatic 38, 3) ∧ 0 + 3 = 3 := ⟨by decide +kernel, rfl⟩
theorem iJ0_isLatin1_3 : decode cJ0_isLatin1_aae02 3 = .ok (.ifCond .eq 14, 3) ∧ 3 + 3 = 6 := ⟨by decide +kernel, rfl⟩
theorem iJ0_isLatin1_6 : decode cJ0_isLatin1_aae02 6 = .ok (.aload_n 0, 1) ∧ 6 + 1 = 7 := ⟨by decide +kernel, rfl⟩
theorem iJ0_isLatin1_7 : decode cJ0_isLatin1_aae02 7 = .ok (.getfield 15, 3) ∧ 7 + 3 = 10 := ⟨by decide +kernel, rfl⟩
theorem iJ0_isLatin1_10 : decode cJ0_isLatin1_aae02 10 = .ok (.ifCond .ne 7, 3) ∧ 10 + 3 = 13 := ⟨by decide +kernel, rfl⟩
theorem iJ0_isLatin1_13 : decode cJ0_isLatin1_aae02 13 = .ok (.iconst 1, 1) ∧ 13 + 1 = 14 := ⟨by decide +kernel, rfl⟩
theorem iJ0_isLatin1_14 : decode cJ0_isLatin1_aae02 14 = .ok (.goto 4, 3) ∧ 14 + 3 = 17 := ⟨by decide +kernel, rfl⟩
theorem iJ0_isLatin1_17 : decode cJ0_isLatin1_aae02 17 = .ok (.iconst 0, 1) ∧ 17 + 1 = 18 := ⟨by decide +kernel, rfl⟩
theorem iJ0_isLatin1_18 : decode cJ0_isLatin1_aae02 18 = .ok (.ireturn, 1) ∧ 18 + 1 = 19 := ⟨by decide +kernel, rfl⟩
theorem iJ0_checkBoundsBeginEnd_0 : decode cJ0_checkBoundsBeginEnd_23922 0 = .ok (.iload_n 0, 1) ∧ 0 + 1 = 1 := ⟨by decide +kernel, rfl⟩
theorem iJ0_checkBoundsBeginEnd_1 : decode cJ0_checkBoundsBeginEnd_23922 1 = .ok (.iload_n 1, 1) ∧ 1 + 1 = 2 := ⟨by decide +kernel, rfl⟩
theorem iJ0_checkBoundsBeginEnd_2 : decode cJ0_checkBoundsBeginEnd_23922 2 = .ok (.iload_n 2, 1) ∧ 2 + 1 = 3 := ⟨by decide +kernel, rfl⟩
theorem iJ0_checkBoundsBeginEnd_3 : decode cJ0_checkBoundsBeginEnd_23922 3 = .ok (.getstatic 1053, 3) ∧ 3 + 3 = 6 := ⟨by decide +kernel, rfl⟩
theorem iJ0_checkBoundsBeginEnd_6 : decode cJ0_checkBoundsBeginEnd_23922 6 = .ok (.invokestatic 1062, 3) ∧ 6 + 3 = 9 := ⟨by decide +kernel, rfl⟩
theorem iJ0_checkBoundsBeginEnd_9 : decode cJ0_checkBoundsBeginEnd_23922 9 = .ok (.pop, 1) ∧ 9 + 1 = 10 := ⟨by decide +kernel, rfl⟩
theorem iJ0_checkBoundsBeginEnd_10 : decode cJ0_checkBoundsBeginEnd_23922 10 = .ok (.return_, 1) ∧ 10 + 1 = 11 := ⟨by decide +kernel, rfl⟩
theorem iJ1_canEncode_0 : decode cJ1_canEncode_9a6ad 0 = .ok (.iload_n 0, 1) ∧ 0 + 1 = 1 := ⟨by decide +kernel, rfl⟩
theorem iJ1_canEncode_1 : decode cJ1_canEncode_9a6ad 1 = .ok (.ifCond .lt 14, 3) ∧ 1 + 3 = 4 := ⟨by decide +kernel, rfl⟩
theorem iJ1_canEncode_4 : decode cJ1_canEncode_9a6ad 4 = .ok (.iload_n 0, 1) ∧ 4 + 1 = 5 := ⟨by decide +kernel, rfl⟩
theorem iJ1_canEncode_5 : decode cJ1_canEncode_9a6ad 5 = .ok (.sipush 255, 3) ∧ 5 + 3 = 8 := ⟨by decide +kernel, rfl⟩
theorem iJ1_canEncode_8 : decode cJ1_canEncode_9a6ad 8 = .ok (.if_icmp .gt 7, 3) ∧ 8 + 3 = 11 := ⟨by decide +kernel, rfl⟩
theorem iJ1_canEncode_11 : decode cJ1_canEncode_9a6ad 11 = .ok (.iconst 1, 1) ∧ 11 + 1 = 12 := ⟨by decide +kernel, rfl⟩
theorem iJ1_canEncode_12 : decode cJ1_canEncode_9a6ad 12 = .ok (.goto 4, 3) ∧ 12 + 3 = 15 := ⟨by decide +kernel, rfl⟩
theorem iJ1_canEncode_15 : decode cJ1_canEncode_9a6ad 15 = .ok (.iconst 0, 1) ∧ 15 + 1 = 16 := ⟨by decide +kernel, rfl⟩
theorem iJ1_canEncode_16 : decode cJ1_canEncode_9a6ad 16 = .ok (.ireturn, 1) ∧ 16 + 1 = 17 := ⟨by decide +kernel, rfl⟩
theorem iJ1_indexOf_0 : decode cJ1_indexOf_4cfef 0 = .ok (.iload_n 1, 1) ∧ 0 + 1 = 1 := ⟨by decide +kernel, rfl⟩
theorem iJ1_indexOf_1 : decode cJ1_indexOf_4cfef 1 = .ok (.invokestatic 88, 3) ∧ 1 + 3 = 4 := ⟨by decide +kernel, rfl⟩
theorem iJ1_indexOf_4 : decode cJ1_indexOf_4cfef 4 = .ok (.ifCond .ne 5, 3) ∧ 4 + 3 = 7 := ⟨by decide +kernel, rfl⟩
theorem iJ1_indexOf_7 : decode cJ1_indexOf_4cfef 7 = .ok (.iconst (-1), 1) ∧ 7 + 1 = 8 := ⟨by decide +kernel, rfl⟩
theorem iJ1_indexOf_8 : decode cJ1_indexOf_4cfef 8 = .ok (.ireturn, 1) ∧ 8 + 1 = 9 := ⟨by decide +kernel, rfl⟩
theorem iJ1_indexOf_9 : decode cJ1_indexOf_4cfef 9 = .ok (.iload_n 2, 1) ∧ 9 + 1 = 10 := ⟨by decide +kernel, rfl⟩
theorem iJ1_indexOf_10 : decode cJ1_indexOf_4cfef 10 = .ok (.iconst 0, 1) ∧ 10 + 1 = 11 := ⟨by decide +kernel, rfl⟩
theorem iJ1_indexOf_11 : decode cJ1_indexOf_4cfef 11 = .ok (.invokestatic 92, 3) ∧ 11 + 3 = 14 := ⟨by decide +kernel, rfl⟩
theorem iJ1_indexOf_14 : decode cJ1_indexOf_4cfef 14 = .ok (.istore_n 2, 1) ∧ 14 + 1 = 15 := ⟨by decide +kernel, rfl⟩
theorem iJ1_indexOf_15 : decode cJ1_indexOf_4cfef 15 = .ok (.iload_n 3, 1) ∧ 15 + 1 = 16 := ⟨by decide +kernel, rfl⟩
theorem iJ1_indexOf_16 : decode cJ1_indexOf_4cfef 16 = .ok (.aload_n 0, 1) ∧ 16 + 1 = 17 := ⟨by decide +kernel, rfl⟩
theorem iJ1_indexOf_17 : decode cJ1_indexOf_4cfef 17 = .ok (.arraylength, 1) ∧ 17 + 1 = 18 := ⟨by decide +kernel, rfl⟩
theorem iJ1_indexOf_18 : decode cJ1_indexOf_4cfef 18 = .ok (.invokestatic 38, 3) ∧ 18 + 3 = 21 := ⟨by decide +kernel, rfl⟩
theorem iJ1_indexOf_21 : decode cJ1_indexOf_4cfef 21 = .ok (.istore_n 3, 1) ∧ 21 + 1 = 22 := ⟨by decide +kernel, rfl⟩
theorem iJ1_indexOf_22 : decode cJ1_indexOf_4cfef 22 = .ok (.iload_n 2, 1) ∧ 22 + 1 = 23 := ⟨by decide +kernel, rfl⟩
theorem iJ1_indexOf_23 : decode cJ1_indexOf_4cfef 23 = .ok (.iload_n 3, 1) ∧ 23 + 1 = 24 := ⟨by decide +kernel, rfl⟩
theorem iJ1_indexOf_24 : decode cJ1_indexOf_4cfef 24 = .ok (.if_icmp .lt 5, 3) ∧ 24 + 3 = 27 := ⟨by decide +kernel, rfl⟩
theorem iJ1_indexOf_27 : decode cJ1_indexOf_4cfef 27 = .ok (.iconst (-1), 1) ∧ 27 + 1 = 28 := ⟨by decide +kernel, rfl⟩
theorem iJ1_indexOf_28 : decode cJ1_indexOf_4cfef 28 = .ok (.ireturn, 1) ∧ 28 + 1 = 29 := ⟨by decide +kernel, rfl⟩
theorem iJ1_indexOf_29 : decode cJ1_indexOf_4cfef 29 = .ok (.aload_n 0, 1) ∧ 29 + 1 = 30 := ⟨by decide +kernel, rfl⟩
theorem iJ1_indexOf_30 : decode cJ1_indexOf_4cfef 30 = .ok (.iload_n 1, 1) ∧ 30 + 1 = 31 := ⟨by decide +kernel, rfl⟩
theorem iJ1_indexOf_31 : decode cJ1_indexOf_4cfef 31 = .ok (.iload_n 2, 1) ∧ 31 + 1 = 32 := ⟨by decide +kernel, rfl⟩
theorem iJ1_indexOf_32 : decode cJ1_indexOf_4cfef 32 = .ok (.iload_n 3, 1) ∧ 32 + 1 = 33 := ⟨by decide +kernel, rfl⟩
theorem iJ1_indexOf_33 : decode cJ1_indexOf_4cfef 33 = .ok (.invokestatic 95, 3) ∧ 33 + 3 = 36 := ⟨by decide +kernel, rfl⟩
theorem iJ1_indexOf_36 : decode cJ1_indexOf_4cfef 36 = .ok (.ireturn, 1) ∧ 36 + 1 = 37 := ⟨by decide +kernel, rfl⟩
theorem iJ1_indexOfChar_0 : decode cJ1_indexOfChar_4cfef 0 = .ok (.iload_n 1, 1) ∧ 0 + 1 = 1 := ⟨by decide +kernel, rfl⟩
theorem iJ1_indexOfChar_1 : decode cJ1_indexOfChar_4cfef 1 = .ok (.i2b, 1) ∧ 1 + 1 = 2 := ⟨by decide +kernel, rfl⟩
theorem iJ1_indexOfChar_2 : decode cJ1_indexOfChar_4cfef 2 = .ok (.istore 4, 2) ∧ 2 + 2 = 4 := ⟨by decide +kernel, rfl⟩
theorem iJ1_indexOfChar_4 : decode cJ1_indexOfChar_4cfef 4 = .ok (.iload_n 2, 1) ∧ 4 + 1 = 5 := ⟨by decide +kernel, rfl⟩
theorem iJ1_indexOfChar_5 : decode cJ1_indexOfChar_4cfef 5 = .ok (.istore 5, 2) ∧ 5 + 2 = 7 := ⟨by decide +kernel, rfl⟩
theorem iJ1_indexOfChar_7 : decode cJ1_indexOfChar_4cfef 7 = .ok (.iload 5, 2) ∧ 7 + 2 = 9 := ⟨by decide +kernel, rfl⟩
theorem iJ1_indexOfChar_9 : decode cJ1_indexOfChar_4cfef 9 = .ok (.iload_n 3, 1) ∧ 9 + 1 = 10 := ⟨by decide +kernel, rfl⟩
theorem iJ1_indexOfChar_10 : decode cJ1_indexOfChar_4cfef 10 = .ok (.if_icmp .ge 21, 3) ∧ 10 + 3 = 13 := ⟨by decide +kernel, rfl⟩
theorem iJ1_indexOfChar_13 : decode cJ1_indexOfChar_4cfef 13 = .ok (.aload_n 0, 1) ∧ 13 + 1 = 14 := ⟨by decide +kernel, rfl⟩
theorem iJ1_indexOfChar_14 : decode cJ1_indexOfChar_4cfef 14 = .ok (.iload 5, 2) ∧ 14 + 2 = 16 := ⟨by decide +kernel, rfl⟩
theorem iJ1_indexOfChar_16 : decode cJ1_indexOfChar_4cfef 16 = .ok (.baload, 1) ∧ 16 + 1 = 17 := ⟨by decide +kernel, rfl⟩
theorem iJ1_indexOfChar_17 : decode cJ1_indexOfChar_4cfef 17 = .ok (.iload 4, 2) ∧ 17 + 2 = 19 := ⟨by decide +kernel, rfl⟩
theorem iJ1_indexOfChar_19 : decode cJ1_indexOfChar_4cfef 19 = .ok (.if_icmp .ne 6, 3) ∧ 19 + 3 = 22 := ⟨by decide +kernel, rfl⟩
theorem iJ1_indexOfChar_22 : decode cJ1_indexOfChar_4cfef 22 = .ok (.iload 5, 2) ∧ 22 + 2 = 24 := ⟨by decide +kernel, rfl⟩
theorem iJ1_indexOfChar_24 : decode cJ1_indexOfChar_4cfef 24 = .ok (.ireturn, 1) ∧ 24 + 1 = 25 := ⟨by decide +kernel, rfl⟩
theorem iJ1_indexOfChar_25 : decode cJ1_indexOfChar_4cfef 25 = .ok (.iinc 5 1, 3) ∧ 25 + 3 = 28 := ⟨by decide +kernel, rfl⟩
theorem iJ1_indexOfChar_28 : decode cJ1_indexOfChar_4cfef 28 = .ok (.goto (-21), 3) ∧ 28 + 3 = 31 := ⟨by decide +kernel, rfl⟩
theorem iJ1_indexOfChar_31 : decode cJ1_indexOfChar_4cfef 31 = .ok (.iconst (-1), 1) ∧ 31 + 1 = 32 := ⟨by decide +kernel, rfl⟩
theorem iJ1_indexOfChar_32 : decode cJ1_indexOfChar_4cfef 32 = .ok (.ireturn, 1) ∧ 32 + 1 = 33 := ⟨by decide +kernel, rfl⟩
theorem iJ2_getChar_0 : decode cJ2_getChar_3b067 0 = .ok (.getstatic 44, 3) ∧ 0 + 3 = 3 := ⟨by decide +kernel, rfl⟩
theorem iJ2_getChar_3 : decode cJ2_getChar_3b067 3 = .ok (.ifCond .ne 25, 3) ∧ 3 + 3 = 6 := ⟨by decide +kernel, rfl⟩
theorem iJ2_getChar_6 : decode cJ2_getChar_3b067 6 = .ok (.iload_n 1, 1) ∧ 6 + 1 = 7 := ⟨by decide +kernel, rfl⟩
theorem iJ2_getChar_7 : decode cJ2_getChar_3b067 7 = .ok (.ifCond .lt 11, 3) ∧ 7 + 3 = 10 := ⟨by decide +kernel, rfl⟩
theorem iJ2_getChar_10 : decode cJ2_getChar_3b067 10 = .ok (.iload_n 1, 1) ∧ 10 + 1 = 11 := ⟨by decide +kernel, rfl⟩
theorem iJ2_getChar_11 : decode cJ2_getChar_3b067 11 = .ok (.aload_n 0, 1) ∧ 11 + 1 = 12 := ⟨by decide +kernel, rfl⟩
theorem iJ2_getChar_12 : decode cJ2_getChar_3b067 12 = .ok (.invokestatic 48, 3) ∧ 12 + 3 = 15 := ⟨by decide +kernel, rfl⟩
theorem iJ2_getChar_15 : decode cJ2_getChar_3b067 15 = .ok (.if_icmp .lt 13, 3) ∧ 15 + 3 = 18 := ⟨by decide +kernel, rfl⟩
theorem iJ2_getChar_18 : decode cJ2_getChar_3b067 18 = .ok (.new 52, 3) ∧ 18 + 3 = 21 := ⟨by decide +kernel, rfl⟩
theorem iJ2_getChar_21 : decode cJ2_getChar_3b067 21 = .ok (.dup, 1) ∧ 21 + 1 = 22 := ⟨by decide +kernel, rfl⟩
theorem iJ2_getChar_22 : decode cJ2_getChar_3b067 22 = .ok (.ldc 54, 2) ∧ 22 + 2 = 24 := ⟨by decide +kernel, rfl⟩
theorem iJ2_getChar_24 : decode cJ2_getChar_3b067 24 = .ok (.invokespecial 56, 3) ∧ 24 + 3 = 27 := ⟨by decide +kernel, rfl⟩
theorem iJ2_getChar_27 : decode cJ2_getChar_3b067 27 = .ok (.athrow, 1) ∧ 27 + 1 = 28 := ⟨by decide +kernel, rfl⟩
theorem iJ2_getChar_28 : decode cJ2_getChar_3b067 28 = .ok (.iload_n 1, 1) ∧ 28 + 1 = 29 := ⟨by decide +kernel, rfl⟩
theorem iJ2_getChar_29 : decode cJ2_getChar_3b067 29 = .ok (.iconst 1, 1) ∧ 29 + 1 = 30 := ⟨by decide +kernel, rfl⟩
theorem iJ2_getChar_30 : decode cJ2_getChar_3b067 30 = .ok (.ishl, 1) ∧ 30 + 1 = 31 := ⟨by decide +kernel, rfl⟩
theorem iJ2_getChar_31 : decode cJ2_getChar_3b067 31 = .ok (.istore_n 1, 1) ∧ 31 + 1 = 32 := ⟨by decide +kernel, rfl⟩
theorem iJ2_getChar_32 : decode cJ2_getChar_3b067 32 = .ok (.aload_n 0, 1) ∧ 32 + 1 = 33 := ⟨by decide +kernel, rfl⟩
theorem iJ2_getChar_33 : decode cJ2_getChar_3b067 33 = .ok (.iload_n 1, 1) ∧ 33 + 1 = 34 := ⟨by decide +kernel, rfl⟩
theorem iJ2_getChar_34 : decode cJ2_getChar_3b067 34 = .ok (.iinc 1 1, 3) ∧ 34 + 3 = 37 := ⟨by decide +kernel, rfl⟩
theorem iJ2_getChar_37 : decode cJ2_getChar_3b067 37 = .ok (.baload, 1) ∧ 37 + 1 = 38 := ⟨by decide +kernel, rfl⟩
theorem iJ2_getChar_38 : decode cJ2_getChar_3b067 38 = .ok (.sipush 255, 3) ∧ 38 + 3 = 41 := ⟨by decide +kernel, rfl⟩
theorem iJ2_getChar_41 : decode cJ2_getChar_3b067 41 = .ok (.iand, 1) ∧ 41 + 1 = 42 := ⟨by decide +kernel, rfl⟩
theorem iJ2_getChar_42 : decode cJ2_getChar_3b067 42 = .ok (.getstatic 59, 3) ∧ 42 + 3 = 45 := ⟨by decide +kernel, rfl⟩
theorem iJ2_getChar_45 : decode cJ2_getChar_3b067 45 = .ok (.ishl, 1) ∧ 45 + 1 = 46 := ⟨by decide +kernel, rfl⟩
theorem iJ2_getChar_46 : decode cJ2_getChar_3b067 46 = .ok (.aload_n 0, 1) ∧ 46 + 1 = 47 := ⟨by decide +kernel, rfl⟩
theorem iJ2_getChar_47 : decode cJ2_getChar_3b067 47 = .ok (.iload_n 1, 1) ∧ 47 + 1 = 48 := ⟨by decide +kernel, rfl⟩
theorem iJ2_getChar_48 : decode cJ2_getChar_3b067 48 = .ok (.baload, 1) ∧ 48 + 1 = 49 := ⟨by decide +kernel, rfl⟩
theorem iJ2_getChar_49 : decode cJ2_getChar_3b067 49 = .ok (.sipush 255, 3) ∧ 49 + 3 = 52 := ⟨by decide +kernel, rfl⟩
theorem iJ2_getChar_52 : decode cJ2_getChar_3b067 52 = .ok (.iand, 1) ∧ 52 + 1 = 53 := ⟨by decide +kernel, rfl⟩
theorem iJ2_getChar_53 : decode cJ2_getChar_3b067 53 = .ok (.getstatic 63, 3) ∧ 53 + 3 = 56 := ⟨by decide +kernel, rfl⟩
theorem iJ2_getChar_56 : decode cJ2_getChar_3b067 56 = .ok (.ishl, 1) ∧ 56 + 1 = 57 := ⟨by decide +kernel, rfl⟩
theorem iJ2_getChar_57 : decode cJ2_getChar_3b067 57 = .ok (.ior, 1) ∧ 57 + 1 = 58 := ⟨by decide +kernel, rfl⟩
theorem iJ2_getChar_58 : decode cJ2_getChar_3b067 58 = .ok (.i2c, 1) ∧ 58 + 1 = 59 := ⟨by decide +kernel, rfl⟩
theorem iJ2_getChar_59 : decode cJ2_getChar_3b067 59 = .ok (.ireturn, 1) ∧ 59 + 1 = 60 := ⟨by decide +kernel, rfl⟩
theorem iJ2_length_0 : decode cJ2_length_9d52b 0 = .ok (.aload_n 0, 1) ∧ 0 + 1 = 1 := ⟨by decide +kernel, rfl⟩
theorem iJ2_length_1 : decode cJ2_length_9d52b 1 = .ok (.arraylength, 1) ∧ 1 + 1 = 2 := ⟨by decide +kernel, rfl⟩
theorem iJ2_length_2 : decode cJ2_length_9d52b 2 = .ok (.iconst 1, 1) ∧ 2 + 1 = 3 := ⟨by decide +kernel, rfl⟩
theorem iJ2_length_3 : decode cJ2_length_9d52b 3 = .ok (.ishr, 1) ∧ 3 + 1 = 4 := ⟨by decide +kernel, rfl⟩
theorem iJ2_length_4 : decode cJ2_length_9d52b 4 = .ok (.ireturn, 1) ∧ 4 + 1 = 5 := ⟨by decide +kernel, rfl⟩
theorem iJ2_indexOf_0 : decode cJ2_indexOf_4cfef 0 = .ok (.iload_n 2, 1) ∧ 0 + 1 = 1 := ⟨by decide +kernel, rfl⟩
theorem iJ2_indexOf_1 : decode cJ2_indexOf_4cfef 1 = .ok (.iconst 0, 1) ∧ 1 + 1 = 2 := ⟨by decide +kernel, rfl⟩
theorem iJ2_indexOf_2 : decode cJ2_indexOf_4cfef 2 = .ok (.invokestatic 224, 3) ∧ 2 + 3 = 5 := ⟨by decide +kernel, rfl⟩
theorem iJ2_indexOf_5 : decode cJ2_indexOf_4cfef 5 = .ok (.istore_n 2, 1) ∧ 5 + 1 = 6 := ⟨by decide +kernel, rfl⟩
theorem iJ2_indexOf_6 : decode cJ2_indexOf_4cfef 6 = .ok (.iload_n 3, 1) ∧ 6 + 1 = 7 := ⟨by decide +kernel, rfl⟩
theorem iJ2_indexOf_7 : decode cJ2_indexOf_4cfef 7 = .ok (.aload_n 0, 1) ∧ 7 + 1 = 8 := ⟨by decide +kernel, rfl⟩
theorem iJ2_indexOf_8 : decode cJ2_indexOf_4cfef 8 = .ok (.arraylength, 1) ∧ 8 + 1 = 9 := ⟨by decide +kernel, rfl⟩
theorem iJ2_indexOf_9 : decode cJ2_indexOf_4cfef 9 = .ok (.iconst 1, 1) ∧ 9 + 1 = 10 := ⟨by decide +kernel, rfl⟩
theorem iJ2_indexOf_10 : decode cJ2_indexOf_4cfef 10 = .ok (.ishr, 1) ∧ 10 + 1 = 11 := ⟨by decide +kernel, rfl⟩
theorem iJ2_indexOf_11 : decode cJ2_indexOf_4cfef 11 = .ok (.invokestatic 183, 3) ∧ 11 + 3 = 14 := ⟨by decide +kernel, rfl⟩
theorem iJ2_indexOf_14 : decode cJ2_indexOf_4cfef 14 = .ok (.istore_n 3, 1) ∧ 14 + 1 = 15 := ⟨by decide +kernel, rfl⟩
theorem iJ2_indexOf_15 : decode cJ2_indexOf_4cfef 15 = .ok (.iload_n 2, 1) ∧ 15 + 1 = 16 := ⟨by decide +kernel, rfl⟩
theorem iJ2_indexOf_16 : decode cJ2_indexOf_4cfef 16 = .ok (.iload_n 3, 1) ∧ 16 + 1 = 17 := ⟨by decide +kernel, rfl⟩
theorem iJ2_indexOf_17 : decode cJ2_indexOf_4cfef 17 = .ok (.if_icmp .lt 5, 3) ∧ 17 + 3 = 20 := ⟨by decide +kernel, rfl⟩
theorem iJ2_indexOf_20 : decode cJ2_indexOf_4cfef 20 = .ok (.iconst (-1), 1) ∧ 20 + 1 = 21 := ⟨by decide +kernel, rfl⟩
theorem iJ2_indexOf_21 : decode cJ2_indexOf_4cfef 21 = .ok (.ireturn, 1) ∧ 21 + 1 = 22 := ⟨by decide +kernel, rfl⟩
theorem iJ2_indexOf_22 : decode cJ2_indexOf_4cfef 22 = .ok (.iload_n 1, 1) ∧ 22 + 1 = 23 := ⟨by decide +kernel, rfl⟩
theorem iJ2_indexOf_23 : decode cJ2_indexOf_4cfef 23 = .ok (.ldc 227, 2) ∧ 23 + 2 = 25 := ⟨by decide +kernel, rfl⟩
theorem iJ2_indexOf_25 : decode cJ2_indexOf_4cfef 25 = .ok (.if_icmp .ge 11, 3) ∧ 25 + 3 = 28 := ⟨by decide +kernel, rfl⟩
theorem iJ2_indexOf_28 : decode cJ2_indexOf_4cfef 28 = .ok (.aload_n 0, 1) ∧ 28 + 1 = 29 := ⟨by decide +kernel, rfl⟩
theorem iJ2_indexOf_29 : decode cJ2_indexOf_4cfef 29 = .ok (.iload_n 1, 1) ∧ 29 + 1 = 30 := ⟨by decide +kernel, rfl⟩
theorem iJ2_indexOf_30 : decode cJ2_indexOf_4cfef 30 = .ok (.iload_n 2, 1) ∧ 30 + 1 = 31 := ⟨by decide +kernel, rfl⟩
theorem iJ2_indexOf_31 : decode cJ2_indexOf_4cfef 31 = .ok (.iload_n 3, 1) ∧ 31 + 1 = 32 := ⟨by decide +kernel, rfl⟩
theorem iJ2_indexOf_32 : decode cJ2_indexOf_4cfef 32 = .ok (.invokestatic 228, 3) ∧ 32 + 3 = 35 := ⟨by decide +kernel, rfl⟩
theorem iJ2_indexOf_35 : decode cJ2_indexOf_4cfef 35 = .ok (.ireturn, 1) ∧ 35 + 1 = 36 := ⟨by decide +kernel, rfl⟩
theorem iJ2_indexOf_36 : decode cJ2_indexOf_4cfef 36 = .ok (.aload_n 0, 1) ∧ 36 + 1 = 37 := ⟨by decide +kernel, rfl⟩
theorem iJ2_indexOf_37 : decode cJ2_indexOf_4cfef 37 = .ok (.iload_n 1, 1) ∧ 37 + 1 = 38 := ⟨by decide +kernel, rfl⟩
theorem iJ2_indexOf_38 : decode cJ2_indexOf_4cfef 38 = .ok (.iload_n 2, 1) ∧ 38 + 1 = 39 := ⟨by decide +kernel, rfl⟩
theorem iJ2_indexOf_39 : decode cJ2_indexOf_4cfef 39 = .ok (.iload_n 3, 1) ∧ 39 + 1 = 40 := ⟨by decide +kernel, rfl⟩
theorem iJ2_indexOf_40 : decode cJ2_indexOf_4cfef 40 = .ok (.invokestatic 232, 3) ∧ 40 + 3 = 43 := ⟨by decide +kernel, rfl⟩
theorem iJ2_indexOf_43 : decode cJ2_indexOf_4cfef 43 = .ok (.ireturn, 1) ∧ 43 + 1 = 44 := ⟨by decide +kernel, rfl⟩
theorem iJ2_indexOfChar_0 : decode cJ2_indexOfChar_4cfef 0 = .ok (.iload_n 2, 1) ∧ 0 + 1 = 1 := ⟨by decide +kernel, rfl⟩
theorem iJ2_indexOfChar_1 : decode cJ2_indexOfChar_4cfef 1 = .ok (.iload_n 3, 1) ∧ 1 + 1 = 2 := ⟨by decide +kernel, rfl⟩
theorem iJ2_indexOfChar_2 : decode cJ2_indexOfChar_4cfef 2 = .ok (.aload_n 0, 1) ∧ 2 + 1 = 3 := ⟨by decide +kernel, rfl⟩
theorem iJ2_indexOfChar_3 : decode cJ2_indexOfChar_4cfef 3 = .ok (.invokestatic 96, 3) ∧ 3 + 3 = 6 := ⟨by decide +kernel, rfl⟩
theorem iJ2_indexOfChar_6 : decode cJ2_indexOfChar_4cfef 6 = .ok (.aload_n 0, 1) ∧ 6 + 1 = 7 := ⟨by decide +kernel, rfl⟩
theorem iJ2_indexOfChar_7 : decode cJ2_indexOfChar_4cfef 7 = .ok (.iload_n 1, 1) ∧ 7 + 1 = 8 := ⟨by decide +kernel, rfl⟩
theorem iJ2_indexOfChar_8 : decode cJ2_indexOfChar_4cfef 8 = .ok (.iload_n 2, 1) ∧ 8 + 1 = 9 := ⟨by decide +kernel, rfl⟩
theorem iJ2_indexOfChar_9 : decode cJ2_indexOfChar_4cfef 9 = .ok (.iload_n 3, 1) ∧ 9 + 1 = 10 := ⟨by decide +kernel, rfl⟩
theorem iJ2_indexOfChar_10 : decode cJ2_indexOfChar_4cfef 10 = .ok (.invokestatic 244, 3) ∧ 10 + 3 = 13 := ⟨by decide +kernel, rfl⟩
theorem iJ2_indexOfChar_13 : decode cJ2_indexOfChar_4cfef 13 = .ok (.ireturn, 1) ∧ 13 + 1 = 14 := ⟨by decide +kernel, rfl⟩
theorem iJ2_indexOfCharUnsafe_0 : decode cJ2_indexOfCharUnsafe_4cfef 0 = .ok (.iload_n 2, 1) ∧ 0 + 1 = 1 := ⟨by decide +kernel, rfl⟩
theorem iJ2_indexOfCharUnsafe_1 : decode cJ2_indexOfCharUnsafe_4cfef 1 = .ok (.istore 4, 2) ∧ 1 + 2 = 3 := ⟨by decide +kernel, rfl⟩
theorem iJ2_indexOfCharUnsafe_3 : decode cJ2_indexOfCharUnsafe_4cfef 3 = .ok (.iload 4, 2) ∧ 3 + 2 = 5 := ⟨by decide +kernel, rfl⟩
theorem iJ2_indexOfCharUnsafe_5 : decode cJ2_indexOfCharUnsafe_4cfef 5 = .ok (.iload_n 3, 1) ∧ 5 + 1 = 6 := ⟨by decide +kernel, rfl⟩
theorem iJ2_indexOfCharUnsafe_6 : decode cJ2_indexOfCharUnsafe_4cfef 6 = .ok (.if_icmp .ge 22, 3) ∧ 6 + 3 = 9 := ⟨by decide +kernel, rfl⟩
theorem iJ2_indexOfCharUnsafe_9 : decode cJ2_indexOfCharUnsafe_4cfef 9 = .ok (.aload_n 0, 1) ∧ 9 + 1 = 10 := ⟨by decide +kernel, rfl⟩
theorem iJ2_indexOfCharUnsafe_10 : decode cJ2_indexOfCharUnsafe_4cfef 10 = .ok (.iload 4, 2) ∧ 10 + 2 = 12 := ⟨by decide +kernel, rfl⟩
theorem iJ2_indexOfCharUnsafe_12 : decode cJ2_indexOfCharUnsafe_4cfef 12 = .ok (.invokestatic 71, 3) ∧ 12 + 3 = 15 := ⟨by decide +kernel, rfl⟩
theorem iJ2_indexOfCharUnsafe_15 : decode cJ2_indexOfCharUnsafe_4cfef 15 = .ok (.iload_n 1, 1) ∧ 15 + 1 = 16 := ⟨by decide +kernel, rfl⟩
theorem iJ2_indexOfCharUnsafe_16 : decode cJ2_indexOfCharUnsafe_4cfef 16 = .ok (.if_icmp .ne 6, 3) ∧ 16 + 3 = 19 := ⟨by decide +kernel, rfl⟩
theorem iJ2_indexOfCharUnsafe_19 : decode cJ2_indexOfCharUnsafe_4cfef 19 = .ok (.iload 4, 2) ∧ 19 + 2 = 21 := ⟨by decide +kernel, rfl⟩
theorem iJ2_indexOfCharUnsafe_21 : decode cJ2_indexOfCharUnsafe_4cfef 21 = .ok (.ireturn, 1) ∧ 21 + 1 = 22 := ⟨by decide +kernel, rfl⟩
theorem iJ2_indexOfCharUnsafe_22 : decode cJ2_indexOfCharUnsafe_4cfef 22 = .ok (.iinc 4 1, 3) ∧ 22 + 3 = 25 := ⟨by decide +kernel, rfl⟩
theorem iJ2_indexOfCharUnsafe_25 : decode cJ2_indexOfCharUnsafe_4cfef 25 = .ok (.goto (-22), 3) ∧ 25 + 3 = 28 := ⟨by decide +kernel, rfl⟩
theorem iJ2_indexOfCharUnsafe_28 : decode cJ2_indexOfCharUnsafe_4cfef 28 = .ok (.iconst (-1), 1) ∧ 28 + 1 = 29 := ⟨by decide +kernel, rfl⟩
theorem iJ2_indexOfCharUnsafe_29 : decode cJ2_indexOfCharUnsafe_4cfef 29 = .ok (.ireturn, 1) ∧ 29 + 1 = 30 := ⟨by decide +kernel, rfl⟩
theorem iJ2_indexOfSupplementary_0 : decode cJ2_indexOfSupplementary_4cfef 0 = .ok (.iload_n 1, 1) ∧ 0 + 1 = 1 := ⟨by decide +kernel, rfl⟩
theorem iJ2_indexOfSupplementary_1 : decode cJ2_indexOfSupplementary_4cfef 1 = .ok (.invokestatic 164, 3) ∧ 1 + 3 = 4 := ⟨by decide +kernel, rfl⟩
theorem iJ2_indexOfSupplementary_4 : decode cJ2_indexOfSupplementary_4cfef 4 = .ok (.ifCond .eq 65, 3) ∧ 4 + 3 = 7 := ⟨by decide +kernel, rfl⟩
theorem iJ2_indexOfSupplementary_7 : decode cJ2_indexOfSupplementary_4cfef 7 = .ok (.iload_n 1, 1) ∧ 7 + 1 = 8 := ⟨by decide +kernel, rfl⟩
theorem iJ2_indexOfSupplementary_8 : decode cJ2_indexOfSupplementary_4cfef 8 = .ok (.invokestatic 157, 3) ∧ 8 + 3 = 11 := ⟨by decide +kernel, rfl⟩
theorem iJ2_indexOfSupplementary_11 : decode cJ2_indexOfSupplementary_4cfef 11 = .ok (.istore 4, 2) ∧ 11 + 2 = 13 := ⟨by decide +kernel, rfl⟩
theorem iJ2_indexOfSupplementary_13 : decode cJ2_indexOfSupplementary_4cfef 13 = .ok (.iload_n 1, 1) ∧ 13 + 1 = 14 := ⟨by decide +kernel, rfl⟩
theorem iJ2_indexOfSupplementary_14 : decode cJ2_indexOfSupplementary_4cfef 14 = .ok (.invokestatic 161, 3) ∧ 14 + 3 = 17 := ⟨by decide +kernel, rfl⟩
theorem iJ2_indexOfSupplementary_17 : decode cJ2_indexOfSupplementary_4cfef 17 = .ok (.istore 5, 2) ∧ 17 + 2 = 19 := ⟨by decide +kernel, rfl⟩
theorem iJ2_indexOfSupplementary_19 : decode cJ2_indexOfSupplementary_4cfef 19 = .ok (.iload_n 2, 1) ∧ 19 + 1 = 20 := ⟨by decide +kernel, rfl⟩
theorem iJ2_indexOfSupplementary_20 : decode cJ2_indexOfSupplementary_4cfef 20 = .ok (.iload_n 3, 1) ∧ 20 + 1 = 21 := ⟨by decide +kernel, rfl⟩
theorem iJ2_indexOfSupplementary_21 : decode cJ2_indexOfSupplementary_4cfef 21 = .ok (.aload_n 0, 1) ∧ 21 + 1 = 22 := ⟨by decide +kernel, rfl⟩
theorem iJ2_indexOfSupplementary_22 : decode cJ2_indexOfSupplementary_4cfef 22 = .ok (.invokestatic 96, 3) ∧ 22 + 3 = 25 := ⟨by decide +kernel, rfl⟩
theorem iJ2_indexOfSupplementary_25 : decode cJ2_indexOfSupplementary_4cfef 25 = .ok (.iload_n 2, 1) ∧ 25 + 1 = 26 := ⟨by decide +kernel, rfl⟩
theorem iJ2_indexOfSupplementary_26 : decode cJ2_indexOfSupplementary_4cfef 26 = .ok (.istore 6, 2) ∧ 26 + 2 = 28 := ⟨by decide +kernel, rfl⟩
theorem iJ2_indexOfSupplementary_28 : decode cJ2_indexOfSupplementary_4cfef 28 = .ok (.iload 6, 2) ∧ 28 + 2 = 30 := ⟨by decide +kernel, rfl⟩
theorem iJ2_indexOfSupplementary_30 : decode cJ2_indexOfSupplementary_4cfef 30 = .ok (.iload_n 3, 1) ∧ 30 + 1 = 31 := ⟨by decide +kernel, rfl⟩
theorem iJ2_indexOfSupplementary_31 : decode cJ2_indexOfSupplementary_4cfef 31 = .ok (.iconst 1, 1) ∧ 31 + 1 = 32 := ⟨by decide +kernel, rfl⟩
theorem iJ2_indexOfSupplementary_32 : decode cJ2_indexOfSupplementary_4cfef 32 = .ok (.isub, 1) ∧ 32 + 1 = 33 := ⟨by decide +kernel, rfl⟩
theorem iJ2_indexOfSupplementary_33 : decode cJ2_indexOfSupplementary_4cfef 33 = .ok (.if_icmp .ge 36, 3) ∧ 33 + 3 = 36 := ⟨by decide +kernel, rfl⟩
theorem iJ2_indexOfSupplementary_36 : decode cJ2_indexOfSupplementary_4cfef 36 = .ok (.aload_n 0, 1) ∧ 36 + 1 = 37 := ⟨by decide +kernel, rfl⟩
theorem iJ2_indexOfSupplementary_37 : decode cJ2_indexOfSupplementary_4cfef 37 = .ok (.iload 6, 2) ∧ 37 + 2 = 39 := ⟨by decide +kernel, rfl⟩
theorem iJ2_indexOfSupplementary_39 : decode cJ2_indexOfSupplementary_4cfef 39 = .ok (.invokestatic 71, 3) ∧ 39 + 3 = 42 := ⟨by decide +kernel, rfl⟩
theorem iJ2_indexOfSupplementary_42 : decode cJ2_indexOfSupplementary_4cfef 42 = .ok (.iload 4, 2) ∧ 42 + 2 = 44 := ⟨by decide +kernel, rfl⟩
theorem iJ2_indexOfSupplementary_44 : decode cJ2_indexOfSupplementary_4cfef 44 = .ok (.if_icmp .ne 19, 3) ∧ 44 + 3 = 47 := ⟨by decide +kernel, rfl⟩
theorem iJ2_indexOfSupplementary_47 : decode cJ2_indexOfSupplementary_4cfef 47 = .ok (.aload_n 0, 1) ∧ 47 + 1 = 48 := ⟨by decide +kernel, rfl⟩
theorem iJ2_indexOfSupplementary_48 : decode cJ2_indexOfSupplementary_4cfef 48 = .ok (.iload 6, 2) ∧ 48 + 2 = 50 := ⟨by decide +kernel, rfl⟩
theorem iJ2_indexOfSupplementary_50 : decode cJ2_indexOfSupplementary_4cfef 50 = .ok (.iconst 1, 1) ∧ 50 + 1 = 51 := ⟨by decide +kernel, rfl⟩
theorem iJ2_indexOfSupplementary_51 : decode cJ2_indexOfSupplementary_4cfef 51 = .ok (.iadd, 1) ∧ 51 + 1 = 52 := ⟨by decide +kernel, rfl⟩
theorem iJ2_indexOfSupplementary_52 : decode cJ2_indexOfSupplementary_4cfef 52 = .ok (.invokestatic 71, 3) ∧ 52 + 3 = 55 := ⟨by decide +kernel, rfl⟩
theorem iJ2_indexOfSupplementary_55 : decode cJ2_indexOfSupplementary_4cfef 55 = .ok (.iload 5, 2) ∧ 55 + 2 = 57 := ⟨by decide +kernel, rfl⟩
theorem iJ2_indexOfSupplementary_57 : decode cJ2_indexOfSupplementary_4cfef 57 = .ok (.if_icmp .ne 6, 3) ∧ 57 + 3 = 60 := ⟨by decide +kernel, rfl⟩
theorem iJ2_indexOfSupplementary_60 : decode cJ2_indexOfSupplementary_4cfef 60 = .ok (.iload 6, 2) ∧ 60 + 2 = 62 := ⟨by decide +kernel, rfl⟩
theorem iJ2_indexOfSupplementary_62 : decode cJ2_indexOfSupplementary_4cfef 62 = .ok (.ireturn, 1) ∧ 62 + 1 = 63 := ⟨by decide +kernel, rfl⟩
theorem iJ2_indexOfSupplementary_63 : decode cJ2_indexOfSupplementary_4cfef 63 = .ok (.iinc 6 1, 3) ∧ 63 + 3 = 66 := ⟨by decide +kernel, rfl⟩
theorem iJ2_indexOfSupplementary_66 : decode cJ2_indexOfSupplementary_4cfef 66 = .ok (.goto (-38), 3) ∧ 66 + 3 = 69 := ⟨by decide +kernel, rfl⟩
theorem iJ2_indexOfSupplementary_69 : decode cJ2_indexOfSupplementary_4cfef 69 = .ok (.iconst (-1), 1) ∧ 69 + 1 = 70 := ⟨by decide +kernel, rfl⟩
theorem iJ2_indexOfSupplementary_70 : decode cJ2_indexOfSupplementary_4cfef 70 = .ok (.ireturn, 1) ∧ 70 + 1 = 71 := ⟨by decide +kernel, rfl⟩
theorem iJ2_checkBoundsBeginEnd_0 : decode cJ2_checkBoundsBeginEnd_d044e 0 = .ok (.iload_n 0, 1) ∧ 0 + 1 = 1 := ⟨by decide +kernel, rfl⟩
theorem iJ2_checkBoundsBeginEnd_1 : decode cJ2_checkBoundsBeginEnd_d044e 1 = .ok (.iload_n 1, 1) ∧ 1 + 1 = 2 := ⟨by decide +kernel, rfl⟩
theorem iJ2_checkBoundsBeginEnd_2 : decode cJ2_checkBoundsBeginEnd_d044e 2 = .ok (.aload_n 2, 1) ∧ 2 + 1 = 3 := ⟨by decide +kernel, rfl⟩
theorem iJ2_checkBoundsBeginEnd_3 : decode cJ2_checkBoundsBeginEnd_d044e 3 = .ok (.invokestatic 48, 3) ∧ 3 + 3 = 6 := ⟨by decide +kernel, rfl⟩
theorem iJ2_checkBoundsBeginEnd_6 : decode cJ2_checkBoundsBeginEnd_d044e 6 = .ok (.invokestatic 241, 3) ∧ 6 + 3 = 9 := ⟨by decide +kernel, rfl⟩
theorem iJ2_checkBoundsBeginEnd_9 : decode cJ2_checkBoundsBeginEnd_d044e 9 = .ok (.return_, 1) ∧ 9 + 1 = 10 := ⟨by decide +kernel, rfl⟩
theorem iJ3_checkFromToIndex_0 : decode cJ3_checkFromToIndex_8c36e 0 = .ok (.iload_n 0, 1) ∧ 0 + 1 = 1 := ⟨by decide +kernel, rfl⟩
theorem iJ3_checkFromToIndex_1 : decode cJ3_checkFromToIndex_8c36e 1 = .ok (.ifCond .lt 13, 3) ∧ 1 + 3 = 4 := ⟨by decide +kernel, rfl⟩
theorem iJ3_checkFromToIndex_4 : decode cJ3_checkFromToIndex_8c36e 4 = .ok (.iload_n 0, 1) ∧ 4 + 1 = 5 := ⟨by decide +kernel, rfl⟩
theorem iJ3_checkFromToIndex_5 : decode cJ3_checkFromToIndex_8c36e 5 = .ok (.iload_n 1, 1) ∧ 5 + 1 = 6 := ⟨by decide +kernel, rfl⟩
theorem iJ3_checkFromToIndex_6 : decode cJ3_checkFromToIndex_8c36e 6 = .ok (.if_icmp .gt 8, 3) ∧ 6 + 3 = 9 := ⟨by decide +kernel, rfl⟩
theorem iJ3_checkFromToIndex_9 : decode cJ3_checkFromToIndex_8c36e 9 = .ok (.iload_n 1, 1) ∧ 9 + 1 = 10 := ⟨by decide +kernel, rfl⟩
theorem iJ3_checkFromToIndex_10 : decode cJ3_checkFromToIndex_8c36e 10 = .ok (.iload_n 2, 1) ∧ 10 + 1 = 11 := ⟨by decide +kernel, rfl⟩
theorem iJ3_checkFromToIndex_11 : decode cJ3_checkFromToIndex_8c36e 11 = .ok (.if_icmp .le 11, 3) ∧ 11 + 3 = 14 := ⟨by decide +kernel, rfl⟩
theorem iJ3_checkFromToIndex_14 : decode cJ3_checkFromToIndex_8c36e 14 = .ok (.aload_n 3, 1) ∧ 14 + 1 = 15 := ⟨by decide +kernel, rfl⟩
theorem iJ3_checkFromToIndex_15 : decode cJ3_checkFromToIndex_8c36e 15 = .ok (.iload_n 0, 1) ∧ 15 + 1 = 16 := ⟨by decide +kernel, rfl⟩
theorem iJ3_checkFromToIndex_16 : decode cJ3_checkFromToIndex_8c36e 16 = .ok (.iload_n 1, 1) ∧ 16 + 1 = 17 := ⟨by decide +kernel, rfl⟩
theorem iJ3_checkFromToIndex_17 : decode cJ3_checkFromToIndex_8c36e 17 = .ok (.iload_n 2, 1) ∧ 17 + 1 = 18 := ⟨by decide +kernel, rfl⟩
theorem iJ3_checkFromToIndex_18 : decode cJ3_checkFromToIndex_8c36e 18 = .ok (.invokestatic 99, 3) ∧ 18 + 3 = 21 := ⟨by decide +kernel, rfl⟩
theorem iJ3_checkFromToIndex_21 : decode cJ3_checkFromToIndex_8c36e 21 = .ok (.athrow, 1) ∧ 21 + 1 = 22 := ⟨by decide +kernel, rfl⟩
theorem iJ3_checkFromToIndex_22 : decode cJ3_checkFromToIndex_8c36e 22 = .ok (.iload_n 0, 1) ∧ 22 + 1 = 23 := ⟨by decide +kernel, rfl⟩
theorem iJ3_checkFromToIndex_23 : decode cJ3_checkFromToIndex_8c36e 23 = .ok (.ireturn, 1) ∧ 23 + 1 = 24 := ⟨by decide +kernel, rfl⟩
end
section
/-! ===== numbers: ints that are written nI n; N rules ===== -/
theorem wset_same {w : mW} {a : Nat} {e0 e : mE} (h : w[a]? = some e0) : (w.set a e)[a]? = some e := by
  rw [List.getElem?_set]
  simp [(List.getElem?_eq_some_iff.mp h).1]
theorem wset_ne {w : mW} {a b : Nat} {x e : mE} (hne : a ≠ b) (h : w[b]? = some e) : (w.set a x)[b]? = some e := by
  rw [List.getElem?_set, if_neg hne]
  exact h
theorem wset_eq {w : mW} {a : Nat} {e : mE} (h : w[a]? = some e) : w.set a e = w := by
  apply List.ext_getElem?
  intro i
  rw [List.getElem?_set]
  by_cases hi : a = i
  · subst hi
    rw [if_pos rfl, if_pos (List.getElem?_eq_some_iff.mp h).1, h]
  · rw [if_neg hi]
theorem wset2 {w : mW} {a : Nat} {x y : mE} : (w.set a x).set a y = w.set a y := by simp
theorem nI_and (a b : Nat) : nI a &&& nI b = nI (a &&& b) := by
  apply Int32.toBitVec_inj.mp
  show BitVec.ofNat 32 a &&& BitVec.ofNat 32 b = BitVec.ofNat 32 (a &&& b)
  exact BitVec.ofNat_and.symm
theorem nI_or (a b : Nat) : nI a ||| nI b = nI (a ||| b) := by
  apply Int32.toBitVec_inj.mp
  show BitVec.ofNat 32 a ||| BitVec.ofNat 32 b = BitVec.ofNat 32 (a ||| b)
  exact BitVec.ofNat_or.symm
/-- s without m -/
def ad (s m : Nat) : Nat := s ^^^ (s &&& m)
theorem ad_tb (s m i : Nat) : (ad s m).testBit i = (s.testBit i && !m.testBit i) := by
  unfold ad
  rw [Nat.testBit_xor, Nat.testBit_and]
  cases s.testBit i <;> cases m.testBit i <;> rfl
theorem nI_andn (s m : Nat) : nI s &&& (nI m ^^^ (-1)) = nI (ad s m) := by
  apply Int32.toBitVec_inj.mp
  show BitVec.ofNat 32 s &&& (BitVec.ofNat 32 m ^^^ (-1 : Int32).toBitVec) = BitVec.ofNat 32 (ad s m)
  apply BitVec.eq_of_getLsbD_eq
  intro i hi
  have h1 : (-1 : Int32).toBitVec = BitVec.allOnes 32 := by decide +kernel
  rw [h1]
  simp only [BitVec.getLsbD_and, BitVec.getLsbD_xor, BitVec.getLsbD_allOnes, BitVec.getLsbD_ofNat, ad_tb]
  simp [hi]
theorem nI_sh31 : ∀ s : Nat, s < 32 → nI s &&& 31 = nI s := by decide +kernel
theorem nI_smod : ∀ s : Nat, s < 32 → ((nI s).toBitVec.smod 32).toNat = s := by decide +kernel
theorem nI_shl1 {s : Nat} (h : s < 32) : nI 1 <<< (nI s &&& 31) = nI (2 ^ s) := by
  rw [nI_sh31 s h, pk_shlN (nI s) s (nI_smod s h) (by rw [Nat.one_mul]; exact Nat.pow_lt_pow_right (by decide) h), Nat.one_mul]
theorem nI_shr {a s : Nat} (ha : a < 2 ^ 31) (h : s < 32) : nI a >>> (nI s &&& 31) = nI (a >>> s) := by
  rw [nI_sh31 s h, pk_shrN ha (nI s) s (nI_smod s h), Nat.shiftRight_eq_div_pow]
def bI (b : Bool) : Int32 := nI b.toNat
theorem bI_t : bI true = nI 1 := rfl
theorem bI_f : bI false = nI 0 := rfl
theorem nar_bI (b : Bool) : narrow .boolean (.int (bI b)) = .int (bI b) := by cases b <;> rfl
theorem nar_b0 : narrow .boolean (.int (nI 0)) = .int (nI 0) := rfl
theorem nar_b1 : narrow .boolean (.int (nI 1)) = .int (nI 1) := rfl
theorem tb_nat (a s : Nat) : (a >>> s) &&& 1 = (a.testBit s).toNat := by
  rw [Nat.and_comm]
  unfold Nat.testBit
  rw [Nat.one_and_eq_mod_two]
  rcases Nat.mod_two_eq_zero_or_one (a >>> s) with h | h <;> rw [h] <;> rfl
def oN (o : Option Nat) : Int32 := match o with
  | none => -1
  | some i => nI i
section JN
variable {d : Nat} {mi : MI} {pc pc' : Nat} {ls st : List Value} {w : mW} {Q Q' : Option Value → mW → Prop}
theorem j_start {as ls : List Value} (h : ent mi.2.2.1 as = ls) (k : J d mi 0 ls [] w Q) : JX d mi as w Q := by
  subst h; exact k
theorem j_top {x y : Int32} (he : x = y) (k : J d mi pc ls (.int y :: st) w Q) : J d mi pc ls (.int x :: st) w Q := by
  subst he; exact k
theorem j_loc {ls' : List Value} (he : ls = ls') (k : J d mi pc ls' st w Q) : J d mi pc ls st w Q := by
  subst he; exact k
theorem j_wld {w' : mW} (he : w = w') (k : J d mi pc ls st w' Q) : J d mi pc ls st w Q := by
  subst he; exact k
theorem j_iaddN {a b : Nat} (h : decode mi.2.1 pc = .ok (.iadd, 1) ∧ pc + 1 = pc') (k : J d mi pc' ls (.int (nI (a + b)) :: st) w Q) : J d mi pc ls (.int (nI b) :: .int (nI a) :: st) w Q := j_iadd h (by rw [nI_add]; exact k)
theorem j_isubN {a b : Nat} (h : decode mi.2.1 pc = .ok (.isub, 1) ∧ pc + 1 = pc') (hb : b ≤ a) (k : J d mi pc' ls (.int (nI (a - b)) :: st) w Q) : J d mi pc ls (.int (nI b) :: .int (nI a) :: st) w Q := j_isub h (by rw [pk_sub hb]; exact k)
theorem j_imulN {a b : Nat} (h : decode mi.2.1 pc = .ok (.imul, 1) ∧ pc + 1 = pc') (k : J d mi pc' ls (.int (nI (a * b)) :: st) w Q) : J d mi pc ls (.int (nI b) :: .int (nI a) :: st) w Q := j_imul h (by rw [pk_mul]; exact k)
theorem j_idivN {a b : Nat} (h : decode mi.2.1 pc = .ok (.idiv, 1) ∧ pc + 1 = pc') (ha : a < 2 ^ 31) (h0 : 0 < b) (hb : b < 2 ^ 31) (k : J d mi pc' ls (.int (nI (a / b)) :: st) w Q) : J d mi pc ls (.int (nI b) :: .int (nI a) :: st) w Q := j_idiv h (nI_ne0 h0 hb) (by rw [pk_div ha h0 hb]; exact k)
theorem j_iremN {a b : Nat} (h : decode mi.2.1 pc = .ok (.irem, 1) ∧ pc + 1 = pc') (ha : a < 2 ^ 31) (h0 : 0 < b) (hb : b < 2 ^ 31) (k : J d mi pc' ls (.int (nI (a % b)) :: st) w Q) : J d mi pc ls (.int (nI b) :: .int (nI a) :: st) w Q := j_irem h (nI_ne0 h0 hb) (by rw [pk_rem ha h0 hb]; exact k)
theorem j_iandN {a b : Nat} (h : decode mi.2.1 pc = .ok (.iand, 1) ∧ pc + 1 = pc') (k : J d mi pc' ls (.int (nI (a &&& b)) :: st) w Q) : J d mi pc ls (.int (nI b) :: .int (nI a) :: st) w Q := j_iand h (by rw [nI_and]; exact k)
theorem j_iandnN {a b : Nat} (h : decode mi.2.1 pc = .ok (.iand, 1) ∧ pc + 1 = pc') (k : J d mi pc' ls (.int (nI (ad a b)) :: st) w Q) : J d mi pc ls (.int (nI b ^^^ (-1)) :: .int (nI a) :: st) w Q := j_iand h (by rw [nI_andn]; exact k)
theorem j_iandBit {a s : Nat} (h : decode mi.2.1 pc = .ok (.iand, 1) ∧ pc + 1 = pc') (k : J d mi pc' ls (.int (bI (a.testBit s)) :: st) w Q) : J d mi pc ls (.int (nI 1) :: .int (nI (a >>> s)) :: st) w Q := j_iand h (by rw [nI_and, tb_nat]; exact k)
theorem j_iorN {a b : Nat} (h : decode mi.2.1 pc = .ok (.ior, 1) ∧ pc + 1 = pc') (k : J d mi pc' ls (.int (nI (a ||| b)) :: st) w Q) : J d mi pc ls (.int (nI b) :: .int (nI a) :: st) w Q := j_ior h (by rw [nI_or]; exact k)
theorem j_ishlN {s : Nat} (h : decode mi.2.1 pc = .ok (.ishl, 1) ∧ pc + 1 = pc') (hs : s < 32) (k : J d mi pc' ls (.int (nI (2 ^ s)) :: st) w Q) : J d mi pc ls (.int (nI s) :: .int (nI 1) :: st) w Q := j_ishl h (by rw [nI_shl1 hs]; exact k)
theorem j_ishrN {a s : Nat} (h : decode mi.2.1 pc = .ok (.ishr, 1) ∧ pc + 1 = pc') (ha : a < 2 ^ 31) (hs : s < 32) (k : J d mi pc' ls (.int (nI (a >>> s)) :: st) w Q) : J d mi pc ls (.int (nI s) :: .int (nI a) :: st) w Q := j_ishr h (by rw [nI_shr ha hs]; exact k)
theorem j_iincN {i : Nat} {x : Nat} (h : decode mi.2.1 pc = .ok (.iinc i 1, 3) ∧ pc + 3 = pc') (hv : ls[i]? = some (.int (nI x))) (hn : i < mi.2.2.1) (ho : okAt ls i = true) (k : J d mi pc' (ls.set i (.int (nI (x + 1)))) st w Q) : J d mi pc ls st w Q := j_iinc (v := nI 1) h hv rfl hn ho (by rw [nI_add]; exact k)
theorem j_ialdN {a n : Nat} {f : Nat → Nat} {i : Nat} (h : decode mi.2.1 pc = .ok (.iaload, 1) ∧ pc + 1 = pc') (hc : w[a]? = some (iA n (fun j => nI (f j)))) (hi : i < n ∧ n < 2 ^ 31) (k : J d mi pc' ls (.int (nI (f i)) :: st) w Q) : J d mi pc ls (.int (nI i) :: .ref a :: st) w Q :=
  j_iald h hc (vp_in_nI hi.1 hi.2) (by simp only [nI_clamp (Nat.lt_trans hi.1 hi.2)]; exact k)
theorem j_ialdR {a n : Nat} {f : Nat → Int32} {i : Nat} (h : decode mi.2.1 pc = .ok (.iaload, 1) ∧ pc + 1 = pc') (hc : w[a]? = some (iA n f)) (hi : i < n ∧ n < 2 ^ 31) (k : J d mi pc' ls (.int (f i) :: st) w Q) : J d mi pc ls (.int (nI i) :: .ref a :: st) w Q :=
  j_iald h hc (vp_in_nI hi.1 hi.2) (by simp only [nI_clamp (Nat.lt_trans hi.1 hi.2)]; exact k)
theorem j_baldN {a n : Nat} {f : Nat → Nat} {i : Nat} (h : decode mi.2.1 pc = .ok (.baload, 1) ∧ pc + 1 = pc') (hc : w[a]? = some (bA n (fun j => nI (f j)))) (hi : i < n ∧ n < 2 ^ 31) (k : J d mi pc' ls (.int (nI (f i)) :: st) w Q) : J d mi pc ls (.int (nI i) :: .ref a :: st) w Q :=
  j_bald h hc (vp_in_nI hi.1 hi.2) (by simp only [nI_clamp (Nat.lt_trans hi.1 hi.2)]; exact k)
theorem j_aaldN {a n b : Nat} {f : Nat → Option Nat} {i : Nat} (h : decode mi.2.1 pc = .ok (.aaload, 1) ∧ pc + 1 = pc') (hc : w[a]? = some (rA n f)) (hi : i < n ∧ n < 2 ^ 31) (hb : f i = some b) (k : J d mi pc' ls (.ref b :: st) w Q) : J d mi pc ls (.int (nI i) :: .ref a :: st) w Q :=
  j_aald h hc (vp_in_nI hi.1 hi.2) (by rw [nI_clamp (Nat.lt_trans hi.1 hi.2)]; exact hb) k
/-- a row of numbers, one of them anew -/
def un (f : Nat → Nat) (k x : Nat) : Nat → Nat := fun j => if j = k then x else f j
theorem un_same (f : Nat → Nat) (k x : Nat) : un f k x k = x := if_pos rfl
theorem un_ne {f : Nat → Nat} {k x j : Nat} (h : j ≠ k) : un f k x j = f j := if_neg h
theorem upd_un (f : Nat → Nat) (k x : Nat) : upd (fun j => nI (f j)) k (nI x) = fun j => nI (un f k x j) := by
  funext j
  unfold upd un
  by_cases h : j = k
  · rw [if_pos h, if_pos h]
  · rw [if_neg h, if_neg h]
theorem j_iastN {a n : Nat} {f : Nat → Nat} {i x : Nat} (h : decode mi.2.1 pc = .ok (.iastore, 1) ∧ pc + 1 = pc') (hc : w[a]? = some (iA n (fun j => nI (f j)))) (hi : i < n ∧ n < 2 ^ 31) (k : J d mi pc' ls st (w.set a (iA n (fun j => nI (un f i x j)))) Q) : J d mi pc ls (.int (nI x) :: .int (nI i) :: .ref a :: st) w Q :=
  j_iast h hc (vp_in_nI hi.1 hi.2) (by rw [nI_clamp (Nat.lt_trans hi.1 hi.2), upd_un]; exact k)
theorem j_iastR {a n : Nat} {f : Nat → Int32} {i : Nat} {x : Int32} (h : decode mi.2.1 pc = .ok (.iastore, 1) ∧ pc + 1 = pc') (hc : w[a]? = some (iA n f)) (hi : i < n ∧ n < 2 ^ 31) (k : J d mi pc' ls st (w.set a (iA n (upd f i x))) Q) : J d mi pc ls (.int x :: .int (nI i) :: .ref a :: st) w Q :=
  j_iast h hc (vp_in_nI hi.1 hi.2) (by rw [nI_clamp (Nat.lt_trans hi.1 hi.2)]; exact k)
theorem j_icmp_eqN {a b : Nat} {off : Int} {tgt : Nat} (h : decode mi.2.1 pc = .ok (.if_icmp .eq off, 3) ∧ pc + 3 = pc') (ht : (pc : Int) + off = (tgt : Int)) (ha : a < 2 ^ 31) (hb : b < 2 ^ 31) (kt : a = b → J d mi tgt ls st w Q) (kf : a ≠ b → J d mi pc' ls st w Q) : J d mi pc ls (.int (nI b) :: .int (nI a) :: st) w Q := j_icmp_eq h ht (fun h2 => kt ((nI_eq ha hb).mp h2)) (fun h2 => kf fun e => h2 ((nI_eq ha hb).mpr e))
theorem j_icmp_neN {a b : Nat} {off : Int} {tgt : Nat} (h : decode mi.2.1 pc = .ok (.if_icmp .ne off, 3) ∧ pc + 3 = pc') (ht : (pc : Int) + off = (tgt : Int)) (ha : a < 2 ^ 31) (hb : b < 2 ^ 31) (kt : a ≠ b → J d mi tgt ls st w Q) (kf : a = b → J d mi pc' ls st w Q) : J d mi pc ls (.int (nI b) :: .int (nI a) :: st) w Q := j_icmp_ne h ht (fun h2 => kt fun e => h2 ((nI_eq ha hb).mpr e)) (fun h2 => kf ((nI_eq ha hb).mp h2))
theorem j_icmp_ltN {a b : Nat} {off : Int} {tgt : Nat} (h : decode mi.2.1 pc = .ok (.if_icmp .lt off, 3) ∧ pc + 3 = pc') (ht : (pc : Int) + off = (tgt : Int)) (ha : a < 2 ^ 31) (hb : b < 2 ^ 31) (kt : a < b → J d mi tgt ls st w Q) (kf : b ≤ a → J d mi pc' ls st w Q) : J d mi pc ls (.int (nI b) :: .int (nI a) :: st) w Q := j_icmp_lt h ht (fun h2 => kt ((nI_ltI ha hb).mp h2)) (fun h2 => kf (Nat.not_lt.mp fun e => h2 ((nI_ltI ha hb).mpr e)))
theorem j_icmp_geN {a b : Nat} {off : Int} {tgt : Nat} (h : decode mi.2.1 pc = .ok (.if_icmp .ge off, 3) ∧ pc + 3 = pc') (ht : (pc : Int) + off = (tgt : Int)) (ha : a < 2 ^ 31) (hb : b < 2 ^ 31) (kt : b ≤ a → J d mi tgt ls st w Q) (kf : a < b → J d mi pc' ls st w Q) : J d mi pc ls (.int (nI b) :: .int (nI a) :: st) w Q := j_icmp_ge h ht (fun h2 => kt ((nI_leI hb ha).mp h2)) (fun h2 => kf (Nat.not_le.mp fun e => h2 ((nI_leI hb ha).mpr e)))
theorem j_icmp_gtN {a b : Nat} {off : Int} {tgt : Nat} (h : decode mi.2.1 pc = .ok (.if_icmp .gt off, 3) ∧ pc + 3 = pc') (ht : (pc : Int) + off = (tgt : Int)) (ha : a < 2 ^ 31) (hb : b < 2 ^ 31) (kt : b < a → J d mi tgt ls st w Q) (kf : a ≤ b → J d mi pc' ls st w Q) : J d mi pc ls (.int (nI b) :: .int (nI a) :: st) w Q := j_icmp_gt h ht (fun h2 => kt ((nI_ltI hb ha).mp h2)) (fun h2 => kf (Nat.not_lt.mp fun e => h2 ((nI_ltI hb ha).mpr e)))
theorem j_icmp_leN {a b : Nat} {off : Int} {tgt : Nat} (h : decode mi.2.1 pc = .ok (.if_icmp .le off, 3) ∧ pc + 3 = pc') (ht : (pc : Int) + off = (tgt : Int)) (ha : a < 2 ^ 31) (hb : b < 2 ^ 31) (kt : a ≤ b → J d mi tgt ls st w Q) (kf : b < a → J d mi pc' ls st w Q) : J d mi pc ls (.int (nI b) :: .int (nI a) :: st) w Q := j_icmp_le h ht (fun h2 => kt ((nI_leI ha hb).mp h2)) (fun h2 => kf (Nat.not_le.mp fun e => h2 ((nI_leI ha hb).mpr e)))
theorem j_if_eqN {a : Nat} {off : Int} {tgt : Nat} (h : decode mi.2.1 pc = .ok (.ifCond .eq off, 3) ∧ pc + 3 = pc') (ht : (pc : Int) + off = (tgt : Int)) (ha : a < 2 ^ 31) (kt : a = 0 → J d mi tgt ls st w Q) (kf : a ≠ 0 → J d mi pc' ls st w Q) : J d mi pc ls (.int (nI a) :: st) w Q := j_if_eq h ht (fun h2 => kt (Nat.eq_zero_of_not_pos fun e => nI_ne0 e ha h2)) (fun h2 => kf fun e => h2 (by rw [e]; rfl))
theorem j_if_neN {a : Nat} {off : Int} {tgt : Nat} (h : decode mi.2.1 pc = .ok (.ifCond .ne off, 3) ∧ pc + 3 = pc') (ht : (pc : Int) + off = (tgt : Int)) (ha : a < 2 ^ 31) (kt : a ≠ 0 → J d mi tgt ls st w Q) (kf : a = 0 → J d mi pc' ls st w Q) : J d mi pc ls (.int (nI a) :: st) w Q := j_if_ne h ht (fun h2 => kt fun e => h2 (by rw [e]; rfl)) (fun h2 => kf (Nat.eq_zero_of_not_pos fun e => nI_ne0 e ha h2))
theorem j_if_ltN {a : Nat} {off : Int} {tgt : Nat} (h : decode mi.2.1 pc = .ok (.ifCond .lt off, 3) ∧ pc + 3 = pc') (ht : (pc : Int) + off = (tgt : Int)) (ha : a < 2 ^ 31) (kt : False → J d mi tgt ls st w Q) (kf : True → J d mi pc' ls st w Q) : J d mi pc ls (.int (nI a) :: st) w Q := j_if_lt h ht (fun h2 => kt (nI_pos ha h2)) (fun _ => kf trivial)
theorem j_if_geN {a : Nat} {off : Int} {tgt : Nat} (h : decode mi.2.1 pc = .ok (.ifCond .ge off, 3) ∧ pc + 3 = pc') (ht : (pc : Int) + off = (tgt : Int)) (ha : a < 2 ^ 31) (kt : True → J d mi tgt ls st w Q) (kf : False → J d mi pc' ls st w Q) : J d mi pc ls (.int (nI a) :: st) w Q := j_if_ge h ht (fun _ => kt trivial) (fun h2 => kf (h2 (nI_pos' ha)))
theorem j_if_gtN {a : Nat} {off : Int} {tgt : Nat} (h : decode mi.2.1 pc = .ok (.ifCond .gt off, 3) ∧ pc + 3 = pc') (ht : (pc : Int) + off = (tgt : Int)) (ha : a < 2 ^ 31) (kt : 0 < a → J d mi tgt ls st w Q) (kf : a = 0 → J d mi pc' ls st w Q) : J d mi pc ls (.int (nI a) :: st) w Q := j_if_gt h ht (fun h2 => kt (Nat.pos_of_ne_zero fun e => by rw [e] at h2; exact absurd h2 (by decide))) (fun h2 => kf (Nat.eq_zero_of_not_pos fun e => h2 (by rw [← nI_0]; exact nI_lt e ha)))
theorem j_if_leN {a : Nat} {off : Int} {tgt : Nat} (h : decode mi.2.1 pc = .ok (.ifCond .le off, 3) ∧ pc + 3 = pc') (ht : (pc : Int) + off = (tgt : Int)) (ha : a < 2 ^ 31) (kt : a = 0 → J d mi tgt ls st w Q) (kf : 0 < a → J d mi pc' ls st w Q) : J d mi pc ls (.int (nI a) :: st) w Q := j_if_le h ht (fun h2 => kt (Nat.eq_zero_of_not_pos fun e => nI_nle e ha h2)) (fun h2 => kf (Nat.pos_of_ne_zero fun e => h2 (by rw [e]; decide)))
theorem bI_0 {b : Bool} : bI b = 0 ↔ b = false := by cases b <;> decide
theorem bI_1 {b : Bool} : bI b = nI 1 ↔ b = true := by cases b <;> decide
theorem j_if_eqB {b : Bool} {off : Int} {tgt : Nat} (h : decode mi.2.1 pc = .ok (.ifCond .eq off, 3) ∧ pc + 3 = pc') (ht : (pc : Int) + off = (tgt : Int)) (kt : b = false → J d mi tgt ls st w Q) (kf : b = true → J d mi pc' ls st w Q) : J d mi pc ls (.int (bI b) :: st) w Q := j_if_eq h ht (fun h2 => kt (bI_0.mp h2)) (fun h2 => kf (by cases b with | false => exact absurd (bI_0.mpr rfl) h2 | true => rfl))
theorem j_if_neB {b : Bool} {off : Int} {tgt : Nat} (h : decode mi.2.1 pc = .ok (.ifCond .ne off, 3) ∧ pc + 3 = pc') (ht : (pc : Int) + off = (tgt : Int)) (kt : b = true → J d mi tgt ls st w Q) (kf : b = false → J d mi pc' ls st w Q) : J d mi pc ls (.int (bI b) :: st) w Q := j_if_ne h ht (fun h2 => kt (by cases b with | false => exact absurd (bI_0.mpr rfl) h2 | true => rfl)) (fun h2 => kf (bI_0.mp h2))
theorem j_icmp_neT {b : Bool} {off : Int} {tgt : Nat} (h : decode mi.2.1 pc = .ok (.if_icmp .ne off, 3) ∧ pc + 3 = pc') (ht : (pc : Int) + off = (tgt : Int)) (kt : b = false → J d mi tgt ls st w Q) (kf : b = true → J d mi pc' ls st w Q) : J d mi pc ls (.int (nI 1) :: .int (bI b) :: st) w Q := j_icmp_ne h ht (fun h2 => kt (by cases b with | false => rfl | true => exact absurd rfl h2)) (fun h2 => kf (bI_1.mp h2))
theorem j_mmaxN {idx a b : Nat} (hlink : Cond.methodLink mi.1.cls idx Lib.Math.max.name ∈ UW) (h : decode mi.2.1 pc = .ok (.invokestatic idx, 3) ∧ pc + 3 = pc') (hd : 1 ≤ d) (hr : (st.map fun v => v.category).sum ≤ 8) (ha : a < 2 ^ 31) (hb : b < 2 ^ 31) (k : J d mi pc' ls (.int (nI (max a b)) :: st) w Q) : J d mi pc ls (.int (nI b) :: .int (nI a) :: st) w Q := j_mmax hlink h hd hr (by
  have e : (if nI a < nI b then nI b else nI a) = nI (max a b) := by
    by_cases hl : a < b
    · rw [if_pos ((nI_ltI ha hb).mpr hl), Nat.max_eq_right (Nat.le_of_lt hl)]
    · rw [if_neg (fun e => hl ((nI_ltI ha hb).mp e)), Nat.max_eq_left (Nat.not_lt.mp hl)]
  rw [e]; exact k)
theorem j_mminN {idx a b : Nat} (hlink : Cond.methodLink mi.1.cls idx Lib.Math.min.name ∈ UW) (h : decode mi.2.1 pc = .ok (.invokestatic idx, 3) ∧ pc + 3 = pc') (hd : 1 ≤ d) (hr : (st.map fun v => v.category).sum ≤ 8) (ha : a < 2 ^ 31) (hb : b < 2 ^ 31) (k : J d mi pc' ls (.int (nI (min a b)) :: st) w Q) : J d mi pc ls (.int (nI b) :: .int (nI a) :: st) w Q := j_mmin hlink h hd hr (by
  have e : (if nI b < nI a then nI b else nI a) = nI (min a b) := by
    by_cases hl : b < a
    · rw [if_pos ((nI_ltI hb ha).mpr hl), Nat.min_eq_right (Nat.le_of_lt hl)]
    · rw [if_neg (fun e => hl ((nI_ltI hb ha).mp e)), Nat.min_eq_left (Nat.not_lt.mp hl)]
  rw [e]; exact k)
/-- how far two numbers are apart -/
def dist (a b : Nat) : Nat := (a - b) + (b - a)
theorem nI_dist {a b : Nat} (ha : a < 2 ^ 30) (hb : b < 2 ^ 30) : (if 0 ≤ nI a - nI b then nI a - nI b else 0 - (nI a - nI b)) = nI (dist a b) := by
  by_cases hl : b ≤ a
  · rw [pk_sub hl, if_pos (nI_pos' (by omega))]
    congr 1; unfold dist; omega
  · have h1 : nI a - nI b < 0 := pk_sneg hb (by omega)
    rw [if_neg (Int32.not_le.mpr h1), show (0 : Int32) - (nI a - nI b) = nI b - nI a by rw [Int32.zero_sub, Int32.neg_sub], pk_sub (by omega)]
    congr 1; unfold dist; omega
theorem j_mabsN {idx a b : Nat} (hlink : Cond.methodLink mi.1.cls idx Lib.Math.abs.name ∈ UW) (h : decode mi.2.1 pc = .ok (.invokestatic idx, 3) ∧ pc + 3 = pc') (hd : 1 ≤ d) (hr : (st.map fun v => v.category).sum ≤ 8) (ha : a < 2 ^ 30) (hb : b < 2 ^ 30) (k : J d mi pc' ls (.int (nI (dist a b)) :: st) w Q) : J d mi pc ls (.int (nI a - nI b) :: st) w Q := j_mabs hlink h hd hr (by rw [nI_dist ha hb]; exact k)
/-- beyond its end a row is free -/
theorem arrV_congr {cA : ClassId} {n : Nat} {f g : Nat → Value} (h : ∀ j, j < n → f j = g j) : arrV cA n f = arrV cA n g := by
  unfold arrV
  have : (fun j : Fin n => f j.val) = fun j : Fin n => g j.val := funext fun j => h j.val j.isLt
  rw [this]
theorem j_arr {a n : Nat} {f g : Nat → Int32} (h : ∀ j, j < n → f j = g j) (hc : w[a]? = some (iA n f)) (k : J d mi pc ls st (w.set a (iA n g)) Q) : J d mi pc ls st w Q := by
  intro p l e R s m args below meth c H locs q D dA A arr hR C hS hP hD hl
  have hg := cW_get (q := q) (dA := dA) hc
  refine k p l e R s m args below meth c H locs q D dA A arr hR C hS ?_ ?_ hl
  · rw [← cW_set]
    refine hP.set hD hg ?_ (fun _ _ => rfl)
    have h1 : H[q a]? = some (arrV (dA 0) n (fun j => .int (f j))) := hP a _ hg
    show H[q a]? = some (arrV (dA 0) n (fun j => .int (g j)))
    rw [h1, arrV_congr (f := fun j => Value.int (f j)) (g := fun j => Value.int (g j)) (fun j hj => by simp only [h j hj])]
  · rw [← cW_set]
    exact hD.set hg
theorem j_arrN {a n : Nat} {f g : Nat → Nat} (h : ∀ j, j < n → f j = g j) (hc : w[a]? = some (iA n (fun j => nI (f j)))) (k : J d mi pc ls st (w.set a (iA n (fun j => nI (g j)))) Q) : J d mi pc ls st w Q :=
  j_arr (fun j hj => by simp only [h j hj]) hc k
end JN
end
section
/-! ===== the class: what needs no object ===== -/
theorem c_has {w : mW} (S c : Nat) (hS : S < 2 ^ 31) (hc : c < 32) : JR 0 mX5_has [.int (nI S), .int (nI c)] w (.int (bI (S.testBit c))) w := by
  refine j_start (ls := [.int (nI S), .int (nI c)]) rfl ?_
  refine j_iload_n iX5_has_0 rfl ?_
  refine j_iload_n iX5_has_1 rfl ?_
  refine j_ishrN iX5_has_2 (by omega) (by omega) ?_
  refine j_iconst (v := nI 1) iX5_has_3 (by decide) ?_
  refine j_iandBit iX5_has_4 ?_
  refine j_iconst (v := nI 1) iX5_has_5 (by decide) ?_
  refine j_icmp_neT (tgt := 13) iX5_has_6 (by decide) (fun h6 => ?_) (fun h6 => ?_)
  · refine j_iconst (v := nI 0) iX5_has_13 (by decide) ?_
    refine j_iret iX5_has_14 rfl (by first | rfl | exact nar_bI _ | exact nar_bP) (⟨by rw [h6]; rfl, rfl⟩)
  · refine j_iconst (v := nI 1) iX5_has_9 (by decide) ?_
    refine j_goto (tgt := 14) iX5_has_10 (by decide) ?_
    refine j_iret iX5_has_14 rfl (by first | rfl | exact nar_bI _ | exact nar_bP) (⟨by rw [h6]; rfl, rfl⟩)
def nthFrom (S n : Nat) : Nat → Nat → Nat → Option Nat
  | 0, _, _ => none
  | k + 1, i, a => if S.testBit i = true then (if a = n then some i else nthFrom S n k (i + 1) (a + 1)) else nthFrom S n k (i + 1) a
def nth (S n : Nat) : Option Nat := nthFrom S n 12 0 0
theorem c_nthOf {w : mW} (S n : Nat) (hS : S < 2 ^ 31) (hn : n < 2 ^ 31) : JR 1 mX5_nthOf [.int (nI S), .int (nI n)] w (.int (oN (nth S n))) w := by
  have L : ∀ (k i a : Nat), i + k = 12 → a ≤ i → J 1 mX5_nthOf 4 [.int (nI S), .int (nI n), .int (nI a), .int (nI i)] [] w (fun v u => v = some (.int (oN (nthFrom S n k i a))) ∧ u = w) := by
    intro k
    induction k with
    | zero =>
      intro i a hi ha
      refine j_iload_n iX5_nthOf_4 rfl ?_
      refine j_bipush (v := nI 12) iX5_nthOf_5 (by decide) ?_
      refine j_icmp_geN (tgt := 34) iX5_nthOf_7 (by decide) (by omega) (by omega) (fun _ => ?_) (fun hno => by exfalso; omega)
      refine j_iconst (v := (-1)) iX5_nthOf_34 (by decide) ?_
      refine j_iret iX5_nthOf_35 rfl (by first | rfl | exact nar_bI _ | exact nar_bP) (⟨rfl, rfl⟩)
    | succ k ih =>
      intro i a hi ha
      refine j_iload_n iX5_nthOf_4 rfl ?_
      refine j_bipush (v := nI 12) iX5_nthOf_5 (by decide) ?_
      refine j_icmp_geN (tgt := 34) iX5_nthOf_7 (by decide) (by omega) (by omega) (fun hno => by exfalso; omega) (fun _ => ?_)
      refine j_iload_n iX5_nthOf_10 rfl ?_
      refine j_iload_n iX5_nthOf_11 rfl ?_
      refine j_S2R okX5_has lk_X5_158 iX5_nthOf_12 (by omega) (c_has _ _ hS (by omega)) rfl (Nat.le_of_ble_eq_true rfl) (Nat.le_of_ble_eq_true rfl) ?_
      refine j_if_eqB (tgt := 28) iX5_nthOf_15 (by decide) (fun h15 => ?_) (fun h15 => ?_)
      · refine j_iincN iX5_nthOf_28 rfl (by decide) rfl ?_
        dsimp only [List.set]
        refine j_goto (tgt := 4) iX5_nthOf_31 (by decide) ?_
        first | exact (by simpa only [nthFrom, h15, h20, if_true, if_false] using ih (i + 1) (a + 1) (by omega) (by omega)) | exact (by simpa [nthFrom, h15] using ih (i + 1) a (by omega) (by omega))
      · refine j_iload_n iX5_nthOf_18 rfl ?_
        refine j_iload_n iX5_nthOf_19 rfl ?_
        refine j_icmp_neN (tgt := 25) iX5_nthOf_20 (by decide) (by omega) (by omega) (fun h20 => ?_) (fun h20 => ?_)
        · refine j_iincN iX5_nthOf_25 rfl (by decide) rfl ?_
          dsimp only [List.set]
          refine j_iincN iX5_nthOf_28 rfl (by decide) rfl ?_
          dsimp only [List.set]
          refine j_goto (tgt := 4) iX5_nthOf_31 (by decide) ?_
          first | exact (by simpa only [nthFrom, h15, h20, if_true, if_false] using ih (i + 1) (a + 1) (by omega) (by omega)) | exact (by simpa [nthFrom, h15] using ih (i + 1) a (by omega) (by omega))
        · refine j_iload_n iX5_nthOf_23 rfl ?_
          refine j_iret iX5_nthOf_24 rfl (by first | rfl | exact nar_bI _ | exact nar_bP) (⟨by simp only [nthFrom, h15, h20]; rfl, rfl⟩)
  refine j_start (ls := [.int (nI S), .int (nI n), .null, .null]) rfl ?_
  refine j_iconst (v := nI 0) iX5_nthOf_0 (by decide) ?_
  refine j_istore_n iX5_nthOf_1 (by decide) rfl ?_
  dsimp only [List.set]
  refine j_iconst (v := nI 0) iX5_nthOf_2 (by decide) ?_
  refine j_istore_n iX5_nthOf_3 (by decide) rfl ?_
  dsimp only [List.set]
  exact L 12 0 0 rfl (Nat.le_refl _)
theorem c_lowestOf {w : mW} (S : Nat) (hS : S < 2 ^ 31) : JR 2 mX5_lowestOf [.int (nI S)] w (.int (oN (nth S 0))) w := by
  refine j_start (ls := [.int (nI S)]) rfl ?_
  refine j_iload_n iX5_lowestOf_0 rfl ?_
  refine j_iconst (v := nI 0) iX5_lowestOf_1 (by decide) ?_
  refine j_S2R okX5_nthOf lk_X5_286 iX5_lowestOf_2 (by omega) (c_nthOf _ _ hS (by decide)) rfl (Nat.le_of_ble_eq_true rfl) (Nat.le_of_ble_eq_true rfl) ?_
  refine j_iret iX5_lowestOf_5 rfl (by first | rfl | exact nar_bI _ | exact nar_bP) (⟨rfl, rfl⟩)
/-- x is a number below n -/
def inR (x : Int32) (n : Nat) : Bool := decide (¬ x < 0 ∧ x < nI n)
theorem inR_f0 {x : Int32} {n : Nat} (h : x < 0) : inR x n = false := by simp [inR, h]
theorem inR_f {x : Int32} {n : Nat} (h : nI n ≤ x) : inR x n = false := by
  have : ¬ x < nI n := Int32.not_lt.mpr h
  simp [inR, this]
theorem inR_t {x : Int32} {n : Nat} (h0 : ¬ x < 0) (h : ¬ nI n ≤ x) : inR x n = true := by
  have : x < nI n := Int32.not_le.mp h
  simp [inR, h0, this]
theorem inR_nI {j n : Nat} (hj : j < 2 ^ 31) (hn : n < 2 ^ 31) : inR (nI j) n = decide (j < n) := by
  have h := nI_pos hj
  simp only [inR, nI_ltI hj hn, h, not_false_eq_true, true_and]
theorem inR_ex {x : Int32} {n : Nat} (hn : n < 2 ^ 31) (h : inR x n = true) : ∃ j : Nat, j < n ∧ x = nI j := by
  simp only [inR, decide_eq_true_eq] at h
  rcases pk_ix x hn with h1 | h1 | h1
  · exact absurd h1 h.1
  · exact absurd h.2 (Int32.not_lt.mpr h1)
  · exact h1
theorem c_isKind {w : mW} (x : Int32) : JR 0 mX5_isKind [.int x] w (.int (bI (inR x 5))) w := by
  refine j_start (ls := [.int x]) rfl ?_
  refine j_iload_n iX5_isKind_0 rfl ?_
  refine j_if_lt (tgt := 13) iX5_isKind_1 (by decide) (fun h1 => ?_) (fun h1 => ?_)
  · refine j_iconst (v := nI 0) iX5_isKind_13 (by decide) ?_
    refine j_iret iX5_isKind_14 rfl (by first | rfl | exact nar_bI _ | exact nar_bP) (⟨by first | rw [inR_f0 h1]; rfl | rw [inR_f h6]; rfl | rw [inR_t h1 h6]; rfl, rfl⟩)
  · refine j_iload_n iX5_isKind_4 rfl ?_
    refine j_iconst (v := nI 5) iX5_isKind_5 (by decide) ?_
    refine j_icmp_ge (tgt := 13) iX5_isKind_6 (by decide) (fun h6 => ?_) (fun h6 => ?_)
    · refine j_iconst (v := nI 0) iX5_isKind_13 (by decide) ?_
      refine j_iret iX5_isKind_14 rfl (by first | rfl | exact nar_bI _ | exact nar_bP) (⟨by first | rw [inR_f0 h1]; rfl | rw [inR_f h6]; rfl | rw [inR_t h1 h6]; rfl, rfl⟩)
    · refine j_iconst (v := nI 1) iX5_isKind_9 (by decide) ?_
      refine j_goto (tgt := 14) iX5_isKind_10 (by decide) ?_
      refine j_iret iX5_isKind_14 rfl (by first | rfl | exact nar_bI _ | exact nar_bP) (⟨by first | rw [inR_f0 h1]; rfl | rw [inR_f h6]; rfl | rw [inR_t h1 h6]; rfl, rfl⟩)
def spreadFrom (f : Nat → Nat) (S : Nat) : Nat → Nat → Nat → Nat
  | 0, _, r => r
  | k + 1, i, r => spreadFrom f S k (i + 1) (if S.testBit i = true then r ||| f i else r)
def spread (f : Nat → Nat) (S : Nat) : Nat := spreadFrom f S 12 0 0
theorem c_spread {w : mW} {a : Nat} {f : Nat → Nat} (hc : w[a]? = some (iA 12 (fun i => nI (f i)))) (S : Nat) (hS : S < 2 ^ 31) : JR 0 mX1_spread [.ref a, .int (nI S)] w (.int (nI (spread f S))) w := by
  have L : ∀ (k i r : Nat), i + k = 12 → J 0 mX1_spread 4 [.ref a, .int (nI S), .int (nI r), .int (nI i)] [] w (fun v u => v = some (.int (nI (spreadFrom f S k i r))) ∧ u = w) := by
    intro k
    induction k with
    | zero =>
      intro i r hi
      refine j_iload_n iX1_spread_4 rfl ?_
      refine j_aload_n iX1_spread_5 rfl ?_
      refine j_alen iX1_spread_6 (by first | assumption | exact wset_same (by assumption) | exact wset_ne (by decide) (by assumption) | exact wset_ne (by decide) (wset_same (by assumption)) | exact wset_ne (by decide) (wset_ne (by decide) (by assumption))) (by decide) (by rfl) ?_
      refine j_icmp_geN (tgt := 31) iX1_spread_7 (by decide) (by omega) (by omega) (fun _ => ?_) (fun hno => by exfalso; omega)
      refine j_iload_n iX1_spread_31 rfl ?_
      refine j_iret iX1_spread_32 rfl (by first | rfl | exact nar_bI _ | exact nar_bP) (⟨rfl, rfl⟩)
    | succ k ih =>
      intro i r hi
      refine j_iload_n iX1_spread_4 rfl ?_
      refine j_aload_n iX1_spread_5 rfl ?_
      refine j_alen iX1_spread_6 (by first | assumption | exact wset_same (by assumption) | exact wset_ne (by decide) (by assumption) | exact wset_ne (by decide) (wset_same (by assumption)) | exact wset_ne (by decide) (wset_ne (by decide) (by assumption))) (by decide) (by rfl) ?_
      refine j_icmp_geN (tgt := 31) iX1_spread_7 (by decide) (by omega) (by omega) (fun hno => by exfalso; omega) (fun _ => ?_)
      refine j_iload_n iX1_spread_10 rfl ?_
      refine j_iload_n iX1_spread_11 rfl ?_
      refine j_ishrN iX1_spread_12 (by omega) (by omega) ?_
      refine j_iconst (v := nI 1) iX1_spread_13 (by decide) ?_
      refine j_iandBit iX1_spread_14 ?_
      refine j_iconst (v := nI 1) iX1_spread_15 (by decide) ?_
      refine j_icmp_neT (tgt := 25) iX1_spread_16 (by decide) (fun h16 => ?_) (fun h16 => ?_)
      · refine j_iincN iX1_spread_25 rfl (by decide) rfl ?_
        dsimp only [List.set]
        refine j_goto (tgt := 4) iX1_spread_28 (by decide) ?_
        first | exact (by simpa [spreadFrom, h16] using ih (i + 1) (r ||| f i) (by omega)) | exact (by simpa [spreadFrom, h16] using ih (i + 1) r (by omega))
      · refine j_iload_n iX1_spread_19 rfl ?_
        refine j_aload_n iX1_spread_20 rfl ?_
        refine j_iload_n iX1_spread_21 rfl ?_
        refine j_ialdN iX1_spread_22 (by first | assumption | exact wset_same (by assumption) | exact wset_ne (by decide) (by assumption) | exact wset_ne (by decide) (wset_same (by assumption)) | exact wset_ne (by decide) (wset_ne (by decide) (by assumption))) (by omega) ?_
        refine j_iorN iX1_spread_23  ?_
        refine j_istore_n iX1_spread_24 (by decide) rfl ?_
        dsimp only [List.set]
        refine j_iincN iX1_spread_25 rfl (by decide) rfl ?_
        dsimp only [List.set]
        refine j_goto (tgt := 4) iX1_spread_28 (by decide) ?_
        first | exact (by simpa [spreadFrom, h16] using ih (i + 1) (r ||| f i) (by omega)) | exact (by simpa [spreadFrom, h16] using ih (i + 1) r (by omega))
  refine j_start (ls := [.ref a, .int (nI S), .null, .null]) rfl ?_
  refine j_iconst (v := nI 0) iX1_spread_0 (by decide) ?_
  refine j_istore_n iX1_spread_1 (by decide) rfl ?_
  dsimp only [List.set]
  refine j_iconst (v := nI 0) iX1_spread_2 (by decide) ?_
  refine j_istore_n iX1_spread_3 (by decide) rfl ?_
  dsimp only [List.set]
  exact L 12 0 0 rfl
end
section
/-! ===== the class: a scene ===== -/
abbrev oS (fr lp lps sn : Nat) (k st so ss : Nat) : mE := .inr (3, [.int (nI fr), .int (nI lp), .int (nI lps), .int (nI sn), .ref k, .ref st, .ref so, .ref ss])
abbrev nA (n : Nat) (f : Nat → Nat) : mE := iA n (fun i => nI (f i))
section
variable {w : mW} {a fr lp lps sn k st so ss : Nat} {ks sts sof sso : Nat → Nat}
theorem c_isThere (hs : w[a]? = some (oS fr lp lps sn k st so ss)) (hlp : lp ≤ 4) : JR 0 mX3_isThere [.ref a] w (.int (bI (decide (0 < lp)))) w := by
  refine j_start (ls := [.ref a]) rfl ?_
  refine j_aload_n iX3_isThere_0 rfl ?_
  refine j_get fk_X3_24 iX3_isThere_1 (by first | assumption | exact wset_same (by assumption) | exact wset_ne (by decide) (by assumption) | exact wset_ne (by decide) (wset_same (by assumption)) | exact wset_ne (by decide) (wset_ne (by decide) (by assumption))) (by rfl) ?_
  refine j_if_leN (tgt := 11) iX3_isThere_4 (by decide) (by omega) (fun h4 => ?_) (fun h4 => ?_)
  · refine j_iconst (v := nI 0) iX3_isThere_11 (by decide) ?_
    refine j_iret iX3_isThere_12 rfl (by first | rfl | exact nar_bI _ | exact nar_bP) (⟨by first | rw [h4]; rfl | rw [decide_eq_true h4]; rfl, rfl⟩)
  · refine j_iconst (v := nI 1) iX3_isThere_7 (by decide) ?_
    refine j_goto (tgt := 12) iX3_isThere_8 (by decide) ?_
    refine j_iret iX3_isThere_12 rfl (by first | rfl | exact nar_bI _ | exact nar_bP) (⟨by first | rw [h4]; rfl | rw [decide_eq_true h4]; rfl, rfl⟩)
theorem c_hasLeaper (hs : w[a]? = some (oS fr lp lps sn k st so ss)) (hlp : lp ≤ 4) (x : Int32) : JR 0 mX3_hasLeaper [.ref a, .int x] w (.int (bI (inR x lp))) w := by
  refine j_start (ls := [.ref a, .int x]) rfl ?_
  refine j_iload_n iX3_hasLeaper_0 rfl ?_
  refine j_if_lt (tgt := 21) iX3_hasLeaper_1 (by decide) (fun h1 => ?_) (fun h1 => ?_)
  · refine j_iconst (v := nI 0) iX3_hasLeaper_21 (by decide) ?_
    refine j_iret iX3_hasLeaper_22 rfl (by first | rfl | exact nar_bI _ | exact nar_bP) (⟨by first | rw [inR_f0 h1]; rfl | rw [inR_f h9]; rfl, rfl⟩)
  · refine j_iload_n iX3_hasLeaper_4 rfl ?_
    refine j_aload_n iX3_hasLeaper_5 rfl ?_
    refine j_get fk_X3_24 iX3_hasLeaper_6 (by first | assumption | exact wset_same (by assumption) | exact wset_ne (by decide) (by assumption) | exact wset_ne (by decide) (wset_same (by assumption)) | exact wset_ne (by decide) (wset_ne (by decide) (by assumption))) (by rfl) ?_
    refine j_icmp_ge (tgt := 21) iX3_hasLeaper_9 (by decide) (fun h9 => ?_) (fun h9 => ?_)
    · refine j_iconst (v := nI 0) iX3_hasLeaper_21 (by decide) ?_
      refine j_iret iX3_hasLeaper_22 rfl (by first | rfl | exact nar_bI _ | exact nar_bP) (⟨by first | rw [inR_f0 h1]; rfl | rw [inR_f h9]; rfl, rfl⟩)
    · refine j_iload_n iX3_hasLeaper_12 rfl ?_
      refine j_iconst (v := nI 4) iX3_hasLeaper_13 (by decide) ?_
      refine j_icmp_ge (tgt := 21) iX3_hasLeaper_14 (by decide) (fun h14 => ?_) (fun h14 => ?_)
      · exact absurd (Int32.le_trans (b := nI 4) ((nI_leI (by omega) (by decide)).mpr hlp) h14) h9
      · refine j_iconst (v := nI 1) iX3_hasLeaper_17 (by decide) ?_
        refine j_goto (tgt := 22) iX3_hasLeaper_18 (by decide) ?_
        refine j_iret iX3_hasLeaper_22 rfl rfl ⟨by rw [inR_t h1 h9]; rfl, rfl⟩
theorem c_kindOf (hs : w[a]? = some (oS fr lp lps sn k st so ss)) (hlp : lp ≤ 4) (hk : w[k]? = some (nA 4 ks)) (j : Nat) (hj : j < lp) : JR 1 mX3_kindOf [.ref a, .int (nI j)] w (.int (nI (ks j))) w := by
  refine j_start (ls := [.ref a, .int (nI j)]) rfl ?_
  refine j_aload_n iX3_kindOf_0 rfl ?_
  refine j_iload_n iX3_kindOf_1 rfl ?_
  refine j_V1R okX3_hasLeaper lk_X3_28 iX3_kindOf_2 (by omega) (by first | assumption | exact wset_same (by assumption) | exact wset_ne (by decide) (by assumption) | exact wset_ne (by decide) (wset_same (by assumption)) | exact wset_ne (by decide) (wset_ne (by decide) (by assumption))) rfl (c_hasLeaper hs hlp _) rfl (Nat.le_of_ble_eq_true rfl) (Nat.le_of_ble_eq_true rfl) ?_
  refine j_if_eqB (tgt := 17) iX3_kindOf_5 (by decide) (fun hno => Bool.noConfusion (hno.symm.trans (show _ = true from by rw [inR_nI (by omega) (by omega)]; exact decide_eq_true hj))) (fun _ => ?_)
  refine j_aload_n iX3_kindOf_8 rfl ?_
  refine j_get fk_X3_9 iX3_kindOf_9 (by first | assumption | exact wset_same (by assumption) | exact wset_ne (by decide) (by assumption) | exact wset_ne (by decide) (wset_same (by assumption)) | exact wset_ne (by decide) (wset_ne (by decide) (by assumption))) (by rfl) ?_
  refine j_iload_n iX3_kindOf_12 rfl ?_
  refine j_ialdN iX3_kindOf_13 (by first | assumption | exact wset_same (by assumption) | exact wset_ne (by decide) (by assumption) | exact wset_ne (by decide) (wset_same (by assumption)) | exact wset_ne (by decide) (wset_ne (by decide) (by assumption))) (by omega) ?_
  refine j_goto (tgt := 18) iX3_kindOf_14 (by decide) ?_
  refine j_iret iX3_kindOf_18 rfl (by first | rfl | exact nar_bI _ | exact nar_bP) (⟨rfl, rfl⟩)
theorem c_standOf (hs : w[a]? = some (oS fr lp lps sn k st so ss)) (hlp : lp ≤ 4) (hk : w[st]? = some (nA 4 sts)) (j : Nat) (hj : j < lp) : JR 1 mX3_standOf [.ref a, .int (nI j)] w (.int (nI (sts j))) w := by
  refine j_start (ls := [.ref a, .int (nI j)]) rfl ?_
  refine j_aload_n iX3_standOf_0 rfl ?_
  refine j_iload_n iX3_standOf_1 rfl ?_
  refine j_V1R okX3_hasLeaper lk_X3_28 iX3_standOf_2 (by omega) (by first | assumption | exact wset_same (by assumption) | exact wset_ne (by decide) (by assumption) | exact wset_ne (by decide) (wset_same (by assumption)) | exact wset_ne (by decide) (wset_ne (by decide) (by assumption))) rfl (c_hasLeaper hs hlp _) rfl (Nat.le_of_ble_eq_true rfl) (Nat.le_of_ble_eq_true rfl) ?_
  refine j_if_eqB (tgt := 17) iX3_standOf_5 (by decide) (fun hno => Bool.noConfusion (hno.symm.trans (show _ = true from by rw [inR_nI (by omega) (by omega)]; exact decide_eq_true hj))) (fun _ => ?_)
  refine j_aload_n iX3_standOf_8 rfl ?_
  refine j_get fk_X3_15 iX3_standOf_9 (by first | assumption | exact wset_same (by assumption) | exact wset_ne (by decide) (by assumption) | exact wset_ne (by decide) (wset_same (by assumption)) | exact wset_ne (by decide) (wset_ne (by decide) (by assumption))) (by rfl) ?_
  refine j_iload_n iX3_standOf_12 rfl ?_
  refine j_ialdN iX3_standOf_13 (by first | assumption | exact wset_same (by assumption) | exact wset_ne (by decide) (by assumption) | exact wset_ne (by decide) (wset_same (by assumption)) | exact wset_ne (by decide) (wset_ne (by decide) (by assumption))) (by omega) ?_
  refine j_goto (tgt := 18) iX3_standOf_14 (by decide) ?_
  refine j_iret iX3_standOf_18 rfl (by first | rfl | exact nar_bI _ | exact nar_bP) (⟨rfl, rfl⟩)
def emptyFrom (sts : Nat → Nat) : Nat → Nat → Nat → Nat
  | 0, _, e => e
  | n + 1, i, e => emptyFrom sts n (i + 1) (ad e (2 ^ sts i))
def emptyF (fr lp : Nat) (sts : Nat → Nat) : Nat := emptyFrom sts lp 0 fr
theorem c_empty (hs : w[a]? = some (oS fr lp lps sn k st so ss)) (hlp : lp ≤ 4) (hk : w[st]? = some (nA 4 sts)) (hst : ∀ i, sts i < 12) : JR 0 mX3_empty [.ref a] w (.int (nI (emptyF fr lp sts))) w := by
  have L : ∀ (n i e : Nat), i + n = lp → J 0 mX3_empty 7 [.ref a, .int (nI e), .int (nI i)] [] w (fun v u => v = some (.int (nI (emptyFrom sts n i e))) ∧ u = w) := by
    intro n
    induction n with
    | zero =>
      intro i e hi
      refine j_iload_n iX3_empty_7 rfl ?_
      refine j_aload_n iX3_empty_8 rfl ?_
      refine j_get fk_X3_24 iX3_empty_9 (by first | assumption | exact wset_same (by assumption) | exact wset_ne (by decide) (by assumption) | exact wset_ne (by decide) (wset_same (by assumption)) | exact wset_ne (by decide) (wset_ne (by decide) (by assumption))) (by rfl) ?_
      refine j_icmp_geN (tgt := 39) iX3_empty_12 (by decide) (by omega) (by omega) (fun _ => ?_) (fun hno => by exfalso; omega)
      refine j_iload_n iX3_empty_39 rfl ?_
      refine j_iret iX3_empty_40 rfl (by first | rfl | exact nar_bI _ | exact nar_bP) (⟨rfl, rfl⟩)
    | succ n ih =>
      intro i e hi
      have hx := hst i
      refine j_iload_n iX3_empty_7 rfl ?_
      refine j_aload_n iX3_empty_8 rfl ?_
      refine j_get fk_X3_24 iX3_empty_9 (by first | assumption | exact wset_same (by assumption) | exact wset_ne (by decide) (by assumption) | exact wset_ne (by decide) (wset_same (by assumption)) | exact wset_ne (by decide) (wset_ne (by decide) (by assumption))) (by rfl) ?_
      refine j_icmp_geN (tgt := 39) iX3_empty_12 (by decide) (by omega) (by omega) (fun hno => by exfalso; omega) (fun _ => ?_)
      refine j_iload_n iX3_empty_15 rfl ?_
      refine j_iconst (v := nI 4) iX3_empty_16 (by decide) ?_
      refine j_icmp_geN (tgt := 39) iX3_empty_17 (by decide) (by omega) (by omega) (fun hno => by exfalso; omega) (fun _ => ?_)
      refine j_iload_n iX3_empty_20 rfl ?_
      refine j_iconst (v := nI 1) iX3_empty_21 (by decide) ?_
      refine j_aload_n iX3_empty_22 rfl ?_
      refine j_get fk_X3_15 iX3_empty_23 (by first | assumption | exact wset_same (by assumption) | exact wset_ne (by decide) (by assumption) | exact wset_ne (by decide) (wset_same (by assumption)) | exact wset_ne (by decide) (wset_ne (by decide) (by assumption))) (by rfl) ?_
      refine j_iload_n iX3_empty_26 rfl ?_
      refine j_ialdN iX3_empty_27 (by first | assumption | exact wset_same (by assumption) | exact wset_ne (by decide) (by assumption) | exact wset_ne (by decide) (wset_same (by assumption)) | exact wset_ne (by decide) (wset_ne (by decide) (by assumption))) (by omega) ?_
      refine j_ishlN iX3_empty_28 (by omega) ?_
      refine j_iconst (v := (-1)) iX3_empty_29 (by decide) ?_
      refine j_ixor iX3_empty_30 ?_
      refine j_iandnN iX3_empty_31 ?_
      refine j_istore_n iX3_empty_32 (by decide) rfl ?_
      dsimp only [List.set]
      refine j_iincN iX3_empty_33 rfl (by decide) rfl ?_
      dsimp only [List.set]
      refine j_goto (tgt := 7) iX3_empty_36 (by decide) ?_
      exact ih (i + 1) _ (by omega)
  refine j_start (ls := [.ref a, .null, .null]) rfl ?_
  refine j_aload_n iX3_empty_0 rfl ?_
  refine j_get fk_X3_32 iX3_empty_1 (by first | assumption | exact wset_same (by assumption) | exact wset_ne (by decide) (by assumption) | exact wset_ne (by decide) (wset_same (by assumption)) | exact wset_ne (by decide) (wset_ne (by decide) (by assumption))) (by rfl) ?_
  refine j_istore_n iX3_empty_4 (by decide) rfl ?_
  dsimp only [List.set]
  refine j_iconst (v := nI 0) iX3_empty_5 (by decide) ?_
  refine j_istore_n iX3_empty_6 (by decide) rfl ?_
  dsimp only [List.set]
  exact L lp 0 fr (by omega)
def whoFrom (sts : Nat → Nat) (c : Nat) : Nat → Nat → Option Nat
  | 0, _ => none
  | n + 1, i => if sts i = c then some i else whoFrom sts c n (i + 1)
def whoF (lp : Nat) (sts : Nat → Nat) (c : Nat) : Option Nat := whoFrom sts c lp 0
theorem c_whoStands (hs : w[a]? = some (oS fr lp lps sn k st so ss)) (hlp : lp ≤ 4) (hk : w[st]? = some (nA 4 sts)) (hst : ∀ i, sts i < 12) (c : Nat) (hc : c < 2 ^ 31) : JR 0 mX3_whoStands [.ref a, .int (nI c)] w (.int (oN (whoF lp sts c))) w := by
  have L : ∀ (n i : Nat), i + n = lp → J 0 mX3_whoStands 2 [.ref a, .int (nI c), .int (nI i)] [] w (fun v u => v = some (.int (oN (whoFrom sts c n i))) ∧ u = w) := by
    intro n
    induction n with
    | zero =>
      intro i hi
      refine j_iload_n iX3_whoStands_2 rfl ?_
      refine j_aload_n iX3_whoStands_3 rfl ?_
      refine j_get fk_X3_24 iX3_whoStands_4 (by first | assumption | exact wset_same (by assumption) | exact wset_ne (by decide) (by assumption) | exact wset_ne (by decide) (wset_same (by assumption)) | exact wset_ne (by decide) (wset_ne (by decide) (by assumption))) (by rfl) ?_
      refine j_icmp_geN (tgt := 33) iX3_whoStands_7 (by decide) (by omega) (by omega) (fun _ => ?_) (fun hno => by exfalso; omega)
      refine j_iconst (v := (-1)) iX3_whoStands_33 (by decide) ?_
      refine j_iret iX3_whoStands_34 rfl (by first | rfl | exact nar_bI _ | exact nar_bP) (⟨rfl, rfl⟩)
    | succ n ih =>
      intro i hi
      have hx := hst i
      refine j_iload_n iX3_whoStands_2 rfl ?_
      refine j_aload_n iX3_whoStands_3 rfl ?_
      refine j_get fk_X3_24 iX3_whoStands_4 (by first | assumption | exact wset_same (by assumption) | exact wset_ne (by decide) (by assumption) | exact wset_ne (by decide) (wset_same (by assumption)) | exact wset_ne (by decide) (wset_ne (by decide) (by assumption))) (by rfl) ?_
      refine j_icmp_geN (tgt := 33) iX3_whoStands_7 (by decide) (by omega) (by omega) (fun hno => by exfalso; omega) (fun _ => ?_)
      refine j_iload_n iX3_whoStands_10 rfl ?_
      refine j_iconst (v := nI 4) iX3_whoStands_11 (by decide) ?_
      refine j_icmp_geN (tgt := 33) iX3_whoStands_12 (by decide) (by omega) (by omega) (fun hno => by exfalso; omega) (fun _ => ?_)
      refine j_aload_n iX3_whoStands_15 rfl ?_
      refine j_get fk_X3_15 iX3_whoStands_16 (by first | assumption | exact wset_same (by assumption) | exact wset_ne (by decide) (by assumption) | exact wset_ne (by decide) (wset_same (by assumption)) | exact wset_ne (by decide) (wset_ne (by decide) (by assumption))) (by rfl) ?_
      refine j_iload_n iX3_whoStands_19 rfl ?_
      refine j_ialdN iX3_whoStands_20 (by first | assumption | exact wset_same (by assumption) | exact wset_ne (by decide) (by assumption) | exact wset_ne (by decide) (wset_same (by assumption)) | exact wset_ne (by decide) (wset_ne (by decide) (by assumption))) (by omega) ?_
      refine j_iload_n iX3_whoStands_21 rfl ?_
      refine j_icmp_neN (tgt := 27) iX3_whoStands_22 (by decide) (by omega) (by omega) (fun h22 => ?_) (fun h22 => ?_)
      · refine j_iincN iX3_whoStands_27 rfl (by decide) rfl ?_
        dsimp only [List.set]
        refine j_goto (tgt := 2) iX3_whoStands_30 (by decide) ?_
        exact (by simpa only [whoFrom, h22, if_false] using ih (i + 1) (by omega))
      · refine j_iload_n iX3_whoStands_25 rfl ?_
        refine j_iret iX3_whoStands_26 rfl (by first | rfl | exact nar_bI _ | exact nar_bP) (⟨by simp only [whoFrom, h22, if_true]; rfl, rfl⟩)
  refine j_start (ls := [.ref a, .int (nI c), .null]) rfl ?_
  refine j_iconst (v := nI 0) iX3_whoStands_0 (by decide) ?_
  refine j_istore_n iX3_whoStands_1 (by decide) rfl ?_
  dsimp only [List.set]
  exact L lp 0 (by omega)
theorem c_note (hs : w[a]? = some (oS fr lp lps sn k st so ss)) (ho : w[so]? = some (nA 6 sof)) (h2 : w[ss]? = some (nA 6 sso)) (hao : a ≠ so) (has : a ≠ ss) (hos : so ≠ ss) (x y : Nat) (hsn : sn < 6) : JR 0 mX3_note [.ref a, .int (nI x), .int (nI y)] w (.int (bI true)) (((w.set so (nA 6 (un sof sn x))).set ss (nA 6 (un sso sn y))).set a (oS fr lp lps (sn + 1) k st so ss)) := by
  refine j_start (ls := [.ref a, .int (nI x), .int (nI y)]) rfl ?_
  have hA : (w.set so (nA 6 (un sof sn x)))[a]? = some (oS fr lp lps sn k st so ss) := wset_ne (fun e => hao e.symm) hs
  have hB : (w.set so (nA 6 (un sof sn x)))[ss]? = some (nA 6 sso) := wset_ne hos h2
  have hC : ((w.set so (nA 6 (un sof sn x))).set ss (nA 6 (un sso sn y)))[a]? = some (oS fr lp lps sn k st so ss) := wset_ne (fun e => has e.symm) hA
  refine j_aload_n iX3_note_0 rfl ?_
  refine j_get fk_X3_35 iX3_note_1 (by first | assumption | exact wset_same (by assumption) | exact wset_ne (by decide) (by assumption) | exact wset_ne (by decide) (wset_same (by assumption)) | exact wset_ne (by decide) (wset_ne (by decide) (by assumption))) (by rfl) ?_
  refine j_if_ltN (tgt := 16) iX3_note_4 (by decide) (by omega) (fun hno => by exfalso; omega) (fun _ => ?_)
  refine j_aload_n iX3_note_7 rfl ?_
  refine j_get fk_X3_35 iX3_note_8 (by first | assumption | exact wset_same (by assumption) | exact wset_ne (by decide) (by assumption) | exact wset_ne (by decide) (wset_same (by assumption)) | exact wset_ne (by decide) (wset_ne (by decide) (by assumption))) (by rfl) ?_
  refine j_bipush (v := nI 6) iX3_note_11 (by decide) ?_
  refine j_icmp_ltN (tgt := 18) iX3_note_13 (by decide) (by omega) (by omega) (fun _ => ?_) (fun hno => by exfalso; omega)
  refine j_aload_n iX3_note_18 rfl ?_
  refine j_get fk_X3_18 iX3_note_19 (by first | assumption | exact wset_same (by assumption) | exact wset_ne (by decide) (by assumption) | exact wset_ne (by decide) (wset_same (by assumption)) | exact wset_ne (by decide) (wset_ne (by decide) (by assumption))) (by rfl) ?_
  refine j_aload_n iX3_note_22 rfl ?_
  refine j_get fk_X3_35 iX3_note_23 (by first | assumption | exact wset_same (by assumption) | exact wset_ne (by decide) (by assumption) | exact wset_ne (by decide) (wset_same (by assumption)) | exact wset_ne (by decide) (wset_ne (by decide) (by assumption))) (by rfl) ?_
  refine j_iload_n iX3_note_26 rfl ?_
  refine j_iastN iX3_note_27 (by first | assumption | exact wset_same (by assumption) | exact wset_ne (by decide) (by assumption) | exact wset_ne (by decide) (wset_same (by assumption)) | exact wset_ne (by decide) (wset_ne (by decide) (by assumption))) (by omega) ?_
  refine j_aload_n iX3_note_28 rfl ?_
  refine j_get fk_X3_21 iX3_note_29 (by first | assumption | exact wset_same (by assumption) | exact wset_ne (by decide) (by assumption) | exact wset_ne (by decide) (wset_same (by assumption)) | exact wset_ne (by decide) (wset_ne (by decide) (by assumption))) (by rfl) ?_
  refine j_aload_n iX3_note_32 rfl ?_
  refine j_get fk_X3_35 iX3_note_33 (by first | assumption | exact wset_same (by assumption) | exact wset_ne (by decide) (by assumption) | exact wset_ne (by decide) (wset_same (by assumption)) | exact wset_ne (by decide) (wset_ne (by decide) (by assumption))) (by rfl) ?_
  refine j_iload_n iX3_note_36 rfl ?_
  refine j_iastN iX3_note_37 (by first | assumption | exact wset_same (by assumption) | exact wset_ne (by decide) (by assumption) | exact wset_ne (by decide) (wset_same (by assumption)) | exact wset_ne (by decide) (wset_ne (by decide) (by assumption))) (by omega) ?_
  refine j_aload_n iX3_note_38 rfl ?_
  refine j_dup iX3_note_39 rfl ?_
  refine j_get fk_X3_35 iX3_note_40 (by first | assumption | exact wset_same (by assumption) | exact wset_ne (by decide) (by assumption) | exact wset_ne (by decide) (wset_same (by assumption)) | exact wset_ne (by decide) (wset_ne (by decide) (by assumption))) (by rfl) ?_
  refine j_iconst (v := nI 1) iX3_note_43 (by decide) ?_
  refine j_iaddN iX3_note_44  ?_
  refine j_put fk_X3_35 iX3_note_45 (by first | assumption | exact wset_same (by assumption) | exact wset_ne (by decide) (by assumption) | exact wset_ne (by decide) (wset_same (by assumption)) | exact wset_ne (by decide) (wset_ne (by decide) (by assumption))) (by intro; rfl) (by intro; rfl) (Nat.le_of_ble_eq_true rfl) ?_
  dsimp only [List.set]
  refine j_iconst (v := nI 1) iX3_note_48 (by decide) ?_
  refine j_iret iX3_note_49 rfl (by first | rfl | exact nar_bI _ | exact nar_bP) (⟨rfl, rfl⟩)
theorem c_note6 (hs : w[a]? = some (oS fr lp lps sn k st so ss)) (x y : Int32) (hsn : sn = 6) : JR 0 mX3_note [.ref a, .int x, .int y] w (.int (bI false)) w := by
  refine j_start (ls := [.ref a, .int x, .int y]) rfl ?_
  refine j_aload_n iX3_note_0 rfl ?_
  refine j_get fk_X3_35 iX3_note_1 (by first | assumption | exact wset_same (by assumption) | exact wset_ne (by decide) (by assumption) | exact wset_ne (by decide) (wset_same (by assumption)) | exact wset_ne (by decide) (wset_ne (by decide) (by assumption))) (by rfl) ?_
  refine j_if_ltN (tgt := 16) iX3_note_4 (by decide) (by omega) (fun hno => by exfalso; omega) (fun _ => ?_)
  refine j_aload_n iX3_note_7 rfl ?_
  refine j_get fk_X3_35 iX3_note_8 (by first | assumption | exact wset_same (by assumption) | exact wset_ne (by decide) (by assumption) | exact wset_ne (by decide) (wset_same (by assumption)) | exact wset_ne (by decide) (wset_ne (by decide) (by assumption))) (by rfl) ?_
  refine j_bipush (v := nI 6) iX3_note_11 (by decide) ?_
  refine j_icmp_ltN (tgt := 18) iX3_note_13 (by decide) (by omega) (by omega) (fun hno => by exfalso; omega) (fun _ => ?_)
  refine j_iconst (v := nI 0) iX3_note_16 (by decide) ?_
  refine j_iret iX3_note_17 rfl (by first | rfl | exact nar_bI _ | exact nar_bP) (⟨rfl, rfl⟩)
def sortsFrom (sof sso : Nat → Nat) (l : Nat) : Nat → Nat → Nat → Nat
  | 0, _, r => r
  | n + 1, i, r => sortsFrom sof sso l n (i + 1) (if sof i = l then r &&& sso i else r)
def sortsF (sn : Nat) (sof sso : Nat → Nat) (l : Nat) : Nat := sortsFrom sof sso l sn 0 31
theorem c_sorts (hs : w[a]? = some (oS fr lp lps sn k st so ss)) (hsn : sn ≤ 6) (ho : w[so]? = some (nA 6 sof)) (h2 : w[ss]? = some (nA 6 sso)) (hso : ∀ i, sof i < 4) (l : Nat) (hl : l < 4) : JR 0 mX3_sorts [.ref a, .int (nI l)] w (.int (nI (sortsF sn sof sso l))) w := by
  have L : ∀ (n i r : Nat), i + n = sn → J 0 mX3_sorts 5 [.ref a, .int (nI l), .int (nI r), .int (nI i)] [] w (fun v u => v = some (.int (nI (sortsFrom sof sso l n i r))) ∧ u = w) := by
    intro n
    induction n with
    | zero =>
      intro i r hi
      refine j_iload_n iX3_sorts_5 rfl ?_
      refine j_aload_n iX3_sorts_6 rfl ?_
      refine j_get fk_X3_35 iX3_sorts_7 (by first | assumption | exact wset_same (by assumption) | exact wset_ne (by decide) (by assumption) | exact wset_ne (by decide) (wset_same (by assumption)) | exact wset_ne (by decide) (wset_ne (by decide) (by assumption))) (by rfl) ?_
      refine j_icmp_geN (tgt := 44) iX3_sorts_10 (by decide) (by omega) (by omega) (fun _ => ?_) (fun hno => by exfalso; omega)
      refine j_iload_n iX3_sorts_44 rfl ?_
      refine j_iret iX3_sorts_45 rfl (by first | rfl | exact nar_bI _ | exact nar_bP) (⟨rfl, rfl⟩)
    | succ n ih =>
      intro i r hi
      have hx := hso i
      refine j_iload_n iX3_sorts_5 rfl ?_
      refine j_aload_n iX3_sorts_6 rfl ?_
      refine j_get fk_X3_35 iX3_sorts_7 (by first | assumption | exact wset_same (by assumption) | exact wset_ne (by decide) (by assumption) | exact wset_ne (by decide) (wset_same (by assumption)) | exact wset_ne (by decide) (wset_ne (by decide) (by assumption))) (by rfl) ?_
      refine j_icmp_geN (tgt := 44) iX3_sorts_10 (by decide) (by omega) (by omega) (fun hno => by exfalso; omega) (fun _ => ?_)
      refine j_iload_n iX3_sorts_13 rfl ?_
      refine j_bipush (v := nI 6) iX3_sorts_14 (by decide) ?_
      refine j_icmp_geN (tgt := 44) iX3_sorts_16 (by decide) (by omega) (by omega) (fun hno => by exfalso; omega) (fun _ => ?_)
      refine j_aload_n iX3_sorts_19 rfl ?_
      refine j_get fk_X3_18 iX3_sorts_20 (by first | assumption | exact wset_same (by assumption) | exact wset_ne (by decide) (by assumption) | exact wset_ne (by decide) (wset_same (by assumption)) | exact wset_ne (by decide) (wset_ne (by decide) (by assumption))) (by rfl) ?_
      refine j_iload_n iX3_sorts_23 rfl ?_
      refine j_ialdN iX3_sorts_24 (by first | assumption | exact wset_same (by assumption) | exact wset_ne (by decide) (by assumption) | exact wset_ne (by decide) (wset_same (by assumption)) | exact wset_ne (by decide) (wset_ne (by decide) (by assumption))) (by omega) ?_
      refine j_iload_n iX3_sorts_25 rfl ?_
      refine j_icmp_neN (tgt := 38) iX3_sorts_26 (by decide) (by omega) (by omega) (fun h26 => ?_) (fun h26 => ?_)
      · refine j_iincN iX3_sorts_38 rfl (by decide) rfl ?_
        dsimp only [List.set]
        refine j_goto (tgt := 5) iX3_sorts_41 (by decide) ?_
        first | exact (by simpa only [sortsFrom, h26, if_false] using ih (i + 1) r (by omega)) | exact (by simpa only [sortsFrom, h26, if_true] using ih (i + 1) (r &&& sso i) (by omega))
      · refine j_iload_n iX3_sorts_29 rfl ?_
        refine j_aload_n iX3_sorts_30 rfl ?_
        refine j_get fk_X3_21 iX3_sorts_31 (by first | assumption | exact wset_same (by assumption) | exact wset_ne (by decide) (by assumption) | exact wset_ne (by decide) (wset_same (by assumption)) | exact wset_ne (by decide) (wset_ne (by decide) (by assumption))) (by rfl) ?_
        refine j_iload_n iX3_sorts_34 rfl ?_
        refine j_ialdN iX3_sorts_35 (by first | assumption | exact wset_same (by assumption) | exact wset_ne (by decide) (by assumption) | exact wset_ne (by decide) (wset_same (by assumption)) | exact wset_ne (by decide) (wset_ne (by decide) (by assumption))) (by omega) ?_
        refine j_iandN iX3_sorts_36 ?_
        refine j_istore_n iX3_sorts_37 (by decide) rfl ?_
        dsimp only [List.set]
        refine j_iincN iX3_sorts_38 rfl (by decide) rfl ?_
        dsimp only [List.set]
        refine j_goto (tgt := 5) iX3_sorts_41 (by decide) ?_
        first | exact (by simpa only [sortsFrom, h26, if_false] using ih (i + 1) r (by omega)) | exact (by simpa only [sortsFrom, h26, if_true] using ih (i + 1) (r &&& sso i) (by omega))
  refine j_start (ls := [.ref a, .int (nI l), .null, .null]) rfl ?_
  refine j_bipush (v := nI 31) iX3_sorts_0 (by decide) ?_
  refine j_istore_n iX3_sorts_2 (by decide) rfl ?_
  dsimp only [List.set]
  refine j_iconst (v := nI 0) iX3_sorts_3 (by decide) ?_
  refine j_istore_n iX3_sorts_4 (by decide) rfl ?_
  dsimp only [List.set]
  exact L sn 0 31 (by omega)
end
end
