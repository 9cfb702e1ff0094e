section
-- ===== PART A: goes FIRST, ahead of the names: the tables' words, and 'selects' of the private methods out of them =====
/-- a private method of a class that the tables say can be made, by its rows of tables_1 -/
def lw_okq (q : MethodName × Nat) : Prop := (q.1.cls ≠ "java/lang/invoke/MethodHandle" ∧ q.1.cls ≠ "java/lang/invoke/VarHandle") ∧ Cond.instantiable q.1.cls q.2 ∈ tables_1 ∧ Cond.privateMethod q.1 ∈ tables_1 ∧ Cond.instanceMethod q.1 ∈ tables_1
theorem lw_p0 : lw_okq (⟨"LeapBoard$Page", "fits", "(I)Z"⟩, 3) := ⟨⟨by decide +kernel, by decide +kernel⟩, List.mem_of_getElem? (i := 24) (by decide +kernel), List.mem_of_getElem? (i := 203) (by decide +kernel), List.mem_of_getElem? (i := 204) (by decide +kernel)⟩
theorem lw_p1 : lw_okq (⟨"LeapBoard$Page", "kindPlace", "(I)I"⟩, 3) := ⟨⟨by decide +kernel, by decide +kernel⟩, List.mem_of_getElem? (i := 24) (by decide +kernel), List.mem_of_getElem? (i := 207) (by decide +kernel), List.mem_of_getElem? (i := 208) (by decide +kernel)⟩
theorem lw_p2 : lw_okq (⟨"LeapBoard$Page", "isOpenTo", "(I)Z"⟩, 3) := ⟨⟨by decide +kernel, by decide +kernel⟩, List.mem_of_getElem? (i := 24) (by decide +kernel), List.mem_of_getElem? (i := 301) (by decide +kernel), List.mem_of_getElem? (i := 302) (by decide +kernel)⟩
theorem lw_p3 : lw_okq (⟨"LeapBoard$Ground", "fanFrom", "(II)I"⟩, 4) := ⟨⟨by decide +kernel, by decide +kernel⟩, List.mem_of_getElem? (i := 42) (by decide +kernel), List.mem_of_getElem? (i := 325) (by decide +kernel), List.mem_of_getElem? (i := 326) (by decide +kernel)⟩
theorem lw_p4 : lw_okq (⟨"LeapBoard", "watchedBy", "(LLeapBoard$Scene;I)I"⟩, 9) := ⟨⟨by decide +kernel, by decide +kernel⟩, List.mem_of_getElem? (i := 16) (by decide +kernel), List.mem_of_getElem? (i := 367) (by decide +kernel), List.mem_of_getElem? (i := 368) (by decide +kernel)⟩
theorem lw_p5 : lw_okq (⟨"LeapBoard", "goals", "(LLeapBoard$Scene;I)I"⟩, 9) := ⟨⟨by decide +kernel, by decide +kernel⟩, List.mem_of_getElem? (i := 16) (by decide +kernel), List.mem_of_getElem? (i := 378) (by decide +kernel), List.mem_of_getElem? (i := 379) (by decide +kernel)⟩
theorem lw_p6 : lw_okq (⟨"LeapBoard", "fanOfLeaper", "(I)[I"⟩, 9) := ⟨⟨by decide +kernel, by decide +kernel⟩, List.mem_of_getElem? (i := 16) (by decide +kernel), List.mem_of_getElem? (i := 403) (by decide +kernel), List.mem_of_getElem? (i := 404) (by decide +kernel)⟩
theorem lw_p7 : lw_okq (⟨"LeapBoard$Trips", "findFirsts", "([III)V"⟩, 6) := ⟨⟨by decide +kernel, by decide +kernel⟩, List.mem_of_getElem? (i := 103) (by decide +kernel), List.mem_of_getElem? (i := 411) (by decide +kernel), List.mem_of_getElem? (i := 412) (by decide +kernel)⟩
theorem lw_p8 : lw_okq (⟨"LeapBoard$Trips", "startsOf", "([II)I"⟩, 6) := ⟨⟨by decide +kernel, by decide +kernel⟩, List.mem_of_getElem? (i := 103) (by decide +kernel), List.mem_of_getElem? (i := 421) (by decide +kernel), List.mem_of_getElem? (i := 422) (by decide +kernel)⟩
theorem lw_p9 : lw_okq (⟨"LeapBoard$Trips", "mostBehind", "()I"⟩, 6) := ⟨⟨by decide +kernel, by decide +kernel⟩, List.mem_of_getElem? (i := 103) (by decide +kernel), List.mem_of_getElem? (i := 429) (by decide +kernel), List.mem_of_getElem? (i := 430) (by decide +kernel)⟩
theorem lw_p10 : lw_okq (⟨"LeapBoard", "watchers", "(I)I"⟩, 9) := ⟨⟨by decide +kernel, by decide +kernel⟩, List.mem_of_getElem? (i := 16) (by decide +kernel), List.mem_of_getElem? (i := 461) (by decide +kernel), List.mem_of_getElem? (i := 462) (by decide +kernel)⟩
theorem lw_p11 : lw_okq (⟨"LeapBoard$Trips", "spreadPairs", "([I[II)Z"⟩, 6) := ⟨⟨by decide +kernel, by decide +kernel⟩, List.mem_of_getElem? (i := 103) (by decide +kernel), List.mem_of_getElem? (i := 497) (by decide +kernel), List.mem_of_getElem? (i := 498) (by decide +kernel)⟩
theorem lw_p12 : lw_okq (⟨"LeapBoard$Trips", "addLeap", "([II)V"⟩, 6) := ⟨⟨by decide +kernel, by decide +kernel⟩, List.mem_of_getElem? (i := 103) (by decide +kernel), List.mem_of_getElem? (i := 550) (by decide +kernel), List.mem_of_getElem? (i := 551) (by decide +kernel)⟩
theorem lw_p13 : lw_okq (⟨"LeapBoard$Trips", "sumOver", "(I)I"⟩, 6) := ⟨⟨by decide +kernel, by decide +kernel⟩, List.mem_of_getElem? (i := 103) (by decide +kernel), List.mem_of_getElem? (i := 554) (by decide +kernel), List.mem_of_getElem? (i := 555) (by decide +kernel)⟩
theorem lw_p14 : lw_okq (⟨"LeapBoard", "walkTrial", "(II)V"⟩, 9) := ⟨⟨by decide +kernel, by decide +kernel⟩, List.mem_of_getElem? (i := 16) (by decide +kernel), List.mem_of_getElem? (i := 574) (by decide +kernel), List.mem_of_getElem? (i := 575) (by decide +kernel)⟩
theorem lw_p15 : lw_okq (⟨"LeapBoard", "watchedEmpty", "(LLeapBoard$Scene;)I"⟩, 9) := ⟨⟨by decide +kernel, by decide +kernel⟩, List.mem_of_getElem? (i := 16) (by decide +kernel), List.mem_of_getElem? (i := 590) (by decide +kernel), List.mem_of_getElem? (i := 591) (by decide +kernel)⟩
def lw_privs_1 : List (MethodName × Nat) := [(⟨"LeapBoard$Page", "fits", "(I)Z"⟩, 3), (⟨"LeapBoard$Page", "kindPlace", "(I)I"⟩, 3), (⟨"LeapBoard$Page", "isOpenTo", "(I)Z"⟩, 3), (⟨"LeapBoard$Ground", "fanFrom", "(II)I"⟩, 4), (⟨"LeapBoard", "watchedBy", "(LLeapBoard$Scene;I)I"⟩, 9), (⟨"LeapBoard", "goals", "(LLeapBoard$Scene;I)I"⟩, 9), (⟨"LeapBoard", "fanOfLeaper", "(I)[I"⟩, 9), (⟨"LeapBoard$Trips", "findFirsts", "([III)V"⟩, 6), (⟨"LeapBoard$Trips", "startsOf", "([II)I"⟩, 6), (⟨"LeapBoard$Trips", "mostBehind", "()I"⟩, 6), (⟨"LeapBoard", "watchers", "(I)I"⟩, 9), (⟨"LeapBoard$Trips", "spreadPairs", "([I[II)Z"⟩, 6), (⟨"LeapBoard$Trips", "addLeap", "([II)V"⟩, 6), (⟨"LeapBoard$Trips", "sumOver", "(I)I"⟩, 6), (⟨"LeapBoard", "walkTrial", "(II)V"⟩, 9), (⟨"LeapBoard", "watchedEmpty", "(LLeapBoard$Scene;)I"⟩, 9)]
theorem lw_r1 : ∀ q ∈ lw_privs_1, lw_okq q := List.forall_mem_cons.mpr ⟨lw_p0, List.forall_mem_cons.mpr ⟨lw_p1, List.forall_mem_cons.mpr ⟨lw_p2, List.forall_mem_cons.mpr ⟨lw_p3, List.forall_mem_cons.mpr ⟨lw_p4, List.forall_mem_cons.mpr ⟨lw_p5, List.forall_mem_cons.mpr ⟨lw_p6, List.forall_mem_cons.mpr ⟨lw_p7, List.forall_mem_cons.mpr ⟨lw_p8, List.forall_mem_cons.mpr ⟨lw_p9, List.forall_mem_cons.mpr ⟨lw_p10, List.forall_mem_cons.mpr ⟨lw_p11, List.forall_mem_cons.mpr ⟨lw_p12, List.forall_mem_cons.mpr ⟨lw_p13, List.forall_mem_cons.mpr ⟨lw_p14, List.forall_mem_cons.mpr ⟨lw_p15, fun _ h => absurd h List.not_mem_nil⟩⟩⟩⟩⟩⟩⟩⟩⟩⟩⟩⟩⟩⟩⟩⟩
theorem lw_p16 : lw_okq (⟨"LeapBoard", "mixLeapers", "(J)J"⟩, 9) := ⟨⟨by decide +kernel, by decide +kernel⟩, List.mem_of_getElem? (i := 16) (by decide +kernel), List.mem_of_getElem? (i := 611) (by decide +kernel), List.mem_of_getElem? (i := 612) (by decide +kernel)⟩
theorem lw_p17 : lw_okq (⟨"LeapBoard", "mixCells", "(J)J"⟩, 9) := ⟨⟨by decide +kernel, by decide +kernel⟩, List.mem_of_getElem? (i := 16) (by decide +kernel), List.mem_of_getElem? (i := 622) (by decide +kernel), List.mem_of_getElem? (i := 623) (by decide +kernel)⟩
theorem lw_p18 : lw_okq (⟨"LeapBoard", "mixKinds", "(J)J"⟩, 9) := ⟨⟨by decide +kernel, by decide +kernel⟩, List.mem_of_getElem? (i := 16) (by decide +kernel), List.mem_of_getElem? (i := 627) (by decide +kernel), List.mem_of_getElem? (i := 628) (by decide +kernel)⟩
theorem lw_p19 : lw_okq (⟨"LeapBoardModel", "read", "()I"⟩, 39) := ⟨⟨by decide +kernel, by decide +kernel⟩, List.mem_of_getElem? (i := 637) (by decide +kernel), List.mem_of_getElem? (i := 776) (by decide +kernel), List.mem_of_getElem? (i := 777) (by decide +kernel)⟩
theorem lw_p20 : lw_okq (⟨"LeapBoardModel", "at", "(I)I"⟩, 39) := ⟨⟨by decide +kernel, by decide +kernel⟩, List.mem_of_getElem? (i := 637) (by decide +kernel), List.mem_of_getElem? (i := 780) (by decide +kernel), List.mem_of_getElem? (i := 781) (by decide +kernel)⟩
theorem lw_p21 : lw_okq (⟨"LeapBoardModel", "readCells", "(I)I"⟩, 39) := ⟨⟨by decide +kernel, by decide +kernel⟩, List.mem_of_getElem? (i := 637) (by decide +kernel), List.mem_of_getElem? (i := 784) (by decide +kernel), List.mem_of_getElem? (i := 785) (by decide +kernel)⟩
theorem lw_p22 : lw_okq (⟨"LeapBoardModel", "readLeapers", "(I)I"⟩, 39) := ⟨⟨by decide +kernel, by decide +kernel⟩, List.mem_of_getElem? (i := 637) (by decide +kernel), List.mem_of_getElem? (i := 788) (by decide +kernel), List.mem_of_getElem? (i := 789) (by decide +kernel)⟩
theorem lw_p23 : lw_okq (⟨"LeapBoardModel", "cells", "()I"⟩, 39) := ⟨⟨by decide +kernel, by decide +kernel⟩, List.mem_of_getElem? (i := 637) (by decide +kernel), List.mem_of_getElem? (i := 802) (by decide +kernel), List.mem_of_getElem? (i := 803) (by decide +kernel)⟩
theorem lw_p24 : lw_okq (⟨"LeapBoardModel", "isLeaper", "(I)Z"⟩, 39) := ⟨⟨by decide +kernel, by decide +kernel⟩, List.mem_of_getElem? (i := 637) (by decide +kernel), List.mem_of_getElem? (i := 810) (by decide +kernel), List.mem_of_getElem? (i := 811) (by decide +kernel)⟩
theorem lw_p25 : lw_okq (⟨"LeapBoardModel", "leaperNow", "(II)I"⟩, 39) := ⟨⟨by decide +kernel, by decide +kernel⟩, List.mem_of_getElem? (i := 637) (by decide +kernel), List.mem_of_getElem? (i := 814) (by decide +kernel), List.mem_of_getElem? (i := 815) (by decide +kernel)⟩
theorem lw_p26 : lw_okq (⟨"LeapBoardModel", "watched", "(I)I"⟩, 39) := ⟨⟨by decide +kernel, by decide +kernel⟩, List.mem_of_getElem? (i := 637) (by decide +kernel), List.mem_of_getElem? (i := 818) (by decide +kernel), List.mem_of_getElem? (i := 819) (by decide +kernel)⟩
theorem lw_p27 : lw_okq (⟨"LeapBoardModel", "around", "(II)I"⟩, 39) := ⟨⟨by decide +kernel, by decide +kernel⟩, List.mem_of_getElem? (i := 637) (by decide +kernel), List.mem_of_getElem? (i := 822) (by decide +kernel), List.mem_of_getElem? (i := 823) (by decide +kernel)⟩
theorem lw_p28 : lw_okq (⟨"LeapBoardModel", "canGo", "(I)I"⟩, 39) := ⟨⟨by decide +kernel, by decide +kernel⟩, List.mem_of_getElem? (i := 637) (by decide +kernel), List.mem_of_getElem? (i := 835) (by decide +kernel), List.mem_of_getElem? (i := 836) (by decide +kernel)⟩
theorem lw_p29 : lw_okq (⟨"LeapBoardModel", "standing", "()I"⟩, 39) := ⟨⟨by decide +kernel, by decide +kernel⟩, List.mem_of_getElem? (i := 637) (by decide +kernel), List.mem_of_getElem? (i := 839) (by decide +kernel), List.mem_of_getElem? (i := 840) (by decide +kernel)⟩
theorem lw_p30 : lw_okq (⟨"LeapBoardModel", "sortsOf", "(I)I"⟩, 39) := ⟨⟨by decide +kernel, by decide +kernel⟩, List.mem_of_getElem? (i := 637) (by decide +kernel), List.mem_of_getElem? (i := 843) (by decide +kernel), List.mem_of_getElem? (i := 844) (by decide +kernel)⟩
theorem lw_p31 : lw_okq (⟨"LeapBoardModel", "askOf", "(I)I"⟩, 39) := ⟨⟨by decide +kernel, by decide +kernel⟩, List.mem_of_getElem? (i := 637) (by decide +kernel), List.mem_of_getElem? (i := 847) (by decide +kernel), List.mem_of_getElem? (i := 848) (by decide +kernel)⟩
def lw_privs_2 : List (MethodName × Nat) := [(⟨"LeapBoard", "mixLeapers", "(J)J"⟩, 9), (⟨"LeapBoard", "mixCells", "(J)J"⟩, 9), (⟨"LeapBoard", "mixKinds", "(J)J"⟩, 9), (⟨"LeapBoardModel", "read", "()I"⟩, 39), (⟨"LeapBoardModel", "at", "(I)I"⟩, 39), (⟨"LeapBoardModel", "readCells", "(I)I"⟩, 39), (⟨"LeapBoardModel", "readLeapers", "(I)I"⟩, 39), (⟨"LeapBoardModel", "cells", "()I"⟩, 39), (⟨"LeapBoardModel", "isLeaper", "(I)Z"⟩, 39), (⟨"LeapBoardModel", "leaperNow", "(II)I"⟩, 39), (⟨"LeapBoardModel", "watched", "(I)I"⟩, 39), (⟨"LeapBoardModel", "around", "(II)I"⟩, 39), (⟨"LeapBoardModel", "canGo", "(I)I"⟩, 39), (⟨"LeapBoardModel", "standing", "()I"⟩, 39), (⟨"LeapBoardModel", "sortsOf", "(I)I"⟩, 39), (⟨"LeapBoardModel", "askOf", "(I)I"⟩, 39)]
theorem lw_r2 : ∀ q ∈ lw_privs_2, lw_okq q := List.forall_mem_cons.mpr ⟨lw_p16, List.forall_mem_cons.mpr ⟨lw_p17, List.forall_mem_cons.mpr ⟨lw_p18, List.forall_mem_cons.mpr ⟨lw_p19, List.forall_mem_cons.mpr ⟨lw_p20, List.forall_mem_cons.mpr ⟨lw_p21, List.forall_mem_cons.mpr ⟨lw_p22, List.forall_mem_cons.mpr ⟨lw_p23, List.forall_mem_cons.mpr ⟨lw_p24, List.forall_mem_cons.mpr ⟨lw_p25, List.forall_mem_cons.mpr ⟨lw_p26, List.forall_mem_cons.mpr ⟨lw_p27, List.forall_mem_cons.mpr ⟨lw_p28, List.forall_mem_cons.mpr ⟨lw_p29, List.forall_mem_cons.mpr ⟨lw_p30, List.forall_mem_cons.mpr ⟨lw_p31, fun _ h => absurd h List.not_mem_nil⟩⟩⟩⟩⟩⟩⟩⟩⟩⟩⟩⟩⟩⟩⟩⟩
theorem lw_p32 : lw_okq (⟨"LeapBoardModel", "wayOf", "(II)I"⟩, 39) := ⟨⟨by decide +kernel, by decide +kernel⟩, List.mem_of_getElem? (i := 637) (by decide +kernel), List.mem_of_getElem? (i := 855) (by decide +kernel), List.mem_of_getElem? (i := 856) (by decide +kernel)⟩
theorem lw_p33 : lw_okq (⟨"LeapBoardModel", "longestBy", "(II)I"⟩, 39) := ⟨⟨by decide +kernel, by decide +kernel⟩, List.mem_of_getElem? (i := 637) (by decide +kernel), List.mem_of_getElem? (i := 859) (by decide +kernel), List.mem_of_getElem? (i := 860) (by decide +kernel)⟩
theorem lw_p34 : lw_okq (⟨"LeapBoardModel", "others", "(I)I"⟩, 39) := ⟨⟨by decide +kernel, by decide +kernel⟩, List.mem_of_getElem? (i := 637) (by decide +kernel), List.mem_of_getElem? (i := 863) (by decide +kernel), List.mem_of_getElem? (i := 864) (by decide +kernel)⟩
theorem lw_p35 : lw_okq (⟨"LeapBoardModel", "goOn", "(III)V"⟩, 39) := ⟨⟨by decide +kernel, by decide +kernel⟩, List.mem_of_getElem? (i := 637) (by decide +kernel), List.mem_of_getElem? (i := 867) (by decide +kernel), List.mem_of_getElem? (i := 868) (by decide +kernel)⟩
theorem lw_p36 : lw_okq (⟨"LeapBoardModel", "isCell", "(I)Z"⟩, 39) := ⟨⟨by decide +kernel, by decide +kernel⟩, List.mem_of_getElem? (i := 637) (by decide +kernel), List.mem_of_getElem? (i := 879) (by decide +kernel), List.mem_of_getElem? (i := 880) (by decide +kernel)⟩
theorem lw_p37 : lw_okq (⟨"LeapBoardModel", "cellNow", "(II)I"⟩, 39) := ⟨⟨by decide +kernel, by decide +kernel⟩, List.mem_of_getElem? (i := 637) (by decide +kernel), List.mem_of_getElem? (i := 883) (by decide +kernel), List.mem_of_getElem? (i := 884) (by decide +kernel)⟩
theorem lw_p38 : lw_okq (⟨"LeapBoardModel", "whoAt", "(I)I"⟩, 39) := ⟨⟨by decide +kernel, by decide +kernel⟩, List.mem_of_getElem? (i := 637) (by decide +kernel), List.mem_of_getElem? (i := 887) (by decide +kernel), List.mem_of_getElem? (i := 888) (by decide +kernel)⟩
theorem lw_p39 : lw_okq (⟨"LeapBoardModel", "watchersOf", "(I)I"⟩, 39) := ⟨⟨by decide +kernel, by decide +kernel⟩, List.mem_of_getElem? (i := 637) (by decide +kernel), List.mem_of_getElem? (i := 891) (by decide +kernel), List.mem_of_getElem? (i := 892) (by decide +kernel)⟩
theorem lw_p40 : lw_okq (⟨"LeapBoardModel", "hopsNow", "(II)I"⟩, 39) := ⟨⟨by decide +kernel, by decide +kernel⟩, List.mem_of_getElem? (i := 637) (by decide +kernel), List.mem_of_getElem? (i := 915) (by decide +kernel), List.mem_of_getElem? (i := 916) (by decide +kernel)⟩
theorem lw_p41 : lw_okq (⟨"LeapBoardModel", "aroundAll", "(II)I"⟩, 39) := ⟨⟨by decide +kernel, by decide +kernel⟩, List.mem_of_getElem? (i := 637) (by decide +kernel), List.mem_of_getElem? (i := 919) (by decide +kernel), List.mem_of_getElem? (i := 920) (by decide +kernel)⟩
theorem lw_p42 : lw_okq (⟨"LeapBoardModel", "tradeNow", "(II)I"⟩, 39) := ⟨⟨by decide +kernel, by decide +kernel⟩, List.mem_of_getElem? (i := 637) (by decide +kernel), List.mem_of_getElem? (i := 927) (by decide +kernel), List.mem_of_getElem? (i := 928) (by decide +kernel)⟩
theorem lw_p43 : lw_okq (⟨"LeapBoardModel", "comeTo", "(II)V"⟩, 39) := ⟨⟨by decide +kernel, by decide +kernel⟩, List.mem_of_getElem? (i := 637) (by decide +kernel), List.mem_of_getElem? (i := 931) (by decide +kernel), List.mem_of_getElem? (i := 932) (by decide +kernel)⟩
theorem lw_p44 : lw_okq (⟨"LeapBoardModel", "comeFrom", "(IIII)V"⟩, 39) := ⟨⟨by decide +kernel, by decide +kernel⟩, List.mem_of_getElem? (i := 637) (by decide +kernel), List.mem_of_getElem? (i := 935) (by decide +kernel), List.mem_of_getElem? (i := 936) (by decide +kernel)⟩
theorem lw_p45 : lw_okq (⟨"LeapBoardModel", "refused", "(II)I"⟩, 39) := ⟨⟨by decide +kernel, by decide +kernel⟩, List.mem_of_getElem? (i := 637) (by decide +kernel), List.mem_of_getElem? (i := 943) (by decide +kernel), List.mem_of_getElem? (i := 944) (by decide +kernel)⟩
theorem lw_p46 : lw_okq (⟨"LeapBoardModel", "peaceNow", "(II)I"⟩, 39) := ⟨⟨by decide +kernel, by decide +kernel⟩, List.mem_of_getElem? (i := 637) (by decide +kernel), List.mem_of_getElem? (i := 950) (by decide +kernel), List.mem_of_getElem? (i := 951) (by decide +kernel)⟩
theorem lw_p47 : lw_okq (⟨"LeapBoardModel", "peaceSet", "(I)I"⟩, 39) := ⟨⟨by decide +kernel, by decide +kernel⟩, List.mem_of_getElem? (i := 637) (by decide +kernel), List.mem_of_getElem? (i := 954) (by decide +kernel), List.mem_of_getElem? (i := 955) (by decide +kernel)⟩
def lw_privs_3 : List (MethodName × Nat) := [(⟨"LeapBoardModel", "wayOf", "(II)I"⟩, 39), (⟨"LeapBoardModel", "longestBy", "(II)I"⟩, 39), (⟨"LeapBoardModel", "others", "(I)I"⟩, 39), (⟨"LeapBoardModel", "goOn", "(III)V"⟩, 39), (⟨"LeapBoardModel", "isCell", "(I)Z"⟩, 39), (⟨"LeapBoardModel", "cellNow", "(II)I"⟩, 39), (⟨"LeapBoardModel", "whoAt", "(I)I"⟩, 39), (⟨"LeapBoardModel", "watchersOf", "(I)I"⟩, 39), (⟨"LeapBoardModel", "hopsNow", "(II)I"⟩, 39), (⟨"LeapBoardModel", "aroundAll", "(II)I"⟩, 39), (⟨"LeapBoardModel", "tradeNow", "(II)I"⟩, 39), (⟨"LeapBoardModel", "comeTo", "(II)V"⟩, 39), (⟨"LeapBoardModel", "comeFrom", "(IIII)V"⟩, 39), (⟨"LeapBoardModel", "refused", "(II)I"⟩, 39), (⟨"LeapBoardModel", "peaceNow", "(II)I"⟩, 39), (⟨"LeapBoardModel", "peaceSet", "(I)I"⟩, 39)]
theorem lw_r3 : ∀ q ∈ lw_privs_3, lw_okq q := List.forall_mem_cons.mpr ⟨lw_p32, List.forall_mem_cons.mpr ⟨lw_p33, List.forall_mem_cons.mpr ⟨lw_p34, List.forall_mem_cons.mpr ⟨lw_p35, List.forall_mem_cons.mpr ⟨lw_p36, List.forall_mem_cons.mpr ⟨lw_p37, List.forall_mem_cons.mpr ⟨lw_p38, List.forall_mem_cons.mpr ⟨lw_p39, List.forall_mem_cons.mpr ⟨lw_p40, List.forall_mem_cons.mpr ⟨lw_p41, List.forall_mem_cons.mpr ⟨lw_p42, List.forall_mem_cons.mpr ⟨lw_p43, List.forall_mem_cons.mpr ⟨lw_p44, List.forall_mem_cons.mpr ⟨lw_p45, List.forall_mem_cons.mpr ⟨lw_p46, List.forall_mem_cons.mpr ⟨lw_p47, fun _ h => absurd h List.not_mem_nil⟩⟩⟩⟩⟩⟩⟩⟩⟩⟩⟩⟩⟩⟩⟩⟩
theorem lw_p48 : lw_okq (⟨"LeapBoardModel", "guardNow", "(II)I"⟩, 39) := ⟨⟨by decide +kernel, by decide +kernel⟩, List.mem_of_getElem? (i := 637) (by decide +kernel), List.mem_of_getElem? (i := 962) (by decide +kernel), List.mem_of_getElem? (i := 963) (by decide +kernel)⟩
theorem lw_p49 : lw_okq (⟨"LeapBoardModel", "guardSet", "(I)I"⟩, 39) := ⟨⟨by decide +kernel, by decide +kernel⟩, List.mem_of_getElem? (i := 637) (by decide +kernel), List.mem_of_getElem? (i := 966) (by decide +kernel), List.mem_of_getElem? (i := 967) (by decide +kernel)⟩
theorem lw_p50 : lw_okq (⟨"LeapBoardModel", "partsTold", "(II)I"⟩, 39) := ⟨⟨by decide +kernel, by decide +kernel⟩, List.mem_of_getElem? (i := 637) (by decide +kernel), List.mem_of_getElem? (i := 974) (by decide +kernel), List.mem_of_getElem? (i := 975) (by decide +kernel)⟩
theorem lw_p51 : lw_okq (⟨"LeapBoardModel", "partsNow", "(I)I"⟩, 39) := ⟨⟨by decide +kernel, by decide +kernel⟩, List.mem_of_getElem? (i := 637) (by decide +kernel), List.mem_of_getElem? (i := 978) (by decide +kernel), List.mem_of_getElem? (i := 979) (by decide +kernel)⟩
theorem lw_p52 : lw_okq (⟨"LeapBoardModel", "partOf", "(II)I"⟩, 39) := ⟨⟨by decide +kernel, by decide +kernel⟩, List.mem_of_getElem? (i := 637) (by decide +kernel), List.mem_of_getElem? (i := 982) (by decide +kernel), List.mem_of_getElem? (i := 983) (by decide +kernel)⟩
theorem lw_p53 : lw_okq (⟨"LeapBoardModel", "areShades", "(I)Z"⟩, 39) := ⟨⟨by decide +kernel, by decide +kernel⟩, List.mem_of_getElem? (i := 637) (by decide +kernel), List.mem_of_getElem? (i := 986) (by decide +kernel), List.mem_of_getElem? (i := 987) (by decide +kernel)⟩
theorem lw_p54 : lw_okq (⟨"LeapBoardModel", "chanceNow", "(III)I"⟩, 39) := ⟨⟨by decide +kernel, by decide +kernel⟩, List.mem_of_getElem? (i := 637) (by decide +kernel), List.mem_of_getElem? (i := 994) (by decide +kernel), List.mem_of_getElem? (i := 995) (by decide +kernel)⟩
theorem lw_p55 : lw_okq (⟨"LeapBoardModel", "chanceFrom", "(III)I"⟩, 39) := ⟨⟨by decide +kernel, by decide +kernel⟩, List.mem_of_getElem? (i := 637) (by decide +kernel), List.mem_of_getElem? (i := 999) (by decide +kernel), List.mem_of_getElem? (i := 1000) (by decide +kernel)⟩
theorem lw_p56 : lw_okq (⟨"LeapBoardModel", "walksNow", "(III)I"⟩, 39) := ⟨⟨by decide +kernel, by decide +kernel⟩, List.mem_of_getElem? (i := 637) (by decide +kernel), List.mem_of_getElem? (i := 1015) (by decide +kernel), List.mem_of_getElem? (i := 1016) (by decide +kernel)⟩
theorem lw_p57 : lw_okq (⟨"LeapBoardModel", "draw", "(I)I"⟩, 39) := ⟨⟨by decide +kernel, by decide +kernel⟩, List.mem_of_getElem? (i := 637) (by decide +kernel), List.mem_of_getElem? (i := 1019) (by decide +kernel), List.mem_of_getElem? (i := 1020) (by decide +kernel)⟩
theorem lw_p58 : lw_okq (⟨"LeapBoardModel", "watchedFree", "()I"⟩, 39) := ⟨⟨by decide +kernel, by decide +kernel⟩, List.mem_of_getElem? (i := 637) (by decide +kernel), List.mem_of_getElem? (i := 1030) (by decide +kernel), List.mem_of_getElem? (i := 1031) (by decide +kernel)⟩
theorem lw_p59 : lw_okq (⟨"LeapBoardModel", "howMany", "(I)I"⟩, 39) := ⟨⟨by decide +kernel, by decide +kernel⟩, List.mem_of_getElem? (i := 637) (by decide +kernel), List.mem_of_getElem? (i := 1046) (by decide +kernel), List.mem_of_getElem? (i := 1047) (by decide +kernel)⟩
theorem lw_p60 : lw_okq (⟨"LeapBoardModel", "mix", "(J)V"⟩, 39) := ⟨⟨by decide +kernel, by decide +kernel⟩, List.mem_of_getElem? (i := 637) (by decide +kernel), List.mem_of_getElem? (i := 1055) (by decide +kernel), List.mem_of_getElem? (i := 1056) (by decide +kernel)⟩
theorem lw_p61 : lw_okq (⟨"LeapBoardModel", "mixBoard", "()V"⟩, 39) := ⟨⟨by decide +kernel, by decide +kernel⟩, List.mem_of_getElem? (i := 637) (by decide +kernel), List.mem_of_getElem? (i := 1062) (by decide +kernel), List.mem_of_getElem? (i := 1063) (by decide +kernel)⟩
def lw_privs_4 : List (MethodName × Nat) := [(⟨"LeapBoardModel", "guardNow", "(II)I"⟩, 39), (⟨"LeapBoardModel", "guardSet", "(I)I"⟩, 39), (⟨"LeapBoardModel", "partsTold", "(II)I"⟩, 39), (⟨"LeapBoardModel", "partsNow", "(I)I"⟩, 39), (⟨"LeapBoardModel", "partOf", "(II)I"⟩, 39), (⟨"LeapBoardModel", "areShades", "(I)Z"⟩, 39), (⟨"LeapBoardModel", "chanceNow", "(III)I"⟩, 39), (⟨"LeapBoardModel", "chanceFrom", "(III)I"⟩, 39), (⟨"LeapBoardModel", "walksNow", "(III)I"⟩, 39), (⟨"LeapBoardModel", "draw", "(I)I"⟩, 39), (⟨"LeapBoardModel", "watchedFree", "()I"⟩, 39), (⟨"LeapBoardModel", "howMany", "(I)I"⟩, 39), (⟨"LeapBoardModel", "mix", "(J)V"⟩, 39), (⟨"LeapBoardModel", "mixBoard", "()V"⟩, 39)]
theorem lw_r4 : ∀ q ∈ lw_privs_4, lw_okq q := List.forall_mem_cons.mpr ⟨lw_p48, List.forall_mem_cons.mpr ⟨lw_p49, List.forall_mem_cons.mpr ⟨lw_p50, List.forall_mem_cons.mpr ⟨lw_p51, List.forall_mem_cons.mpr ⟨lw_p52, List.forall_mem_cons.mpr ⟨lw_p53, List.forall_mem_cons.mpr ⟨lw_p54, List.forall_mem_cons.mpr ⟨lw_p55, List.forall_mem_cons.mpr ⟨lw_p56, List.forall_mem_cons.mpr ⟨lw_p57, List.forall_mem_cons.mpr ⟨lw_p58, List.forall_mem_cons.mpr ⟨lw_p59, List.forall_mem_cons.mpr ⟨lw_p60, List.forall_mem_cons.mpr ⟨lw_p61, fun _ h => absurd h List.not_mem_nil⟩⟩⟩⟩⟩⟩⟩⟩⟩⟩⟩⟩⟩⟩
def lw_privs : List (MethodName × Nat) := lw_privs_1 ++ (lw_privs_2 ++ (lw_privs_3 ++ (lw_privs_4)))
def lw_tbl : List Cond := k2_sels lw_privs ++ tables_1
theorem lw_privs_ok : ∀ q ∈ lw_privs, lw_okq q := by
  show ∀ q ∈ lw_privs_1 ++ (lw_privs_2 ++ (lw_privs_3 ++ (lw_privs_4))), lw_okq q
  exact List.forall_mem_append.mpr ⟨lw_r1, List.forall_mem_append.mpr ⟨lw_r2, List.forall_mem_append.mpr ⟨lw_r3, lw_r4⟩⟩⟩
def RX0 : String := "LeapBoard$Draws"
def TX0 : u_T := fun k => match k with
  | _ => ("LeapBoard$Draws", "seed", "I", false)
def tyX0 : Nat → FieldType := fun k => match k with
  | _ => .int
abbrev wsX00 : List Cond := u_ws RX0 TX0 1
theorem nmX0 : ∀ a, a < 1 → ∀ b, b < 1 → a ≠ b → (TX0 a).2.1 ≠ (TX0 b).2.1 := by decide +kernel
theorem tyX0_ok : ∀ k, k < 1 → parseFieldDescriptor (TX0 k).2.2.1 = some (tyX0 k) := by decide +kernel
abbrev cX0_init : ByteArray := prog_2_method_1_code
def yX0_init : MethodName := ⟨RX0, "<init>", "()V"⟩
abbrev cX0_next : ByteArray := prog_2_method_2_code
def yX0_next : MethodName := ⟨RX0, "next", "(I)I"⟩
def RX1 : String := "LeapBoard$Ground"
def TX1 : u_T := fun k => match k with
  | 0 => ("LeapBoard$Ground", "rows", "I", false)
  | 1 => ("LeapBoard$Ground", "columns", "I", false)
  | 2 => ("LeapBoard$Ground", "cells", "I", false)
  | _ => ("LeapBoard$Ground", "fans", "[[I", true)
def tyX1 : Nat → FieldType := fun k => match k with
  | 0 => .int
  | 1 => .int
  | 2 => .int
  | _ => .array (.array .int)
abbrev wsX10 : List Cond := u_ws RX1 TX1 4
theorem nmX1 : ∀ a, a < 4 → ∀ b, b < 4 → a ≠ b → (TX1 a).2.1 ≠ (TX1 b).2.1 := by decide +kernel
theorem tyX1_ok : ∀ k, k < 4 → parseFieldDescriptor (TX1 k).2.2.1 = some (tyX1 k) := by decide +kernel
abbrev cX1_init : ByteArray := prog_3_method_1_code
def yX1_init : MethodName := ⟨RX1, "<init>", "()V"⟩
abbrev cX1_lay : ByteArray := prog_3_method_2_code
def yX1_lay : MethodName := ⟨RX1, "lay", "(II)V"⟩
abbrev cX1_hasCell : ByteArray := prog_3_method_3_code
def yX1_hasCell : MethodName := ⟨RX1, "hasCell", "(I)Z"⟩
abbrev cX1_fanOf : ByteArray := prog_3_method_4_code
def yX1_fanOf : MethodName := ⟨RX1, "fanOf", "(I)[I"⟩
abbrev cX1_fanFrom : ByteArray := prog_3_method_5_code
def yX1_fanFrom : MethodName := ⟨RX1, "fanFrom", "(II)I"⟩
abbrev cX1_spread : ByteArray := prog_3_method_6_code
def yX1_spread : MethodName := ⟨RX1, "spread", "([II)I"⟩
abbrev cX1_partAround : ByteArray := prog_3_method_7_code
def yX1_partAround : MethodName := ⟨RX1, "partAround", "([III)I"⟩
abbrev cX1_partCount : ByteArray := prog_3_method_8_code
def yX1_partCount : MethodName := ⟨RX1, "partCount", "([II)I"⟩
abbrev cX1_isTwoShaded : ByteArray := prog_3_method_9_code
def yX1_isTwoShaded : MethodName := ⟨RX1, "isTwoShaded", "([II)Z"⟩
abbrev cX1_mostInPeace : ByteArray := prog_3_method_10_code
def yX1_mostInPeace : MethodName := ⟨RX1, "mostInPeace", "([III)I"⟩
abbrev cX1_isLarger : ByteArray := prog_3_method_11_code
def yX1_isLarger : MethodName := ⟨RX1, "isLarger", "(II)Z"⟩
abbrev cX1_fewestGuards : ByteArray := prog_3_method_12_code
def yX1_fewestGuards : MethodName := ⟨RX1, "fewestGuards", "([IIIIII)I"⟩
def RX2 : String := "LeapBoard$Page"
def TX2 : u_T := fun k => match k with
  | 0 => ("LeapBoard$Page", "codes", "[I", true)
  | 1 => ("LeapBoard$Page", "size", "I", false)
  | _ => ("LeapBoard$Page", "cells", "I", false)
def tyX2 : Nat → FieldType := fun k => match k with
  | 0 => .array .int
  | 1 => .int
  | _ => .int
abbrev wsX20 : List Cond := u_ws RX2 TX2 3
theorem nmX2 : ∀ a, a < 3 → ∀ b, b < 3 → a ≠ b → (TX2 a).2.1 ≠ (TX2 b).2.1 := by decide +kernel
theorem tyX2_ok : ∀ k, k < 3 → parseFieldDescriptor (TX2 k).2.2.1 = some (tyX2 k) := by decide +kernel
abbrev cX2_init : ByteArray := prog_4_method_1_code
def yX2_init : MethodName := ⟨RX2, "<init>", "()V"⟩
abbrev cX2_put : ByteArray := prog_4_method_2_code
def yX2_put : MethodName := ⟨RX2, "put", "(I)Z"⟩
abbrev cX2_clear : ByteArray := prog_4_method_3_code
def yX2_clear : MethodName := ⟨RX2, "clear", "()I"⟩
abbrev cX2_at : ByteArray := prog_4_method_4_code
def yX2_at : MethodName := ⟨RX2, "at", "(I)I"⟩
abbrev cX2_firstFault : ByteArray := prog_4_method_5_code
def yX2_firstFault : MethodName := ⟨RX2, "firstFault", "()I"⟩
abbrev cX2_isWhole : ByteArray := prog_4_method_6_code
def yX2_isWhole : MethodName := ⟨RX2, "isWhole", "()Z"⟩
abbrev cX2_rows : ByteArray := prog_4_method_7_code
def yX2_rows : MethodName := ⟨RX2, "rows", "()I"⟩
abbrev cX2_columns : ByteArray := prog_4_method_8_code
def yX2_columns : MethodName := ⟨RX2, "columns", "()I"⟩
abbrev cX2_freeCells : ByteArray := prog_4_method_9_code
def yX2_freeCells : MethodName := ⟨RX2, "freeCells", "()I"⟩
abbrev cX2_leapers : ByteArray := prog_4_method_10_code
def yX2_leapers : MethodName := ⟨RX2, "leapers", "()I"⟩
abbrev cX2_kindOf : ByteArray := prog_4_method_11_code
def yX2_kindOf : MethodName := ⟨RX2, "kindOf", "(I)I"⟩
abbrev cX2_standOf : ByteArray := prog_4_method_12_code
def yX2_standOf : MethodName := ⟨RX2, "standOf", "(I)I"⟩
abbrev cX2_kindPlace : ByteArray := prog_4_method_13_code
def yX2_kindPlace : MethodName := ⟨RX2, "kindPlace", "(I)I"⟩
abbrev cX2_kindFor : ByteArray := prog_4_method_14_code
def yX2_kindFor : MethodName := ⟨RX2, "kindFor", "(I)I"⟩
abbrev cX2_fits : ByteArray := prog_4_method_15_code
def yX2_fits : MethodName := ⟨RX2, "fits", "(I)Z"⟩
abbrev cX2_isOpenTo : ByteArray := prog_4_method_16_code
def yX2_isOpenTo : MethodName := ⟨RX2, "isOpenTo", "(I)Z"⟩
def RX3 : String := "LeapBoard$Scene"
def TX3 : u_T := fun k => match k with
  | 0 => ("LeapBoard$Scene", "free", "I", false)
  | 1 => ("LeapBoard$Scene", "leapers", "I", false)
  | 2 => ("LeapBoard$Scene", "leaps", "I", false)
  | 3 => ("LeapBoard$Scene", "seen", "I", false)
  | 4 => ("LeapBoard$Scene", "kinds", "[I", true)
  | 5 => ("LeapBoard$Scene", "stands", "[I", true)
  | 6 => ("LeapBoard$Scene", "seenOf", "[I", true)
  | _ => ("LeapBoard$Scene", "seenSorts", "[I", true)
def tyX3 : Nat → FieldType := fun k => match k with
  | 0 => .int
  | 1 => .int
  | 2 => .int
  | 3 => .int
  | 4 => .array .int
  | 5 => .array .int
  | 6 => .array .int
  | _ => .array .int
abbrev wsX30 : List Cond := u_ws RX3 TX3 8
theorem nmX3 : ∀ a, a < 8 → ∀ b, b < 8 → a ≠ b → (TX3 a).2.1 ≠ (TX3 b).2.1 := by decide +kernel
theorem tyX3_ok : ∀ k, k < 8 → parseFieldDescriptor (TX3 k).2.2.1 = some (tyX3 k) := by decide +kernel
abbrev cX3_init : ByteArray := prog_5_method_1_code
def yX3_init : MethodName := ⟨RX3, "<init>", "()V"⟩
abbrev cX3_isThere : ByteArray := prog_5_method_2_code
def yX3_isThere : MethodName := ⟨RX3, "isThere", "()Z"⟩
abbrev cX3_hasLeaper : ByteArray := prog_5_method_3_code
def yX3_hasLeaper : MethodName := ⟨RX3, "hasLeaper", "(I)Z"⟩
abbrev cX3_kindOf : ByteArray := prog_5_method_4_code
def yX3_kindOf : MethodName := ⟨RX3, "kindOf", "(I)I"⟩
abbrev cX3_standOf : ByteArray := prog_5_method_5_code
def yX3_standOf : MethodName := ⟨RX3, "standOf", "(I)I"⟩
abbrev cX3_empty : ByteArray := prog_5_method_6_code
def yX3_empty : MethodName := ⟨RX3, "empty", "()I"⟩
abbrev cX3_whoStands : ByteArray := prog_5_method_7_code
def yX3_whoStands : MethodName := ⟨RX3, "whoStands", "(I)I"⟩
abbrev cX3_note : ByteArray := prog_5_method_8_code
def yX3_note : MethodName := ⟨RX3, "note", "(II)Z"⟩
abbrev cX3_sorts : ByteArray := prog_5_method_9_code
def yX3_sorts : MethodName := ⟨RX3, "sorts", "(I)I"⟩
abbrev cX3_copy : ByteArray := prog_5_method_10_code
def yX3_copy : MethodName := ⟨RX3, "copy", "(LLeapBoard$Scene;)V"⟩
def RX4 : String := "LeapBoard$Trips"
def TX4 : u_T := fun k => match k with
  | 0 => ("LeapBoard$Trips", "starts", "[I", true)
  | 1 => ("LeapBoard$Trips", "firsts", "[I", true)
  | 2 => ("LeapBoard$Trips", "pairs", "[I", true)
  | 3 => ("LeapBoard$Trips", "nextPairs", "[I", true)
  | 4 => ("LeapBoard$Trips", "chances", "[I", true)
  | _ => ("LeapBoard$Trips", "nextChances", "[I", true)
def tyX4 : Nat → FieldType := fun k => match k with
  | 0 => .array .int
  | 1 => .array .int
  | 2 => .array .int
  | 3 => .array .int
  | 4 => .array .int
  | _ => .array .int
abbrev wsX40 : List Cond := u_ws RX4 TX4 6
theorem nmX4 : ∀ a, a < 6 → ∀ b, b < 6 → a ≠ b → (TX4 a).2.1 ≠ (TX4 b).2.1 := by decide +kernel
theorem tyX4_ok : ∀ k, k < 6 → parseFieldDescriptor (TX4 k).2.2.1 = some (tyX4 k) := by decide +kernel
abbrev cX4_init : ByteArray := prog_6_method_1_code
def yX4_init : MethodName := ⟨RX4, "<init>", "()V"⟩
abbrev cX4_fewest : ByteArray := prog_6_method_2_code
def yX4_fewest : MethodName := ⟨RX4, "fewest", "([IIII)I"⟩
abbrev cX4_longest : ByteArray := prog_6_method_3_code
def yX4_longest : MethodName := ⟨RX4, "longest", "([III)I"⟩
abbrev cX4_firstOfLongest : ByteArray := prog_6_method_4_code
def yX4_firstOfLongest : MethodName := ⟨RX4, "firstOfLongest", "([III)I"⟩
abbrev cX4_mostBehind : ByteArray := prog_6_method_5_code
def yX4_mostBehind : MethodName := ⟨RX4, "mostBehind", "()I"⟩
abbrev cX4_findFirsts : ByteArray := prog_6_method_6_code
def yX4_findFirsts : MethodName := ⟨RX4, "findFirsts", "([III)V"⟩
abbrev cX4_startsOf : ByteArray := prog_6_method_7_code
def yX4_startsOf : MethodName := ⟨RX4, "startsOf", "([II)I"⟩
abbrev cX4_fewestToTrade : ByteArray := prog_6_method_8_code
def yX4_fewestToTrade : MethodName := ⟨RX4, "fewestToTrade", "([I[IIII)I"⟩
abbrev cX4_spreadPairs : ByteArray := prog_6_method_9_code
def yX4_spreadPairs : MethodName := ⟨RX4, "spreadPairs", "([I[II)Z"⟩
abbrev cX4_likelihood : ByteArray := prog_6_method_10_code
def yX4_likelihood : MethodName := ⟨RX4, "likelihood", "([IIIII)I"⟩
abbrev cX4_addLeap : ByteArray := prog_6_method_11_code
def yX4_addLeap : MethodName := ⟨RX4, "addLeap", "([II)V"⟩
abbrev cX4_sumOver : ByteArray := prog_6_method_12_code
def yX4_sumOver : MethodName := ⟨RX4, "sumOver", "(I)I"⟩
def RX5 : String := "LeapBoard"
def TX5 : u_T := fun k => match k with
  | 0 => ("LeapBoard", "page", "LLeapBoard$Page;", true)
  | 1 => ("LeapBoard", "ground", "LLeapBoard$Ground;", true)
  | 2 => ("LeapBoard", "now", "LLeapBoard$Scene;", true)
  | 3 => ("LeapBoard", "kept", "LLeapBoard$Scene;", true)
  | 4 => ("LeapBoard", "trial", "LLeapBoard$Scene;", true)
  | 5 => ("LeapBoard", "trips", "LLeapBoard$Trips;", true)
  | 6 => ("LeapBoard", "draws", "LLeapBoard$Draws;", true)
  | 7 => ("LeapBoard", "isKept", "Z", false)
  | _ => ("LeapBoard", "reads", "I", false)
def tyX5 : Nat → FieldType := fun k => match k with
  | 0 => .object "LeapBoard$Page"
  | 1 => .object "LeapBoard$Ground"
  | 2 => .object "LeapBoard$Scene"
  | 3 => .object "LeapBoard$Scene"
  | 4 => .object "LeapBoard$Scene"
  | 5 => .object "LeapBoard$Trips"
  | 6 => .object "LeapBoard$Draws"
  | 7 => .boolean
  | _ => .int
abbrev wsX50 : List Cond := u_ws RX5 TX5 9
theorem nmX5 : ∀ a, a < 9 → ∀ b, b < 9 → a ≠ b → (TX5 a).2.1 ≠ (TX5 b).2.1 := by decide +kernel
theorem tyX5_ok : ∀ k, k < 9 → parseFieldDescriptor (TX5 k).2.2.1 = some (tyX5 k) := by decide +kernel
abbrev cX5_init : ByteArray := prog_1_method_1_code
def yX5_init : MethodName := ⟨RX5, "<init>", "()V"⟩
abbrev cX5_letter : ByteArray := prog_1_method_2_code
def yX5_letter : MethodName := ⟨RX5, "letter", "(I)I"⟩
abbrev cX5_blank : ByteArray := prog_1_method_3_code
def yX5_blank : MethodName := ⟨RX5, "blank", "()I"⟩
abbrev cX5_fault : ByteArray := prog_1_method_4_code
def yX5_fault : MethodName := ⟨RX5, "fault", "()I"⟩
abbrev cX5_board : ByteArray := prog_1_method_5_code
def yX5_board : MethodName := ⟨RX5, "board", "()I"⟩
abbrev cX5_leaper : ByteArray := prog_1_method_6_code
def yX5_leaper : MethodName := ⟨RX5, "leaper", "(II)I"⟩
abbrev cX5_as : ByteArray := prog_1_method_7_code
def yX5_as : MethodName := ⟨RX5, "as", "(II)I"⟩
abbrev cX5_cell : ByteArray := prog_1_method_8_code
def yX5_cell : MethodName := ⟨RX5, "cell", "(II)I"⟩
abbrev cX5_leap : ByteArray := prog_1_method_9_code
def yX5_leap : MethodName := ⟨RX5, "leap", "(II)I"⟩
abbrev cX5_dig : ByteArray := prog_1_method_10_code
def yX5_dig : MethodName := ⟨RX5, "dig", "(I)I"⟩
abbrev cX5_fill : ByteArray := prog_1_method_11_code
def yX5_fill : MethodName := ⟨RX5, "fill", "(I)I"⟩
abbrev cX5_be : ByteArray := prog_1_method_12_code
def yX5_be : MethodName := ⟨RX5, "be", "(II)I"⟩
abbrev cX5_hops : ByteArray := prog_1_method_13_code
def yX5_hops : MethodName := ⟨RX5, "hops", "(II)I"⟩
abbrev cX5_trade : ByteArray := prog_1_method_14_code
def yX5_trade : MethodName := ⟨RX5, "trade", "(II)I"⟩
abbrev cX5_peace : ByteArray := prog_1_method_15_code
def yX5_peace : MethodName := ⟨RX5, "peace", "(II)I"⟩
abbrev cX5_guard : ByteArray := prog_1_method_16_code
def yX5_guard : MethodName := ⟨RX5, "guard", "(II)I"⟩
abbrev cX5_parts : ByteArray := prog_1_method_17_code
def yX5_parts : MethodName := ⟨RX5, "parts", "(II)I"⟩
abbrev cX5_chance : ByteArray := prog_1_method_18_code
def yX5_chance : MethodName := ⟨RX5, "chance", "(III)I"⟩
abbrev cX5_see : ByteArray := prog_1_method_19_code
def yX5_see : MethodName := ⟨RX5, "see", "(IIIZ)I"⟩
abbrev cX5_forget : ByteArray := prog_1_method_20_code
def yX5_forget : MethodName := ⟨RX5, "forget", "()I"⟩
abbrev cX5_walks : ByteArray := prog_1_method_21_code
def yX5_walks : MethodName := ⟨RX5, "walks", "(III)I"⟩
abbrev cX5_image : ByteArray := prog_1_method_22_code
def yX5_image : MethodName := ⟨RX5, "image", "()I"⟩
abbrev cX5_restore : ByteArray := prog_1_method_23_code
def yX5_restore : MethodName := ⟨RX5, "restore", "()I"⟩
abbrev cX5_count : ByteArray := prog_1_method_24_code
def yX5_count : MethodName := ⟨RX5, "count", "(I)I"⟩
abbrev cX5_digest : ByteArray := prog_1_method_25_code
def yX5_digest : MethodName := ⟨RX5, "digest", "()J"⟩
abbrev cX5_mix : ByteArray := prog_1_method_26_code
def yX5_mix : MethodName := ⟨RX5, "mix", "(JJ)J"⟩
abbrev cX5_mixLeapers : ByteArray := prog_1_method_27_code
def yX5_mixLeapers : MethodName := ⟨RX5, "mixLeapers", "(J)J"⟩
abbrev cX5_mixCells : ByteArray := prog_1_method_28_code
def yX5_mixCells : MethodName := ⟨RX5, "mixCells", "(J)J"⟩
abbrev cX5_mixKinds : ByteArray := prog_1_method_29_code
def yX5_mixKinds : MethodName := ⟨RX5, "mixKinds", "(J)J"⟩
abbrev cX5_fanOfLeaper : ByteArray := prog_1_method_30_code
def yX5_fanOfLeaper : MethodName := ⟨RX5, "fanOfLeaper", "(I)[I"⟩
abbrev cX5_watchedBy : ByteArray := prog_1_method_31_code
def yX5_watchedBy : MethodName := ⟨RX5, "watchedBy", "(LLeapBoard$Scene;I)I"⟩
abbrev cX5_goals : ByteArray := prog_1_method_32_code
def yX5_goals : MethodName := ⟨RX5, "goals", "(LLeapBoard$Scene;I)I"⟩
abbrev cX5_watchers : ByteArray := prog_1_method_33_code
def yX5_watchers : MethodName := ⟨RX5, "watchers", "(I)I"⟩
abbrev cX5_watchedEmpty : ByteArray := prog_1_method_34_code
def yX5_watchedEmpty : MethodName := ⟨RX5, "watchedEmpty", "(LLeapBoard$Scene;)I"⟩
abbrev cX5_walkTrial : ByteArray := prog_1_method_35_code
def yX5_walkTrial : MethodName := ⟨RX5, "walkTrial", "(II)V"⟩
abbrev cX5_isKind : ByteArray := prog_1_method_36_code
def yX5_isKind : MethodName := ⟨RX5, "isKind", "(I)Z"⟩
abbrev cX5_isOneOfTwo : ByteArray := prog_1_method_37_code
def yX5_isOneOfTwo : MethodName := ⟨RX5, "isOneOfTwo", "(I)Z"⟩
abbrev cX5_goes : ByteArray := prog_1_method_38_code
def yX5_goes : MethodName := ⟨RX5, "goes", "(III)Z"⟩
abbrev cX5_goers : ByteArray := prog_1_method_39_code
def yX5_goers : MethodName := ⟨RX5, "goers", "(II)I"⟩
abbrev cX5_bestAsk : ByteArray := prog_1_method_40_code
def yX5_bestAsk : MethodName := ⟨RX5, "bestAsk", "(I)I"⟩
abbrev cX5_has : ByteArray := prog_1_method_41_code
def yX5_has : MethodName := ⟨RX5, "has", "(II)Z"⟩
abbrev cX5_lowestOf : ByteArray := prog_1_method_42_code
def yX5_lowestOf : MethodName := ⟨RX5, "lowestOf", "(I)I"⟩
abbrev cX5_nthOf : ByteArray := prog_1_method_43_code
def yX5_nthOf : MethodName := ⟨RX5, "nthOf", "(II)I"⟩
def RX6 : String := "LeapBoardModel"
def TX6 : u_T := fun k => match k with
  | 0 => ("LeapBoardModel", "boards", "I", false)
  | 1 => ("LeapBoardModel", "high", "I", false)
  | 2 => ("LeapBoardModel", "wide", "I", false)
  | 3 => ("LeapBoardModel", "free", "I", false)
  | 4 => ("LeapBoardModel", "leapers", "I", false)
  | 5 => ("LeapBoardModel", "kindOf", "[I", true)
  | 6 => ("LeapBoardModel", "cellOf", "[I", true)
  | 7 => ("LeapBoardModel", "leaps", "I", false)
  | 8 => ("LeapBoardModel", "seen", "I", false)
  | 9 => ("LeapBoardModel", "seenLeaper", "[I", true)
  | 10 => ("LeapBoardModel", "seenRows", "[I", true)
  | 11 => ("LeapBoardModel", "seenColumns", "[I", true)
  | 12 => ("LeapBoardModel", "seenCan", "[I", true)
  | 13 => ("LeapBoardModel", "pageLength", "I", false)
  | 14 => ("LeapBoardModel", "page", "[B", true)
  | 15 => ("LeapBoardModel", "isWhole", "Z", false)
  | 16 => ("LeapBoardModel", "newCells", "I", false)
  | 17 => ("LeapBoardModel", "newFree", "I", false)
  | 18 => ("LeapBoardModel", "newLeapers", "I", false)
  | 19 => ("LeapBoardModel", "tradeBy", "[I", true)
  | 20 => ("LeapBoardModel", "tradeRow", "[I", true)
  | 21 => ("LeapBoardModel", "tradeLength", "I", false)
  | 22 => ("LeapBoardModel", "endsOf", "[I", true)
  | 23 => ("LeapBoardModel", "chanceBy", "[I", true)
  | 24 => ("LeapBoardModel", "chanceNext", "[I", true)
  | 25 => ("LeapBoardModel", "seedNow", "J", false)
  | 26 => ("LeapBoardModel", "savedCell", "[I", true)
  | 27 => ("LeapBoardModel", "isKept", "Z", false)
  | 28 => ("LeapBoardModel", "keptBoard", "I", false)
  | 29 => ("LeapBoardModel", "keptFree", "I", false)
  | 30 => ("LeapBoardModel", "keptLeaps", "I", false)
  | 31 => ("LeapBoardModel", "keptSeen", "I", false)
  | 32 => ("LeapBoardModel", "keptKind", "[I", true)
  | 33 => ("LeapBoardModel", "keptCell", "[I", true)
  | 34 => ("LeapBoardModel", "keptLeaper", "[I", true)
  | 35 => ("LeapBoardModel", "keptRows", "[I", true)
  | 36 => ("LeapBoardModel", "keptColumns", "[I", true)
  | 37 => ("LeapBoardModel", "keptCan", "[I", true)
  | _ => ("LeapBoardModel", "h", "J", false)
def tyX6 : Nat → FieldType := fun k => match k with
  | 0 => .int
  | 1 => .int
  | 2 => .int
  | 3 => .int
  | 4 => .int
  | 5 => .array .int
  | 6 => .array .int
  | 7 => .int
  | 8 => .int
  | 9 => .array .int
  | 10 => .array .int
  | 11 => .array .int
  | 12 => .array .int
  | 13 => .int
  | 14 => .array .byte
  | 15 => .boolean
  | 16 => .int
  | 17 => .int
  | 18 => .int
  | 19 => .array .int
  | 20 => .array .int
  | 21 => .int
  | 22 => .array .int
  | 23 => .array .int
  | 24 => .array .int
  | 25 => .long
  | 26 => .array .int
  | 27 => .boolean
  | 28 => .int
  | 29 => .int
  | 30 => .int
  | 31 => .int
  | 32 => .array .int
  | 33 => .array .int
  | 34 => .array .int
  | 35 => .array .int
  | 36 => .array .int
  | 37 => .array .int
  | _ => .long
abbrev wsX60 : List Cond := u_ws RX6 TX6 39
theorem nmX6 : ∀ a, a < 39 → ∀ b, b < 39 → a ≠ b → (TX6 a).2.1 ≠ (TX6 b).2.1 := by decide +kernel
theorem tyX6_ok : ∀ k, k < 39 → parseFieldDescriptor (TX6 k).2.2.1 = some (tyX6 k) := by decide +kernel
abbrev cX6_init : ByteArray := prog_8_method_1_code
def yX6_init : MethodName := ⟨RX6, "<init>", "()V"⟩
abbrev cX6_within : ByteArray := prog_8_method_3_code
def yX6_within : MethodName := ⟨RX6, "within", "(III)Z"⟩
abbrev cX6_isIn : ByteArray := prog_8_method_4_code
def yX6_isIn : MethodName := ⟨RX6, "isIn", "(II)Z"⟩
abbrev cX6_size : ByteArray := prog_8_method_5_code
def yX6_size : MethodName := ⟨RX6, "size", "(I)I"⟩
abbrev cX6_letter : ByteArray := prog_8_method_6_code
def yX6_letter : MethodName := ⟨RX6, "letter", "(I)I"⟩
abbrev cX6_blank : ByteArray := prog_8_method_7_code
def yX6_blank : MethodName := ⟨RX6, "blank", "()I"⟩
abbrev cX6_kindBy : ByteArray := prog_8_method_8_code
def yX6_kindBy : MethodName := ⟨RX6, "kindBy", "(I)I"⟩
abbrev cX6_at : ByteArray := prog_8_method_9_code
def yX6_at : MethodName := ⟨RX6, "at", "(I)I"⟩
abbrev cX6_readCells : ByteArray := prog_8_method_10_code
def yX6_readCells : MethodName := ⟨RX6, "readCells", "(I)I"⟩
abbrev cX6_readLeapers : ByteArray := prog_8_method_11_code
def yX6_readLeapers : MethodName := ⟨RX6, "readLeapers", "(I)I"⟩
abbrev cX6_read : ByteArray := prog_8_method_12_code
def yX6_read : MethodName := ⟨RX6, "read", "()I"⟩
abbrev cX6_fault : ByteArray := prog_8_method_13_code
def yX6_fault : MethodName := ⟨RX6, "fault", "()I"⟩
abbrev cX6_board : ByteArray := prog_8_method_14_code
def yX6_board : MethodName := ⟨RX6, "board", "()I"⟩
abbrev cX6_cells : ByteArray := prog_8_method_15_code
def yX6_cells : MethodName := ⟨RX6, "cells", "()I"⟩
abbrev cX6_isLeaper : ByteArray := prog_8_method_16_code
def yX6_isLeaper : MethodName := ⟨RX6, "isLeaper", "(I)Z"⟩
abbrev cX6_isCell : ByteArray := prog_8_method_17_code
def yX6_isCell : MethodName := ⟨RX6, "isCell", "(I)Z"⟩
abbrev cX6_isBy : ByteArray := prog_8_method_18_code
def yX6_isBy : MethodName := ⟨RX6, "isBy", "(IIII)Z"⟩
abbrev cX6_canBy : ByteArray := prog_8_method_19_code
def yX6_canBy : MethodName := ⟨RX6, "canBy", "(III)Z"⟩
abbrev cX6_apart : ByteArray := prog_8_method_20_code
def yX6_apart : MethodName := ⟨RX6, "apart", "(II)I"⟩
abbrev cX6_around : ByteArray := prog_8_method_21_code
def yX6_around : MethodName := ⟨RX6, "around", "(II)I"⟩
abbrev cX6_standing : ByteArray := prog_8_method_22_code
def yX6_standing : MethodName := ⟨RX6, "standing", "()I"⟩
abbrev cX6_watched : ByteArray := prog_8_method_23_code
def yX6_watched : MethodName := ⟨RX6, "watched", "(I)I"⟩
abbrev cX6_canGo : ByteArray := prog_8_method_24_code
def yX6_canGo : MethodName := ⟨RX6, "canGo", "(I)I"⟩
abbrev cX6_others : ByteArray := prog_8_method_25_code
def yX6_others : MethodName := ⟨RX6, "others", "(I)I"⟩
abbrev cX6_leaperNow : ByteArray := prog_8_method_26_code
def yX6_leaperNow : MethodName := ⟨RX6, "leaperNow", "(II)I"⟩
abbrev cX6_leaper : ByteArray := prog_8_method_27_code
def yX6_leaper : MethodName := ⟨RX6, "leaper", "(II)I"⟩
abbrev cX6_as : ByteArray := prog_8_method_28_code
def yX6_as : MethodName := ⟨RX6, "as", "(II)I"⟩
abbrev cX6_whoAt : ByteArray := prog_8_method_29_code
def yX6_whoAt : MethodName := ⟨RX6, "whoAt", "(I)I"⟩
abbrev cX6_watchersOf : ByteArray := prog_8_method_30_code
def yX6_watchersOf : MethodName := ⟨RX6, "watchersOf", "(I)I"⟩
abbrev cX6_cellNow : ByteArray := prog_8_method_31_code
def yX6_cellNow : MethodName := ⟨RX6, "cellNow", "(II)I"⟩
abbrev cX6_cell : ByteArray := prog_8_method_32_code
def yX6_cell : MethodName := ⟨RX6, "cell", "(II)I"⟩
abbrev cX6_leap : ByteArray := prog_8_method_33_code
def yX6_leap : MethodName := ⟨RX6, "leap", "(II)I"⟩
abbrev cX6_dig : ByteArray := prog_8_method_34_code
def yX6_dig : MethodName := ⟨RX6, "dig", "(I)I"⟩
abbrev cX6_fill : ByteArray := prog_8_method_35_code
def yX6_fill : MethodName := ⟨RX6, "fill", "(I)I"⟩
abbrev cX6_be : ByteArray := prog_8_method_36_code
def yX6_be : MethodName := ⟨RX6, "be", "(II)I"⟩
abbrev cX6_aroundAll : ByteArray := prog_8_method_37_code
def yX6_aroundAll : MethodName := ⟨RX6, "aroundAll", "(II)I"⟩
abbrev cX6_hopsNow : ByteArray := prog_8_method_38_code
def yX6_hopsNow : MethodName := ⟨RX6, "hopsNow", "(II)I"⟩
abbrev cX6_hops : ByteArray := prog_8_method_39_code
def yX6_hops : MethodName := ⟨RX6, "hops", "(II)I"⟩
abbrev cX6_comeTo : ByteArray := prog_8_method_40_code
def yX6_comeTo : MethodName := ⟨RX6, "comeTo", "(II)V"⟩
abbrev cX6_comeFrom : ByteArray := prog_8_method_41_code
def yX6_comeFrom : MethodName := ⟨RX6, "comeFrom", "(IIII)V"⟩
abbrev cX6_tradeNow : ByteArray := prog_8_method_42_code
def yX6_tradeNow : MethodName := ⟨RX6, "tradeNow", "(II)I"⟩
abbrev cX6_trade : ByteArray := prog_8_method_43_code
def yX6_trade : MethodName := ⟨RX6, "trade", "(II)I"⟩
abbrev cX6_goOn : ByteArray := prog_8_method_44_code
def yX6_goOn : MethodName := ⟨RX6, "goOn", "(III)V"⟩
abbrev cX6_longestBy : ByteArray := prog_8_method_45_code
def yX6_longestBy : MethodName := ⟨RX6, "longestBy", "(II)I"⟩
abbrev cX6_wayOf : ByteArray := prog_8_method_46_code
def yX6_wayOf : MethodName := ⟨RX6, "wayOf", "(II)I"⟩
abbrev cX6_peaceSet : ByteArray := prog_8_method_47_code
def yX6_peaceSet : MethodName := ⟨RX6, "peaceSet", "(I)I"⟩
abbrev cX6_guardSet : ByteArray := prog_8_method_48_code
def yX6_guardSet : MethodName := ⟨RX6, "guardSet", "(I)I"⟩
abbrev cX6_isKind : ByteArray := prog_8_method_49_code
def yX6_isKind : MethodName := ⟨RX6, "isKind", "(I)Z"⟩
abbrev cX6_refused : ByteArray := prog_8_method_50_code
def yX6_refused : MethodName := ⟨RX6, "refused", "(II)I"⟩
abbrev cX6_peaceNow : ByteArray := prog_8_method_51_code
def yX6_peaceNow : MethodName := ⟨RX6, "peaceNow", "(II)I"⟩
abbrev cX6_peace : ByteArray := prog_8_method_52_code
def yX6_peace : MethodName := ⟨RX6, "peace", "(II)I"⟩
abbrev cX6_guardNow : ByteArray := prog_8_method_53_code
def yX6_guardNow : MethodName := ⟨RX6, "guardNow", "(II)I"⟩
abbrev cX6_guard : ByteArray := prog_8_method_54_code
def yX6_guard : MethodName := ⟨RX6, "guard", "(II)I"⟩
abbrev cX6_partOf : ByteArray := prog_8_method_55_code
def yX6_partOf : MethodName := ⟨RX6, "partOf", "(II)I"⟩
abbrev cX6_partsNow : ByteArray := prog_8_method_56_code
def yX6_partsNow : MethodName := ⟨RX6, "partsNow", "(I)I"⟩
abbrev cX6_areShades : ByteArray := prog_8_method_57_code
def yX6_areShades : MethodName := ⟨RX6, "areShades", "(I)Z"⟩
abbrev cX6_partsTold : ByteArray := prog_8_method_58_code
def yX6_partsTold : MethodName := ⟨RX6, "partsTold", "(II)I"⟩
abbrev cX6_parts : ByteArray := prog_8_method_59_code
def yX6_parts : MethodName := ⟨RX6, "parts", "(II)I"⟩
abbrev cX6_chanceFrom : ByteArray := prog_8_method_60_code
def yX6_chanceFrom : MethodName := ⟨RX6, "chanceFrom", "(III)I"⟩
abbrev cX6_chanceNow : ByteArray := prog_8_method_61_code
def yX6_chanceNow : MethodName := ⟨RX6, "chanceNow", "(III)I"⟩
abbrev cX6_chance : ByteArray := prog_8_method_62_code
def yX6_chance : MethodName := ⟨RX6, "chance", "(III)I"⟩
abbrev cX6_see : ByteArray := prog_8_method_63_code
def yX6_see : MethodName := ⟨RX6, "see", "(IIIZ)I"⟩
abbrev cX6_forget : ByteArray := prog_8_method_64_code
def yX6_forget : MethodName := ⟨RX6, "forget", "()I"⟩
abbrev cX6_sortsOf : ByteArray := prog_8_method_65_code
def yX6_sortsOf : MethodName := ⟨RX6, "sortsOf", "(I)I"⟩
abbrev cX6_askOf : ByteArray := prog_8_method_66_code
def yX6_askOf : MethodName := ⟨RX6, "askOf", "(I)I"⟩
abbrev cX6_draw : ByteArray := prog_8_method_67_code
def yX6_draw : MethodName := ⟨RX6, "draw", "(I)I"⟩
abbrev cX6_ofSet : ByteArray := prog_8_method_68_code
def yX6_ofSet : MethodName := ⟨RX6, "ofSet", "(II)I"⟩
abbrev cX6_watchedFree : ByteArray := prog_8_method_69_code
def yX6_watchedFree : MethodName := ⟨RX6, "watchedFree", "()I"⟩
abbrev cX6_walksNow : ByteArray := prog_8_method_70_code
def yX6_walksNow : MethodName := ⟨RX6, "walksNow", "(III)I"⟩
abbrev cX6_walks : ByteArray := prog_8_method_71_code
def yX6_walks : MethodName := ⟨RX6, "walks", "(III)I"⟩
abbrev cX6_image : ByteArray := prog_8_method_72_code
def yX6_image : MethodName := ⟨RX6, "image", "()I"⟩
abbrev cX6_restore : ByteArray := prog_8_method_73_code
def yX6_restore : MethodName := ⟨RX6, "restore", "()I"⟩
abbrev cX6_howMany : ByteArray := prog_8_method_74_code
def yX6_howMany : MethodName := ⟨RX6, "howMany", "(I)I"⟩
abbrev cX6_count : ByteArray := prog_8_method_75_code
def yX6_count : MethodName := ⟨RX6, "count", "(I)I"⟩
abbrev cX6_mix : ByteArray := prog_8_method_76_code
def yX6_mix : MethodName := ⟨RX6, "mix", "(J)V"⟩
abbrev cX6_mixBoard : ByteArray := prog_8_method_77_code
def yX6_mixBoard : MethodName := ⟨RX6, "mixBoard", "()V"⟩
abbrev cX6_digest : ByteArray := prog_8_method_78_code
def yX6_digest : MethodName := ⟨RX6, "digest", "()J"⟩
def RJ11 : String := "java/lang/Character"
abbrev cJ11_isValidCodePoint_9a6ad : ByteArray := prog_9_method_11_code
def yJ11_isValidCodePoint_9a6ad : MethodName := ⟨RJ11, "isValidCodePoint", "(I)Z"⟩
abbrev cJ11_highSurrogate_5068e : ByteArray := prog_9_method_28_code
def yJ11_highSurrogate_5068e : MethodName := ⟨RJ11, "highSurrogate", "(I)C"⟩
abbrev cJ11_lowSurrogate_5068e : ByteArray := prog_9_method_29_code
def yJ11_lowSurrogate_5068e : MethodName := ⟨RJ11, "lowSurrogate", "(I)C"⟩
def RJ6 : String := "java/lang/Integer"
abbrev cJ6_bitCount_0f7a4 : ByteArray := prog_10_method_49_code
def yJ6_bitCount_0f7a4 : MethodName := ⟨RJ6, "bitCount", "(I)I"⟩
def RJ9 : String := "java/lang/Math"
abbrev cJ9_abs_0f7a4 : ByteArray := prog_11_method_59_code
def yJ9_abs_0f7a4 : MethodName := ⟨RJ9, "abs", "(I)I"⟩
abbrev cJ9_max_7cf53 : ByteArray := prog_11_method_65_code
def yJ9_max_7cf53 : MethodName := ⟨RJ9, "max", "(II)I"⟩
abbrev cJ9_min_7cf53 : ByteArray := prog_11_method_69_code
def yJ9_min_7cf53 : MethodName := ⟨RJ9, "min", "(II)I"⟩
def RJ0 : String := "java/lang/String"
abbrev cJ0_length_8abf5 : ByteArray := prog_12_method_54_code
def yJ0_length_8abf5 : MethodName := ⟨RJ0, "length", "()I"⟩
abbrev cJ0_indexOf_0f7a4 : ByteArray := prog_12_method_79_code
def yJ0_indexOf_0f7a4 : MethodName := ⟨RJ0, "indexOf", "(I)I"⟩
abbrev cJ0_indexOf_7cf53 : ByteArray := prog_12_method_80_code
def yJ0_indexOf_7cf53 : MethodName := ⟨RJ0, "indexOf", "(II)I"⟩
abbrev cJ0_coder_7d493 : ByteArray := prog_12_method_152_code
def yJ0_coder_7d493 : MethodName := ⟨RJ0, "coder", "()B"⟩
abbrev cJ0_isLatin1_aae02 : ByteArray := prog_12_method_154_code
def yJ0_isLatin1_aae02 : MethodName := ⟨RJ0, "isLatin1", "()Z"⟩
abbrev cJ0_checkBoundsBeginEnd_23922 : ByteArray := prog_12_method_158_code
def yJ0_checkBoundsBeginEnd_23922 : MethodName := ⟨RJ0, "checkBoundsBeginEnd", "(III)V"⟩
def RJ1 : String := "java/lang/StringLatin1"
abbrev cJ1_canEncode_9a6ad : ByteArray := prog_13_method_4_code
def yJ1_canEncode_9a6ad : MethodName := ⟨RJ1, "canEncode", "(I)Z"⟩
abbrev cJ1_indexOf_4cfef : ByteArray := prog_13_method_22_code
def yJ1_indexOf_4cfef : MethodName := ⟨RJ1, "indexOf", "([BIII)I"⟩
abbrev cJ1_indexOfChar_4cfef : ByteArray := prog_13_method_23_code
def yJ1_indexOfChar_4cfef : MethodName := ⟨RJ1, "indexOfChar", "([BIII)I"⟩
def RJ2 : String := "java/lang/StringUTF16"
abbrev cJ2_getChar_3b067 : ByteArray := prog_14_method_5_code
def yJ2_getChar_3b067 : MethodName := ⟨RJ2, "getChar", "([BI)C"⟩
abbrev cJ2_length_9d52b : ByteArray := prog_14_method_6_code
def yJ2_length_9d52b : MethodName := ⟨RJ2, "length", "([B)I"⟩
abbrev cJ2_indexOf_4cfef : ByteArray := prog_14_method_40_code
def yJ2_indexOf_4cfef : MethodName := ⟨RJ2, "indexOf", "([BIII)I"⟩
abbrev cJ2_indexOfChar_4cfef : ByteArray := prog_14_method_47_code
def yJ2_indexOfChar_4cfef : MethodName := ⟨RJ2, "indexOfChar", "([BIII)I"⟩
abbrev cJ2_indexOfCharUnsafe_4cfef : ByteArray := prog_14_method_48_code
def yJ2_indexOfCharUnsafe_4cfef : MethodName := ⟨RJ2, "indexOfCharUnsafe", "([BIII)I"⟩
abbrev cJ2_indexOfSupplementary_4cfef : ByteArray := prog_14_method_49_code
def yJ2_indexOfSupplementary_4cfef : MethodName := ⟨RJ2, "indexOfSupplementary", "([BIII)I"⟩
abbrev cJ2_checkBoundsBeginEnd_d044e : ByteArray := prog_14_method_93_code
def yJ2_checkBoundsBeginEnd_d044e : MethodName := ⟨RJ2, "checkBoundsBeginEnd", "(II[B)V"⟩
def RJ3 : String := "jdk/internal/util/Preconditions"
abbrev cJ3_checkFromToIndex_8c36e : ByteArray := prog_15_method_12_code
def yJ3_checkFromToIndex_8c36e : MethodName := ⟨RJ3, "checkFromToIndex", "(IIILjava/util/function/BiFunction;)I"⟩
def RL : String := "LeapBoardLaw"
abbrev cL_law : ByteArray := code
def yL_law : MethodName := ⟨RL, "law", "([I)Z"⟩
abbrev vwCl : List vw_C := [(RX0, TX0, 1), (RX1, TX1, 4), (RX2, TX2, 3), (RX3, TX3, 8), (RX4, TX4, 6), (RX5, TX5, 9), (RX6, TX6, 39)]
end
section
/-! ===== words, by their places ===== -/
abbrev MI : Type := MethodName × ByteArray × Nat × Option FieldType × Nat
def UW : List Cond := lw_tbl.filter goodWord
theorem uw {w : Cond} (i : Nat) (h : lw_tbl[i]? = some w) (g : goodWord w = true) : w ∈ UW := List.mem_filter.mpr ⟨List.mem_of_getElem? h, g⟩
theorem uw_good {w : Cond} (h : w ∈ UW) : (w.onTables && w.keeps) = true ∨ ∃ ty, w = .arrayClass ty := good_of_word (List.mem_filter.mp h).2
def mOK (mi : MI) : Prop := Cond.code mi.1 mi.2.1 mi.2.2.1 mi.2.2.2.1 ∈ UW ∧ Cond.initialized mi.1.cls ∈ UW ∧ (mi.1.cls ≠ "java/lang/invoke/MethodHandle" ∧ mi.1.cls ≠ "java/lang/invoke/VarHandle") ∧ (parseMethodDescriptor mi.1.desc).map (fun d => d.parameters.length) = some mi.2.2.2.2 ∧ plainName mi.1.cls = true ∧ mi.2.2.1 ≤ 40
def mS (mi : MI) : Prop := mOK mi ∧ Cond.static mi.1 ∈ UW
def mV (mi : MI) : Prop := mOK mi ∧ Cond.instanceMethod mi.1 ∈ UW ∧ Cond.selects mi.1.cls mi.1 mi.1 ∈ UW
abbrev mX0_init : MI := (yX0_init, cX0_init, 1, none, 0)
theorem okX0_init : mOK mX0_init ∧ Cond.instanceMethod mX0_init.1 ∈ UW := ⟨⟨uw 193 (by decide +kernel) (by decide +kernel), uw 68 (by decide +kernel) (by decide +kernel), by decide +kernel, by decide +kernel, by decide +kernel, by decide +kernel⟩, uw 192 (by decide +kernel) (by decide +kernel)⟩
abbrev mX0_next : MI := (yX0_next, cX0_next, 2, (some .int), 1)
theorem okX0_next : mV mX0_next := ⟨⟨uw 646 (by decide +kernel) (by decide +kernel), uw 68 (by decide +kernel) (by decide +kernel), by decide +kernel, by decide +kernel, by decide +kernel, by decide +kernel⟩, uw 644 (by decide +kernel) (by decide +kernel), uw 645 (by decide +kernel) (by decide +kernel)⟩
abbrev mX1_init : MI := (yX1_init, cX1_init, 1, none, 0)
theorem okX1_init : mOK mX1_init ∧ Cond.instanceMethod mX1_init.1 ∈ UW := ⟨⟨uw 107 (by decide +kernel) (by decide +kernel), uw 65 (by decide +kernel) (by decide +kernel), by decide +kernel, by decide +kernel, by decide +kernel, by decide +kernel⟩, uw 106 (by decide +kernel) (by decide +kernel)⟩
abbrev mX1_lay : MI := (yX1_lay, cX1_lay, 5, none, 2)
theorem okX1_lay : mV mX1_lay := ⟨⟨uw 385 (by decide +kernel) (by decide +kernel), uw 65 (by decide +kernel) (by decide +kernel), by decide +kernel, by decide +kernel, by decide +kernel, by decide +kernel⟩, uw 383 (by decide +kernel) (by decide +kernel), uw 384 (by decide +kernel) (by decide +kernel)⟩
abbrev mX1_hasCell : MI := (yX1_hasCell, cX1_hasCell, 2, (some .boolean), 1)
theorem okX1_hasCell : mV mX1_hasCell := ⟨⟨uw 517 (by decide +kernel) (by decide +kernel), uw 65 (by decide +kernel) (by decide +kernel), by decide +kernel, by decide +kernel, by decide +kernel, by decide +kernel⟩, uw 515 (by decide +kernel) (by decide +kernel), uw 516 (by decide +kernel) (by decide +kernel)⟩
abbrev mX1_fanOf : MI := (yX1_fanOf, cX1_fanOf, 2, (some (.array .int)), 1)
theorem okX1_fanOf : mV mX1_fanOf := ⟨⟨uw 435 (by decide +kernel) (by decide +kernel), uw 65 (by decide +kernel) (by decide +kernel), by decide +kernel, by decide +kernel, by decide +kernel, by decide +kernel⟩, uw 433 (by decide +kernel) (by decide +kernel), uw 434 (by decide +kernel) (by decide +kernel)⟩
abbrev mX1_fanFrom : MI := (yX1_fanFrom, cX1_fanFrom, 7, (some .int), 2)
theorem okX1_fanFrom : mV mX1_fanFrom := ⟨⟨uw 389 (by decide +kernel) (by decide +kernel), uw 65 (by decide +kernel) (by decide +kernel), by decide +kernel, by decide +kernel, by decide +kernel, by decide +kernel⟩, uw 388 (by decide +kernel) (by decide +kernel), uw 3 (by decide +kernel) (by decide +kernel)⟩
abbrev mX1_spread : MI := (yX1_spread, cX1_spread, 4, (some .int), 2)
theorem okX1_spread : mS mX1_spread := ⟨⟨uw 481 (by decide +kernel) (by decide +kernel), uw 65 (by decide +kernel) (by decide +kernel), by decide +kernel, by decide +kernel, by decide +kernel, by decide +kernel⟩, uw 480 (by decide +kernel) (by decide +kernel)⟩
abbrev mX1_partAround : MI := (yX1_partAround, cX1_partAround, 6, (some .int), 3)
theorem okX1_partAround : mS mX1_partAround := ⟨⟨uw 478 (by decide +kernel) (by decide +kernel), uw 65 (by decide +kernel) (by decide +kernel), by decide +kernel, by decide +kernel, by decide +kernel, by decide +kernel⟩, uw 477 (by decide +kernel) (by decide +kernel)⟩
abbrev mX1_partCount : MI := (yX1_partCount, cX1_partCount, 5, (some .int), 2)
theorem okX1_partCount : mS mX1_partCount := ⟨⟨uw 597 (by decide +kernel) (by decide +kernel), uw 65 (by decide +kernel) (by decide +kernel), by decide +kernel, by decide +kernel, by decide +kernel, by decide +kernel⟩, uw 596 (by decide +kernel) (by decide +kernel)⟩
abbrev mX1_isTwoShaded : MI := (yX1_isTwoShaded, cX1_isTwoShaded, 7, (some .boolean), 2)
theorem okX1_isTwoShaded : mS mX1_isTwoShaded := ⟨⟨uw 601 (by decide +kernel) (by decide +kernel), uw 65 (by decide +kernel) (by decide +kernel), by decide +kernel, by decide +kernel, by decide +kernel, by decide +kernel⟩, uw 600 (by decide +kernel) (by decide +kernel)⟩
abbrev mX1_mostInPeace : MI := (yX1_mostInPeace, cX1_mostInPeace, 7, (some .int), 3)
theorem okX1_mostInPeace : mS mX1_mostInPeace := ⟨⟨uw 575 (by decide +kernel) (by decide +kernel), uw 65 (by decide +kernel) (by decide +kernel), by decide +kernel, by decide +kernel, by decide +kernel, by decide +kernel⟩, uw 574 (by decide +kernel) (by decide +kernel)⟩
abbrev mX1_isLarger : MI := (yX1_isLarger, cX1_isLarger, 2, (some .boolean), 2)
theorem okX1_isLarger : mS mX1_isLarger := ⟨⟨uw 580 (by decide +kernel) (by decide +kernel), uw 65 (by decide +kernel) (by decide +kernel), by decide +kernel, by decide +kernel, by decide +kernel, by decide +kernel⟩, uw 579 (by decide +kernel) (by decide +kernel)⟩
abbrev mX1_fewestGuards : MI := (yX1_fewestGuards, cX1_fewestGuards, 12, (some .int), 6)
theorem okX1_fewestGuards : mS mX1_fewestGuards := ⟨⟨uw 588 (by decide +kernel) (by decide +kernel), uw 65 (by decide +kernel) (by decide +kernel), by decide +kernel, by decide +kernel, by decide +kernel, by decide +kernel⟩, uw 587 (by decide +kernel) (by decide +kernel)⟩
abbrev mX2_init : MI := (yX2_init, cX2_init, 1, none, 0)
theorem okX2_init : mOK mX2_init ∧ Cond.instanceMethod mX2_init.1 ∈ UW := ⟨⟨uw 89 (by decide +kernel) (by decide +kernel), uw 64 (by decide +kernel) (by decide +kernel), by decide +kernel, by decide +kernel, by decide +kernel, by decide +kernel⟩, uw 88 (by decide +kernel) (by decide +kernel)⟩
abbrev mX2_put : MI := (yX2_put, cX2_put, 2, (some .boolean), 1)
theorem okX2_put : mV mX2_put := ⟨⟨uw 235 (by decide +kernel) (by decide +kernel), uw 64 (by decide +kernel) (by decide +kernel), by decide +kernel, by decide +kernel, by decide +kernel, by decide +kernel⟩, uw 233 (by decide +kernel) (by decide +kernel), uw 234 (by decide +kernel) (by decide +kernel)⟩
abbrev mX2_clear : MI := (yX2_clear, cX2_clear, 2, (some .int), 0)
theorem okX2_clear : mV mX2_clear := ⟨⟨uw 255 (by decide +kernel) (by decide +kernel), uw 64 (by decide +kernel) (by decide +kernel), by decide +kernel, by decide +kernel, by decide +kernel, by decide +kernel⟩, uw 253 (by decide +kernel) (by decide +kernel), uw 254 (by decide +kernel) (by decide +kernel)⟩
abbrev mX2_at : MI := (yX2_at, cX2_at, 2, (some .int), 1)
theorem okX2_at : mV mX2_at := ⟨⟨uw 243 (by decide +kernel) (by decide +kernel), uw 64 (by decide +kernel) (by decide +kernel), by decide +kernel, by decide +kernel, by decide +kernel, by decide +kernel⟩, uw 241 (by decide +kernel) (by decide +kernel), uw 242 (by decide +kernel) (by decide +kernel)⟩
abbrev mX2_firstFault : MI := (yX2_firstFault, cX2_firstFault, 2, (some .int), 0)
theorem okX2_firstFault : mV mX2_firstFault := ⟨⟨uw 263 (by decide +kernel) (by decide +kernel), uw 64 (by decide +kernel) (by decide +kernel), by decide +kernel, by decide +kernel, by decide +kernel, by decide +kernel⟩, uw 261 (by decide +kernel) (by decide +kernel), uw 262 (by decide +kernel) (by decide +kernel)⟩
abbrev mX2_isWhole : MI := (yX2_isWhole, cX2_isWhole, 2, (some .boolean), 0)
theorem okX2_isWhole : mV mX2_isWhole := ⟨⟨uw 378 (by decide +kernel) (by decide +kernel), uw 64 (by decide +kernel) (by decide +kernel), by decide +kernel, by decide +kernel, by decide +kernel, by decide +kernel⟩, uw 376 (by decide +kernel) (by decide +kernel), uw 377 (by decide +kernel) (by decide +kernel)⟩
abbrev mX2_rows : MI := (yX2_rows, cX2_rows, 1, (some .int), 0)
theorem okX2_rows : mV mX2_rows := ⟨⟨uw 239 (by decide +kernel) (by decide +kernel), uw 64 (by decide +kernel) (by decide +kernel), by decide +kernel, by decide +kernel, by decide +kernel, by decide +kernel⟩, uw 237 (by decide +kernel) (by decide +kernel), uw 238 (by decide +kernel) (by decide +kernel)⟩
abbrev mX2_columns : MI := (yX2_columns, cX2_columns, 1, (some .int), 0)
theorem okX2_columns : mV mX2_columns := ⟨⟨uw 247 (by decide +kernel) (by decide +kernel), uw 64 (by decide +kernel) (by decide +kernel), by decide +kernel, by decide +kernel, by decide +kernel, by decide +kernel⟩, uw 245 (by decide +kernel) (by decide +kernel), uw 246 (by decide +kernel) (by decide +kernel)⟩
abbrev mX2_freeCells : MI := (yX2_freeCells, cX2_freeCells, 3, (some .int), 0)
theorem okX2_freeCells : mV mX2_freeCells := ⟨⟨uw 401 (by decide +kernel) (by decide +kernel), uw 64 (by decide +kernel) (by decide +kernel), by decide +kernel, by decide +kernel, by decide +kernel, by decide +kernel⟩, uw 399 (by decide +kernel) (by decide +kernel), uw 400 (by decide +kernel) (by decide +kernel)⟩
abbrev mX2_leapers : MI := (yX2_leapers, cX2_leapers, 1, (some .int), 0)
theorem okX2_leapers : mV mX2_leapers := ⟨⟨uw 405 (by decide +kernel) (by decide +kernel), uw 64 (by decide +kernel) (by decide +kernel), by decide +kernel, by decide +kernel, by decide +kernel, by decide +kernel⟩, uw 403 (by decide +kernel) (by decide +kernel), uw 404 (by decide +kernel) (by decide +kernel)⟩
abbrev mX2_kindOf : MI := (yX2_kindOf, cX2_kindOf, 2, (some .int), 1)
theorem okX2_kindOf : mV mX2_kindOf := ⟨⟨uw 409 (by decide +kernel) (by decide +kernel), uw 64 (by decide +kernel) (by decide +kernel), by decide +kernel, by decide +kernel, by decide +kernel, by decide +kernel⟩, uw 407 (by decide +kernel) (by decide +kernel), uw 408 (by decide +kernel) (by decide +kernel)⟩
abbrev mX2_standOf : MI := (yX2_standOf, cX2_standOf, 2, (some .int), 1)
theorem okX2_standOf : mV mX2_standOf := ⟨⟨uw 369 (by decide +kernel) (by decide +kernel), uw 64 (by decide +kernel) (by decide +kernel), by decide +kernel, by decide +kernel, by decide +kernel, by decide +kernel⟩, uw 367 (by decide +kernel) (by decide +kernel), uw 368 (by decide +kernel) (by decide +kernel)⟩
abbrev mX2_kindPlace : MI := (yX2_kindPlace, cX2_kindPlace, 2, (some .int), 1)
theorem okX2_kindPlace : mV mX2_kindPlace := ⟨⟨uw 271 (by decide +kernel) (by decide +kernel), uw 64 (by decide +kernel) (by decide +kernel), by decide +kernel, by decide +kernel, by decide +kernel, by decide +kernel⟩, uw 270 (by decide +kernel) (by decide +kernel), uw 1 (by decide +kernel) (by decide +kernel)⟩
abbrev mX2_kindFor : MI := (yX2_kindFor, cX2_kindFor, 1, (some .int), 1)
theorem okX2_kindFor : mS mX2_kindFor := ⟨⟨uw 274 (by decide +kernel) (by decide +kernel), uw 64 (by decide +kernel) (by decide +kernel), by decide +kernel, by decide +kernel, by decide +kernel, by decide +kernel⟩, uw 273 (by decide +kernel) (by decide +kernel)⟩
abbrev mX2_fits : MI := (yX2_fits, cX2_fits, 5, (some .boolean), 1)
theorem okX2_fits : mV mX2_fits := ⟨⟨uw 267 (by decide +kernel) (by decide +kernel), uw 64 (by decide +kernel) (by decide +kernel), by decide +kernel, by decide +kernel, by decide +kernel, by decide +kernel⟩, uw 266 (by decide +kernel) (by decide +kernel), uw 0 (by decide +kernel) (by decide +kernel)⟩
abbrev mX2_isOpenTo : MI := (yX2_isOpenTo, cX2_isOpenTo, 4, (some .boolean), 1)
theorem okX2_isOpenTo : mV mX2_isOpenTo := ⟨⟨uw 365 (by decide +kernel) (by decide +kernel), uw 64 (by decide +kernel) (by decide +kernel), by decide +kernel, by decide +kernel, by decide +kernel, by decide +kernel⟩, uw 364 (by decide +kernel) (by decide +kernel), uw 2 (by decide +kernel) (by decide +kernel)⟩
abbrev mX3_init : MI := (yX3_init, cX3_init, 1, none, 0)
theorem okX3_init : mOK mX3_init ∧ Cond.instanceMethod mX3_init.1 ∈ UW := ⟨⟨uw 131 (by decide +kernel) (by decide +kernel), uw 66 (by decide +kernel) (by decide +kernel), by decide +kernel, by decide +kernel, by decide +kernel, by decide +kernel⟩, uw 130 (by decide +kernel) (by decide +kernel)⟩
abbrev mX3_isThere : MI := (yX3_isThere, cX3_isThere, 1, (some .boolean), 0)
theorem okX3_isThere : mV mX3_isThere := ⟨⟨uw 572 (by decide +kernel) (by decide +kernel), uw 66 (by decide +kernel) (by decide +kernel), by decide +kernel, by decide +kernel, by decide +kernel, by decide +kernel⟩, uw 570 (by decide +kernel) (by decide +kernel), uw 571 (by decide +kernel) (by decide +kernel)⟩
abbrev mX3_hasLeaper : MI := (yX3_hasLeaper, cX3_hasLeaper, 2, (some .boolean), 1)
theorem okX3_hasLeaper : mV mX3_hasLeaper := ⟨⟨uw 418 (by decide +kernel) (by decide +kernel), uw 66 (by decide +kernel) (by decide +kernel), by decide +kernel, by decide +kernel, by decide +kernel, by decide +kernel⟩, uw 416 (by decide +kernel) (by decide +kernel), uw 417 (by decide +kernel) (by decide +kernel)⟩
abbrev mX3_kindOf : MI := (yX3_kindOf, cX3_kindOf, 2, (some .int), 1)
theorem okX3_kindOf : mV mX3_kindOf := ⟨⟨uw 422 (by decide +kernel) (by decide +kernel), uw 66 (by decide +kernel) (by decide +kernel), by decide +kernel, by decide +kernel, by decide +kernel, by decide +kernel⟩, uw 420 (by decide +kernel) (by decide +kernel), uw 421 (by decide +kernel) (by decide +kernel)⟩
abbrev mX3_standOf : MI := (yX3_standOf, cX3_standOf, 2, (some .int), 1)
theorem okX3_standOf : mV mX3_standOf := ⟨⟨uw 427 (by decide +kernel) (by decide +kernel), uw 66 (by decide +kernel) (by decide +kernel), by decide +kernel, by decide +kernel, by decide +kernel, by decide +kernel⟩, uw 425 (by decide +kernel) (by decide +kernel), uw 426 (by decide +kernel) (by decide +kernel)⟩
abbrev mX3_empty : MI := (yX3_empty, cX3_empty, 3, (some .int), 0)
theorem okX3_empty : mV mX3_empty := ⟨⟨uw 446 (by decide +kernel) (by decide +kernel), uw 66 (by decide +kernel) (by decide +kernel), by decide +kernel, by decide +kernel, by decide +kernel, by decide +kernel⟩, uw 444 (by decide +kernel) (by decide +kernel), uw 445 (by decide +kernel) (by decide +kernel)⟩
abbrev mX3_whoStands : MI := (yX3_whoStands, cX3_whoStands, 3, (some .int), 1)
theorem okX3_whoStands : mV mX3_whoStands := ⟨⟨uw 521 (by decide +kernel) (by decide +kernel), uw 66 (by decide +kernel) (by decide +kernel), by decide +kernel, by decide +kernel, by decide +kernel, by decide +kernel⟩, uw 519 (by decide +kernel) (by decide +kernel), uw 520 (by decide +kernel) (by decide +kernel)⟩
abbrev mX3_note : MI := (yX3_note, cX3_note, 3, (some .boolean), 2)
theorem okX3_note : mV mX3_note := ⟨⟨uw 626 (by decide +kernel) (by decide +kernel), uw 66 (by decide +kernel) (by decide +kernel), by decide +kernel, by decide +kernel, by decide +kernel, by decide +kernel⟩, uw 624 (by decide +kernel) (by decide +kernel), uw 625 (by decide +kernel) (by decide +kernel)⟩
abbrev mX3_sorts : MI := (yX3_sorts, cX3_sorts, 4, (some .int), 1)
theorem okX3_sorts : mV mX3_sorts := ⟨⟨uw 450 (by decide +kernel) (by decide +kernel), uw 66 (by decide +kernel) (by decide +kernel), by decide +kernel, by decide +kernel, by decide +kernel, by decide +kernel⟩, uw 448 (by decide +kernel) (by decide +kernel), uw 449 (by decide +kernel) (by decide +kernel)⟩
abbrev mX3_copy : MI := (yX3_copy, cX3_copy, 3, none, 1)
theorem okX3_copy : mV mX3_copy := ⟨⟨uw 642 (by decide +kernel) (by decide +kernel), uw 66 (by decide +kernel) (by decide +kernel), by decide +kernel, by decide +kernel, by decide +kernel, by decide +kernel⟩, uw 640 (by decide +kernel) (by decide +kernel), uw 641 (by decide +kernel) (by decide +kernel)⟩
abbrev mX4_init : MI := (yX4_init, cX4_init, 1, none, 0)
theorem okX4_init : mOK mX4_init ∧ Cond.instanceMethod mX4_init.1 ∈ UW := ⟨⟨uw 168 (by decide +kernel) (by decide +kernel), uw 67 (by decide +kernel) (by decide +kernel), by decide +kernel, by decide +kernel, by decide +kernel, by decide +kernel⟩, uw 167 (by decide +kernel) (by decide +kernel)⟩
abbrev mX4_fewest : MI := (yX4_fewest, cX4_fewest, 6, (some .int), 4)
theorem okX4_fewest : mS mX4_fewest := ⟨⟨uw 548 (by decide +kernel) (by decide +kernel), uw 67 (by decide +kernel) (by decide +kernel), by decide +kernel, by decide +kernel, by decide +kernel, by decide +kernel⟩, uw 547 (by decide +kernel) (by decide +kernel)⟩
abbrev mX4_longest : MI := (yX4_longest, cX4_longest, 4, (some .int), 3)
theorem okX4_longest : mV mX4_longest := ⟨⟨uw 471 (by decide +kernel) (by decide +kernel), uw 67 (by decide +kernel) (by decide +kernel), by decide +kernel, by decide +kernel, by decide +kernel, by decide +kernel⟩, uw 469 (by decide +kernel) (by decide +kernel), uw 470 (by decide +kernel) (by decide +kernel)⟩
abbrev mX4_firstOfLongest : MI := (yX4_firstOfLongest, cX4_firstOfLongest, 4, (some .int), 3)
theorem okX4_firstOfLongest : mV mX4_firstOfLongest := ⟨⟨uw 497 (by decide +kernel) (by decide +kernel), uw 67 (by decide +kernel) (by decide +kernel), by decide +kernel, by decide +kernel, by decide +kernel, by decide +kernel⟩, uw 495 (by decide +kernel) (by decide +kernel), uw 496 (by decide +kernel) (by decide +kernel)⟩
abbrev mX4_mostBehind : MI := (yX4_mostBehind, cX4_mostBehind, 2, (some .int), 0)
theorem okX4_mostBehind : mV mX4_mostBehind := ⟨⟨uw 493 (by decide +kernel) (by decide +kernel), uw 67 (by decide +kernel) (by decide +kernel), by decide +kernel, by decide +kernel, by decide +kernel, by decide +kernel⟩, uw 492 (by decide +kernel) (by decide +kernel), uw 9 (by decide +kernel) (by decide +kernel)⟩
abbrev mX4_findFirsts : MI := (yX4_findFirsts, cX4_findFirsts, 9, none, 3)
theorem okX4_findFirsts : mV mX4_findFirsts := ⟨⟨uw 475 (by decide +kernel) (by decide +kernel), uw 67 (by decide +kernel) (by decide +kernel), by decide +kernel, by decide +kernel, by decide +kernel, by decide +kernel⟩, uw 474 (by decide +kernel) (by decide +kernel), uw 7 (by decide +kernel) (by decide +kernel)⟩
abbrev mX4_startsOf : MI := (yX4_startsOf, cX4_startsOf, 6, (some .int), 2)
theorem okX4_startsOf : mV mX4_startsOf := ⟨⟨uw 485 (by decide +kernel) (by decide +kernel), uw 67 (by decide +kernel) (by decide +kernel), by decide +kernel, by decide +kernel, by decide +kernel, by decide +kernel⟩, uw 484 (by decide +kernel) (by decide +kernel), uw 8 (by decide +kernel) (by decide +kernel)⟩
abbrev mX4_fewestToTrade : MI := (yX4_fewestToTrade, cX4_fewestToTrade, 7, (some .int), 5)
theorem okX4_fewestToTrade : mV mX4_fewestToTrade := ⟨⟨uw 557 (by decide +kernel) (by decide +kernel), uw 67 (by decide +kernel) (by decide +kernel), by decide +kernel, by decide +kernel, by decide +kernel, by decide +kernel⟩, uw 555 (by decide +kernel) (by decide +kernel), uw 556 (by decide +kernel) (by decide +kernel)⟩
abbrev mX4_spreadPairs : MI := (yX4_spreadPairs, cX4_spreadPairs, 8, (some .boolean), 3)
theorem okX4_spreadPairs : mV mX4_spreadPairs := ⟨⟨uw 561 (by decide +kernel) (by decide +kernel), uw 67 (by decide +kernel) (by decide +kernel), by decide +kernel, by decide +kernel, by decide +kernel, by decide +kernel⟩, uw 560 (by decide +kernel) (by decide +kernel), uw 11 (by decide +kernel) (by decide +kernel)⟩
abbrev mX4_likelihood : MI := (yX4_likelihood, cX4_likelihood, 7, (some .int), 5)
theorem okX4_likelihood : mV mX4_likelihood := ⟨⟨uw 609 (by decide +kernel) (by decide +kernel), uw 67 (by decide +kernel) (by decide +kernel), by decide +kernel, by decide +kernel, by decide +kernel, by decide +kernel⟩, uw 607 (by decide +kernel) (by decide +kernel), uw 608 (by decide +kernel) (by decide +kernel)⟩
abbrev mX4_addLeap : MI := (yX4_addLeap, cX4_addLeap, 6, none, 2)
theorem okX4_addLeap : mV mX4_addLeap := ⟨⟨uw 614 (by decide +kernel) (by decide +kernel), uw 67 (by decide +kernel) (by decide +kernel), by decide +kernel, by decide +kernel, by decide +kernel, by decide +kernel⟩, uw 613 (by decide +kernel) (by decide +kernel), uw 12 (by decide +kernel) (by decide +kernel)⟩
abbrev mX4_sumOver : MI := (yX4_sumOver, cX4_sumOver, 4, (some .int), 1)
theorem okX4_sumOver : mV mX4_sumOver := ⟨⟨uw 618 (by decide +kernel) (by decide +kernel), uw 67 (by decide +kernel) (by decide +kernel), by decide +kernel, by decide +kernel, by decide +kernel, by decide +kernel⟩, uw 617 (by decide +kernel) (by decide +kernel), uw 13 (by decide +kernel) (by decide +kernel)⟩
abbrev mX5_init : MI := (yX5_init, cX5_init, 1, none, 0)
theorem okX5_init : mOK mX5_init ∧ Cond.instanceMethod mX5_init.1 ∈ UW := ⟨⟨uw 81 (by decide +kernel) (by decide +kernel), uw 63 (by decide +kernel) (by decide +kernel), by decide +kernel, by decide +kernel, by decide +kernel, by decide +kernel⟩, uw 80 (by decide +kernel) (by decide +kernel)⟩
abbrev mX5_letter : MI := (yX5_letter, cX5_letter, 2, (some .int), 1)
theorem okX5_letter : mV mX5_letter := ⟨⟨uw 231 (by decide +kernel) (by decide +kernel), uw 63 (by decide +kernel) (by decide +kernel), by decide +kernel, by decide +kernel, by decide +kernel, by decide +kernel⟩, uw 229 (by decide +kernel) (by decide +kernel), uw 230 (by decide +kernel) (by decide +kernel)⟩
abbrev mX5_blank : MI := (yX5_blank, cX5_blank, 1, (some .int), 0)
theorem okX5_blank : mV mX5_blank := ⟨⟨uw 251 (by decide +kernel) (by decide +kernel), uw 63 (by decide +kernel) (by decide +kernel), by decide +kernel, by decide +kernel, by decide +kernel, by decide +kernel⟩, uw 249 (by decide +kernel) (by decide +kernel), uw 250 (by decide +kernel) (by decide +kernel)⟩
abbrev mX5_fault : MI := (yX5_fault, cX5_fault, 1, (some .int), 0)
theorem okX5_fault : mV mX5_fault := ⟨⟨uw 259 (by decide +kernel) (by decide +kernel), uw 63 (by decide +kernel) (by decide +kernel), by decide +kernel, by decide +kernel, by decide +kernel, by decide +kernel⟩, uw 257 (by decide +kernel) (by decide +kernel), uw 258 (by decide +kernel) (by decide +kernel)⟩
abbrev mX5_board : MI := (yX5_board, cX5_board, 2, (some .int), 0)
theorem okX5_board : mV mX5_board := ⟨⟨uw 374 (by decide +kernel) (by decide +kernel), uw 63 (by decide +kernel) (by decide +kernel), by decide +kernel, by decide +kernel, by decide +kernel, by decide +kernel⟩, uw 372 (by decide +kernel) (by decide +kernel), uw 373 (by decide +kernel) (by decide +kernel)⟩
abbrev mX5_leaper : MI := (yX5_leaper, cX5_leaper, 3, (some .int), 2)
theorem okX5_leaper : mV mX5_leaper := ⟨⟨uw 414 (by decide +kernel) (by decide +kernel), uw 63 (by decide +kernel) (by decide +kernel), by decide +kernel, by decide +kernel, by decide +kernel, by decide +kernel⟩, uw 412 (by decide +kernel) (by decide +kernel), uw 413 (by decide +kernel) (by decide +kernel)⟩
abbrev mX5_as : MI := (yX5_as, cX5_as, 5, (some .int), 2)
theorem okX5_as : mV mX5_as := ⟨⟨uw 508 (by decide +kernel) (by decide +kernel), uw 63 (by decide +kernel) (by decide +kernel), by decide +kernel, by decide +kernel, by decide +kernel, by decide +kernel⟩, uw 506 (by decide +kernel) (by decide +kernel), uw 507 (by decide +kernel) (by decide +kernel)⟩
abbrev mX5_cell : MI := (yX5_cell, cX5_cell, 3, (some .int), 2)
theorem okX5_cell : mV mX5_cell := ⟨⟨uw 513 (by decide +kernel) (by decide +kernel), uw 63 (by decide +kernel) (by decide +kernel), by decide +kernel, by decide +kernel, by decide +kernel, by decide +kernel⟩, uw 511 (by decide +kernel) (by decide +kernel), uw 512 (by decide +kernel) (by decide +kernel)⟩
abbrev mX5_leap : MI := (yX5_leap, cX5_leap, 3, (some .int), 2)
theorem okX5_leap : mV mX5_leap := ⟨⟨uw 529 (by decide +kernel) (by decide +kernel), uw 63 (by decide +kernel) (by decide +kernel), by decide +kernel, by decide +kernel, by decide +kernel, by decide +kernel⟩, uw 527 (by decide +kernel) (by decide +kernel), uw 528 (by decide +kernel) (by decide +kernel)⟩
abbrev mX5_dig : MI := (yX5_dig, cX5_dig, 2, (some .int), 1)
theorem okX5_dig : mV mX5_dig := ⟨⟨uw 533 (by decide +kernel) (by decide +kernel), uw 63 (by decide +kernel) (by decide +kernel), by decide +kernel, by decide +kernel, by decide +kernel, by decide +kernel⟩, uw 531 (by decide +kernel) (by decide +kernel), uw 532 (by decide +kernel) (by decide +kernel)⟩
abbrev mX5_fill : MI := (yX5_fill, cX5_fill, 2, (some .int), 1)
theorem okX5_fill : mV mX5_fill := ⟨⟨uw 537 (by decide +kernel) (by decide +kernel), uw 63 (by decide +kernel) (by decide +kernel), by decide +kernel, by decide +kernel, by decide +kernel, by decide +kernel⟩, uw 535 (by decide +kernel) (by decide +kernel), uw 536 (by decide +kernel) (by decide +kernel)⟩
abbrev mX5_be : MI := (yX5_be, cX5_be, 4, (some .int), 2)
theorem okX5_be : mV mX5_be := ⟨⟨uw 541 (by decide +kernel) (by decide +kernel), uw 63 (by decide +kernel) (by decide +kernel), by decide +kernel, by decide +kernel, by decide +kernel, by decide +kernel⟩, uw 539 (by decide +kernel) (by decide +kernel), uw 540 (by decide +kernel) (by decide +kernel)⟩
abbrev mX5_hops : MI := (yX5_hops, cX5_hops, 4, (some .int), 2)
theorem okX5_hops : mV mX5_hops := ⟨⟨uw 545 (by decide +kernel) (by decide +kernel), uw 63 (by decide +kernel) (by decide +kernel), by decide +kernel, by decide +kernel, by decide +kernel, by decide +kernel⟩, uw 543 (by decide +kernel) (by decide +kernel), uw 544 (by decide +kernel) (by decide +kernel)⟩
abbrev mX5_trade : MI := (yX5_trade, cX5_trade, 6, (some .int), 2)
theorem okX5_trade : mV mX5_trade := ⟨⟨uw 553 (by decide +kernel) (by decide +kernel), uw 63 (by decide +kernel) (by decide +kernel), by decide +kernel, by decide +kernel, by decide +kernel, by decide +kernel⟩, uw 551 (by decide +kernel) (by decide +kernel), uw 552 (by decide +kernel) (by decide +kernel)⟩
abbrev mX5_peace : MI := (yX5_peace, cX5_peace, 4, (some .int), 2)
theorem okX5_peace : mV mX5_peace := ⟨⟨uw 565 (by decide +kernel) (by decide +kernel), uw 63 (by decide +kernel) (by decide +kernel), by decide +kernel, by decide +kernel, by decide +kernel, by decide +kernel⟩, uw 563 (by decide +kernel) (by decide +kernel), uw 564 (by decide +kernel) (by decide +kernel)⟩
abbrev mX5_guard : MI := (yX5_guard, cX5_guard, 4, (some .int), 2)
theorem okX5_guard : mV mX5_guard := ⟨⟨uw 585 (by decide +kernel) (by decide +kernel), uw 63 (by decide +kernel) (by decide +kernel), by decide +kernel, by decide +kernel, by decide +kernel, by decide +kernel⟩, uw 583 (by decide +kernel) (by decide +kernel), uw 584 (by decide +kernel) (by decide +kernel)⟩
abbrev mX5_parts : MI := (yX5_parts, cX5_parts, 4, (some .int), 2)
theorem okX5_parts : mV mX5_parts := ⟨⟨uw 594 (by decide +kernel) (by decide +kernel), uw 63 (by decide +kernel) (by decide +kernel), by decide +kernel, by decide +kernel, by decide +kernel, by decide +kernel⟩, uw 592 (by decide +kernel) (by decide +kernel), uw 593 (by decide +kernel) (by decide +kernel)⟩
abbrev mX5_chance : MI := (yX5_chance, cX5_chance, 6, (some .int), 3)
theorem okX5_chance : mV mX5_chance := ⟨⟨uw 605 (by decide +kernel) (by decide +kernel), uw 63 (by decide +kernel) (by decide +kernel), by decide +kernel, by decide +kernel, by decide +kernel, by decide +kernel⟩, uw 603 (by decide +kernel) (by decide +kernel), uw 604 (by decide +kernel) (by decide +kernel)⟩
abbrev mX5_see : MI := (yX5_see, cX5_see, 6, (some .int), 4)
theorem okX5_see : mV mX5_see := ⟨⟨uw 622 (by decide +kernel) (by decide +kernel), uw 63 (by decide +kernel) (by decide +kernel), by decide +kernel, by decide +kernel, by decide +kernel, by decide +kernel⟩, uw 620 (by decide +kernel) (by decide +kernel), uw 621 (by decide +kernel) (by decide +kernel)⟩
abbrev mX5_forget : MI := (yX5_forget, cX5_forget, 2, (some .int), 0)
theorem okX5_forget : mV mX5_forget := ⟨⟨uw 630 (by decide +kernel) (by decide +kernel), uw 63 (by decide +kernel) (by decide +kernel), by decide +kernel, by decide +kernel, by decide +kernel, by decide +kernel⟩, uw 628 (by decide +kernel) (by decide +kernel), uw 629 (by decide +kernel) (by decide +kernel)⟩
abbrev mX5_walks : MI := (yX5_walks, cX5_walks, 4, (some .int), 3)
theorem okX5_walks : mV mX5_walks := ⟨⟨uw 634 (by decide +kernel) (by decide +kernel), uw 63 (by decide +kernel) (by decide +kernel), by decide +kernel, by decide +kernel, by decide +kernel, by decide +kernel⟩, uw 632 (by decide +kernel) (by decide +kernel), uw 633 (by decide +kernel) (by decide +kernel)⟩
abbrev mX5_image : MI := (yX5_image, cX5_image, 1, (some .int), 0)
theorem okX5_image : mV mX5_image := ⟨⟨uw 658 (by decide +kernel) (by decide +kernel), uw 63 (by decide +kernel) (by decide +kernel), by decide +kernel, by decide +kernel, by decide +kernel, by decide +kernel⟩, uw 656 (by decide +kernel) (by decide +kernel), uw 657 (by decide +kernel) (by decide +kernel)⟩
abbrev mX5_restore : MI := (yX5_restore, cX5_restore, 1, (some .int), 0)
theorem okX5_restore : mV mX5_restore := ⟨⟨uw 662 (by decide +kernel) (by decide +kernel), uw 63 (by decide +kernel) (by decide +kernel), by decide +kernel, by decide +kernel, by decide +kernel, by decide +kernel⟩, uw 660 (by decide +kernel) (by decide +kernel), uw 661 (by decide +kernel) (by decide +kernel)⟩
abbrev mX5_count : MI := (yX5_count, cX5_count, 2, (some .int), 1)
theorem okX5_count : mV mX5_count := ⟨⟨uw 666 (by decide +kernel) (by decide +kernel), uw 63 (by decide +kernel) (by decide +kernel), by decide +kernel, by decide +kernel, by decide +kernel, by decide +kernel⟩, uw 664 (by decide +kernel) (by decide +kernel), uw 665 (by decide +kernel) (by decide +kernel)⟩
abbrev mX5_digest : MI := (yX5_digest, cX5_digest, 4, (some .long), 0)
theorem okX5_digest : mV mX5_digest := ⟨⟨uw 670 (by decide +kernel) (by decide +kernel), uw 63 (by decide +kernel) (by decide +kernel), by decide +kernel, by decide +kernel, by decide +kernel, by decide +kernel⟩, uw 668 (by decide +kernel) (by decide +kernel), uw 669 (by decide +kernel) (by decide +kernel)⟩
abbrev mX5_mix : MI := (yX5_mix, cX5_mix, 4, (some .long), 2)
theorem okX5_mix : mS mX5_mix := ⟨⟨uw 679 (by decide +kernel) (by decide +kernel), uw 63 (by decide +kernel) (by decide +kernel), by decide +kernel, by decide +kernel, by decide +kernel, by decide +kernel⟩, uw 678 (by decide +kernel) (by decide +kernel)⟩
abbrev mX5_mixLeapers : MI := (yX5_mixLeapers, cX5_mixLeapers, 7, (some .long), 1)
theorem okX5_mixLeapers : mV mX5_mixLeapers := ⟨⟨uw 675 (by decide +kernel) (by decide +kernel), uw 63 (by decide +kernel) (by decide +kernel), by decide +kernel, by decide +kernel, by decide +kernel, by decide +kernel⟩, uw 674 (by decide +kernel) (by decide +kernel), uw 16 (by decide +kernel) (by decide +kernel)⟩
abbrev mX5_mixCells : MI := (yX5_mixCells, cX5_mixCells, 7, (some .long), 1)
theorem okX5_mixCells : mV mX5_mixCells := ⟨⟨uw 686 (by decide +kernel) (by decide +kernel), uw 63 (by decide +kernel) (by decide +kernel), by decide +kernel, by decide +kernel, by decide +kernel, by decide +kernel⟩, uw 685 (by decide +kernel) (by decide +kernel), uw 17 (by decide +kernel) (by decide +kernel)⟩
abbrev mX5_mixKinds : MI := (yX5_mixKinds, cX5_mixKinds, 6, (some .long), 1)
theorem okX5_mixKinds : mV mX5_mixKinds := ⟨⟨uw 691 (by decide +kernel) (by decide +kernel), uw 63 (by decide +kernel) (by decide +kernel), by decide +kernel, by decide +kernel, by decide +kernel, by decide +kernel⟩, uw 690 (by decide +kernel) (by decide +kernel), uw 18 (by decide +kernel) (by decide +kernel)⟩
abbrev mX5_fanOfLeaper : MI := (yX5_fanOfLeaper, cX5_fanOfLeaper, 2, (some (.array .int)), 1)
theorem okX5_fanOfLeaper : mV mX5_fanOfLeaper := ⟨⟨uw 467 (by decide +kernel) (by decide +kernel), uw 63 (by decide +kernel) (by decide +kernel), by decide +kernel, by decide +kernel, by decide +kernel, by decide +kernel⟩, uw 466 (by decide +kernel) (by decide +kernel), uw 6 (by decide +kernel) (by decide +kernel)⟩
abbrev mX5_watchedBy : MI := (yX5_watchedBy, cX5_watchedBy, 5, (some .int), 2)
theorem okX5_watchedBy : mV mX5_watchedBy := ⟨⟨uw 431 (by decide +kernel) (by decide +kernel), uw 63 (by decide +kernel) (by decide +kernel), by decide +kernel, by decide +kernel, by decide +kernel, by decide +kernel⟩, uw 430 (by decide +kernel) (by decide +kernel), uw 4 (by decide +kernel) (by decide +kernel)⟩
abbrev mX5_goals : MI := (yX5_goals, cX5_goals, 3, (some .int), 2)
theorem okX5_goals : mV mX5_goals := ⟨⟨uw 442 (by decide +kernel) (by decide +kernel), uw 63 (by decide +kernel) (by decide +kernel), by decide +kernel, by decide +kernel, by decide +kernel, by decide +kernel⟩, uw 441 (by decide +kernel) (by decide +kernel), uw 5 (by decide +kernel) (by decide +kernel)⟩
abbrev mX5_watchers : MI := (yX5_watchers, cX5_watchers, 4, (some .int), 1)
theorem okX5_watchers : mV mX5_watchers := ⟨⟨uw 525 (by decide +kernel) (by decide +kernel), uw 63 (by decide +kernel) (by decide +kernel), by decide +kernel, by decide +kernel, by decide +kernel, by decide +kernel⟩, uw 524 (by decide +kernel) (by decide +kernel), uw 10 (by decide +kernel) (by decide +kernel)⟩
abbrev mX5_watchedEmpty : MI := (yX5_watchedEmpty, cX5_watchedEmpty, 4, (some .int), 1)
theorem okX5_watchedEmpty : mV mX5_watchedEmpty := ⟨⟨uw 654 (by decide +kernel) (by decide +kernel), uw 63 (by decide +kernel) (by decide +kernel), by decide +kernel, by decide +kernel, by decide +kernel, by decide +kernel⟩, uw 653 (by decide +kernel) (by decide +kernel), uw 15 (by decide +kernel) (by decide +kernel)⟩
abbrev mX5_walkTrial : MI := (yX5_walkTrial, cX5_walkTrial, 6, none, 2)
theorem okX5_walkTrial : mV mX5_walkTrial := ⟨⟨uw 638 (by decide +kernel) (by decide +kernel), uw 63 (by decide +kernel) (by decide +kernel), by decide +kernel, by decide +kernel, by decide +kernel, by decide +kernel⟩, uw 637 (by decide +kernel) (by decide +kernel), uw 14 (by decide +kernel) (by decide +kernel)⟩
abbrev mX5_isKind : MI := (yX5_isKind, cX5_isKind, 1, (some .boolean), 1)
theorem okX5_isKind : mS mX5_isKind := ⟨⟨uw 438 (by decide +kernel) (by decide +kernel), uw 63 (by decide +kernel) (by decide +kernel), by decide +kernel, by decide +kernel, by decide +kernel, by decide +kernel⟩, uw 437 (by decide +kernel) (by decide +kernel)⟩
abbrev mX5_isOneOfTwo : MI := (yX5_isOneOfTwo, cX5_isOneOfTwo, 1, (some .boolean), 1)
theorem okX5_isOneOfTwo : mS mX5_isOneOfTwo := ⟨⟨uw 568 (by decide +kernel) (by decide +kernel), uw 63 (by decide +kernel) (by decide +kernel), by decide +kernel, by decide +kernel, by decide +kernel, by decide +kernel⟩, uw 567 (by decide +kernel) (by decide +kernel)⟩
abbrev mX5_goes : MI := (yX5_goes, cX5_goes, 7, (some .boolean), 3)
theorem okX5_goes : mS mX5_goes := ⟨⟨uw 395 (by decide +kernel) (by decide +kernel), uw 63 (by decide +kernel) (by decide +kernel), by decide +kernel, by decide +kernel, by decide +kernel, by decide +kernel⟩, uw 394 (by decide +kernel) (by decide +kernel)⟩
abbrev mX5_goers : MI := (yX5_goers, cX5_goers, 4, (some .int), 2)
theorem okX5_goers : mS mX5_goers := ⟨⟨uw 456 (by decide +kernel) (by decide +kernel), uw 63 (by decide +kernel) (by decide +kernel), by decide +kernel, by decide +kernel, by decide +kernel, by decide +kernel⟩, uw 455 (by decide +kernel) (by decide +kernel)⟩
abbrev mX5_bestAsk : MI := (yX5_bestAsk, cX5_bestAsk, 7, (some .int), 1)
theorem okX5_bestAsk : mS mX5_bestAsk := ⟨⟨uw 453 (by decide +kernel) (by decide +kernel), uw 63 (by decide +kernel) (by decide +kernel), by decide +kernel, by decide +kernel, by decide +kernel, by decide +kernel⟩, uw 452 (by decide +kernel) (by decide +kernel)⟩
abbrev mX5_has : MI := (yX5_has, cX5_has, 2, (some .boolean), 2)
theorem okX5_has : mS mX5_has := ⟨⟨uw 488 (by decide +kernel) (by decide +kernel), uw 63 (by decide +kernel) (by decide +kernel), by decide +kernel, by decide +kernel, by decide +kernel, by decide +kernel⟩, uw 487 (by decide +kernel) (by decide +kernel)⟩
abbrev mX5_lowestOf : MI := (yX5_lowestOf, cX5_lowestOf, 1, (some .int), 1)
theorem okX5_lowestOf : mS mX5_lowestOf := ⟨⟨uw 500 (by decide +kernel) (by decide +kernel), uw 63 (by decide +kernel) (by decide +kernel), by decide +kernel, by decide +kernel, by decide +kernel, by decide +kernel⟩, uw 499 (by decide +kernel) (by decide +kernel)⟩
abbrev mX5_nthOf : MI := (yX5_nthOf, cX5_nthOf, 4, (some .int), 2)
theorem okX5_nthOf : mS mX5_nthOf := ⟨⟨uw 503 (by decide +kernel) (by decide +kernel), uw 63 (by decide +kernel) (by decide +kernel), by decide +kernel, by decide +kernel, by decide +kernel, by decide +kernel⟩, uw 502 (by decide +kernel) (by decide +kernel)⟩
abbrev mX6_init : MI := (yX6_init, cX6_init, 1, none, 0)
theorem okX6_init : mOK mX6_init ∧ Cond.instanceMethod mX6_init.1 ∈ UW := ⟨⟨uw 702 (by decide +kernel) (by decide +kernel), uw 69 (by decide +kernel) (by decide +kernel), by decide +kernel, by decide +kernel, by decide +kernel, by decide +kernel⟩, uw 701 (by decide +kernel) (by decide +kernel)⟩
abbrev mX6_within : MI := (yX6_within, cX6_within, 3, (some .boolean), 3)
theorem okX6_within : mS mX6_within := ⟨⟨uw 828 (by decide +kernel) (by decide +kernel), uw 69 (by decide +kernel) (by decide +kernel), by decide +kernel, by decide +kernel, by decide +kernel, by decide +kernel⟩, uw 827 (by decide +kernel) (by decide +kernel)⟩
abbrev mX6_isIn : MI := (yX6_isIn, cX6_isIn, 2, (some .boolean), 2)
theorem okX6_isIn : mS mX6_isIn := ⟨⟨uw 858 (by decide +kernel) (by decide +kernel), uw 69 (by decide +kernel) (by decide +kernel), by decide +kernel, by decide +kernel, by decide +kernel, by decide +kernel⟩, uw 857 (by decide +kernel) (by decide +kernel)⟩
abbrev mX6_size : MI := (yX6_size, cX6_size, 3, (some .int), 1)
theorem okX6_size : mS mX6_size := ⟨⟨uw 915 (by decide +kernel) (by decide +kernel), uw 69 (by decide +kernel) (by decide +kernel), by decide +kernel, by decide +kernel, by decide +kernel, by decide +kernel⟩, uw 914 (by decide +kernel) (by decide +kernel)⟩
abbrev mX6_letter : MI := (yX6_letter, cX6_letter, 2, (some .int), 1)
theorem okX6_letter : mV mX6_letter := ⟨⟨uw 825 (by decide +kernel) (by decide +kernel), uw 69 (by decide +kernel) (by decide +kernel), by decide +kernel, by decide +kernel, by decide +kernel, by decide +kernel⟩, uw 823 (by decide +kernel) (by decide +kernel), uw 824 (by decide +kernel) (by decide +kernel)⟩
abbrev mX6_blank : MI := (yX6_blank, cX6_blank, 2, (some .int), 0)
theorem okX6_blank : mV mX6_blank := ⟨⟨uw 832 (by decide +kernel) (by decide +kernel), uw 69 (by decide +kernel) (by decide +kernel), by decide +kernel, by decide +kernel, by decide +kernel, by decide +kernel⟩, uw 830 (by decide +kernel) (by decide +kernel), uw 831 (by decide +kernel) (by decide +kernel)⟩
abbrev mX6_kindBy : MI := (yX6_kindBy, cX6_kindBy, 1, (some .int), 1)
theorem okX6_kindBy : mS mX6_kindBy := ⟨⟨uw 855 (by decide +kernel) (by decide +kernel), uw 69 (by decide +kernel) (by decide +kernel), by decide +kernel, by decide +kernel, by decide +kernel, by decide +kernel⟩, uw 854 (by decide +kernel) (by decide +kernel)⟩
abbrev mX6_at : MI := (yX6_at, cX6_at, 2, (some .int), 1)
theorem okX6_at : mV mX6_at := ⟨⟨uw 844 (by decide +kernel) (by decide +kernel), uw 69 (by decide +kernel) (by decide +kernel), by decide +kernel, by decide +kernel, by decide +kernel, by decide +kernel⟩, uw 843 (by decide +kernel) (by decide +kernel), uw 20 (by decide +kernel) (by decide +kernel)⟩
abbrev mX6_readCells : MI := (yX6_readCells, cX6_readCells, 3, (some .int), 1)
theorem okX6_readCells : mV mX6_readCells := ⟨⟨uw 848 (by decide +kernel) (by decide +kernel), uw 69 (by decide +kernel) (by decide +kernel), by decide +kernel, by decide +kernel, by decide +kernel, by decide +kernel⟩, uw 847 (by decide +kernel) (by decide +kernel), uw 21 (by decide +kernel) (by decide +kernel)⟩
abbrev mX6_readLeapers : MI := (yX6_readLeapers, cX6_readLeapers, 5, (some .int), 1)
theorem okX6_readLeapers : mV mX6_readLeapers := ⟨⟨uw 852 (by decide +kernel) (by decide +kernel), uw 69 (by decide +kernel) (by decide +kernel), by decide +kernel, by decide +kernel, by decide +kernel, by decide +kernel⟩, uw 851 (by decide +kernel) (by decide +kernel), uw 22 (by decide +kernel) (by decide +kernel)⟩
abbrev mX6_read : MI := (yX6_read, cX6_read, 2, (some .int), 0)
theorem okX6_read : mV mX6_read := ⟨⟨uw 840 (by decide +kernel) (by decide +kernel), uw 69 (by decide +kernel) (by decide +kernel), by decide +kernel, by decide +kernel, by decide +kernel, by decide +kernel⟩, uw 839 (by decide +kernel) (by decide +kernel), uw 19 (by decide +kernel) (by decide +kernel)⟩
abbrev mX6_fault : MI := (yX6_fault, cX6_fault, 1, (some .int), 0)
theorem okX6_fault : mV mX6_fault := ⟨⟨uw 836 (by decide +kernel) (by decide +kernel), uw 69 (by decide +kernel) (by decide +kernel), by decide +kernel, by decide +kernel, by decide +kernel, by decide +kernel⟩, uw 834 (by decide +kernel) (by decide +kernel), uw 835 (by decide +kernel) (by decide +kernel)⟩
abbrev mX6_board : MI := (yX6_board, cX6_board, 3, (some .int), 0)
theorem okX6_board : mV mX6_board := ⟨⟨uw 862 (by decide +kernel) (by decide +kernel), uw 69 (by decide +kernel) (by decide +kernel), by decide +kernel, by decide +kernel, by decide +kernel, by decide +kernel⟩, uw 860 (by decide +kernel) (by decide +kernel), uw 861 (by decide +kernel) (by decide +kernel)⟩
abbrev mX6_cells : MI := (yX6_cells, cX6_cells, 1, (some .int), 0)
theorem okX6_cells : mV mX6_cells := ⟨⟨uw 866 (by decide +kernel) (by decide +kernel), uw 69 (by decide +kernel) (by decide +kernel), by decide +kernel, by decide +kernel, by decide +kernel, by decide +kernel⟩, uw 865 (by decide +kernel) (by decide +kernel), uw 23 (by decide +kernel) (by decide +kernel)⟩
abbrev mX6_isLeaper : MI := (yX6_isLeaper, cX6_isLeaper, 2, (some .boolean), 1)
theorem okX6_isLeaper : mV mX6_isLeaper := ⟨⟨uw 874 (by decide +kernel) (by decide +kernel), uw 69 (by decide +kernel) (by decide +kernel), by decide +kernel, by decide +kernel, by decide +kernel, by decide +kernel⟩, uw 873 (by decide +kernel) (by decide +kernel), uw 24 (by decide +kernel) (by decide +kernel)⟩
abbrev mX6_isCell : MI := (yX6_isCell, cX6_isCell, 2, (some .boolean), 1)
theorem okX6_isCell : mV mX6_isCell := ⟨⟨uw 943 (by decide +kernel) (by decide +kernel), uw 69 (by decide +kernel) (by decide +kernel), by decide +kernel, by decide +kernel, by decide +kernel, by decide +kernel⟩, uw 942 (by decide +kernel) (by decide +kernel), uw 36 (by decide +kernel) (by decide +kernel)⟩
abbrev mX6_isBy : MI := (yX6_isBy, cX6_isBy, 4, (some .boolean), 4)
theorem okX6_isBy : mS mX6_isBy := ⟨⟨uw 895 (by decide +kernel) (by decide +kernel), uw 69 (by decide +kernel) (by decide +kernel), by decide +kernel, by decide +kernel, by decide +kernel, by decide +kernel⟩, uw 894 (by decide +kernel) (by decide +kernel)⟩
abbrev mX6_canBy : MI := (yX6_canBy, cX6_canBy, 3, (some .boolean), 3)
theorem okX6_canBy : mS mX6_canBy := ⟨⟨uw 892 (by decide +kernel) (by decide +kernel), uw 69 (by decide +kernel) (by decide +kernel), by decide +kernel, by decide +kernel, by decide +kernel, by decide +kernel⟩, uw 891 (by decide +kernel) (by decide +kernel)⟩
abbrev mX6_apart : MI := (yX6_apart, cX6_apart, 2, (some .int), 2)
theorem okX6_apart : mS mX6_apart := ⟨⟨uw 889 (by decide +kernel) (by decide +kernel), uw 69 (by decide +kernel) (by decide +kernel), by decide +kernel, by decide +kernel, by decide +kernel, by decide +kernel⟩, uw 888 (by decide +kernel) (by decide +kernel)⟩
abbrev mX6_around : MI := (yX6_around, cX6_around, 6, (some .int), 2)
theorem okX6_around : mV mX6_around := ⟨⟨uw 886 (by decide +kernel) (by decide +kernel), uw 69 (by decide +kernel) (by decide +kernel), by decide +kernel, by decide +kernel, by decide +kernel, by decide +kernel⟩, uw 885 (by decide +kernel) (by decide +kernel), uw 27 (by decide +kernel) (by decide +kernel)⟩
abbrev mX6_standing : MI := (yX6_standing, cX6_standing, 3, (some .int), 0)
theorem okX6_standing : mV mX6_standing := ⟨⟨uw 903 (by decide +kernel) (by decide +kernel), uw 69 (by decide +kernel) (by decide +kernel), by decide +kernel, by decide +kernel, by decide +kernel, by decide +kernel⟩, uw 902 (by decide +kernel) (by decide +kernel), uw 29 (by decide +kernel) (by decide +kernel)⟩
abbrev mX6_watched : MI := (yX6_watched, cX6_watched, 2, (some .int), 1)
theorem okX6_watched : mV mX6_watched := ⟨⟨uw 882 (by decide +kernel) (by decide +kernel), uw 69 (by decide +kernel) (by decide +kernel), by decide +kernel, by decide +kernel, by decide +kernel, by decide +kernel⟩, uw 881 (by decide +kernel) (by decide +kernel), uw 26 (by decide +kernel) (by decide +kernel)⟩
abbrev mX6_canGo : MI := (yX6_canGo, cX6_canGo, 2, (some .int), 1)
theorem okX6_canGo : mV mX6_canGo := ⟨⟨uw 899 (by decide +kernel) (by decide +kernel), uw 69 (by decide +kernel) (by decide +kernel), by decide +kernel, by decide +kernel, by decide +kernel, by decide +kernel⟩, uw 898 (by decide +kernel) (by decide +kernel), uw 28 (by decide +kernel) (by decide +kernel)⟩
abbrev mX6_others : MI := (yX6_others, cX6_others, 2, (some .int), 1)
theorem okX6_others : mV mX6_others := ⟨⟨uw 927 (by decide +kernel) (by decide +kernel), uw 69 (by decide +kernel) (by decide +kernel), by decide +kernel, by decide +kernel, by decide +kernel, by decide +kernel⟩, uw 926 (by decide +kernel) (by decide +kernel), uw 34 (by decide +kernel) (by decide +kernel)⟩
abbrev mX6_leaperNow : MI := (yX6_leaperNow, cX6_leaperNow, 3, (some .int), 2)
theorem okX6_leaperNow : mV mX6_leaperNow := ⟨⟨uw 878 (by decide +kernel) (by decide +kernel), uw 69 (by decide +kernel) (by decide +kernel), by decide +kernel, by decide +kernel, by decide +kernel, by decide +kernel⟩, uw 877 (by decide +kernel) (by decide +kernel), uw 25 (by decide +kernel) (by decide +kernel)⟩
abbrev mX6_leaper : MI := (yX6_leaper, cX6_leaper, 3, (some .int), 2)
theorem okX6_leaper : mV mX6_leaper := ⟨⟨uw 870 (by decide +kernel) (by decide +kernel), uw 69 (by decide +kernel) (by decide +kernel), by decide +kernel, by decide +kernel, by decide +kernel, by decide +kernel⟩, uw 868 (by decide +kernel) (by decide +kernel), uw 869 (by decide +kernel) (by decide +kernel)⟩
abbrev mX6_as : MI := (yX6_as, cX6_as, 4, (some .int), 2)
theorem okX6_as : mV mX6_as := ⟨⟨uw 935 (by decide +kernel) (by decide +kernel), uw 69 (by decide +kernel) (by decide +kernel), by decide +kernel, by decide +kernel, by decide +kernel, by decide +kernel⟩, uw 933 (by decide +kernel) (by decide +kernel), uw 934 (by decide +kernel) (by decide +kernel)⟩
abbrev mX6_whoAt : MI := (yX6_whoAt, cX6_whoAt, 4, (some .int), 1)
theorem okX6_whoAt : mV mX6_whoAt := ⟨⟨uw 951 (by decide +kernel) (by decide +kernel), uw 69 (by decide +kernel) (by decide +kernel), by decide +kernel, by decide +kernel, by decide +kernel, by decide +kernel⟩, uw 950 (by decide +kernel) (by decide +kernel), uw 38 (by decide +kernel) (by decide +kernel)⟩
abbrev mX6_watchersOf : MI := (yX6_watchersOf, cX6_watchersOf, 4, (some .int), 1)
theorem okX6_watchersOf : mV mX6_watchersOf := ⟨⟨uw 955 (by decide +kernel) (by decide +kernel), uw 69 (by decide +kernel) (by decide +kernel), by decide +kernel, by decide +kernel, by decide +kernel, by decide +kernel⟩, uw 954 (by decide +kernel) (by decide +kernel), uw 39 (by decide +kernel) (by decide +kernel)⟩
abbrev mX6_cellNow : MI := (yX6_cellNow, cX6_cellNow, 3, (some .int), 2)
theorem okX6_cellNow : mV mX6_cellNow := ⟨⟨uw 947 (by decide +kernel) (by decide +kernel), uw 69 (by decide +kernel) (by decide +kernel), by decide +kernel, by decide +kernel, by decide +kernel, by decide +kernel⟩, uw 946 (by decide +kernel) (by decide +kernel), uw 37 (by decide +kernel) (by decide +kernel)⟩
abbrev mX6_cell : MI := (yX6_cell, cX6_cell, 3, (some .int), 2)
theorem okX6_cell : mV mX6_cell := ⟨⟨uw 939 (by decide +kernel) (by decide +kernel), uw 69 (by decide +kernel) (by decide +kernel), by decide +kernel, by decide +kernel, by decide +kernel, by decide +kernel⟩, uw 937 (by decide +kernel) (by decide +kernel), uw 938 (by decide +kernel) (by decide +kernel)⟩
abbrev mX6_leap : MI := (yX6_leap, cX6_leap, 3, (some .int), 2)
theorem okX6_leap : mV mX6_leap := ⟨⟨uw 959 (by decide +kernel) (by decide +kernel), uw 69 (by decide +kernel) (by decide +kernel), by decide +kernel, by decide +kernel, by decide +kernel, by decide +kernel⟩, uw 957 (by decide +kernel) (by decide +kernel), uw 958 (by decide +kernel) (by decide +kernel)⟩
abbrev mX6_dig : MI := (yX6_dig, cX6_dig, 2, (some .int), 1)
theorem okX6_dig : mV mX6_dig := ⟨⟨uw 963 (by decide +kernel) (by decide +kernel), uw 69 (by decide +kernel) (by decide +kernel), by decide +kernel, by decide +kernel, by decide +kernel, by decide +kernel⟩, uw 961 (by decide +kernel) (by decide +kernel), uw 962 (by decide +kernel) (by decide +kernel)⟩
abbrev mX6_fill : MI := (yX6_fill, cX6_fill, 2, (some .int), 1)
theorem okX6_fill : mV mX6_fill := ⟨⟨uw 967 (by decide +kernel) (by decide +kernel), uw 69 (by decide +kernel) (by decide +kernel), by decide +kernel, by decide +kernel, by decide +kernel, by decide +kernel⟩, uw 965 (by decide +kernel) (by decide +kernel), uw 966 (by decide +kernel) (by decide +kernel)⟩
abbrev mX6_be : MI := (yX6_be, cX6_be, 4, (some .int), 2)
theorem okX6_be : mV mX6_be := ⟨⟨uw 971 (by decide +kernel) (by decide +kernel), uw 69 (by decide +kernel) (by decide +kernel), by decide +kernel, by decide +kernel, by decide +kernel, by decide +kernel⟩, uw 969 (by decide +kernel) (by decide +kernel), uw 970 (by decide +kernel) (by decide +kernel)⟩
abbrev mX6_aroundAll : MI := (yX6_aroundAll, cX6_aroundAll, 5, (some .int), 2)
theorem okX6_aroundAll : mV mX6_aroundAll := ⟨⟨uw 983 (by decide +kernel) (by decide +kernel), uw 69 (by decide +kernel) (by decide +kernel), by decide +kernel, by decide +kernel, by decide +kernel, by decide +kernel⟩, uw 982 (by decide +kernel) (by decide +kernel), uw 41 (by decide +kernel) (by decide +kernel)⟩
abbrev mX6_hopsNow : MI := (yX6_hopsNow, cX6_hopsNow, 6, (some .int), 2)
theorem okX6_hopsNow : mV mX6_hopsNow := ⟨⟨uw 979 (by decide +kernel) (by decide +kernel), uw 69 (by decide +kernel) (by decide +kernel), by decide +kernel, by decide +kernel, by decide +kernel, by decide +kernel⟩, uw 978 (by decide +kernel) (by decide +kernel), uw 40 (by decide +kernel) (by decide +kernel)⟩
abbrev mX6_hops : MI := (yX6_hops, cX6_hops, 3, (some .int), 2)
theorem okX6_hops : mV mX6_hops := ⟨⟨uw 975 (by decide +kernel) (by decide +kernel), uw 69 (by decide +kernel) (by decide +kernel), by decide +kernel, by decide +kernel, by decide +kernel, by decide +kernel⟩, uw 973 (by decide +kernel) (by decide +kernel), uw 974 (by decide +kernel) (by decide +kernel)⟩
abbrev mX6_comeTo : MI := (yX6_comeTo, cX6_comeTo, 3, none, 2)
theorem okX6_comeTo : mV mX6_comeTo := ⟨⟨uw 995 (by decide +kernel) (by decide +kernel), uw 69 (by decide +kernel) (by decide +kernel), by decide +kernel, by decide +kernel, by decide +kernel, by decide +kernel⟩, uw 994 (by decide +kernel) (by decide +kernel), uw 43 (by decide +kernel) (by decide +kernel)⟩
abbrev mX6_comeFrom : MI := (yX6_comeFrom, cX6_comeFrom, 10, none, 4)
theorem okX6_comeFrom : mV mX6_comeFrom := ⟨⟨uw 999 (by decide +kernel) (by decide +kernel), uw 69 (by decide +kernel) (by decide +kernel), by decide +kernel, by decide +kernel, by decide +kernel, by decide +kernel⟩, uw 998 (by decide +kernel) (by decide +kernel), uw 44 (by decide +kernel) (by decide +kernel)⟩
abbrev mX6_tradeNow : MI := (yX6_tradeNow, cX6_tradeNow, 5, (some .int), 2)
theorem okX6_tradeNow : mV mX6_tradeNow := ⟨⟨uw 991 (by decide +kernel) (by decide +kernel), uw 69 (by decide +kernel) (by decide +kernel), by decide +kernel, by decide +kernel, by decide +kernel, by decide +kernel⟩, uw 990 (by decide +kernel) (by decide +kernel), uw 42 (by decide +kernel) (by decide +kernel)⟩
abbrev mX6_trade : MI := (yX6_trade, cX6_trade, 3, (some .int), 2)
theorem okX6_trade : mV mX6_trade := ⟨⟨uw 987 (by decide +kernel) (by decide +kernel), uw 69 (by decide +kernel) (by decide +kernel), by decide +kernel, by decide +kernel, by decide +kernel, by decide +kernel⟩, uw 985 (by decide +kernel) (by decide +kernel), uw 986 (by decide +kernel) (by decide +kernel)⟩
abbrev mX6_goOn : MI := (yX6_goOn, cX6_goOn, 7, none, 3)
theorem okX6_goOn : mV mX6_goOn := ⟨⟨uw 931 (by decide +kernel) (by decide +kernel), uw 69 (by decide +kernel) (by decide +kernel), by decide +kernel, by decide +kernel, by decide +kernel, by decide +kernel⟩, uw 930 (by decide +kernel) (by decide +kernel), uw 35 (by decide +kernel) (by decide +kernel)⟩
abbrev mX6_longestBy : MI := (yX6_longestBy, cX6_longestBy, 7, (some .int), 2)
theorem okX6_longestBy : mV mX6_longestBy := ⟨⟨uw 923 (by decide +kernel) (by decide +kernel), uw 69 (by decide +kernel) (by decide +kernel), by decide +kernel, by decide +kernel, by decide +kernel, by decide +kernel⟩, uw 922 (by decide +kernel) (by decide +kernel), uw 33 (by decide +kernel) (by decide +kernel)⟩
abbrev mX6_wayOf : MI := (yX6_wayOf, cX6_wayOf, 8, (some .int), 2)
theorem okX6_wayOf : mV mX6_wayOf := ⟨⟨uw 919 (by decide +kernel) (by decide +kernel), uw 69 (by decide +kernel) (by decide +kernel), by decide +kernel, by decide +kernel, by decide +kernel, by decide +kernel⟩, uw 918 (by decide +kernel) (by decide +kernel), uw 32 (by decide +kernel) (by decide +kernel)⟩
abbrev mX6_peaceSet : MI := (yX6_peaceSet, cX6_peaceSet, 5, (some .int), 1)
theorem okX6_peaceSet : mV mX6_peaceSet := ⟨⟨uw 1018 (by decide +kernel) (by decide +kernel), uw 69 (by decide +kernel) (by decide +kernel), by decide +kernel, by decide +kernel, by decide +kernel, by decide +kernel⟩, uw 1017 (by decide +kernel) (by decide +kernel), uw 47 (by decide +kernel) (by decide +kernel)⟩
abbrev mX6_guardSet : MI := (yX6_guardSet, cX6_guardSet, 5, (some .int), 1)
theorem okX6_guardSet : mV mX6_guardSet := ⟨⟨uw 1030 (by decide +kernel) (by decide +kernel), uw 69 (by decide +kernel) (by decide +kernel), by decide +kernel, by decide +kernel, by decide +kernel, by decide +kernel⟩, uw 1029 (by decide +kernel) (by decide +kernel), uw 49 (by decide +kernel) (by decide +kernel)⟩
abbrev mX6_isKind : MI := (yX6_isKind, cX6_isKind, 1, (some .boolean), 1)
theorem okX6_isKind : mS mX6_isKind := ⟨⟨uw 1010 (by decide +kernel) (by decide +kernel), uw 69 (by decide +kernel) (by decide +kernel), by decide +kernel, by decide +kernel, by decide +kernel, by decide +kernel⟩, uw 1009 (by decide +kernel) (by decide +kernel)⟩
abbrev mX6_refused : MI := (yX6_refused, cX6_refused, 3, (some .int), 2)
theorem okX6_refused : mV mX6_refused := ⟨⟨uw 1007 (by decide +kernel) (by decide +kernel), uw 69 (by decide +kernel) (by decide +kernel), by decide +kernel, by decide +kernel, by decide +kernel, by decide +kernel⟩, uw 1006 (by decide +kernel) (by decide +kernel), uw 45 (by decide +kernel) (by decide +kernel)⟩
abbrev mX6_peaceNow : MI := (yX6_peaceNow, cX6_peaceNow, 3, (some .int), 2)
theorem okX6_peaceNow : mV mX6_peaceNow := ⟨⟨uw 1014 (by decide +kernel) (by decide +kernel), uw 69 (by decide +kernel) (by decide +kernel), by decide +kernel, by decide +kernel, by decide +kernel, by decide +kernel⟩, uw 1013 (by decide +kernel) (by decide +kernel), uw 46 (by decide +kernel) (by decide +kernel)⟩
abbrev mX6_peace : MI := (yX6_peace, cX6_peace, 3, (some .int), 2)
theorem okX6_peace : mV mX6_peace := ⟨⟨uw 1003 (by decide +kernel) (by decide +kernel), uw 69 (by decide +kernel) (by decide +kernel), by decide +kernel, by decide +kernel, by decide +kernel, by decide +kernel⟩, uw 1001 (by decide +kernel) (by decide +kernel), uw 1002 (by decide +kernel) (by decide +kernel)⟩
abbrev mX6_guardNow : MI := (yX6_guardNow, cX6_guardNow, 3, (some .int), 2)
theorem okX6_guardNow : mV mX6_guardNow := ⟨⟨uw 1026 (by decide +kernel) (by decide +kernel), uw 69 (by decide +kernel) (by decide +kernel), by decide +kernel, by decide +kernel, by decide +kernel, by decide +kernel⟩, uw 1025 (by decide +kernel) (by decide +kernel), uw 48 (by decide +kernel) (by decide +kernel)⟩
abbrev mX6_guard : MI := (yX6_guard, cX6_guard, 3, (some .int), 2)
theorem okX6_guard : mV mX6_guard := ⟨⟨uw 1022 (by decide +kernel) (by decide +kernel), uw 69 (by decide +kernel) (by decide +kernel), by decide +kernel, by decide +kernel, by decide +kernel, by decide +kernel⟩, uw 1020 (by decide +kernel) (by decide +kernel), uw 1021 (by decide +kernel) (by decide +kernel)⟩
abbrev mX6_partOf : MI := (yX6_partOf, cX6_partOf, 5, (some .int), 2)
theorem okX6_partOf : mV mX6_partOf := ⟨⟨uw 1046 (by decide +kernel) (by decide +kernel), uw 69 (by decide +kernel) (by decide +kernel), by decide +kernel, by decide +kernel, by decide +kernel, by decide +kernel⟩, uw 1045 (by decide +kernel) (by decide +kernel), uw 52 (by decide +kernel) (by decide +kernel)⟩
abbrev mX6_partsNow : MI := (yX6_partsNow, cX6_partsNow, 5, (some .int), 1)
theorem okX6_partsNow : mV mX6_partsNow := ⟨⟨uw 1042 (by decide +kernel) (by decide +kernel), uw 69 (by decide +kernel) (by decide +kernel), by decide +kernel, by decide +kernel, by decide +kernel, by decide +kernel⟩, uw 1041 (by decide +kernel) (by decide +kernel), uw 51 (by decide +kernel) (by decide +kernel)⟩
abbrev mX6_areShades : MI := (yX6_areShades, cX6_areShades, 7, (some .boolean), 1)
theorem okX6_areShades : mV mX6_areShades := ⟨⟨uw 1050 (by decide +kernel) (by decide +kernel), uw 69 (by decide +kernel) (by decide +kernel), by decide +kernel, by decide +kernel, by decide +kernel, by decide +kernel⟩, uw 1049 (by decide +kernel) (by decide +kernel), uw 53 (by decide +kernel) (by decide +kernel)⟩
abbrev mX6_partsTold : MI := (yX6_partsTold, cX6_partsTold, 3, (some .int), 2)
theorem okX6_partsTold : mV mX6_partsTold := ⟨⟨uw 1038 (by decide +kernel) (by decide +kernel), uw 69 (by decide +kernel) (by decide +kernel), by decide +kernel, by decide +kernel, by decide +kernel, by decide +kernel⟩, uw 1037 (by decide +kernel) (by decide +kernel), uw 50 (by decide +kernel) (by decide +kernel)⟩
abbrev mX6_parts : MI := (yX6_parts, cX6_parts, 3, (some .int), 2)
theorem okX6_parts : mV mX6_parts := ⟨⟨uw 1034 (by decide +kernel) (by decide +kernel), uw 69 (by decide +kernel) (by decide +kernel), by decide +kernel, by decide +kernel, by decide +kernel, by decide +kernel⟩, uw 1032 (by decide +kernel) (by decide +kernel), uw 1033 (by decide +kernel) (by decide +kernel)⟩
abbrev mX6_chanceFrom : MI := (yX6_chanceFrom, cX6_chanceFrom, 8, (some .int), 3)
theorem okX6_chanceFrom : mV mX6_chanceFrom := ⟨⟨uw 1063 (by decide +kernel) (by decide +kernel), uw 69 (by decide +kernel) (by decide +kernel), by decide +kernel, by decide +kernel, by decide +kernel, by decide +kernel⟩, uw 1062 (by decide +kernel) (by decide +kernel), uw 55 (by decide +kernel) (by decide +kernel)⟩
abbrev mX6_chanceNow : MI := (yX6_chanceNow, cX6_chanceNow, 7, (some .int), 3)
theorem okX6_chanceNow : mV mX6_chanceNow := ⟨⟨uw 1058 (by decide +kernel) (by decide +kernel), uw 69 (by decide +kernel) (by decide +kernel), by decide +kernel, by decide +kernel, by decide +kernel, by decide +kernel⟩, uw 1057 (by decide +kernel) (by decide +kernel), uw 54 (by decide +kernel) (by decide +kernel)⟩
abbrev mX6_chance : MI := (yX6_chance, cX6_chance, 4, (some .int), 3)
theorem okX6_chance : mV mX6_chance := ⟨⟨uw 1054 (by decide +kernel) (by decide +kernel), uw 69 (by decide +kernel) (by decide +kernel), by decide +kernel, by decide +kernel, by decide +kernel, by decide +kernel⟩, uw 1052 (by decide +kernel) (by decide +kernel), uw 1053 (by decide +kernel) (by decide +kernel)⟩
abbrev mX6_see : MI := (yX6_see, cX6_see, 5, (some .int), 4)
theorem okX6_see : mV mX6_see := ⟨⟨uw 1067 (by decide +kernel) (by decide +kernel), uw 69 (by decide +kernel) (by decide +kernel), by decide +kernel, by decide +kernel, by decide +kernel, by decide +kernel⟩, uw 1065 (by decide +kernel) (by decide +kernel), uw 1066 (by decide +kernel) (by decide +kernel)⟩
abbrev mX6_forget : MI := (yX6_forget, cX6_forget, 2, (some .int), 0)
theorem okX6_forget : mV mX6_forget := ⟨⟨uw 1071 (by decide +kernel) (by decide +kernel), uw 69 (by decide +kernel) (by decide +kernel), by decide +kernel, by decide +kernel, by decide +kernel, by decide +kernel⟩, uw 1069 (by decide +kernel) (by decide +kernel), uw 1070 (by decide +kernel) (by decide +kernel)⟩
abbrev mX6_sortsOf : MI := (yX6_sortsOf, cX6_sortsOf, 6, (some .int), 1)
theorem okX6_sortsOf : mV mX6_sortsOf := ⟨⟨uw 907 (by decide +kernel) (by decide +kernel), uw 69 (by decide +kernel) (by decide +kernel), by decide +kernel, by decide +kernel, by decide +kernel, by decide +kernel⟩, uw 906 (by decide +kernel) (by decide +kernel), uw 30 (by decide +kernel) (by decide +kernel)⟩
abbrev mX6_askOf : MI := (yX6_askOf, cX6_askOf, 9, (some .int), 1)
theorem okX6_askOf : mV mX6_askOf := ⟨⟨uw 911 (by decide +kernel) (by decide +kernel), uw 69 (by decide +kernel) (by decide +kernel), by decide +kernel, by decide +kernel, by decide +kernel, by decide +kernel⟩, uw 910 (by decide +kernel) (by decide +kernel), uw 31 (by decide +kernel) (by decide +kernel)⟩
abbrev mX6_draw : MI := (yX6_draw, cX6_draw, 2, (some .int), 1)
theorem okX6_draw : mV mX6_draw := ⟨⟨uw 1083 (by decide +kernel) (by decide +kernel), uw 69 (by decide +kernel) (by decide +kernel), by decide +kernel, by decide +kernel, by decide +kernel, by decide +kernel⟩, uw 1082 (by decide +kernel) (by decide +kernel), uw 57 (by decide +kernel) (by decide +kernel)⟩
abbrev mX6_ofSet : MI := (yX6_ofSet, cX6_ofSet, 4, (some .int), 2)
theorem okX6_ofSet : mS mX6_ofSet := ⟨⟨uw 1090 (by decide +kernel) (by decide +kernel), uw 69 (by decide +kernel) (by decide +kernel), by decide +kernel, by decide +kernel, by decide +kernel, by decide +kernel⟩, uw 1089 (by decide +kernel) (by decide +kernel)⟩
abbrev mX6_watchedFree : MI := (yX6_watchedFree, cX6_watchedFree, 3, (some .int), 0)
theorem okX6_watchedFree : mV mX6_watchedFree := ⟨⟨uw 1094 (by decide +kernel) (by decide +kernel), uw 69 (by decide +kernel) (by decide +kernel), by decide +kernel, by decide +kernel, by decide +kernel, by decide +kernel⟩, uw 1093 (by decide +kernel) (by decide +kernel), uw 58 (by decide +kernel) (by decide +kernel)⟩
abbrev mX6_walksNow : MI := (yX6_walksNow, cX6_walksNow, 8, (some .int), 3)
theorem okX6_walksNow : mV mX6_walksNow := ⟨⟨uw 1079 (by decide +kernel) (by decide +kernel), uw 69 (by decide +kernel) (by decide +kernel), by decide +kernel, by decide +kernel, by decide +kernel, by decide +kernel⟩, uw 1078 (by decide +kernel) (by decide +kernel), uw 56 (by decide +kernel) (by decide +kernel)⟩
abbrev mX6_walks : MI := (yX6_walks, cX6_walks, 4, (some .int), 3)
theorem okX6_walks : mV mX6_walks := ⟨⟨uw 1075 (by decide +kernel) (by decide +kernel), uw 69 (by decide +kernel) (by decide +kernel), by decide +kernel, by decide +kernel, by decide +kernel, by decide +kernel⟩, uw 1073 (by decide +kernel) (by decide +kernel), uw 1074 (by decide +kernel) (by decide +kernel)⟩
abbrev mX6_image : MI := (yX6_image, cX6_image, 2, (some .int), 0)
theorem okX6_image : mV mX6_image := ⟨⟨uw 1098 (by decide +kernel) (by decide +kernel), uw 69 (by decide +kernel) (by decide +kernel), by decide +kernel, by decide +kernel, by decide +kernel, by decide +kernel⟩, uw 1096 (by decide +kernel) (by decide +kernel), uw 1097 (by decide +kernel) (by decide +kernel)⟩
abbrev mX6_restore : MI := (yX6_restore, cX6_restore, 2, (some .int), 0)
theorem okX6_restore : mV mX6_restore := ⟨⟨uw 1102 (by decide +kernel) (by decide +kernel), uw 69 (by decide +kernel) (by decide +kernel), by decide +kernel, by decide +kernel, by decide +kernel, by decide +kernel⟩, uw 1100 (by decide +kernel) (by decide +kernel), uw 1101 (by decide +kernel) (by decide +kernel)⟩
abbrev mX6_howMany : MI := (yX6_howMany, cX6_howMany, 2, (some .int), 1)
theorem okX6_howMany : mV mX6_howMany := ⟨⟨uw 1110 (by decide +kernel) (by decide +kernel), uw 69 (by decide +kernel) (by decide +kernel), by decide +kernel, by decide +kernel, by decide +kernel, by decide +kernel⟩, uw 1109 (by decide +kernel) (by decide +kernel), uw 59 (by decide +kernel) (by decide +kernel)⟩
abbrev mX6_count : MI := (yX6_count, cX6_count, 2, (some .int), 1)
theorem okX6_count : mV mX6_count := ⟨⟨uw 1106 (by decide +kernel) (by decide +kernel), uw 69 (by decide +kernel) (by decide +kernel), by decide +kernel, by decide +kernel, by decide +kernel, by decide +kernel⟩, uw 1104 (by decide +kernel) (by decide +kernel), uw 1105 (by decide +kernel) (by decide +kernel)⟩
abbrev mX6_mix : MI := (yX6_mix, cX6_mix, 3, none, 1)
theorem okX6_mix : mV mX6_mix := ⟨⟨uw 1119 (by decide +kernel) (by decide +kernel), uw 69 (by decide +kernel) (by decide +kernel), by decide +kernel, by decide +kernel, by decide +kernel, by decide +kernel⟩, uw 1118 (by decide +kernel) (by decide +kernel), uw 60 (by decide +kernel) (by decide +kernel)⟩
abbrev mX6_mixBoard : MI := (yX6_mixBoard, cX6_mixBoard, 3, none, 0)
theorem okX6_mixBoard : mV mX6_mixBoard := ⟨⟨uw 1126 (by decide +kernel) (by decide +kernel), uw 69 (by decide +kernel) (by decide +kernel), by decide +kernel, by decide +kernel, by decide +kernel, by decide +kernel⟩, uw 1125 (by decide +kernel) (by decide +kernel), uw 61 (by decide +kernel) (by decide +kernel)⟩
abbrev mX6_digest : MI := (yX6_digest, cX6_digest, 3, (some .long), 0)
theorem okX6_digest : mV mX6_digest := ⟨⟨uw 1114 (by decide +kernel) (by decide +kernel), uw 69 (by decide +kernel) (by decide +kernel), by decide +kernel, by decide +kernel, by decide +kernel, by decide +kernel⟩, uw 1112 (by decide +kernel) (by decide +kernel), uw 1113 (by decide +kernel) (by decide +kernel)⟩
abbrev mJ11_isValidCodePoint : MI := (yJ11_isValidCodePoint_9a6ad, cJ11_isValidCodePoint_9a6ad, 2, (some .boolean), 1)
theorem okJ11_isValidCodePoint : mS mJ11_isValidCodePoint := ⟨⟨uw 353 (by decide +kernel) (by decide +kernel), uw 75 (by decide +kernel) (by decide +kernel), by decide +kernel, by decide +kernel, by decide +kernel, by decide +kernel⟩, uw 352 (by decide +kernel) (by decide +kernel)⟩
abbrev mJ11_highSurrogate : MI := (yJ11_highSurrogate_5068e, cJ11_highSurrogate_5068e, 1, (some .char), 1)
theorem okJ11_highSurrogate : mS mJ11_highSurrogate := ⟨⟨uw 356 (by decide +kernel) (by decide +kernel), uw 75 (by decide +kernel) (by decide +kernel), by decide +kernel, by decide +kernel, by decide +kernel, by decide +kernel⟩, uw 355 (by decide +kernel) (by decide +kernel)⟩
abbrev mJ11_lowSurrogate : MI := (yJ11_lowSurrogate_5068e, cJ11_lowSurrogate_5068e, 1, (some .char), 1)
theorem okJ11_lowSurrogate : mS mJ11_lowSurrogate := ⟨⟨uw 360 (by decide +kernel) (by decide +kernel), uw 75 (by decide +kernel) (by decide +kernel), by decide +kernel, by decide +kernel, by decide +kernel, by decide +kernel⟩, uw 359 (by decide +kernel) (by decide +kernel)⟩
abbrev mJ6_bitCount : MI := (yJ6_bitCount_0f7a4, cJ6_bitCount_0f7a4, 1, (some .int), 1)
theorem okJ6_bitCount : mS mJ6_bitCount := ⟨⟨uw 460 (by decide +kernel) (by decide +kernel), uw 76 (by decide +kernel) (by decide +kernel), by decide +kernel, by decide +kernel, by decide +kernel, by decide +kernel⟩, uw 459 (by decide +kernel) (by decide +kernel)⟩
abbrev mJ0_length : MI := (yJ0_length_8abf5, cJ0_length_8abf5, 1, (some .int), 0)
theorem okJ0_length : mV mJ0_length := ⟨⟨uw 293 (by decide +kernel) (by decide +kernel), uw 70 (by decide +kernel) (by decide +kernel), by decide +kernel, by decide +kernel, by decide +kernel, by decide +kernel⟩, uw 291 (by decide +kernel) (by decide +kernel), uw 292 (by decide +kernel) (by decide +kernel)⟩
abbrev mJ0_indexOf1 : MI := (yJ0_indexOf_0f7a4, cJ0_indexOf_0f7a4, 2, (some .int), 1)
theorem okJ0_indexOf1 : mV mJ0_indexOf1 := ⟨⟨uw 279 (by decide +kernel) (by decide +kernel), uw 70 (by decide +kernel) (by decide +kernel), by decide +kernel, by decide +kernel, by decide +kernel, by decide +kernel⟩, uw 277 (by decide +kernel) (by decide +kernel), uw 278 (by decide +kernel) (by decide +kernel)⟩
abbrev mJ0_indexOf2 : MI := (yJ0_indexOf_7cf53, cJ0_indexOf_7cf53, 3, (some .int), 2)
theorem okJ0_indexOf2 : mV mJ0_indexOf2 := ⟨⟨uw 283 (by decide +kernel) (by decide +kernel), uw 70 (by decide +kernel) (by decide +kernel), by decide +kernel, by decide +kernel, by decide +kernel, by decide +kernel⟩, uw 281 (by decide +kernel) (by decide +kernel), uw 282 (by decide +kernel) (by decide +kernel)⟩
abbrev mJ0_coder : MI := (yJ0_coder_7d493, cJ0_coder_7d493, 1, (some .byte), 0)
theorem okJ0_coder : mV mJ0_coder := ⟨⟨uw 297 (by decide +kernel) (by decide +kernel), uw 70 (by decide +kernel) (by decide +kernel), by decide +kernel, by decide +kernel, by decide +kernel, by decide +kernel⟩, uw 295 (by decide +kernel) (by decide +kernel), uw 296 (by decide +kernel) (by decide +kernel)⟩
abbrev mJ0_isLatin1 : MI := (yJ0_isLatin1_aae02, cJ0_isLatin1_aae02, 1, (some .boolean), 0)
theorem okJ0_isLatin1 : mV mJ0_isLatin1 := ⟨⟨uw 287 (by decide +kernel) (by decide +kernel), uw 70 (by decide +kernel) (by decide +kernel), by decide +kernel, by decide +kernel, by decide +kernel, by decide +kernel⟩, uw 285 (by decide +kernel) (by decide +kernel), uw 286 (by decide +kernel) (by decide +kernel)⟩
abbrev mJ0_checkBoundsBeginEnd : MI := (yJ0_checkBoundsBeginEnd_23922, cJ0_checkBoundsBeginEnd_23922, 3, none, 3)
theorem okJ0_checkBoundsBeginEnd : mS mJ0_checkBoundsBeginEnd := ⟨⟨uw 330 (by decide +kernel) (by decide +kernel), uw 70 (by decide +kernel) (by decide +kernel), by decide +kernel, by decide +kernel, by decide +kernel, by decide +kernel⟩, uw 329 (by decide +kernel) (by decide +kernel)⟩
abbrev mJ1_canEncode : MI := (yJ1_canEncode_9a6ad, cJ1_canEncode_9a6ad, 1, (some .boolean), 1)
theorem okJ1_canEncode : mS mJ1_canEncode := ⟨⟨uw 303 (by decide +kernel) (by decide +kernel), uw 71 (by decide +kernel) (by decide +kernel), by decide +kernel, by decide +kernel, by decide +kernel, by decide +kernel⟩, uw 302 (by decide +kernel) (by decide +kernel)⟩
abbrev mJ1_indexOf : MI := (yJ1_indexOf_4cfef, cJ1_indexOf_4cfef, 4, (some .int), 4)
theorem okJ1_indexOf : mS mJ1_indexOf := ⟨⟨uw 300 (by decide +kernel) (by decide +kernel), uw 71 (by decide +kernel) (by decide +kernel), by decide +kernel, by decide +kernel, by decide +kernel, by decide +kernel⟩, uw 299 (by decide +kernel) (by decide +kernel)⟩
abbrev mJ1_indexOfChar : MI := (yJ1_indexOfChar_4cfef, cJ1_indexOfChar_4cfef, 6, (some .int), 4)
theorem okJ1_indexOfChar : mS mJ1_indexOfChar := ⟨⟨uw 312 (by decide +kernel) (by decide +kernel), uw 71 (by decide +kernel) (by decide +kernel), by decide +kernel, by decide +kernel, by decide +kernel, by decide +kernel⟩, uw 311 (by decide +kernel) (by decide +kernel)⟩
abbrev mJ2_getChar : MI := (yJ2_getChar_3b067, cJ2_getChar_3b067, 2, (some .char), 2)
theorem okJ2_getChar : mS mJ2_getChar := ⟨⟨uw 341 (by decide +kernel) (by decide +kernel), uw 73 (by decide +kernel) (by decide +kernel), by decide +kernel, by decide +kernel, by decide +kernel, by decide +kernel⟩, uw 340 (by decide +kernel) (by decide +kernel)⟩
abbrev mJ2_length : MI := (yJ2_length_9d52b, cJ2_length_9d52b, 1, (some .int), 1)
theorem okJ2_length : mS mJ2_length := ⟨⟨uw 327 (by decide +kernel) (by decide +kernel), uw 73 (by decide +kernel) (by decide +kernel), by decide +kernel, by decide +kernel, by decide +kernel, by decide +kernel⟩, uw 326 (by decide +kernel) (by decide +kernel)⟩
abbrev mJ2_indexOf : MI := (yJ2_indexOf_4cfef, cJ2_indexOf_4cfef, 4, (some .int), 4)
theorem okJ2_indexOf : mS mJ2_indexOf := ⟨⟨uw 315 (by decide +kernel) (by decide +kernel), uw 73 (by decide +kernel) (by decide +kernel), by decide +kernel, by decide +kernel, by decide +kernel, by decide +kernel⟩, uw 314 (by decide +kernel) (by decide +kernel)⟩
abbrev mJ2_indexOfChar : MI := (yJ2_indexOfChar_4cfef, cJ2_indexOfChar_4cfef, 4, (some .int), 4)
theorem okJ2_indexOfChar : mS mJ2_indexOfChar := ⟨⟨uw 321 (by decide +kernel) (by decide +kernel), uw 73 (by decide +kernel) (by decide +kernel), by decide +kernel, by decide +kernel, by decide +kernel, by decide +kernel⟩, uw 320 (by decide +kernel) (by decide +kernel)⟩
abbrev mJ2_indexOfCharUnsafe : MI := (yJ2_indexOfCharUnsafe_4cfef, cJ2_indexOfCharUnsafe_4cfef, 5, (some .int), 4)
theorem okJ2_indexOfCharUnsafe : mS mJ2_indexOfCharUnsafe := ⟨⟨uw 338 (by decide +kernel) (by decide +kernel), uw 73 (by decide +kernel) (by decide +kernel), by decide +kernel, by decide +kernel, by decide +kernel, by decide +kernel⟩, uw 337 (by decide +kernel) (by decide +kernel)⟩
abbrev mJ2_indexOfSupplementary : MI := (yJ2_indexOfSupplementary_4cfef, cJ2_indexOfSupplementary_4cfef, 7, (some .int), 4)
theorem okJ2_indexOfSupplementary : mS mJ2_indexOfSupplementary := ⟨⟨uw 350 (by decide +kernel) (by decide +kernel), uw 73 (by decide +kernel) (by decide +kernel), by decide +kernel, by decide +kernel, by decide +kernel, by decide +kernel⟩, uw 349 (by decide +kernel) (by decide +kernel)⟩
abbrev mJ2_checkBoundsBeginEnd : MI := (yJ2_checkBoundsBeginEnd_d044e, cJ2_checkBoundsBeginEnd_d044e, 3, none, 3)
theorem okJ2_checkBoundsBeginEnd : mS mJ2_checkBoundsBeginEnd := ⟨⟨uw 324 (by decide +kernel) (by decide +kernel), uw 73 (by decide +kernel) (by decide +kernel), by decide +kernel, by decide +kernel, by decide +kernel, by decide +kernel⟩, uw 323 (by decide +kernel) (by decide +kernel)⟩
abbrev mJ3_checkFromToIndex : MI := (yJ3_checkFromToIndex_8c36e, cJ3_checkFromToIndex_8c36e, 4, (some .int), 4)
theorem okJ3_checkFromToIndex : mS mJ3_checkFromToIndex := ⟨⟨uw 335 (by decide +kernel) (by decide +kernel), uw 74 (by decide +kernel) (by decide +kernel), by decide +kernel, by decide +kernel, by decide +kernel, by decide +kernel⟩, uw 334 (by decide +kernel) (by decide +kernel)⟩
/-! ===== links ===== -/
theorem lk_X5_58 : Cond.methodLink RX5 58 mX2_put.1 ∈ UW := uw 232 (by decide +kernel) (by decide +kernel)
theorem lk_X2_19 : Cond.methodLink RX2 19 mX2_rows.1 ∈ UW := uw 236 (by decide +kernel) (by decide +kernel)
theorem lk_X2_40 : Cond.methodLink RX2 40 mX2_at.1 ∈ UW := uw 240 (by decide +kernel) (by decide +kernel)
theorem lk_X2_23 : Cond.methodLink RX2 23 mX2_columns.1 ∈ UW := uw 244 (by decide +kernel) (by decide +kernel)
theorem lk_X5_65 : Cond.methodLink RX5 65 mX2_clear.1 ∈ UW := uw 252 (by decide +kernel) (by decide +kernel)
theorem lk_X5_69 : Cond.methodLink RX5 69 mX2_firstFault.1 ∈ UW := uw 260 (by decide +kernel) (by decide +kernel)
theorem lk_X2_29 : Cond.methodLink RX2 29 mX2_fits.1 ∈ UW := uw 264 (by decide +kernel) (by decide +kernel)
theorem lk_X2_33 : Cond.methodLink RX2 33 mX2_kindPlace.1 ∈ UW := uw 268 (by decide +kernel) (by decide +kernel)
theorem lk_X2_43 : Cond.methodLink RX2 43 mX2_kindFor.1 ∈ UW := uw 272 (by decide +kernel) (by decide +kernel)
theorem lk_X2_48 : Cond.methodLink RX2 48 mJ0_indexOf1.1 ∈ UW := uw 276 (by decide +kernel) (by decide +kernel)
theorem lk_J0_633 : Cond.methodLink RJ0 633 mJ0_indexOf2.1 ∈ UW := uw 280 (by decide +kernel) (by decide +kernel)
theorem lk_J0_492 : Cond.methodLink RJ0 492 mJ0_isLatin1.1 ∈ UW := uw 284 (by decide +kernel) (by decide +kernel)
theorem lk_J0_505 : Cond.methodLink RJ0 505 mJ0_length.1 ∈ UW := uw 290 (by decide +kernel) (by decide +kernel)
theorem lk_J0_335 : Cond.methodLink RJ0 335 mJ0_coder.1 ∈ UW := uw 294 (by decide +kernel) (by decide +kernel)
theorem lk_J0_637 : Cond.methodLink RJ0 637 mJ1_indexOf.1 ∈ UW := uw 298 (by decide +kernel) (by decide +kernel)
theorem lk_J1_88 : Cond.methodLink RJ1 88 mJ1_canEncode.1 ∈ UW := uw 301 (by decide +kernel) (by decide +kernel)
theorem mk_J1_92 : Cond.methodLink RJ1 92 Lib.Math.max.name ∈ UW := uw 304 (by decide +kernel) (by decide +kernel)
theorem mk_J1_38 : Cond.methodLink RJ1 38 Lib.Math.min.name ∈ UW := uw 307 (by decide +kernel) (by decide +kernel)
theorem lk_J1_95 : Cond.methodLink RJ1 95 mJ1_indexOfChar.1 ∈ UW := uw 310 (by decide +kernel) (by decide +kernel)
theorem lk_J0_640 : Cond.methodLink RJ0 640 mJ2_indexOf.1 ∈ UW := uw 313 (by decide +kernel) (by decide +kernel)
theorem mk_J2_224 : Cond.methodLink RJ2 224 Lib.Math.max.name ∈ UW := uw 316 (by decide +kernel) (by decide +kernel)
theorem mk_J2_183 : Cond.methodLink RJ2 183 Lib.Math.min.name ∈ UW := uw 317 (by decide +kernel) (by decide +kernel)
theorem lk_J2_228 : Cond.methodLink RJ2 228 mJ2_indexOfChar.1 ∈ UW := uw 319 (by decide +kernel) (by decide +kernel)
theorem lk_J2_96 : Cond.methodLink RJ2 96 mJ2_checkBoundsBeginEnd.1 ∈ UW := uw 322 (by decide +kernel) (by decide +kernel)
theorem lk_J2_48 : Cond.methodLink RJ2 48 mJ2_length.1 ∈ UW := uw 325 (by decide +kernel) (by decide +kernel)
theorem lk_J2_241 : Cond.methodLink RJ2 241 mJ0_checkBoundsBeginEnd.1 ∈ UW := uw 328 (by decide +kernel) (by decide +kernel)
theorem lk_J0_1062 : Cond.methodLink RJ0 1062 mJ3_checkFromToIndex.1 ∈ UW := uw 333 (by decide +kernel) (by decide +kernel)
theorem lk_J2_244 : Cond.methodLink RJ2 244 mJ2_indexOfCharUnsafe.1 ∈ UW := uw 336 (by decide +kernel) (by decide +kernel)
theorem lk_J2_71 : Cond.methodLink RJ2 71 mJ2_getChar.1 ∈ UW := uw 339 (by decide +kernel) (by decide +kernel)
theorem lk_J2_232 : Cond.methodLink RJ2 232 mJ2_indexOfSupplementary.1 ∈ UW := uw 348 (by decide +kernel) (by decide +kernel)
theorem lk_J2_164 : Cond.methodLink RJ2 164 mJ11_isValidCodePoint.1 ∈ UW := uw 351 (by decide +kernel) (by decide +kernel)
theorem lk_J2_157 : Cond.methodLink RJ2 157 mJ11_highSurrogate.1 ∈ UW := uw 354 (by decide +kernel) (by decide +kernel)
theorem lk_J2_161 : Cond.methodLink RJ2 161 mJ11_lowSurrogate.1 ∈ UW := uw 358 (by decide +kernel) (by decide +kernel)
theorem lk_X2_53 : Cond.methodLink RX2 53 mX2_isOpenTo.1 ∈ UW := uw 362 (by decide +kernel) (by decide +kernel)
theorem lk_X2_56 : Cond.methodLink RX2 56 mX2_standOf.1 ∈ UW := uw 366 (by decide +kernel) (by decide +kernel)
theorem lk_X5_72 : Cond.methodLink RX5 72 mX2_isWhole.1 ∈ UW := uw 375 (by decide +kernel) (by decide +kernel)
theorem lk_X2_37 : Cond.methodLink RX2 37 mX2_firstFault.1 ∈ UW := uw 379 (by decide +kernel) (by decide +kernel)
theorem lk_X5_76 : Cond.methodLink RX5 76 mX2_rows.1 ∈ UW := uw 380 (by decide +kernel) (by decide +kernel)
theorem lk_X5_79 : Cond.methodLink RX5 79 mX2_columns.1 ∈ UW := uw 381 (by decide +kernel) (by decide +kernel)
theorem lk_X5_82 : Cond.methodLink RX5 82 mX1_lay.1 ∈ UW := uw 382 (by decide +kernel) (by decide +kernel)
theorem lk_X1_26 : Cond.methodLink RX1 26 mX1_fanFrom.1 ∈ UW := uw 386 (by decide +kernel) (by decide +kernel)
theorem mk_X1_34 : Cond.methodLink RX1 34 Lib.Math.abs.name ∈ UW := uw 390 (by decide +kernel) (by decide +kernel)
theorem mk_X5_289 : Cond.methodLink RX5 289 Lib.Math.min.name ∈ UW := uw 396 (by decide +kernel) (by decide +kernel)
theorem mk_X5_294 : Cond.methodLink RX5 294 Lib.Math.max.name ∈ UW := uw 397 (by decide +kernel) (by decide +kernel)
theorem lk_X5_86 : Cond.methodLink RX5 86 mX2_freeCells.1 ∈ UW := uw 398 (by decide +kernel) (by decide +kernel)
theorem lk_X5_92 : Cond.methodLink RX5 92 mX2_leapers.1 ∈ UW := uw 402 (by decide +kernel) (by decide +kernel)
theorem lk_X5_101 : Cond.methodLink RX5 101 mX2_kindOf.1 ∈ UW := uw 406 (by decide +kernel) (by decide +kernel)
theorem lk_X5_108 : Cond.methodLink RX5 108 mX2_standOf.1 ∈ UW := uw 410 (by decide +kernel) (by decide +kernel)
theorem lk_X5_120 : Cond.methodLink RX5 120 mX3_hasLeaper.1 ∈ UW := uw 415 (by decide +kernel) (by decide +kernel)
theorem lk_X5_123 : Cond.methodLink RX5 123 mX3_kindOf.1 ∈ UW := uw 419 (by decide +kernel) (by decide +kernel)
theorem lk_X3_28 : Cond.methodLink RX3 28 mX3_hasLeaper.1 ∈ UW := uw 423 (by decide +kernel) (by decide +kernel)
theorem lk_X5_124 : Cond.methodLink RX5 124 mX3_standOf.1 ∈ UW := uw 424 (by decide +kernel) (by decide +kernel)
theorem lk_X5_125 : Cond.methodLink RX5 125 mX5_watchedBy.1 ∈ UW := uw 428 (by decide +kernel) (by decide +kernel)
theorem lk_X5_187 : Cond.methodLink RX5 187 mX1_fanOf.1 ∈ UW := uw 432 (by decide +kernel) (by decide +kernel)
theorem lk_X5_129 : Cond.methodLink RX5 129 mX5_goals.1 ∈ UW := uw 439 (by decide +kernel) (by decide +kernel)
theorem lk_X5_142 : Cond.methodLink RX5 142 mX3_empty.1 ∈ UW := uw 443 (by decide +kernel) (by decide +kernel)
theorem lk_X5_132 : Cond.methodLink RX5 132 mX3_sorts.1 ∈ UW := uw 447 (by decide +kernel) (by decide +kernel)
theorem lk_X5_135 : Cond.methodLink RX5 135 mX5_bestAsk.1 ∈ UW := uw 451 (by decide +kernel) (by decide +kernel)
theorem lk_X5_209 : Cond.methodLink RX5 209 mX5_goers.1 ∈ UW := uw 454 (by decide +kernel) (by decide +kernel)
theorem lk_X5_297 : Cond.methodLink RX5 297 mX5_goes.1 ∈ UW := uw 457 (by decide +kernel) (by decide +kernel)
theorem lk_X5_168 : Cond.methodLink RX5 168 mJ6_bitCount.1 ∈ UW := uw 458 (by decide +kernel) (by decide +kernel)
theorem lk_X5_138 : Cond.methodLink RX5 138 mX5_fanOfLeaper.1 ∈ UW := uw 464 (by decide +kernel) (by decide +kernel)
theorem lk_X5_145 : Cond.methodLink RX5 145 mX4_longest.1 ∈ UW := uw 468 (by decide +kernel) (by decide +kernel)
theorem lk_X4_40 : Cond.methodLink RX4 40 mX4_findFirsts.1 ∈ UW := uw 472 (by decide +kernel) (by decide +kernel)
theorem lk_X4_52 : Cond.methodLink RX4 52 mX1_partAround.1 ∈ UW := uw 476 (by decide +kernel) (by decide +kernel)
theorem lk_X1_44 : Cond.methodLink RX1 44 mX1_spread.1 ∈ UW := uw 479 (by decide +kernel) (by decide +kernel)
theorem lk_X4_56 : Cond.methodLink RX4 56 mX4_startsOf.1 ∈ UW := uw 482 (by decide +kernel) (by decide +kernel)
theorem lk_X4_59 : Cond.methodLink RX4 59 mJ6_bitCount.1 ∈ UW := uw 489 (by decide +kernel) (by decide +kernel)
theorem lk_X4_44 : Cond.methodLink RX4 44 mX4_mostBehind.1 ∈ UW := uw 490 (by decide +kernel) (by decide +kernel)
theorem lk_X5_149 : Cond.methodLink RX5 149 mX4_firstOfLongest.1 ∈ UW := uw 494 (by decide +kernel) (by decide +kernel)
theorem lk_X5_286 : Cond.methodLink RX5 286 mX5_nthOf.1 ∈ UW := uw 501 (by decide +kernel) (by decide +kernel)
theorem lk_X5_158 : Cond.methodLink RX5 158 mX5_has.1 ∈ UW := uw 504 (by decide +kernel) (by decide +kernel)
theorem lk_X5_152 : Cond.methodLink RX5 152 mX5_isKind.1 ∈ UW := uw 509 (by decide +kernel) (by decide +kernel)
theorem lk_X5_155 : Cond.methodLink RX5 155 mX1_hasCell.1 ∈ UW := uw 514 (by decide +kernel) (by decide +kernel)
theorem lk_X5_162 : Cond.methodLink RX5 162 mX3_whoStands.1 ∈ UW := uw 518 (by decide +kernel) (by decide +kernel)
theorem lk_X5_165 : Cond.methodLink RX5 165 mX5_watchers.1 ∈ UW := uw 522 (by decide +kernel) (by decide +kernel)
theorem lk_X5_173 : Cond.methodLink RX5 173 mX4_fewest.1 ∈ UW := uw 546 (by decide +kernel) (by decide +kernel)
theorem lk_X4_34 : Cond.methodLink RX4 34 mX1_spread.1 ∈ UW := uw 549 (by decide +kernel) (by decide +kernel)
theorem lk_X5_177 : Cond.methodLink RX5 177 mX4_fewestToTrade.1 ∈ UW := uw 554 (by decide +kernel) (by decide +kernel)
theorem lk_X4_64 : Cond.methodLink RX4 64 mX4_spreadPairs.1 ∈ UW := uw 558 (by decide +kernel) (by decide +kernel)
theorem lk_X5_181 : Cond.methodLink RX5 181 mX5_isOneOfTwo.1 ∈ UW := uw 566 (by decide +kernel) (by decide +kernel)
theorem lk_X5_184 : Cond.methodLink RX5 184 mX3_isThere.1 ∈ UW := uw 569 (by decide +kernel) (by decide +kernel)
theorem lk_X5_190 : Cond.methodLink RX5 190 mX1_mostInPeace.1 ∈ UW := uw 573 (by decide +kernel) (by decide +kernel)
theorem lk_X1_59 : Cond.methodLink RX1 59 mX1_mostInPeace.1 ∈ UW := uw 577 (by decide +kernel) (by decide +kernel)
theorem lk_X1_62 : Cond.methodLink RX1 62 mX1_isLarger.1 ∈ UW := uw 578 (by decide +kernel) (by decide +kernel)
theorem lk_X1_65 : Cond.methodLink RX1 65 mJ6_bitCount.1 ∈ UW := uw 581 (by decide +kernel) (by decide +kernel)
theorem lk_X5_193 : Cond.methodLink RX5 193 mX1_fewestGuards.1 ∈ UW := uw 586 (by decide +kernel) (by decide +kernel)
theorem lk_X1_70 : Cond.methodLink RX1 70 mX1_fewestGuards.1 ∈ UW := uw 590 (by decide +kernel) (by decide +kernel)
theorem lk_X5_197 : Cond.methodLink RX5 197 mX1_partCount.1 ∈ UW := uw 595 (by decide +kernel) (by decide +kernel)
theorem lk_X1_51 : Cond.methodLink RX1 51 mX1_partAround.1 ∈ UW := uw 598 (by decide +kernel) (by decide +kernel)
theorem lk_X5_201 : Cond.methodLink RX5 201 mX1_isTwoShaded.1 ∈ UW := uw 599 (by decide +kernel) (by decide +kernel)
theorem lk_X5_205 : Cond.methodLink RX5 205 mX4_likelihood.1 ∈ UW := uw 606 (by decide +kernel) (by decide +kernel)
theorem lk_X4_69 : Cond.methodLink RX4 69 mX4_addLeap.1 ∈ UW := uw 611 (by decide +kernel) (by decide +kernel)
theorem lk_X4_73 : Cond.methodLink RX4 73 mX4_sumOver.1 ∈ UW := uw 615 (by decide +kernel) (by decide +kernel)
theorem lk_X5_213 : Cond.methodLink RX5 213 mX3_note.1 ∈ UW := uw 623 (by decide +kernel) (by decide +kernel)
theorem lk_X5_216 : Cond.methodLink RX5 216 mX5_walkTrial.1 ∈ UW := uw 635 (by decide +kernel) (by decide +kernel)
theorem lk_X5_226 : Cond.methodLink RX5 226 mX3_copy.1 ∈ UW := uw 639 (by decide +kernel) (by decide +kernel)
theorem lk_X5_283 : Cond.methodLink RX5 283 mX0_next.1 ∈ UW := uw 643 (by decide +kernel) (by decide +kernel)
theorem lk_X5_219 : Cond.methodLink RX5 219 mX5_watchedEmpty.1 ∈ UW := uw 651 (by decide +kernel) (by decide +kernel)
theorem lk_X5_236 : Cond.methodLink RX5 236 mX5_mixLeapers.1 ∈ UW := uw 672 (by decide +kernel) (by decide +kernel)
theorem lk_X5_261 : Cond.methodLink RX5 261 mX5_leaper.1 ∈ UW := uw 676 (by decide +kernel) (by decide +kernel)
theorem lk_X5_249 : Cond.methodLink RX5 249 mX5_mix.1 ∈ UW := uw 677 (by decide +kernel) (by decide +kernel)
theorem lk_X5_264 : Cond.methodLink RX5 264 mX5_hops.1 ∈ UW := uw 681 (by decide +kernel) (by decide +kernel)
theorem lk_X5_267 : Cond.methodLink RX5 267 mX5_chance.1 ∈ UW := uw 682 (by decide +kernel) (by decide +kernel)
theorem lk_X5_240 : Cond.methodLink RX5 240 mX5_mixCells.1 ∈ UW := uw 683 (by decide +kernel) (by decide +kernel)
theorem lk_X5_271 : Cond.methodLink RX5 271 mX5_cell.1 ∈ UW := uw 687 (by decide +kernel) (by decide +kernel)
theorem lk_X5_243 : Cond.methodLink RX5 243 mX5_mixKinds.1 ∈ UW := uw 688 (by decide +kernel) (by decide +kernel)
theorem lk_X5_274 : Cond.methodLink RX5 274 mX5_peace.1 ∈ UW := uw 692 (by decide +kernel) (by decide +kernel)
theorem lk_X5_277 : Cond.methodLink RX5 277 mX5_guard.1 ∈ UW := uw 693 (by decide +kernel) (by decide +kernel)
theorem lk_X5_280 : Cond.methodLink RX5 280 mX5_parts.1 ∈ UW := uw 694 (by decide +kernel) (by decide +kernel)
theorem lk_X5_246 : Cond.methodLink RX5 246 mX5_trade.1 ∈ UW := uw 695 (by decide +kernel) (by decide +kernel)
theorem lk_X5_253 : Cond.methodLink RX5 253 mX2_at.1 ∈ UW := uw 696 (by decide +kernel) (by decide +kernel)
theorem lk_X5_256 : Cond.methodLink RX5 256 mX5_count.1 ∈ UW := uw 697 (by decide +kernel) (by decide +kernel)
theorem lk_X6_68 : Cond.methodLink RX6 68 mX6_within.1 ∈ UW := uw 826 (by decide +kernel) (by decide +kernel)
theorem lk_X6_106 : Cond.methodLink RX6 106 mX6_read.1 ∈ UW := uw 837 (by decide +kernel) (by decide +kernel)
theorem lk_X6_79 : Cond.methodLink RX6 79 mX6_at.1 ∈ UW := uw 841 (by decide +kernel) (by decide +kernel)
theorem lk_X6_100 : Cond.methodLink RX6 100 mX6_readCells.1 ∈ UW := uw 845 (by decide +kernel) (by decide +kernel)
theorem lk_X6_103 : Cond.methodLink RX6 103 mX6_readLeapers.1 ∈ UW := uw 849 (by decide +kernel) (by decide +kernel)
theorem lk_X6_89 : Cond.methodLink RX6 89 mX6_kindBy.1 ∈ UW := uw 853 (by decide +kernel) (by decide +kernel)
theorem lk_X6_92 : Cond.methodLink RX6 92 mX6_isIn.1 ∈ UW := uw 856 (by decide +kernel) (by decide +kernel)
theorem lk_X6_131 : Cond.methodLink RX6 131 mX6_cells.1 ∈ UW := uw 863 (by decide +kernel) (by decide +kernel)
theorem lk_X6_166 : Cond.methodLink RX6 166 mX6_isLeaper.1 ∈ UW := uw 871 (by decide +kernel) (by decide +kernel)
theorem lk_X6_170 : Cond.methodLink RX6 170 mX6_leaperNow.1 ∈ UW := uw 875 (by decide +kernel) (by decide +kernel)
theorem lk_X6_148 : Cond.methodLink RX6 148 mX6_watched.1 ∈ UW := uw 879 (by decide +kernel) (by decide +kernel)
theorem lk_X6_145 : Cond.methodLink RX6 145 mX6_around.1 ∈ UW := uw 883 (by decide +kernel) (by decide +kernel)
theorem lk_X6_138 : Cond.methodLink RX6 138 mX6_apart.1 ∈ UW := uw 887 (by decide +kernel) (by decide +kernel)
theorem lk_X6_142 : Cond.methodLink RX6 142 mX6_canBy.1 ∈ UW := uw 890 (by decide +kernel) (by decide +kernel)
theorem lk_X6_134 : Cond.methodLink RX6 134 mX6_isBy.1 ∈ UW := uw 893 (by decide +kernel) (by decide +kernel)
theorem lk_X6_154 : Cond.methodLink RX6 154 mX6_canGo.1 ∈ UW := uw 896 (by decide +kernel) (by decide +kernel)
theorem lk_X6_151 : Cond.methodLink RX6 151 mX6_standing.1 ∈ UW := uw 900 (by decide +kernel) (by decide +kernel)
theorem lk_X6_157 : Cond.methodLink RX6 157 mX6_sortsOf.1 ∈ UW := uw 904 (by decide +kernel) (by decide +kernel)
theorem lk_X6_160 : Cond.methodLink RX6 160 mX6_askOf.1 ∈ UW := uw 908 (by decide +kernel) (by decide +kernel)
theorem lk_X6_185 : Cond.methodLink RX6 185 mX6_size.1 ∈ UW := uw 913 (by decide +kernel) (by decide +kernel)
theorem lk_X6_163 : Cond.methodLink RX6 163 mX6_wayOf.1 ∈ UW := uw 916 (by decide +kernel) (by decide +kernel)
theorem lk_X6_216 : Cond.methodLink RX6 216 mX6_longestBy.1 ∈ UW := uw 920 (by decide +kernel) (by decide +kernel)
theorem lk_X6_191 : Cond.methodLink RX6 191 mX6_others.1 ∈ UW := uw 924 (by decide +kernel) (by decide +kernel)
theorem lk_X6_212 : Cond.methodLink RX6 212 mX6_goOn.1 ∈ UW := uw 928 (by decide +kernel) (by decide +kernel)
theorem lk_X6_179 : Cond.methodLink RX6 179 mX6_isCell.1 ∈ UW := uw 940 (by decide +kernel) (by decide +kernel)
theorem lk_X6_182 : Cond.methodLink RX6 182 mX6_cellNow.1 ∈ UW := uw 944 (by decide +kernel) (by decide +kernel)
theorem lk_X6_173 : Cond.methodLink RX6 173 mX6_whoAt.1 ∈ UW := uw 948 (by decide +kernel) (by decide +kernel)
theorem lk_X6_176 : Cond.methodLink RX6 176 mX6_watchersOf.1 ∈ UW := uw 952 (by decide +kernel) (by decide +kernel)
theorem lk_X6_194 : Cond.methodLink RX6 194 mX6_hopsNow.1 ∈ UW := uw 976 (by decide +kernel) (by decide +kernel)
theorem lk_X6_188 : Cond.methodLink RX6 188 mX6_aroundAll.1 ∈ UW := uw 980 (by decide +kernel) (by decide +kernel)
theorem lk_X6_209 : Cond.methodLink RX6 209 mX6_tradeNow.1 ∈ UW := uw 988 (by decide +kernel) (by decide +kernel)
theorem lk_X6_201 : Cond.methodLink RX6 201 mX6_comeTo.1 ∈ UW := uw 992 (by decide +kernel) (by decide +kernel)
theorem lk_X6_205 : Cond.methodLink RX6 205 mX6_comeFrom.1 ∈ UW := uw 996 (by decide +kernel) (by decide +kernel)
theorem lk_X6_225 : Cond.methodLink RX6 225 mX6_refused.1 ∈ UW := uw 1004 (by decide +kernel) (by decide +kernel)
theorem lk_X6_219 : Cond.methodLink RX6 219 mX6_isKind.1 ∈ UW := uw 1008 (by decide +kernel) (by decide +kernel)
theorem lk_X6_228 : Cond.methodLink RX6 228 mX6_peaceNow.1 ∈ UW := uw 1011 (by decide +kernel) (by decide +kernel)
theorem lk_X6_222 : Cond.methodLink RX6 222 mX6_peaceSet.1 ∈ UW := uw 1015 (by decide +kernel) (by decide +kernel)
theorem lk_X6_234 : Cond.methodLink RX6 234 mX6_guardNow.1 ∈ UW := uw 1023 (by decide +kernel) (by decide +kernel)
theorem lk_X6_231 : Cond.methodLink RX6 231 mX6_guardSet.1 ∈ UW := uw 1027 (by decide +kernel) (by decide +kernel)
theorem lk_X6_246 : Cond.methodLink RX6 246 mX6_partsTold.1 ∈ UW := uw 1035 (by decide +kernel) (by decide +kernel)
theorem lk_X6_240 : Cond.methodLink RX6 240 mX6_partsNow.1 ∈ UW := uw 1039 (by decide +kernel) (by decide +kernel)
theorem lk_X6_237 : Cond.methodLink RX6 237 mX6_partOf.1 ∈ UW := uw 1043 (by decide +kernel) (by decide +kernel)
theorem lk_X6_243 : Cond.methodLink RX6 243 mX6_areShades.1 ∈ UW := uw 1047 (by decide +kernel) (by decide +kernel)
theorem lk_X6_254 : Cond.methodLink RX6 254 mX6_chanceNow.1 ∈ UW := uw 1055 (by decide +kernel) (by decide +kernel)
theorem lk_X6_250 : Cond.methodLink RX6 250 mX6_chanceFrom.1 ∈ UW := uw 1060 (by decide +kernel) (by decide +kernel)
theorem lk_X6_278 : Cond.methodLink RX6 278 mX6_walksNow.1 ∈ UW := uw 1076 (by decide +kernel) (by decide +kernel)
theorem lk_X6_269 : Cond.methodLink RX6 269 mX6_draw.1 ∈ UW := uw 1080 (by decide +kernel) (by decide +kernel)
theorem lk_X6_272 : Cond.methodLink RX6 272 mX6_ofSet.1 ∈ UW := uw 1088 (by decide +kernel) (by decide +kernel)
theorem lk_X6_275 : Cond.methodLink RX6 275 mX6_watchedFree.1 ∈ UW := uw 1091 (by decide +kernel) (by decide +kernel)
theorem lk_X6_296 : Cond.methodLink RX6 296 mX6_howMany.1 ∈ UW := uw 1107 (by decide +kernel) (by decide +kernel)
theorem lk_X6_304 : Cond.methodLink RX6 304 mX6_mix.1 ∈ UW := uw 1116 (by decide +kernel) (by decide +kernel)
theorem lk_X6_310 : Cond.methodLink RX6 310 mX6_hops.1 ∈ UW := uw 1121 (by decide +kernel) (by decide +kernel)
theorem lk_X6_313 : Cond.methodLink RX6 313 mX6_chance.1 ∈ UW := uw 1122 (by decide +kernel) (by decide +kernel)
theorem lk_X6_316 : Cond.methodLink RX6 316 mX6_mixBoard.1 ∈ UW := uw 1123 (by decide +kernel) (by decide +kernel)
theorem math_init : Cond.initialized "java/lang/Math" ∈ UW := uw 72 (by decide +kernel) (by decide +kernel)
theorem math_abs : Cond.static Lib.Math.abs.name ∈ UW ∧ Cond.code Lib.Math.abs.name Lib.Math.abs.code 1 (some .int) ∈ UW := ⟨uw 391 (by decide +kernel) (by decide +kernel), uw 392 (by decide +kernel) (by decide +kernel)⟩
theorem math_max : Cond.static Lib.Math.max.name ∈ UW ∧ Cond.code Lib.Math.max.name Lib.Math.max.code 2 (some .int) ∈ UW := ⟨uw 305 (by decide +kernel) (by decide +kernel), uw 306 (by decide +kernel) (by decide +kernel)⟩
theorem math_min : Cond.static Lib.Math.min.name ∈ UW ∧ Cond.code Lib.Math.min.name Lib.Math.min.code 2 (some .int) ∈ UW := ⟨uw 308 (by decide +kernel) (by decide +kernel), uw 309 (by decide +kernel) (by decide +kernel)⟩
def NW : List Cond := [Cond.methodLinkNest RX5 9 mX2_init.1 "LeapBoard", Cond.methodLinkNest RX5 18 mX1_init.1 "LeapBoard", Cond.methodLinkNest RX5 25 mX3_init.1 "LeapBoard", Cond.methodLinkNest RX5 38 mX4_init.1 "LeapBoard", Cond.methodLinkNest RX5 45 mX0_init.1 "LeapBoard", Cond.methodLinkNest RX1 40 mX5_goes.1 "LeapBoard", Cond.methodLinkNest RX1 30 mX5_isKind.1 "LeapBoard", Cond.methodLinkNest RX4 30 mX5_has.1 "LeapBoard", Cond.methodLinkNest RX4 48 mX5_lowestOf.1 "LeapBoard", Cond.methodLinkNest RX1 55 mX5_has.1 "LeapBoard", Cond.methodLinkNest RX1 48 mX5_lowestOf.1 "LeapBoard"]
theorem nw_form : ∀ w ∈ NW, ∃ (a : String) (i : Nat) (x : MethodName) (h : String), w = Cond.methodLinkNest a i x h := by
  intro w hw
  simp only [NW, List.mem_cons, List.not_mem_nil, or_false] at hw
  rcases hw with rfl | rfl | rfl | rfl | rfl | rfl | rfl | rfl | rfl | rfl | rfl <;> exact ⟨_, _, _, _, rfl⟩
theorem nk_X5_9 : Cond.methodLinkNest RX5 9 mX2_init.1 "LeapBoard" ∈ NW := List.mem_of_getElem? (i := 0) rfl
theorem nk_X5_18 : Cond.methodLinkNest RX5 18 mX1_init.1 "LeapBoard" ∈ NW := List.mem_of_getElem? (i := 1) rfl
theorem nk_X5_25 : Cond.methodLinkNest RX5 25 mX3_init.1 "LeapBoard" ∈ NW := List.mem_of_getElem? (i := 2) rfl
theorem nk_X5_38 : Cond.methodLinkNest RX5 38 mX4_init.1 "LeapBoard" ∈ NW := List.mem_of_getElem? (i := 3) rfl
theorem nk_X5_45 : Cond.methodLinkNest RX5 45 mX0_init.1 "LeapBoard" ∈ NW := List.mem_of_getElem? (i := 4) rfl
theorem nk_X1_40 : Cond.methodLinkNest RX1 40 mX5_goes.1 "LeapBoard" ∈ NW := List.mem_of_getElem? (i := 5) rfl
theorem nk_X1_30 : Cond.methodLinkNest RX1 30 mX5_isKind.1 "LeapBoard" ∈ NW := List.mem_of_getElem? (i := 6) rfl
theorem nk_X4_30 : Cond.methodLinkNest RX4 30 mX5_has.1 "LeapBoard" ∈ NW := List.mem_of_getElem? (i := 7) rfl
theorem nk_X4_48 : Cond.methodLinkNest RX4 48 mX5_lowestOf.1 "LeapBoard" ∈ NW := List.mem_of_getElem? (i := 8) rfl
theorem nk_X1_55 : Cond.methodLinkNest RX1 55 mX5_has.1 "LeapBoard" ∈ NW := List.mem_of_getElem? (i := 9) rfl
theorem nk_X1_48 : Cond.methodLinkNest RX1 48 mX5_lowestOf.1 "LeapBoard" ∈ NW := List.mem_of_getElem? (i := 10) rfl
theorem nw_tbl : ∀ w ∈ NW, w ∈ lw_tbl := by
  intro w hw
  simp only [NW, List.mem_cons, List.not_mem_nil, or_false] at hw
  rcases hw with rfl | rfl | rfl | rfl | rfl | rfl | rfl | rfl | rfl | rfl | rfl
  · exact List.mem_of_getElem? (i := 87) (by decide +kernel)
  · exact List.mem_of_getElem? (i := 105) (by decide +kernel)
  · exact List.mem_of_getElem? (i := 129) (by decide +kernel)
  · exact List.mem_of_getElem? (i := 166) (by decide +kernel)
  · exact List.mem_of_getElem? (i := 191) (by decide +kernel)
  · exact List.mem_of_getElem? (i := 393) (by decide +kernel)
  · exact List.mem_of_getElem? (i := 436) (by decide +kernel)
  · exact List.mem_of_getElem? (i := 486) (by decide +kernel)
  · exact List.mem_of_getElem? (i := 498) (by decide +kernel)
  · exact List.mem_of_getElem? (i := 576) (by decide +kernel)
  · exact List.mem_of_getElem? (i := 589) (by decide +kernel)
end
section
/-! ===== fields ===== -/
def FOK (own : String) (idx ci k : Nat) (ty : FieldType) (fin : Bool) : Prop := ∃ (C : String) (T : u_T) (N : Nat) (ty0 : Nat → FieldType), vwCl[ci]? = some (C, T, N) ∧ (∀ w ∈ u_ws C T N, w ∈ UW) ∧ (∀ k, k < N → parseFieldDescriptor (T k).2.2.1 = some (ty0 k)) ∧ (∀ a, a < N → ∀ b, b < N → a ≠ b → (T a).2.1 ≠ (T b).2.1) ∧ k < N ∧ ty0 k = ty ∧ (T k).2.2.2 = fin ∧ Cond.fieldLink own idx (T k).1 (T k).2.1 (T k).2.2.1 ∈ UW
theorem uwX0 : ∀ w ∈ u_ws RX0 TX0 1, w ∈ UW := by
  have h : (u_ws RX0 TX0 1) = [197].filterMap (fun i => lw_tbl[i]?) := by decide +kernel
  intro w hw
  have hg : goodWord w = true := List.all_eq_true.mp (show (u_ws RX0 TX0 1).all goodWord = true by decide +kernel) w hw
  rw [h] at hw
  obtain ⟨i, -, hi⟩ := List.mem_filterMap.mp hw
  exact uw i hi hg
theorem uwX1 : ∀ w ∈ u_ws RX1 TX1 4, w ∈ UW := by
  have h : (u_ws RX1 TX1 4) = [118, 120, 122, 124].filterMap (fun i => lw_tbl[i]?) := by decide +kernel
  intro w hw
  have hg : goodWord w = true := List.all_eq_true.mp (show (u_ws RX1 TX1 4).all goodWord = true by decide +kernel) w hw
  rw [h] at hw
  obtain ⟨i, -, hi⟩ := List.mem_filterMap.mp hw
  exact uw i hi hg
theorem uwX2 : ∀ w ∈ u_ws RX2 TX2 3, w ∈ UW := by
  have h : (u_ws RX2 TX2 3) = [95, 97, 99].filterMap (fun i => lw_tbl[i]?) := by decide +kernel
  intro w hw
  have hg : goodWord w = true := List.all_eq_true.mp (show (u_ws RX2 TX2 3).all goodWord = true by decide +kernel) w hw
  rw [h] at hw
  obtain ⟨i, -, hi⟩ := List.mem_filterMap.mp hw
  exact uw i hi hg
theorem uwX3 : ∀ w ∈ u_ws RX3 TX3 8, w ∈ UW := by
  have h : (u_ws RX3 TX3 8) = [147, 149, 151, 153, 155, 157, 159, 161].filterMap (fun i => lw_tbl[i]?) := by decide +kernel
  intro w hw
  have hg : goodWord w = true := List.all_eq_true.mp (show (u_ws RX3 TX3 8).all goodWord = true by decide +kernel) w hw
  rw [h] at hw
  obtain ⟨i, -, hi⟩ := List.mem_filterMap.mp hw
  exact uw i hi hg
theorem uwX4 : ∀ w ∈ u_ws RX4 TX4 6, w ∈ UW := by
  have h : (u_ws RX4 TX4 6) = [176, 178, 180, 182, 184, 186].filterMap (fun i => lw_tbl[i]?) := by decide +kernel
  intro w hw
  have hg : goodWord w = true := List.all_eq_true.mp (show (u_ws RX4 TX4 6).all goodWord = true by decide +kernel) w hw
  rw [h] at hw
  obtain ⟨i, -, hi⟩ := List.mem_filterMap.mp hw
  exact uw i hi hg
theorem uwX5 : ∀ w ∈ u_ws RX5 TX5 9, w ∈ UW := by
  have h : (u_ws RX5 TX5 9) = [209, 211, 213, 215, 217, 219, 221, 223, 225].filterMap (fun i => lw_tbl[i]?) := by decide +kernel
  intro w hw
  have hg : goodWord w = true := List.all_eq_true.mp (show (u_ws RX5 TX5 9).all goodWord = true by decide +kernel) w hw
  rw [h] at hw
  obtain ⟨i, -, hi⟩ := List.mem_filterMap.mp hw
  exact uw i hi hg
theorem uwX6 : ∀ w ∈ u_ws RX6 TX6 39, w ∈ UW := by
  have h : (u_ws RX6 TX6 39) = [743, 745, 747, 749, 751, 753, 755, 757, 759, 761, 763, 765, 767, 769, 771, 773, 775, 777, 779, 781, 783, 785, 787, 789, 791, 793, 795, 797, 799, 801, 803, 805, 807, 809, 811, 813, 815, 817, 819].filterMap (fun i => lw_tbl[i]?) := by decide +kernel
  intro w hw
  have hg : goodWord w = true := List.all_eq_true.mp (show (u_ws RX6 TX6 39).all goodWord = true by decide +kernel) w hw
  rw [h] at hw
  obtain ⟨i, -, hi⟩ := List.mem_filterMap.mp hw
  exact uw i hi hg
theorem fk_X2_9 : FOK RX2 9 2 0 (.array .int) true := ⟨RX2, TX2, 3, tyX2, rfl, uwX2, tyX2_ok, nmX2, by decide, rfl, rfl, uw 91 (by decide +kernel) (by decide +kernel)⟩
theorem fk_X2_15 : FOK RX2 15 2 1 .int false := ⟨RX2, TX2, 3, tyX2, rfl, uwX2, tyX2_ok, nmX2, by decide, rfl, rfl, uw 92 (by decide +kernel) (by decide +kernel)⟩
theorem fk_X5_62 : FOK RX5 62 2 1 .int false := ⟨RX2, TX2, 3, tyX2, rfl, uwX2, tyX2_ok, nmX2, by decide, rfl, rfl, uw 93 (by decide +kernel) (by decide +kernel)⟩
theorem fk_X2_26 : FOK RX2 26 2 2 .int false := ⟨RX2, TX2, 3, tyX2, rfl, uwX2, tyX2_ok, nmX2, by decide, rfl, rfl, uw 94 (by decide +kernel) (by decide +kernel)⟩
theorem fk_X1_16 : FOK RX1 16 1 0 .int false := ⟨RX1, TX1, 4, tyX1, rfl, uwX1, tyX1_ok, nmX1, by decide, rfl, rfl, uw 111 (by decide +kernel) (by decide +kernel)⟩
theorem fk_X5_230 : FOK RX5 230 1 0 .int false := ⟨RX1, TX1, 4, tyX1, rfl, uwX1, tyX1_ok, nmX1, by decide, rfl, rfl, uw 112 (by decide +kernel) (by decide +kernel)⟩
theorem fk_X1_20 : FOK RX1 20 1 1 .int false := ⟨RX1, TX1, 4, tyX1, rfl, uwX1, tyX1_ok, nmX1, by decide, rfl, rfl, uw 113 (by decide +kernel) (by decide +kernel)⟩
theorem fk_X5_232 : FOK RX5 232 1 1 .int false := ⟨RX1, TX1, 4, tyX1, rfl, uwX1, tyX1_ok, nmX1, by decide, rfl, rfl, uw 114 (by decide +kernel) (by decide +kernel)⟩
theorem fk_X1_23 : FOK RX1 23 1 2 .int false := ⟨RX1, TX1, 4, tyX1, rfl, uwX1, tyX1_ok, nmX1, by decide, rfl, rfl, uw 115 (by decide +kernel) (by decide +kernel)⟩
theorem fk_X5_117 : FOK RX5 117 1 2 .int false := ⟨RX1, TX1, 4, tyX1, rfl, uwX1, tyX1_ok, nmX1, by decide, rfl, rfl, uw 116 (by decide +kernel) (by decide +kernel)⟩
theorem fk_X1_11 : FOK RX1 11 1 3 (.array (.array .int)) true := ⟨RX1, TX1, 4, tyX1, rfl, uwX1, tyX1_ok, nmX1, by decide, rfl, rfl, uw 117 (by decide +kernel) (by decide +kernel)⟩
theorem fk_X5_89 : FOK RX5 89 3 0 .int false := ⟨RX3, TX3, 8, tyX3, rfl, uwX3, tyX3_ok, nmX3, by decide, rfl, rfl, uw 133 (by decide +kernel) (by decide +kernel)⟩
theorem fk_X3_32 : FOK RX3 32 3 0 .int false := ⟨RX3, TX3, 8, tyX3, rfl, uwX3, tyX3_ok, nmX3, by decide, rfl, rfl, uw 134 (by decide +kernel) (by decide +kernel)⟩
theorem fk_X3_24 : FOK RX3 24 3 1 .int false := ⟨RX3, TX3, 8, tyX3, rfl, uwX3, tyX3_ok, nmX3, by decide, rfl, rfl, uw 135 (by decide +kernel) (by decide +kernel)⟩
theorem fk_X5_95 : FOK RX5 95 3 1 .int false := ⟨RX3, TX3, 8, tyX3, rfl, uwX3, tyX3_ok, nmX3, by decide, rfl, rfl, uw 136 (by decide +kernel) (by decide +kernel)⟩
theorem fk_X5_111 : FOK RX5 111 3 2 .int false := ⟨RX3, TX3, 8, tyX3, rfl, uwX3, tyX3_ok, nmX3, by decide, rfl, rfl, uw 137 (by decide +kernel) (by decide +kernel)⟩
theorem fk_X3_38 : FOK RX3 38 3 2 .int false := ⟨RX3, TX3, 8, tyX3, rfl, uwX3, tyX3_ok, nmX3, by decide, rfl, rfl, uw 138 (by decide +kernel) (by decide +kernel)⟩
theorem fk_X5_114 : FOK RX5 114 3 3 .int false := ⟨RX3, TX3, 8, tyX3, rfl, uwX3, tyX3_ok, nmX3, by decide, rfl, rfl, uw 139 (by decide +kernel) (by decide +kernel)⟩
theorem fk_X3_35 : FOK RX3 35 3 3 .int false := ⟨RX3, TX3, 8, tyX3, rfl, uwX3, tyX3_ok, nmX3, by decide, rfl, rfl, uw 140 (by decide +kernel) (by decide +kernel)⟩
theorem fk_X3_9 : FOK RX3 9 3 4 (.array .int) true := ⟨RX3, TX3, 8, tyX3, rfl, uwX3, tyX3_ok, nmX3, by decide, rfl, rfl, uw 141 (by decide +kernel) (by decide +kernel)⟩
theorem fk_X5_97 : FOK RX5 97 3 4 (.array .int) true := ⟨RX3, TX3, 8, tyX3, rfl, uwX3, tyX3_ok, nmX3, by decide, rfl, rfl, uw 142 (by decide +kernel) (by decide +kernel)⟩
theorem fk_X3_15 : FOK RX3 15 3 5 (.array .int) true := ⟨RX3, TX3, 8, tyX3, rfl, uwX3, tyX3_ok, nmX3, by decide, rfl, rfl, uw 143 (by decide +kernel) (by decide +kernel)⟩
theorem fk_X5_105 : FOK RX5 105 3 5 (.array .int) true := ⟨RX3, TX3, 8, tyX3, rfl, uwX3, tyX3_ok, nmX3, by decide, rfl, rfl, uw 144 (by decide +kernel) (by decide +kernel)⟩
theorem fk_X3_18 : FOK RX3 18 3 6 (.array .int) true := ⟨RX3, TX3, 8, tyX3, rfl, uwX3, tyX3_ok, nmX3, by decide, rfl, rfl, uw 145 (by decide +kernel) (by decide +kernel)⟩
theorem fk_X3_21 : FOK RX3 21 3 7 (.array .int) true := ⟨RX3, TX3, 8, tyX3, rfl, uwX3, tyX3_ok, nmX3, by decide, rfl, rfl, uw 146 (by decide +kernel) (by decide +kernel)⟩
theorem fk_X4_9 : FOK RX4 9 4 0 (.array .int) true := ⟨RX4, TX4, 6, tyX4, rfl, uwX4, tyX4_ok, nmX4, by decide, rfl, rfl, uw 170 (by decide +kernel) (by decide +kernel)⟩
theorem fk_X4_15 : FOK RX4 15 4 1 (.array .int) true := ⟨RX4, TX4, 6, tyX4, rfl, uwX4, tyX4_ok, nmX4, by decide, rfl, rfl, uw 171 (by decide +kernel) (by decide +kernel)⟩
theorem fk_X4_18 : FOK RX4 18 4 2 (.array .int) true := ⟨RX4, TX4, 6, tyX4, rfl, uwX4, tyX4_ok, nmX4, by decide, rfl, rfl, uw 172 (by decide +kernel) (by decide +kernel)⟩
theorem fk_X4_21 : FOK RX4 21 4 3 (.array .int) true := ⟨RX4, TX4, 6, tyX4, rfl, uwX4, tyX4_ok, nmX4, by decide, rfl, rfl, uw 173 (by decide +kernel) (by decide +kernel)⟩
theorem fk_X4_24 : FOK RX4 24 4 4 (.array .int) true := ⟨RX4, TX4, 6, tyX4, rfl, uwX4, tyX4_ok, nmX4, by decide, rfl, rfl, uw 174 (by decide +kernel) (by decide +kernel)⟩
theorem fk_X4_27 : FOK RX4 27 4 5 (.array .int) true := ⟨RX4, TX4, 6, tyX4, rfl, uwX4, tyX4_ok, nmX4, by decide, rfl, rfl, uw 175 (by decide +kernel) (by decide +kernel)⟩
theorem fk_X0_9 : FOK RX0 9 0 0 .int false := ⟨RX0, TX0, 1, tyX0, rfl, uwX0, tyX0_ok, nmX0, by decide, rfl, rfl, uw 195 (by decide +kernel) (by decide +kernel)⟩
theorem fk_X5_223 : FOK RX5 223 0 0 .int false := ⟨RX0, TX0, 1, tyX0, rfl, uwX0, tyX0_ok, nmX0, by decide, rfl, rfl, uw 196 (by decide +kernel) (by decide +kernel)⟩
theorem fk_X5_10 : FOK RX5 10 5 0 (.object "LeapBoard$Page") true := ⟨RX5, TX5, 9, tyX5, rfl, uwX5, tyX5_ok, nmX5, by decide, rfl, rfl, uw 200 (by decide +kernel) (by decide +kernel)⟩
theorem fk_X5_19 : FOK RX5 19 5 1 (.object "LeapBoard$Ground") true := ⟨RX5, TX5, 9, tyX5, rfl, uwX5, tyX5_ok, nmX5, by decide, rfl, rfl, uw 201 (by decide +kernel) (by decide +kernel)⟩
theorem fk_X5_26 : FOK RX5 26 5 2 (.object "LeapBoard$Scene") true := ⟨RX5, TX5, 9, tyX5, rfl, uwX5, tyX5_ok, nmX5, by decide, rfl, rfl, uw 202 (by decide +kernel) (by decide +kernel)⟩
theorem fk_X5_30 : FOK RX5 30 5 3 (.object "LeapBoard$Scene") true := ⟨RX5, TX5, 9, tyX5, rfl, uwX5, tyX5_ok, nmX5, by decide, rfl, rfl, uw 203 (by decide +kernel) (by decide +kernel)⟩
theorem fk_X5_33 : FOK RX5 33 5 4 (.object "LeapBoard$Scene") true := ⟨RX5, TX5, 9, tyX5, rfl, uwX5, tyX5_ok, nmX5, by decide, rfl, rfl, uw 204 (by decide +kernel) (by decide +kernel)⟩
theorem fk_X5_39 : FOK RX5 39 5 5 (.object "LeapBoard$Trips") true := ⟨RX5, TX5, 9, tyX5, rfl, uwX5, tyX5_ok, nmX5, by decide, rfl, rfl, uw 205 (by decide +kernel) (by decide +kernel)⟩
theorem fk_X5_46 : FOK RX5 46 5 6 (.object "LeapBoard$Draws") true := ⟨RX5, TX5, 9, tyX5, rfl, uwX5, tyX5_ok, nmX5, by decide, rfl, rfl, uw 206 (by decide +kernel) (by decide +kernel)⟩
theorem fk_X5_50 : FOK RX5 50 5 7 .boolean false := ⟨RX5, TX5, 9, tyX5, rfl, uwX5, tyX5_ok, nmX5, by decide, rfl, rfl, uw 207 (by decide +kernel) (by decide +kernel)⟩
theorem fk_X5_54 : FOK RX5 54 5 8 .int false := ⟨RX5, TX5, 9, tyX5, rfl, uwX5, tyX5_ok, nmX5, by decide, rfl, rfl, uw 208 (by decide +kernel) (by decide +kernel)⟩
theorem fk_X6_125 : FOK RX6 125 6 0 .int false := ⟨RX6, TX6, 39, tyX6, rfl, uwX6, tyX6_ok, nmX6, by decide, rfl, rfl, uw 704 (by decide +kernel) (by decide +kernel)⟩
theorem fk_X6_110 : FOK RX6 110 6 1 .int false := ⟨RX6, TX6, 39, tyX6, rfl, uwX6, tyX6_ok, nmX6, by decide, rfl, rfl, uw 705 (by decide +kernel) (by decide +kernel)⟩
theorem fk_X6_113 : FOK RX6 113 6 2 .int false := ⟨RX6, TX6, 39, tyX6, rfl, uwX6, tyX6_ok, nmX6, by decide, rfl, rfl, uw 706 (by decide +kernel) (by decide +kernel)⟩
theorem fk_X6_116 : FOK RX6 116 6 3 .int false := ⟨RX6, TX6, 39, tyX6, rfl, uwX6, tyX6_ok, nmX6, by decide, rfl, rfl, uw 707 (by decide +kernel) (by decide +kernel)⟩
theorem fk_X6_119 : FOK RX6 119 6 4 .int false := ⟨RX6, TX6, 39, tyX6, rfl, uwX6, tyX6_ok, nmX6, by decide, rfl, rfl, uw 708 (by decide +kernel) (by decide +kernel)⟩
theorem fk_X6_7 : FOK RX6 7 6 5 (.array .int) true := ⟨RX6, TX6, 39, tyX6, rfl, uwX6, tyX6_ok, nmX6, by decide, rfl, rfl, uw 709 (by decide +kernel) (by decide +kernel)⟩
theorem fk_X6_13 : FOK RX6 13 6 6 (.array .int) true := ⟨RX6, TX6, 39, tyX6, rfl, uwX6, tyX6_ok, nmX6, by decide, rfl, rfl, uw 710 (by decide +kernel) (by decide +kernel)⟩
theorem fk_X6_122 : FOK RX6 122 6 7 .int false := ⟨RX6, TX6, 39, tyX6, rfl, uwX6, tyX6_ok, nmX6, by decide, rfl, rfl, uw 711 (by decide +kernel) (by decide +kernel)⟩
theorem fk_X6_128 : FOK RX6 128 6 8 .int false := ⟨RX6, TX6, 39, tyX6, rfl, uwX6, tyX6_ok, nmX6, by decide, rfl, rfl, uw 712 (by decide +kernel) (by decide +kernel)⟩
theorem fk_X6_16 : FOK RX6 16 6 9 (.array .int) true := ⟨RX6, TX6, 39, tyX6, rfl, uwX6, tyX6_ok, nmX6, by decide, rfl, rfl, uw 713 (by decide +kernel) (by decide +kernel)⟩
theorem fk_X6_19 : FOK RX6 19 6 10 (.array .int) true := ⟨RX6, TX6, 39, tyX6, rfl, uwX6, tyX6_ok, nmX6, by decide, rfl, rfl, uw 714 (by decide +kernel) (by decide +kernel)⟩
theorem fk_X6_22 : FOK RX6 22 6 11 (.array .int) true := ⟨RX6, TX6, 39, tyX6, rfl, uwX6, tyX6_ok, nmX6, by decide, rfl, rfl, uw 715 (by decide +kernel) (by decide +kernel)⟩
theorem fk_X6_25 : FOK RX6 25 6 12 (.array .int) true := ⟨RX6, TX6, 39, tyX6, rfl, uwX6, tyX6_ok, nmX6, by decide, rfl, rfl, uw 716 (by decide +kernel) (by decide +kernel)⟩
theorem fk_X6_72 : FOK RX6 72 6 13 .int false := ⟨RX6, TX6, 39, tyX6, rfl, uwX6, tyX6_ok, nmX6, by decide, rfl, rfl, uw 717 (by decide +kernel) (by decide +kernel)⟩
theorem fk_X6_28 : FOK RX6 28 6 14 (.array .byte) true := ⟨RX6, TX6, 39, tyX6, rfl, uwX6, tyX6_ok, nmX6, by decide, rfl, rfl, uw 718 (by decide +kernel) (by decide +kernel)⟩
theorem fk_X6_96 : FOK RX6 96 6 15 .boolean false := ⟨RX6, TX6, 39, tyX6, rfl, uwX6, tyX6_ok, nmX6, by decide, rfl, rfl, uw 719 (by decide +kernel) (by decide +kernel)⟩
theorem fk_X6_76 : FOK RX6 76 6 16 .int false := ⟨RX6, TX6, 39, tyX6, rfl, uwX6, tyX6_ok, nmX6, by decide, rfl, rfl, uw 720 (by decide +kernel) (by decide +kernel)⟩
theorem fk_X6_83 : FOK RX6 83 6 17 .int false := ⟨RX6, TX6, 39, tyX6, rfl, uwX6, tyX6_ok, nmX6, by decide, rfl, rfl, uw 721 (by decide +kernel) (by decide +kernel)⟩
theorem fk_X6_86 : FOK RX6 86 6 18 .int false := ⟨RX6, TX6, 39, tyX6, rfl, uwX6, tyX6_ok, nmX6, by decide, rfl, rfl, uw 722 (by decide +kernel) (by decide +kernel)⟩
theorem fk_X6_32 : FOK RX6 32 6 19 (.array .int) true := ⟨RX6, TX6, 39, tyX6, rfl, uwX6, tyX6_ok, nmX6, by decide, rfl, rfl, uw 723 (by decide +kernel) (by decide +kernel)⟩
theorem fk_X6_35 : FOK RX6 35 6 20 (.array .int) true := ⟨RX6, TX6, 39, tyX6, rfl, uwX6, tyX6_ok, nmX6, by decide, rfl, rfl, uw 724 (by decide +kernel) (by decide +kernel)⟩
theorem fk_X6_198 : FOK RX6 198 6 21 .int false := ⟨RX6, TX6, 39, tyX6, rfl, uwX6, tyX6_ok, nmX6, by decide, rfl, rfl, uw 725 (by decide +kernel) (by decide +kernel)⟩
theorem fk_X6_38 : FOK RX6 38 6 22 (.array .int) true := ⟨RX6, TX6, 39, tyX6, rfl, uwX6, tyX6_ok, nmX6, by decide, rfl, rfl, uw 726 (by decide +kernel) (by decide +kernel)⟩
theorem fk_X6_41 : FOK RX6 41 6 23 (.array .int) true := ⟨RX6, TX6, 39, tyX6, rfl, uwX6, tyX6_ok, nmX6, by decide, rfl, rfl, uw 727 (by decide +kernel) (by decide +kernel)⟩
theorem fk_X6_44 : FOK RX6 44 6 24 (.array .int) true := ⟨RX6, TX6, 39, tyX6, rfl, uwX6, tyX6_ok, nmX6, by decide, rfl, rfl, uw 728 (by decide +kernel) (by decide +kernel)⟩
theorem fk_X6_259 : FOK RX6 259 6 25 .long false := ⟨RX6, TX6, 39, tyX6, rfl, uwX6, tyX6_ok, nmX6, by decide, rfl, rfl, uw 729 (by decide +kernel) (by decide +kernel)⟩
theorem fk_X6_47 : FOK RX6 47 6 26 (.array .int) true := ⟨RX6, TX6, 39, tyX6, rfl, uwX6, tyX6_ok, nmX6, by decide, rfl, rfl, uw 730 (by decide +kernel) (by decide +kernel)⟩
theorem fk_X6_281 : FOK RX6 281 6 27 .boolean false := ⟨RX6, TX6, 39, tyX6, rfl, uwX6, tyX6_ok, nmX6, by decide, rfl, rfl, uw 731 (by decide +kernel) (by decide +kernel)⟩
theorem fk_X6_284 : FOK RX6 284 6 28 .int false := ⟨RX6, TX6, 39, tyX6, rfl, uwX6, tyX6_ok, nmX6, by decide, rfl, rfl, uw 732 (by decide +kernel) (by decide +kernel)⟩
theorem fk_X6_287 : FOK RX6 287 6 29 .int false := ⟨RX6, TX6, 39, tyX6, rfl, uwX6, tyX6_ok, nmX6, by decide, rfl, rfl, uw 733 (by decide +kernel) (by decide +kernel)⟩
theorem fk_X6_290 : FOK RX6 290 6 30 .int false := ⟨RX6, TX6, 39, tyX6, rfl, uwX6, tyX6_ok, nmX6, by decide, rfl, rfl, uw 734 (by decide +kernel) (by decide +kernel)⟩
theorem fk_X6_293 : FOK RX6 293 6 31 .int false := ⟨RX6, TX6, 39, tyX6, rfl, uwX6, tyX6_ok, nmX6, by decide, rfl, rfl, uw 735 (by decide +kernel) (by decide +kernel)⟩
theorem fk_X6_50 : FOK RX6 50 6 32 (.array .int) true := ⟨RX6, TX6, 39, tyX6, rfl, uwX6, tyX6_ok, nmX6, by decide, rfl, rfl, uw 736 (by decide +kernel) (by decide +kernel)⟩
theorem fk_X6_53 : FOK RX6 53 6 33 (.array .int) true := ⟨RX6, TX6, 39, tyX6, rfl, uwX6, tyX6_ok, nmX6, by decide, rfl, rfl, uw 737 (by decide +kernel) (by decide +kernel)⟩
theorem fk_X6_56 : FOK RX6 56 6 34 (.array .int) true := ⟨RX6, TX6, 39, tyX6, rfl, uwX6, tyX6_ok, nmX6, by decide, rfl, rfl, uw 738 (by decide +kernel) (by decide +kernel)⟩
theorem fk_X6_59 : FOK RX6 59 6 35 (.array .int) true := ⟨RX6, TX6, 39, tyX6, rfl, uwX6, tyX6_ok, nmX6, by decide, rfl, rfl, uw 739 (by decide +kernel) (by decide +kernel)⟩
theorem fk_X6_62 : FOK RX6 62 6 36 (.array .int) true := ⟨RX6, TX6, 39, tyX6, rfl, uwX6, tyX6_ok, nmX6, by decide, rfl, rfl, uw 740 (by decide +kernel) (by decide +kernel)⟩
theorem fk_X6_65 : FOK RX6 65 6 37 (.array .int) true := ⟨RX6, TX6, 39, tyX6, rfl, uwX6, tyX6_ok, nmX6, by decide, rfl, rfl, uw 741 (by decide +kernel) (by decide +kernel)⟩
theorem fk_X6_301 : FOK RX6 301 6 38 .long false := ⟨RX6, TX6, 39, tyX6, rfl, uwX6, tyX6_ok, nmX6, by decide, rfl, rfl, uw 742 (by decide +kernel) (by decide +kernel)⟩
theorem kc_J2_227 : Cond.constant RJ2 227 (65536) ∈ UW := uw 318 (by decide +kernel) (by decide +kernel)
theorem kc_J11_110 : Cond.constant RJ11 110 (55232) ∈ UW := uw 357 (by decide +kernel) (by decide +kernel)
theorem kc_J11_76 : Cond.constant RJ11 76 (56320) ∈ UW := uw 361 (by decide +kernel) (by decide +kernel)
theorem kc_J6_265 : Cond.constant RJ6 265 (1431655765) ∈ UW := uw 461 (by decide +kernel) (by decide +kernel)
theorem kc_J6_266 : Cond.constant RJ6 266 (858993459) ∈ UW := uw 462 (by decide +kernel) (by decide +kernel)
theorem kc_J6_267 : Cond.constant RJ6 267 (252645135) ∈ UW := uw 463 (by decide +kernel) (by decide +kernel)
theorem kc_X4_68 : Cond.constant RX4 68 (1000000) ∈ UW := uw 610 (by decide +kernel) (by decide +kernel)
theorem kc_X0_7 : Cond.constantLong RX0 7 (1103515245) ∈ UW := uw 647 (by decide +kernel) (by decide +kernel)
theorem kc_X0_15 : Cond.constantLong RX0 15 (12345) ∈ UW := uw 648 (by decide +kernel) (by decide +kernel)
theorem kc_X0_17 : Cond.constantLong RX0 17 (2147483647) ∈ UW := uw 649 (by decide +kernel) (by decide +kernel)
theorem kc_X0_19 : Cond.constant RX0 19 (65536) ∈ UW := uw 650 (by decide +kernel) (by decide +kernel)
theorem kc_X5_234 : Cond.constantLong RX5 234 (1301) ∈ UW := uw 671 (by decide +kernel) (by decide +kernel)
theorem kc_X5_259 : Cond.constantLong RX5 259 (31) ∈ UW := uw 680 (by decide +kernel) (by decide +kernel)
theorem kc_X6_197 : Cond.constant RX6 197 (268435456) ∈ UW := uw 912 (by decide +kernel) (by decide +kernel)
theorem kc_X6_249 : Cond.constant RX6 249 (1000000) ∈ UW := uw 1059 (by decide +kernel) (by decide +kernel)
theorem kc_X6_257 : Cond.constantLong RX6 257 (1103515245) ∈ UW := uw 1084 (by decide +kernel) (by decide +kernel)
theorem kc_X6_263 : Cond.constantLong RX6 263 (12345) ∈ UW := uw 1085 (by decide +kernel) (by decide +kernel)
theorem kc_X6_265 : Cond.constantLong RX6 265 (2147483647) ∈ UW := uw 1086 (by decide +kernel) (by decide +kernel)
theorem kc_X6_267 : Cond.constantLong RX6 267 (65536) ∈ UW := uw 1087 (by decide +kernel) (by decide +kernel)
theorem kc_X6_308 : Cond.constantLong RX6 308 (1301) ∈ UW := uw 1115 (by decide +kernel) (by decide +kernel)
theorem kc_X6_299 : Cond.constantLong RX6 299 (31) ∈ UW := uw 1120 (by decide +kernel) (by decide +kernel)
theorem rk_J0_38 : Cond.fieldLink RJ0 38 "java/lang/String" "COMPACT_STRINGS" "Z" ∈ UW := uw 288 (by decide +kernel) (by decide +kernel)
theorem rk_J0_15 : Cond.fieldLink RJ0 15 "java/lang/String" "coder" "B" ∈ UW := uw 1127 (by decide +kernel) (by decide +kernel)
theorem rk_J0_9 : Cond.fieldLink RJ0 9 "java/lang/String" "value" "[B" ∈ UW := uw 1128 (by decide +kernel) (by decide +kernel)
end
section

/-! ===== worlds of numbered cells ===== -/
def cV (q : Nat → Nat) : Value → Value
  | .ref i => .ref (q i)
  | .int x => .int x
  | .long x => .long x
  | .float x => .float x
  | .double x => .double x
  | .null => .null
  | .retAddr x => .retAddr x
theorem cV_cat (q : Nat → Nat) (v : Value) : (cV q v).category = v.category := by cases v <;> rfl
abbrev mE : Type := (Nat × vp_A) ⊕ (Nat × List Value)
abbrev mW : Type := List mE
def cR (q : Nat → Nat) : vp_A → vp_A
  | (n, .inl f) => (n, .inl f)
  | (n, .inr (.inl f)) => (n, .inr (.inl f))
  | (n, .inr (.inr (.inl f))) => (n, .inr (.inr (.inl f)))
  | (n, .inr (.inr (.inr (.inl f)))) => (n, .inr (.inr (.inr (.inl f))))
  | (n, .inr (.inr (.inr (.inr f)))) => (n, .inr (.inr (.inr (.inr (fun i => (f i).map q)))))
def cE (q : Nat → Nat) (dA : Nat → ClassId) : mE → va_E
  | .inl (t, a) => .inl (dA t, cR q a)
  | .inr (ci, fs) => .inr (ci, fs.map (cV q))
def cW (q : Nat → Nat) (dA : Nat → ClassId) (w : mW) : va_W := w.mapIdx fun i e => (q i, cE q dA e)
theorem cW_get {q : Nat → Nat} {dA : Nat → ClassId} {w : mW} {a : Nat} {e : mE} (h : w[a]? = some e) : (cW q dA w)[a]? = some (q a, cE q dA e) := by
  simp [cW, List.getElem?_mapIdx, h]
theorem cW_set {q : Nat → Nat} {dA : Nat → ClassId} {w : mW} {a : Nat} {e : mE} : (cW q dA w).set a (q a, cE q dA e) = cW q dA (w.set a e) := by
  apply List.ext_getElem?
  intro i
  simp only [cW, List.getElem?_set, List.getElem?_mapIdx, List.length_mapIdx]
  by_cases h : a = i
  · subst h
    by_cases h2 : a < w.length <;> simp [h2]
  · simp [h]
abbrev iA (n : Nat) (f : Nat → Int32) : mE := .inl (0, n, .inl f)
abbrev bA (n : Nat) (f : Nat → Int32) : mE := .inl (1, n, .inl f)
abbrev rA (n : Nat) (f : Nat → Option Nat) : mE := .inl (2, n, .inr (.inr (.inr (.inr f))))
def tyA (dA : Nat → ClassId) : List (ClassId × FieldType) := [(dA 0, .int), (dA 1, .byte), (dA 2, .array .int)]
/-! the ambient: the String constant and what its search reads -/
def Amb (q : Nat → Nat) (A : Nat → Prop) (U : State) (H : Heap) : Prop :=
  vk_S 1 [5] [[107, 119, 102, 99, 98]] (fun _ => q 1000) (fun _ => q 1001) A U H ∧ vk_R "LeapBoard$Page" 46 "kwfcb" (q 1000) U ∧ va_Z "java/lang/String" "COMPACT_STRINGS" "Z" (.int 1) A U H
/-! locals -/
def lvl (q : Nat → Nat) (ls : List Value) : List (Nat × Value) := (List.range ls.length).filterMap fun j => if ls[j]? = some .null then none else (ls[j]?).map fun v => (j, cV q v)
theorem lvl_mem {q : Nat → Nat} {ls : List Value} {j : Nat} {v : Value} (h : ls[j]? = some v) (hn : v ≠ .null) : (j, cV q v) ∈ lvl q ls := by
  refine List.mem_filterMap.mpr ⟨j, List.mem_range.mpr (List.getElem?_eq_some_iff.mp h).1, ?_⟩
  rw [h, if_neg (by intro e; exact hn (Option.some.inj e))]
  rfl
theorem lvl_of {q : Nat → Nat} {ls : List Value} {x : Nat × Value} (h : x ∈ lvl q ls) : ∃ v, ls[x.1]? = some v ∧ v ≠ .null ∧ x.2 = cV q v := by
  obtain ⟨j, -, h2⟩ := List.mem_filterMap.mp h
  by_cases hn : ls[j]? = some .null
  · rw [if_pos hn] at h2; cases h2
  · rw [if_neg hn] at h2
    cases hv : ls[j]? with
    | none => rw [hv] at h2; cases h2
    | some v =>
      rw [hv] at h2
      cases h2
      exact ⟨v, hv, fun e => hn (by rw [hv, e]), rfl⟩
def lvH (q : Nat → Nat) (arr : Array Slot) (n : Nat) (ls : List Value) : Prop := arr.size = n ∧ lv_wf arr ∧ ∀ (i : Nat) (v : Value), ls[i]? = some v → v ≠ .null → arr[i]? = some (.val (cV q v))
theorem lvH.has {q : Nat → Nat} {arr : Array Slot} {n : Nat} {ls : List Value} (h : lvH q arr n ls) : lv_has arr n (lvl q ls) := by
  refine ⟨h.1, h.2.1, fun x hx => ?_⟩
  obtain ⟨v, h1, h2, h3⟩ := lvl_of hx
  rw [h3]
  exact h.2.2 _ _ h1 h2
theorem lvH.of {q : Nat → Nat} {arr : Array Slot} {n : Nat} {ls : List Value} {lv : List (Nat × Value)} (h : lv_has arr n lv) (hm : ∀ (i : Nat) (v : Value), ls[i]? = some v → v ≠ .null → (i, cV q v) ∈ lv) : lvH q arr n ls :=
  ⟨h.1, h.2.1, fun i v h1 h2 => h.2.2 _ (hm i v h1 h2)⟩
/-- no long begins just below place i -/
def okAt (ls : List Value) : Nat → Bool
  | 0 => true
  | j + 1 => match ls[j]? with
    | some (.long _) => false
    | some (.double _) => false
    | _ => true
theorem okAt_cat {q : Nat → Nat} {ls : List Value} {i j : Nat} {v : Value} (h : okAt ls i = true) (hv : ls[j]? = some v) (hj : j + 1 = i) : (cV q v).category ≠ 2 := by
  subst hj
  simp only [okAt] at h
  rw [hv] at h
  cases v <;> first | (simp at h; done) | (simp [cV, Value.category])
theorem lvH.store {q : Nat → Nat} {arr' : Array Slot} {n i : Nat} {ls : List Value} {x y : Value} (hx : cV q x = y) (ho : okAt ls i = true) (h' : lv_has arr' n ((i, y) :: (lvl q ls).filter (fun q => !(q.1 == i) && !(q.1 + 1 == i && q.2.category == 2)))) : lvH q arr' n (ls.set i x) := by
  refine lvH.of h' fun j v h1 h2 => ?_
  rw [List.getElem?_set] at h1
  by_cases hj : i = j
  · subst hj
    rw [if_pos rfl] at h1
    split at h1
    · cases h1; rw [hx]; exact List.mem_cons_self
    · cases h1
  · rw [if_neg hj] at h1
    refine List.mem_cons_of_mem _ (List.mem_filter.mpr ⟨lvl_mem h1 h2, ?_⟩)
    have h3 : (j == i) = false := by simp; omega
    simp only [h3, Bool.not_false, Bool.true_and]
    by_cases hk : j + 1 = i
    · have := okAt_cat (q := q) ho h1 hk
      simp [this]
    · simp [hk]
theorem lvH.store2 {q : Nat → Nat} {arr' : Array Slot} {n i : Nat} {ls : List Value} {x y : Value} (hx : cV q x = y) (ho : okAt ls i = true) (h' : lv_has arr' n ((i, y) :: (lvl q ls).filter (fun q => !(q.1 == i) && (!(q.1 == i + 1) && !(q.1 + 1 == i && q.2.category == 2))))) : lvH q arr' n ((ls.set i x).set (i + 1) .null) := by
  refine lvH.of h' fun j v h1 h2 => ?_
  rw [List.getElem?_set] at h1
  by_cases hj1 : i + 1 = j
  · rw [if_pos hj1] at h1
    split at h1
    · cases h1; exact absurd rfl h2
    · cases h1
  · rw [if_neg hj1, List.getElem?_set] at h1
    by_cases hj : i = j
    · subst hj
      rw [if_pos rfl] at h1
      split at h1
      · cases h1; rw [hx]; exact List.mem_cons_self
      · cases h1
    · rw [if_neg hj] at h1
      refine List.mem_cons_of_mem _ (List.mem_filter.mpr ⟨lvl_mem h1 h2, ?_⟩)
      have h3 : (j == i) = false := by simp; omega
      have h4 : (j == i + 1) = false := by simp; omega
      simp only [h3, h4, Bool.not_false, Bool.true_and]
      by_cases hk : j + 1 = i
      · have := okAt_cat (q := q) ho h1 hk
        simp [this]
      · simp [hk]
/-- a method's first locals -/
def entL : List Value → List Value
  | [] => []
  | v :: vs => if v.category = 2 then v :: .null :: entL vs else v :: entL vs
def ent (n : Nat) (as : List Value) : List Value := entL as ++ List.replicate (n - (entL as).length) .null
theorem entL_mem {q : Nat → Nat} (as : List Value) : ∀ (b i : Nat) (v : Value), (entL as)[i]? = some v → v ≠ .null → (b + i, cV q v) ∈ lv_args b (as.map (cV q)) := by
  induction as with
  | nil => intro b i v h; simp [entL] at h
  | cons a as ih =>
    intro b i v h hn
    simp only [List.map_cons, lv_args, cV_cat]
    unfold entL at h
    by_cases hc : a.category = 2
    · rw [if_pos hc] at h
      rw [if_pos hc]
      match i, h with
      | 0, h => cases h; exact List.mem_cons_self
      | 1, h => cases h; exact absurd rfl hn
      | i + 2, h =>
        have := ih (b + 2) i v (by simpa using h) hn
        rw [show b + (i + 2) = b + 2 + i by omega]
        exact List.mem_cons_of_mem _ this
    · rw [if_neg hc] at h
      rw [if_neg hc]
      match i, h with
      | 0, h => cases h; exact List.mem_cons_self
      | i + 1, h =>
        have := ih (b + 1) i v (by simpa using h) hn
        rw [show b + (i + 1) = b + 1 + i by omega]
        exact List.mem_cons_of_mem _ this
theorem ent_mem {q : Nat → Nat} {n : Nat} {as : List Value} {i : Nat} {v : Value} (h : (ent n as)[i]? = some v) (hn : v ≠ .null) : (i, cV q v) ∈ lv_args 0 (as.map (cV q)) := by
  unfold ent at h
  by_cases hi : i < (entL as).length
  · rw [List.getElem?_append_left hi] at h
    have := entL_mem (q := q) as 0 i v h hn
    rwa [Nat.zero_add] at this
  · rw [List.getElem?_append_right (by omega)] at h
    exact absurd (List.eq_of_mem_replicate (List.mem_of_getElem? h)) hn
theorem entL_len (q : Nat → Nat) (as : List Value) : (lg_sl (as.map (cV q))).length = (entL as).length := by
  induction as with
  | nil => rfl
  | cons a as ih =>
    have : (lg_sl (List.map (cV q) (a :: as))).length = (if a.category = 2 then 2 else 1) + (lg_sl (as.map (cV q))).length := by
      simp only [lg_sl, List.map_cons, List.flatMap_cons, List.length_append]
      congr 1
      cases a <;> simp [cV, Value.category]
    rw [this, ih]
    have e : entL (a :: as) = if a.category = 2 then a :: .null :: entL as else a :: entL as := rfl
    rw [e]
    by_cases hc : a.category = 2
    · rw [if_pos hc, if_pos hc]; simp only [List.length_cons]; omega
    · rw [if_neg hc, if_neg hc]; simp only [List.length_cons]; omega
/-! ===== the judgement ===== -/
def jR (d : Nat) : Room := { frames := d, cells := 0, slots := 0, locals := 64 * d }
def JC (p : Program) (s : State) (m : MethodId) (args : Array Value) (meth : Method) (c : Code) (mi : MI) (q : Nat → Nat) (D : va_G) (dA : Nat → ClassId) (A : Nat → Prop) : Prop :=
  p.tables.exec = Jvm.exec ∧ c.code = mi.2.1 ∧ c.maxLocals = mi.2.2.1 ∧ meth.sig.returnType = mi.2.2.2.1 ∧ meth.locks = false ∧ s.vm.findClass mi.1.cls = some m.cls ∧ (∀ w ∈ UW, w.before args s = true) ∧ (∀ w ∈ NW, va_Nw w s) ∧ va_K D vwCl (tyA dA) s ∧ Amb q A s s.heap
def JQ (q : Nat → Nat) (D : va_G) (dA : Nat → ClassId) (A : Nat → Prop) (Q : Option Value → mW → Prop) : Array Value → State → Outcome → State → Prop := fun _ s o t =>
  (∃ (v : Option Value) (w' : mW), o = .returned (v.map (cV q)) ∧ Q v w' ∧ va_P D vwCl (cW q dA w') t.heap ∧ va_K D vwCl (tyA dA) t ∧ va_D A (cW q dA w')) ∧ va_F A s t
def J (d : Nat) (mi : MI) (pc : Nat) (ls st : List Value) (w : mW) (Q : Option Value → mW → Prop) : Prop :=
  ∀ (p : Program) (l : Launch) (e : Env) (R : Room) (s : State) (m : MethodId) (args : Array Value) (below : List Frame) (meth : Method) (c : Code) (H : Heap) (locs : List Loc) (q : Nat → Nat) (D : va_G) (dA : Nat → ClassId) (A : Nat → Prop) (arr : Array Slot),
    (d ≤ R.frames ∧ 64 * d ≤ R.locals) → JC p s m args meth c mi q D dA A → va_S A s.heap H locs → va_P D vwCl (cW q dA w) H → va_D A (cW q dA w) → lvH q arr mi.2.2.1 ls →
    W p l e R s m args below meth c H locs 0 0 (MQ below (JQ q D dA A Q) args s 0 0 A) (F0 m pc arr (st.map (cV q)))
/-- a call's whole: from its entry -/
def JX (d : Nat) (mi : MI) (as : List Value) (w : mW) (Q : Option Value → mW → Prop) : Prop := J d mi 0 (ent mi.2.2.1 as) [] w Q
def JR (d : Nat) (mi : MI) (as : List Value) (w : mW) (r : Value) (w' : mW) : Prop := JX d mi as w (fun v u => v = some r ∧ u = w')
def JV (d : Nat) (mi : MI) (as : List Value) (w : mW) (w' : mW) : Prop := JX d mi as w (fun v u => v = none ∧ u = w')
section JRules
variable {d : Nat} {mi : MI} {pc pc' : Nat} {ls st : List Value} {w : mW} {Q Q' : Option Value → mW → Prop}
theorem J.mono {d' : Nat} (h : J d mi pc ls st w Q) (hd : d ≤ d') : J d' mi pc ls st w Q := by
  intro p l e R s m args below meth c H locs q D dA A arr hR C hS hP hD hl
  exact h p l e R s m args below meth c H locs q D dA A arr ⟨by omega, by omega⟩ C hS hP hD hl
theorem J.conseq (h : J d mi pc ls st w Q') (hQ : ∀ v u, Q' v u → Q v u) : J d mi pc ls st w Q := by
  intro p l e R s m args below meth c H locs q D dA A arr hR C hS hP hD hl T hT X
  obtain ⟨t, a1, o, b1, b2, ⟨⟨v, w', c1, c2, c3⟩, b3⟩, b4⟩ := h p l e R s m args below meth c H locs q D dA A arr hR C hS hP hD hl T hT X
  exact ⟨t, a1, o, b1, b2, ⟨⟨v, w', c1, hQ _ _ c2, c3⟩, b3⟩, b4⟩
theorem JX.mono {d' : Nat} {as : List Value} (h : JX d mi as w Q) (hd : d ≤ d') : JX d' mi as w Q := J.mono h hd
/-- fewer locals are known -/
theorem J.forget {ls' : List Value} (h : J d mi pc ls' st w Q) (hl : ∀ (i : Nat) (v : Value), ls'[i]? = some v → v ≠ .null → ls[i]? = some v) : J d mi pc ls st w Q := by
  intro p l e R s m args below meth c H locs q D dA A arr hR C hS hP hD hl2
  exact h p l e R s m args below meth c H locs q D dA A arr hR C hS hP hD ⟨hl2.1, hl2.2.1, fun i v h1 h2 => hl2.2.2 i v (hl i v h1 h2) h2⟩

theorem j_iadd {x y : Int32} (h : decode mi.2.1 pc = .ok (.iadd, 1) ∧ pc + 1 = pc')  (k : J d mi pc' ls (.int (x + y) :: st) w Q) : J d mi pc ls (.int y :: .int x :: st) w Q := by
  intro p l e R s m args below meth c H locs q D dA A arr hR C hS hP hD hl
  obtain ⟨h, rfl⟩ := h
  exact lv_iadd C.1 C.2.1 h (k p l e R s m args below meth c H locs q D dA A arr hR C hS hP hD hl)
theorem j_isub {x y : Int32} (h : decode mi.2.1 pc = .ok (.isub, 1) ∧ pc + 1 = pc')  (k : J d mi pc' ls (.int (x - y) :: st) w Q) : J d mi pc ls (.int y :: .int x :: st) w Q := by
  intro p l e R s m args below meth c H locs q D dA A arr hR C hS hP hD hl
  obtain ⟨h, rfl⟩ := h
  exact lv_isub C.1 C.2.1 h (k p l e R s m args below meth c H locs q D dA A arr hR C hS hP hD hl)
theorem j_imul {x y : Int32} (h : decode mi.2.1 pc = .ok (.imul, 1) ∧ pc + 1 = pc')  (k : J d mi pc' ls (.int (x * y) :: st) w Q) : J d mi pc ls (.int y :: .int x :: st) w Q := by
  intro p l e R s m args below meth c H locs q D dA A arr hR C hS hP hD hl
  obtain ⟨h, rfl⟩ := h
  exact lv_imul C.1 C.2.1 h (k p l e R s m args below meth c H locs q D dA A arr hR C hS hP hD hl)
theorem j_iand {x y : Int32} (h : decode mi.2.1 pc = .ok (.iand, 1) ∧ pc + 1 = pc')  (k : J d mi pc' ls (.int (x &&& y) :: st) w Q) : J d mi pc ls (.int y :: .int x :: st) w Q := by
  intro p l e R s m args below meth c H locs q D dA A arr hR C hS hP hD hl
  obtain ⟨h, rfl⟩ := h
  exact lv_iand C.1 C.2.1 h (k p l e R s m args below meth c H locs q D dA A arr hR C hS hP hD hl)
theorem j_ior {x y : Int32} (h : decode mi.2.1 pc = .ok (.ior, 1) ∧ pc + 1 = pc')  (k : J d mi pc' ls (.int (x ||| y) :: st) w Q) : J d mi pc ls (.int y :: .int x :: st) w Q := by
  intro p l e R s m args below meth c H locs q D dA A arr hR C hS hP hD hl
  obtain ⟨h, rfl⟩ := h
  exact lv_ior C.1 C.2.1 h (k p l e R s m args below meth c H locs q D dA A arr hR C hS hP hD hl)
theorem j_ixor {x y : Int32} (h : decode mi.2.1 pc = .ok (.ixor, 1) ∧ pc + 1 = pc')  (k : J d mi pc' ls (.int (x ^^^ y) :: st) w Q) : J d mi pc ls (.int y :: .int x :: st) w Q := by
  intro p l e R s m args below meth c H locs q D dA A arr hR C hS hP hD hl
  obtain ⟨h, rfl⟩ := h
  exact lv_ixor C.1 C.2.1 h (k p l e R s m args below meth c H locs q D dA A arr hR C hS hP hD hl)
theorem j_ishl {x y : Int32} (h : decode mi.2.1 pc = .ok (.ishl, 1) ∧ pc + 1 = pc')  (k : J d mi pc' ls (.int (x <<< (y &&& 31)) :: st) w Q) : J d mi pc ls (.int y :: .int x :: st) w Q := by
  intro p l e R s m args below meth c H locs q D dA A arr hR C hS hP hD hl
  obtain ⟨h, rfl⟩ := h
  exact lv_ishl C.1 C.2.1 h (k p l e R s m args below meth c H locs q D dA A arr hR C hS hP hD hl)
theorem j_ishr {x y : Int32} (h : decode mi.2.1 pc = .ok (.ishr, 1) ∧ pc + 1 = pc')  (k : J d mi pc' ls (.int (x >>> (y &&& 31)) :: st) w Q) : J d mi pc ls (.int y :: .int x :: st) w Q := by
  intro p l e R s m args below meth c H locs q D dA A arr hR C hS hP hD hl
  obtain ⟨h, rfl⟩ := h
  exact lv_ishr C.1 C.2.1 h (k p l e R s m args below meth c H locs q D dA A arr hR C hS hP hD hl)
theorem j_idiv {x y : Int32} (h : decode mi.2.1 pc = .ok (.idiv, 1) ∧ pc + 1 = pc') (hne : ¬ y = 0) (k : J d mi pc' ls (.int (x / y) :: st) w Q) : J d mi pc ls (.int y :: .int x :: st) w Q := by
  intro p l e R s m args below meth c H locs q D dA A arr hR C hS hP hD hl
  obtain ⟨h, rfl⟩ := h
  exact lv_idiv C.1 C.2.1 h hne (k p l e R s m args below meth c H locs q D dA A arr hR C hS hP hD hl)
theorem j_irem {x y : Int32} (h : decode mi.2.1 pc = .ok (.irem, 1) ∧ pc + 1 = pc') (hne : ¬ y = 0) (k : J d mi pc' ls (.int (x - x / y * y) :: st) w Q) : J d mi pc ls (.int y :: .int x :: st) w Q := by
  intro p l e R s m args below meth c H locs q D dA A arr hR C hS hP hD hl
  obtain ⟨h, rfl⟩ := h
  exact lv_irem C.1 C.2.1 h hne (k p l e R s m args below meth c H locs q D dA A arr hR C hS hP hD hl)
theorem j_ineg {x : Int32} (h : decode mi.2.1 pc = .ok (.ineg, 1) ∧ pc + 1 = pc')  (k : J d mi pc' ls (.int (-x) :: st) w Q) : J d mi pc ls (.int x :: st) w Q := by
  intro p l e R s m args below meth c H locs q D dA A arr hR C hS hP hD hl
  obtain ⟨h, rfl⟩ := h
  exact lv_ineg C.1 C.2.1 h (k p l e R s m args below meth c H locs q D dA A arr hR C hS hP hD hl)
theorem j_iushr {x y : Int32} (h : decode mi.2.1 pc = .ok (.iushr, 1) ∧ pc + 1 = pc')  (k : J d mi pc' ls (.int ((x.toUInt32 >>> (y.toUInt32 &&& Int32.toUInt32 31)).toInt32) :: st) w Q) : J d mi pc ls (.int y :: .int x :: st) w Q := by
  intro p l e R s m args below meth c H locs q D dA A arr hR C hS hP hD hl
  obtain ⟨h, rfl⟩ := h
  exact lv_iushr C.1 C.2.1 h rfl (k p l e R s m args below meth c H locs q D dA A arr hR C hS hP hD hl)
theorem j_ladd {x y : Int64} (h : decode mi.2.1 pc = .ok (.ladd, 1) ∧ pc + 1 = pc')  (k : J d mi pc' ls (.long (x + y) :: st) w Q) : J d mi pc ls (.long y :: .long x :: st) w Q := by
  intro p l e R s m args below meth c H locs q D dA A arr hR C hS hP hD hl
  obtain ⟨h, rfl⟩ := h
  exact lv_ladd C.1 C.2.1 h (k p l e R s m args below meth c H locs q D dA A arr hR C hS hP hD hl)
theorem j_lmul {x y : Int64} (h : decode mi.2.1 pc = .ok (.lmul, 1) ∧ pc + 1 = pc')  (k : J d mi pc' ls (.long (x * y) :: st) w Q) : J d mi pc ls (.long y :: .long x :: st) w Q := by
  intro p l e R s m args below meth c H locs q D dA A arr hR C hS hP hD hl
  obtain ⟨h, rfl⟩ := h
  exact lv_lmul C.1 C.2.1 h (k p l e R s m args below meth c H locs q D dA A arr hR C hS hP hD hl)
theorem j_land {x y : Int64} (h : decode mi.2.1 pc = .ok (.land, 1) ∧ pc + 1 = pc')  (k : J d mi pc' ls (.long (x &&& y) :: st) w Q) : J d mi pc ls (.long y :: .long x :: st) w Q := by
  intro p l e R s m args below meth c H locs q D dA A arr hR C hS hP hD hl
  obtain ⟨h, rfl⟩ := h
  exact lv_land C.1 C.2.1 h (k p l e R s m args below meth c H locs q D dA A arr hR C hS hP hD hl)
theorem j_ldiv {x y : Int64} (h : decode mi.2.1 pc = .ok (.ldiv, 1) ∧ pc + 1 = pc') (hne : ¬ y = 0) (k : J d mi pc' ls (.long (x / y) :: st) w Q) : J d mi pc ls (.long y :: .long x :: st) w Q := by
  intro p l e R s m args below meth c H locs q D dA A arr hR C hS hP hD hl
  obtain ⟨h, rfl⟩ := h
  exact lv_ldiv C.1 C.2.1 h hne (k p l e R s m args below meth c H locs q D dA A arr hR C hS hP hD hl)
theorem j_lrem {x y : Int64} (h : decode mi.2.1 pc = .ok (.lrem, 1) ∧ pc + 1 = pc') (hne : ¬ y = 0) (k : J d mi pc' ls (.long (x - x / y * y) :: st) w Q) : J d mi pc ls (.long y :: .long x :: st) w Q := by
  intro p l e R s m args below meth c H locs q D dA A arr hR C hS hP hD hl
  obtain ⟨h, rfl⟩ := h
  exact lv_lrem C.1 C.2.1 h hne (k p l e R s m args below meth c H locs q D dA A arr hR C hS hP hD hl)
theorem j_i2l {x : Int32} (h : decode mi.2.1 pc = .ok (.i2l, 1) ∧ pc + 1 = pc')  (k : J d mi pc' ls (.long (x.toInt64) :: st) w Q) : J d mi pc ls (.int x :: st) w Q := by
  intro p l e R s m args below meth c H locs q D dA A arr hR C hS hP hD hl
  obtain ⟨h, rfl⟩ := h
  exact lv_i2l C.1 C.2.1 h rfl (k p l e R s m args below meth c H locs q D dA A arr hR C hS hP hD hl)
theorem j_l2i {x : Int64} (h : decode mi.2.1 pc = .ok (.l2i, 1) ∧ pc + 1 = pc')  (k : J d mi pc' ls (.int (x.toInt32) :: st) w Q) : J d mi pc ls (.long x :: st) w Q := by
  intro p l e R s m args below meth c H locs q D dA A arr hR C hS hP hD hl
  obtain ⟨h, rfl⟩ := h
  exact lv_l2i C.1 C.2.1 h rfl (k p l e R s m args below meth c H locs q D dA A arr hR C hS hP hD hl)
theorem j_i2b {x : Int32} (h : decode mi.2.1 pc = .ok (.i2b, 1) ∧ pc + 1 = pc')  (k : J d mi pc' ls (.int (x.toInt8.toInt32) :: st) w Q) : J d mi pc ls (.int x :: st) w Q := by
  intro p l e R s m args below meth c H locs q D dA A arr hR C hS hP hD hl
  obtain ⟨h, rfl⟩ := h
  exact lv_i2b C.1 C.2.1 h rfl (k p l e R s m args below meth c H locs q D dA A arr hR C hS hP hD hl)
theorem j_i2c {x : Int32} (h : decode mi.2.1 pc = .ok (.i2c, 1) ∧ pc + 1 = pc')  (k : J d mi pc' ls (.int ((x.toUInt32 % 65536).toInt32) :: st) w Q) : J d mi pc ls (.int x :: st) w Q := by
  intro p l e R s m args below meth c H locs q D dA A arr hR C hS hP hD hl
  obtain ⟨h, rfl⟩ := h
  exact lv_i2c C.1 C.2.1 h rfl (k p l e R s m args below meth c H locs q D dA A arr hR C hS hP hD hl)
theorem j_iconst {n : Int} {v : Int32} (h : decode mi.2.1 pc = .ok (.iconst n, 1) ∧ pc + 1 = pc') (hv : Int32.ofInt n = v) (k : J d mi pc' ls (.int v :: st) w Q) : J d mi pc ls (st) w Q := by
  intro p l e R s m args below meth c H locs q D dA A arr hR C hS hP hD hl
  obtain ⟨h, rfl⟩ := h
  exact lv_iconst C.1 C.2.1 h hv (k p l e R s m args below meth c H locs q D dA A arr hR C hS hP hD hl)
theorem j_bipush {n : Int} {v : Int32} (h : decode mi.2.1 pc = .ok (.bipush n, 2) ∧ pc + 2 = pc') (hv : (Int8.ofInt n).toInt32 = v) (k : J d mi pc' ls (.int v :: st) w Q) : J d mi pc ls (st) w Q := by
  intro p l e R s m args below meth c H locs q D dA A arr hR C hS hP hD hl
  obtain ⟨h, rfl⟩ := h
  exact lv_bipush C.1 C.2.1 h hv (k p l e R s m args below meth c H locs q D dA A arr hR C hS hP hD hl)
theorem j_sipush {n : Int} {v : Int32} (h : decode mi.2.1 pc = .ok (.sipush n, 3) ∧ pc + 3 = pc') (hv : (Int16.ofInt n).toInt32 = v) (k : J d mi pc' ls (.int v :: st) w Q) : J d mi pc ls (st) w Q := by
  intro p l e R s m args below meth c H locs q D dA A arr hR C hS hP hD hl
  obtain ⟨h, rfl⟩ := h
  exact lv_sipush C.1 C.2.1 h hv (k p l e R s m args below meth c H locs q D dA A arr hR C hS hP hD hl)
theorem j_ldc {i : Nat} {v : Int32} (h : decode mi.2.1 pc = .ok (.ldc i, 2) ∧ pc + 2 = pc') (hv : Cond.constant mi.1.cls i v ∈ UW) (k : J d mi pc' ls (.int v :: st) w Q) : J d mi pc ls (st) w Q := by
  intro p l e R s m args below meth c H locs q D dA A arr hR C hS hP hD hl
  obtain ⟨h, rfl⟩ := h
  exact lv_ldc C.1 C.2.1 C.2.2.2.2.2.1 (C.2.2.2.2.2.2.1 _ hv) h (k p l e R s m args below meth c H locs q D dA A arr hR C hS hP hD hl)
theorem j_ldcw {i : Nat} {v : Int32} (h : decode mi.2.1 pc = .ok (.ldc_w i, 3) ∧ pc + 3 = pc') (hv : Cond.constant mi.1.cls i v ∈ UW) (k : J d mi pc' ls (.int v :: st) w Q) : J d mi pc ls (st) w Q := by
  intro p l e R s m args below meth c H locs q D dA A arr hR C hS hP hD hl
  obtain ⟨h, rfl⟩ := h
  exact lv_ldcw C.1 C.2.1 C.2.2.2.2.2.1 (C.2.2.2.2.2.2.1 _ hv) h (k p l e R s m args below meth c H locs q D dA A arr hR C hS hP hD hl)
theorem j_ldc2 {i : Nat} {v : Int64} (h : decode mi.2.1 pc = .ok (.ldc2_w i, 3) ∧ pc + 3 = pc') (hv : Cond.constantLong mi.1.cls i v ∈ UW) (k : J d mi pc' ls (.long v :: st) w Q) : J d mi pc ls (st) w Q := by
  intro p l e R s m args below meth c H locs q D dA A arr hR C hS hP hD hl
  obtain ⟨h, rfl⟩ := h
  exact lv_ldc2 C.1 C.2.1 C.2.2.2.2.2.1 (C.2.2.2.2.2.2.1 _ hv) h (k p l e R s m args below meth c H locs q D dA A arr hR C hS hP hD hl)
theorem j_dup {v : Value} (h : decode mi.2.1 pc = .ok (.dup, 1) ∧ pc + 1 = pc') (hc : v.category = 1) (k : J d mi pc' ls (v :: v :: st) w Q) : J d mi pc ls (v :: st) w Q := by
  intro p l e R s m args below meth c H locs q D dA A arr hR C hS hP hD hl
  obtain ⟨h, rfl⟩ := h
  exact lv_dup C.1 C.2.1 h ((cV_cat q v).trans hc) (k p l e R s m args below meth c H locs q D dA A arr hR C hS hP hD hl)
theorem j_pop {v : Value} (h : decode mi.2.1 pc = .ok (.pop, 1) ∧ pc + 1 = pc') (hc : v.category = 1) (k : J d mi pc' ls (st) w Q) : J d mi pc ls (v :: st) w Q := by
  intro p l e R s m args below meth c H locs q D dA A arr hR C hS hP hD hl
  obtain ⟨h, rfl⟩ := h
  exact lv_pop C.1 C.2.1 h ((cV_cat q v).trans hc) (k p l e R s m args below meth c H locs q D dA A arr hR C hS hP hD hl)
theorem j_dup2 {v u : Value} (h : decode mi.2.1 pc = .ok (.dup2, 1) ∧ pc + 1 = pc') (hv : v.category = 1) (hu : u.category = 1) (k : J d mi pc' ls (v :: u :: v :: u :: st) w Q) : J d mi pc ls (v :: u :: st) w Q := by
  intro p l e R s m args below meth c H locs q D dA A arr hR C hS hP hD hl
  obtain ⟨h, rfl⟩ := h
  exact lv_dup2_11 C.1 C.2.1 h ((cV_cat q v).trans hv) ((cV_cat q u).trans hu) (k p l e R s m args below meth c H locs q D dA A arr hR C hS hP hD hl)
theorem j_iload_n {i : Fin 4} {x : Int32} (h : decode mi.2.1 pc = .ok (.iload_n i, 1) ∧ pc + 1 = pc') (hv : ls[(i : Nat)]? = some (.int x)) (k : J d mi pc' ls (.int x :: st) w Q) : J d mi pc ls (st) w Q := by
  intro p l e R s m args below meth c H locs q D dA A arr hR C hS hP hD hl
  obtain ⟨h, rfl⟩ := h
  exact lv_iload_n C.1 C.2.1 h rfl (hl.2.2 _ _ hv (by simp)) (k p l e R s m args below meth c H locs q D dA A arr hR C hS hP hD hl)
theorem j_iload {i : Nat} {x : Int32} (h : decode mi.2.1 pc = .ok (.iload i, 2) ∧ pc + 2 = pc') (hv : ls[i]? = some (.int x)) (k : J d mi pc' ls (.int x :: st) w Q) : J d mi pc ls (st) w Q := by
  intro p l e R s m args below meth c H locs q D dA A arr hR C hS hP hD hl
  obtain ⟨h, rfl⟩ := h
  exact lv_iload C.1 C.2.1 h (hl.2.2 _ _ hv (by simp)) (k p l e R s m args below meth c H locs q D dA A arr hR C hS hP hD hl)
theorem j_lload_n {i : Fin 4} {x : Int64} (h : decode mi.2.1 pc = .ok (.lload_n i, 1) ∧ pc + 1 = pc') (hv : ls[(i : Nat)]? = some (.long x)) (k : J d mi pc' ls (.long x :: st) w Q) : J d mi pc ls (st) w Q := by
  intro p l e R s m args below meth c H locs q D dA A arr hR C hS hP hD hl
  obtain ⟨h, rfl⟩ := h
  exact lv_lload_n C.1 C.2.1 h rfl (hl.2.2 _ _ hv (by simp)) (k p l e R s m args below meth c H locs q D dA A arr hR C hS hP hD hl)
theorem j_lload {i : Nat} {x : Int64} (h : decode mi.2.1 pc = .ok (.lload i, 2) ∧ pc + 2 = pc') (hv : ls[i]? = some (.long x)) (k : J d mi pc' ls (.long x :: st) w Q) : J d mi pc ls (st) w Q := by
  intro p l e R s m args below meth c H locs q D dA A arr hR C hS hP hD hl
  obtain ⟨h, rfl⟩ := h
  exact lv_lload C.1 C.2.1 h (hl.2.2 _ _ hv (by simp)) (k p l e R s m args below meth c H locs q D dA A arr hR C hS hP hD hl)
theorem j_aload_n {i : Fin 4} {x : Nat} (h : decode mi.2.1 pc = .ok (.aload_n i, 1) ∧ pc + 1 = pc') (hv : ls[(i : Nat)]? = some (.ref x)) (k : J d mi pc' ls (.ref x :: st) w Q) : J d mi pc ls (st) w Q := by
  intro p l e R s m args below meth c H locs q D dA A arr hR C hS hP hD hl
  obtain ⟨h, rfl⟩ := h
  exact lv_aload_n C.1 C.2.1 h rfl (hl.2.2 _ _ hv (by simp)) (k p l e R s m args below meth c H locs q D dA A arr hR C hS hP hD hl)
theorem j_aload {i : Nat} {x : Nat} (h : decode mi.2.1 pc = .ok (.aload i, 2) ∧ pc + 2 = pc') (hv : ls[i]? = some (.ref x)) (k : J d mi pc' ls (.ref x :: st) w Q) : J d mi pc ls (st) w Q := by
  intro p l e R s m args below meth c H locs q D dA A arr hR C hS hP hD hl
  obtain ⟨h, rfl⟩ := h
  exact lv_aload C.1 C.2.1 h (hl.2.2 _ _ hv (by simp)) (k p l e R s m args below meth c H locs q D dA A arr hR C hS hP hD hl)
theorem j_istore_n {i : Fin 4} {x : Int32} (h : decode mi.2.1 pc = .ok (.istore_n i, 1) ∧ pc + 1 = pc') (hn : (i : Nat) < mi.2.2.1) (ho : okAt ls (i : Nat) = true) (k : J d mi pc' (ls.set (i : Nat) (.int x)) st w Q) : J d mi pc ls (.int x :: st) w Q := by
  intro p l e R s m args below meth c H locs q D dA A arr hR C hS hP hD hl
  obtain ⟨h, rfl⟩ := h
  refine lv_istore_n C.1 C.2.1 h rfl hl.has hn rfl fun arr2 h2 => ?_
  exact k p l e R s m args below meth c H locs q D dA A arr2 hR C hS hP hD (lvH.store rfl ho h2)
theorem j_istore {i : Nat} {x : Int32} (h : decode mi.2.1 pc = .ok (.istore i, 2) ∧ pc + 2 = pc') (hn : i < mi.2.2.1) (ho : okAt ls i = true) (k : J d mi pc' (ls.set i (.int x)) st w Q) : J d mi pc ls (.int x :: st) w Q := by
  intro p l e R s m args below meth c H locs q D dA A arr hR C hS hP hD hl
  obtain ⟨h, rfl⟩ := h
  refine lv_istore C.1 C.2.1 h  hl.has hn rfl fun arr2 h2 => ?_
  exact k p l e R s m args below meth c H locs q D dA A arr2 hR C hS hP hD (lvH.store rfl ho h2)
theorem j_astore_n {i : Fin 4} {x : Nat} (h : decode mi.2.1 pc = .ok (.astore_n i, 1) ∧ pc + 1 = pc') (hn : (i : Nat) < mi.2.2.1) (ho : okAt ls (i : Nat) = true) (k : J d mi pc' (ls.set (i : Nat) (.ref x)) st w Q) : J d mi pc ls (.ref x :: st) w Q := by
  intro p l e R s m args below meth c H locs q D dA A arr hR C hS hP hD hl
  obtain ⟨h, rfl⟩ := h
  refine lv_astore_n C.1 C.2.1 h rfl hl.has hn rfl fun arr2 h2 => ?_
  exact k p l e R s m args below meth c H locs q D dA A arr2 hR C hS hP hD (lvH.store rfl ho h2)
theorem j_lstore_n {i : Fin 4} {x : Int64} (h : decode mi.2.1 pc = .ok (.lstore_n i, 1) ∧ pc + 1 = pc') (hn : (i : Nat) + 1 < mi.2.2.1) (ho : okAt ls (i : Nat) = true) (k : J d mi pc' ((ls.set (i : Nat) (.long x)).set ((i : Nat) + 1) .null) st w Q) : J d mi pc ls (.long x :: st) w Q := by
  intro p l e R s m args below meth c H locs q D dA A arr hR C hS hP hD hl
  obtain ⟨h, rfl⟩ := h
  refine lv_lstore_n C.1 C.2.1 h rfl hl.has hn rfl fun arr2 h2 => ?_
  exact k p l e R s m args below meth c H locs q D dA A arr2 hR C hS hP hD (lvH.store2 rfl ho h2)
theorem j_iinc {i : Nat} {n : Int} {x v : Int32} (h : decode mi.2.1 pc = .ok (.iinc i n, 3) ∧ pc + 3 = pc') (hv : ls[i]? = some (.int x)) (he : Int32.ofInt n = v) (hn : i < mi.2.2.1) (ho : okAt ls i = true) (k : J d mi pc' (ls.set i (.int (x + v))) st w Q) : J d mi pc ls st w Q := by
  intro p l e R s m args below meth c H locs q D dA A arr hR C hS hP hD hl
  obtain ⟨h, rfl⟩ := h
  subst he
  obtain ⟨j, hj⟩ := List.getElem?_of_mem (lvl_mem (q := q) hv (by simp))
  refine lv_iinc C.1 C.2.1 h hl.has hj rfl hn rfl fun arr2 h2 => ?_
  exact k p l e R s m args below meth c H locs q D dA A arr2 hR C hS hP hD (lvH.store rfl ho h2)
theorem j_goto {off : Int} {tgt : Nat} (h : decode mi.2.1 pc = .ok (.goto off, 3) ∧ pc + 3 = pc') (ht : (pc : Int) + off = (tgt : Int)) (k : J d mi tgt ls st w Q) : J d mi pc ls st w Q := by
  intro p l e R s m args below meth c H locs q D dA A arr hR C hS hP hD hl
  exact lv_goto C.1 C.2.1 h.1 ht (k p l e R s m args below meth c H locs q D dA A arr hR C hS hP hD hl)
theorem j_if_eq {x : Int32} {off : Int} {tgt : Nat} (h : decode mi.2.1 pc = .ok (.ifCond .eq off, 3) ∧ pc + 3 = pc') (ht : (pc : Int) + off = (tgt : Int)) (kt : x = 0 → J d mi tgt ls st w Q) (kf : ¬ x = 0 → J d mi pc' ls st w Q) : J d mi pc ls (.int x :: st) w Q := by
  intro p l e R s m args below meth c H locs q D dA A arr hR C hS hP hD hl
  obtain ⟨h, rfl⟩ := h
  exact lv_if_eq C.1 C.2.1 h ht (fun hc => kt hc p l e R s m args below meth c H locs q D dA A arr hR C hS hP hD hl) (fun hc => kf hc p l e R s m args below meth c H locs q D dA A arr hR C hS hP hD hl)
theorem j_icmp_eq {x y : Int32} {off : Int} {tgt : Nat} (h : decode mi.2.1 pc = .ok (.if_icmp .eq off, 3) ∧ pc + 3 = pc') (ht : (pc : Int) + off = (tgt : Int)) (kt : x = y → J d mi tgt ls st w Q) (kf : ¬ x = y → J d mi pc' ls st w Q) : J d mi pc ls (.int y :: .int x :: st) w Q := by
  intro p l e R s m args below meth c H locs q D dA A arr hR C hS hP hD hl
  obtain ⟨h, rfl⟩ := h
  exact lv_icmp_eq C.1 C.2.1 h ht (fun hc => kt hc p l e R s m args below meth c H locs q D dA A arr hR C hS hP hD hl) (fun hc => kf hc p l e R s m args below meth c H locs q D dA A arr hR C hS hP hD hl)
theorem j_if_ne {x : Int32} {off : Int} {tgt : Nat} (h : decode mi.2.1 pc = .ok (.ifCond .ne off, 3) ∧ pc + 3 = pc') (ht : (pc : Int) + off = (tgt : Int)) (kt : ¬ x = 0 → J d mi tgt ls st w Q) (kf : x = 0 → J d mi pc' ls st w Q) : J d mi pc ls (.int x :: st) w Q := by
  intro p l e R s m args below meth c H locs q D dA A arr hR C hS hP hD hl
  obtain ⟨h, rfl⟩ := h
  exact lv_if_ne C.1 C.2.1 h ht (fun hc => kt hc p l e R s m args below meth c H locs q D dA A arr hR C hS hP hD hl) (fun hc => kf hc p l e R s m args below meth c H locs q D dA A arr hR C hS hP hD hl)
theorem j_icmp_ne {x y : Int32} {off : Int} {tgt : Nat} (h : decode mi.2.1 pc = .ok (.if_icmp .ne off, 3) ∧ pc + 3 = pc') (ht : (pc : Int) + off = (tgt : Int)) (kt : ¬ x = y → J d mi tgt ls st w Q) (kf : x = y → J d mi pc' ls st w Q) : J d mi pc ls (.int y :: .int x :: st) w Q := by
  intro p l e R s m args below meth c H locs q D dA A arr hR C hS hP hD hl
  obtain ⟨h, rfl⟩ := h
  exact lv_icmp_ne C.1 C.2.1 h ht (fun hc => kt hc p l e R s m args below meth c H locs q D dA A arr hR C hS hP hD hl) (fun hc => kf hc p l e R s m args below meth c H locs q D dA A arr hR C hS hP hD hl)
theorem j_if_lt {x : Int32} {off : Int} {tgt : Nat} (h : decode mi.2.1 pc = .ok (.ifCond .lt off, 3) ∧ pc + 3 = pc') (ht : (pc : Int) + off = (tgt : Int)) (kt : x < 0 → J d mi tgt ls st w Q) (kf : ¬ x < 0 → J d mi pc' ls st w Q) : J d mi pc ls (.int x :: st) w Q := by
  intro p l e R s m args below meth c H locs q D dA A arr hR C hS hP hD hl
  obtain ⟨h, rfl⟩ := h
  exact lv_if_lt C.1 C.2.1 h ht (fun hc => kt hc p l e R s m args below meth c H locs q D dA A arr hR C hS hP hD hl) (fun hc => kf hc p l e R s m args below meth c H locs q D dA A arr hR C hS hP hD hl)
theorem j_icmp_lt {x y : Int32} {off : Int} {tgt : Nat} (h : decode mi.2.1 pc = .ok (.if_icmp .lt off, 3) ∧ pc + 3 = pc') (ht : (pc : Int) + off = (tgt : Int)) (kt : x < y → J d mi tgt ls st w Q) (kf : ¬ x < y → J d mi pc' ls st w Q) : J d mi pc ls (.int y :: .int x :: st) w Q := by
  intro p l e R s m args below meth c H locs q D dA A arr hR C hS hP hD hl
  obtain ⟨h, rfl⟩ := h
  exact lv_icmp_lt C.1 C.2.1 h ht (fun hc => kt hc p l e R s m args below meth c H locs q D dA A arr hR C hS hP hD hl) (fun hc => kf hc p l e R s m args below meth c H locs q D dA A arr hR C hS hP hD hl)
theorem j_if_ge {x : Int32} {off : Int} {tgt : Nat} (h : decode mi.2.1 pc = .ok (.ifCond .ge off, 3) ∧ pc + 3 = pc') (ht : (pc : Int) + off = (tgt : Int)) (kt : 0 ≤ x → J d mi tgt ls st w Q) (kf : ¬ 0 ≤ x → J d mi pc' ls st w Q) : J d mi pc ls (.int x :: st) w Q := by
  intro p l e R s m args below meth c H locs q D dA A arr hR C hS hP hD hl
  obtain ⟨h, rfl⟩ := h
  exact lv_if_ge C.1 C.2.1 h ht (fun hc => kt hc p l e R s m args below meth c H locs q D dA A arr hR C hS hP hD hl) (fun hc => kf hc p l e R s m args below meth c H locs q D dA A arr hR C hS hP hD hl)
theorem j_icmp_ge {x y : Int32} {off : Int} {tgt : Nat} (h : decode mi.2.1 pc = .ok (.if_icmp .ge off, 3) ∧ pc + 3 = pc') (ht : (pc : Int) + off = (tgt : Int)) (kt : y ≤ x → J d mi tgt ls st w Q) (kf : ¬ y ≤ x → J d mi pc' ls st w Q) : J d mi pc ls (.int y :: .int x :: st) w Q := by
  intro p l e R s m args below meth c H locs q D dA A arr hR C hS hP hD hl
  obtain ⟨h, rfl⟩ := h
  exact lv_icmp_ge C.1 C.2.1 h ht (fun hc => kt hc p l e R s m args below meth c H locs q D dA A arr hR C hS hP hD hl) (fun hc => kf hc p l e R s m args below meth c H locs q D dA A arr hR C hS hP hD hl)
theorem j_if_gt {x : Int32} {off : Int} {tgt : Nat} (h : decode mi.2.1 pc = .ok (.ifCond .gt off, 3) ∧ pc + 3 = pc') (ht : (pc : Int) + off = (tgt : Int)) (kt : 0 < x → J d mi tgt ls st w Q) (kf : ¬ 0 < x → J d mi pc' ls st w Q) : J d mi pc ls (.int x :: st) w Q := by
  intro p l e R s m args below meth c H locs q D dA A arr hR C hS hP hD hl
  obtain ⟨h, rfl⟩ := h
  exact lv_if_gt C.1 C.2.1 h ht (fun hc => kt hc p l e R s m args below meth c H locs q D dA A arr hR C hS hP hD hl) (fun hc => kf hc p l e R s m args below meth c H locs q D dA A arr hR C hS hP hD hl)
theorem j_icmp_gt {x y : Int32} {off : Int} {tgt : Nat} (h : decode mi.2.1 pc = .ok (.if_icmp .gt off, 3) ∧ pc + 3 = pc') (ht : (pc : Int) + off = (tgt : Int)) (kt : y < x → J d mi tgt ls st w Q) (kf : ¬ y < x → J d mi pc' ls st w Q) : J d mi pc ls (.int y :: .int x :: st) w Q := by
  intro p l e R s m args below meth c H locs q D dA A arr hR C hS hP hD hl
  obtain ⟨h, rfl⟩ := h
  exact lv_icmp_gt C.1 C.2.1 h ht (fun hc => kt hc p l e R s m args below meth c H locs q D dA A arr hR C hS hP hD hl) (fun hc => kf hc p l e R s m args below meth c H locs q D dA A arr hR C hS hP hD hl)
theorem j_if_le {x : Int32} {off : Int} {tgt : Nat} (h : decode mi.2.1 pc = .ok (.ifCond .le off, 3) ∧ pc + 3 = pc') (ht : (pc : Int) + off = (tgt : Int)) (kt : x ≤ 0 → J d mi tgt ls st w Q) (kf : ¬ x ≤ 0 → J d mi pc' ls st w Q) : J d mi pc ls (.int x :: st) w Q := by
  intro p l e R s m args below meth c H locs q D dA A arr hR C hS hP hD hl
  obtain ⟨h, rfl⟩ := h
  exact lv_if_le C.1 C.2.1 h ht (fun hc => kt hc p l e R s m args below meth c H locs q D dA A arr hR C hS hP hD hl) (fun hc => kf hc p l e R s m args below meth c H locs q D dA A arr hR C hS hP hD hl)
theorem j_icmp_le {x y : Int32} {off : Int} {tgt : Nat} (h : decode mi.2.1 pc = .ok (.if_icmp .le off, 3) ∧ pc + 3 = pc') (ht : (pc : Int) + off = (tgt : Int)) (kt : x ≤ y → J d mi tgt ls st w Q) (kf : ¬ x ≤ y → J d mi pc' ls st w Q) : J d mi pc ls (.int y :: .int x :: st) w Q := by
  intro p l e R s m args below meth c H locs q D dA A arr hR C hS hP hD hl
  obtain ⟨h, rfl⟩ := h
  exact lv_icmp_le C.1 C.2.1 h ht (fun hc => kt hc p l e R s m args below meth c H locs q D dA A arr hR C hS hP hD hl) (fun hc => kf hc p l e R s m args below meth c H locs q D dA A arr hR C hS hP hD hl)
theorem j_tswOut {dflt lo hi : Int} {offs : Array Int} {len : Nat} {x : Int32} {tgt : Nat} (h : decode mi.2.1 pc = .ok (.tableswitch dflt lo hi offs, len) ∧ pc + len = pc') (hx : x.toInt < lo ∨ hi < x.toInt) (ht : (pc : Int) + dflt = (tgt : Int)) (k : J d mi tgt ls st w Q) : J d mi pc ls (.int x :: st) w Q := by
  intro p l e R s m args below meth c H locs q D dA A arr hR C hS hP hD hl
  exact lv_tableOut C.1 C.2.1 h.1 hx ht (k p l e R s m args below meth c H locs q D dA A arr hR C hS hP hD hl)
theorem j_tswIn {dflt lo hi : Int} {offs : Array Int} {len : Nat} {x : Int32} {off : Int} {tgt : Nat} (h : decode mi.2.1 pc = .ok (.tableswitch dflt lo hi offs, len) ∧ pc + len = pc') (h1 : ¬ x.toInt < lo) (h2 : ¬ hi < x.toInt) (ho : offs[(x.toInt - lo).toNat]? = some off) (ht : (pc : Int) + off = (tgt : Int)) (k : J d mi tgt ls st w Q) : J d mi pc ls (.int x :: st) w Q := by
  intro p l e R s m args below meth c H locs q D dA A arr hR C hS hP hD hl
  exact lv_tableIn C.1 C.2.1 h.1 h1 h2 ho ht (k p l e R s m args below meth c H locs q D dA A arr hR C hS hP hD hl)
theorem j_lsw {dflt : Int} {ps : Array (Int × Int)} {len : Nat} {x : Int32} {off : Int} {tgt : Nat} (h : decode mi.2.1 pc = .ok (.lookupswitch dflt ps, len) ∧ pc + len = pc') (hp : (ps.toList.zip (ps.toList.drop 1)).all (fun (a, next) => a.1 < next.1) = true) (ho : Op.lookupswitch.offset ps.toList dflt x.toInt = off) (ht : (pc : Int) + off = (tgt : Int)) (k : J d mi tgt ls st w Q) : J d mi pc ls (.int x :: st) w Q := by
  intro p l e R s m args below meth c H locs q D dA A arr hR C hS hP hD hl
  exact lv_lookup C.1 C.2.1 h.1 hp ho ht (k p l e R s m args below meth c H locs q D dA A arr hR C hS hP hD hl)
theorem j_get {idx ci kf a : Nat} {ty : FieldType} {fin : Bool} {fs : List Value} {v : Value} (hf : FOK mi.1.cls idx ci kf ty fin) (h : decode mi.2.1 pc = .ok (.getfield idx, 3) ∧ pc + 3 = pc') (hc : w[a]? = some (.inr (ci, fs))) (hv : fs[kf]? = some v) (k : J d mi pc' ls (v :: st) w Q) : J d mi pc ls (.ref a :: st) w Q := by
  intro p l e R s m args below meth c H locs q D dA A arr hR C hS hP hD hl
  obtain ⟨h, rfl⟩ := h
  obtain ⟨CC, T, N, ty0, g1, g2, g3, g4, g5, g6, g7, g8⟩ := hf
  exact va_get (ref := (T kf).1) C.1 C.2.1 C.2.2.2.2.2.2.1 g2 C.2.2.2.2.2.1 C.2.2.2.2.2.2.2.2.1 hP a (cW_get hc) g1 kf g5 (C.2.2.2.2.2.2.1 _ g8) (fun _ h9 => h9) (v := cV q v) (by simp [hv]) h (k p l e R s m args below meth c H locs q D dA A arr hR C hS hP hD hl)
theorem j_put {idx ci kf a : Nat} {ty : FieldType} {fs : List Value} {v : Value} (hf : FOK mi.1.cls idx ci kf ty false) (h : decode mi.2.1 pc = .ok (.putfield idx, 3) ∧ pc + 3 = pc') (hc : w[a]? = some (.inr (ci, fs))) (hn : ∀ q, narrow ty (cV q v) = cV q v) (hfit : ∀ q, fits ty (cV q v) = true) (hk : kf < fs.length) (k : J d mi pc' ls st (w.set a (.inr (ci, fs.set kf v))) Q) : J d mi pc ls (v :: .ref a :: st) w Q := by
  intro p l e R s m args below meth c H locs q D dA A arr hR C hS hP hD hl
  obtain ⟨h, rfl⟩ := h
  obtain ⟨CC, T, N, ty0, g1, g2, g3, g4, g5, g6, g7, g8⟩ := hf
  subst g6
  refine va_put (ref := (T kf).1) C.1 C.2.1 C.2.2.2.2.2.2.1 g2 ty0 g3 g4 C.2.2.2.2.2.1 C.2.2.2.2.2.2.2.2.1 hP hD hS a (cW_get hc) g1 kf g5 (C.2.2.2.2.2.2.1 _ g8) (fun _ h9 => h9) g7 (g3 kf g5) (hn q) (hfit q) (by simpa using hk) h fun H1 locs1 hP1 hD1 hS1 => ?_
  have e1 : (cW q dA w).set a (q a, Sum.inr (ci, (List.map (cV q) fs).set kf (cV q v))) = cW q dA (w.set a (.inr (ci, fs.set kf v))) := by
    rw [← cW_set]; simp only [cE, List.map_set]
  rw [e1] at hP1 hD1
  exact k p l e R s m args below meth c H1 locs1 q D dA A arr hR C hS1 hP1 hD1 hl
theorem j_iald {a n : Nat} {f : Nat → Int32} {i : Int32} (h : decode mi.2.1 pc = .ok (.iaload, 1) ∧ pc + 1 = pc') (hc : w[a]? = some (iA n f)) (hi : vp_in i n) (k : J d mi pc' ls (.int (f i.toNatClampNeg) :: st) w Q) : J d mi pc ls (.int i :: .ref a :: st) w Q := by
  intro p l e R s m args below meth c H locs q D dA A arr hR C hS hP hD hl
  obtain ⟨h, rfl⟩ := h
  exact va_iald C.1 C.2.1 C.2.2.2.2.2.2.2.2.1 hP a 0 (cW_get hc) rfl hi h (k p l e R s m args below meth c H locs q D dA A arr hR C hS hP hD hl)
theorem j_bald {a n : Nat} {f : Nat → Int32} {i : Int32} (h : decode mi.2.1 pc = .ok (.baload, 1) ∧ pc + 1 = pc') (hc : w[a]? = some (bA n f)) (hi : vp_in i n) (k : J d mi pc' ls (.int (f i.toNatClampNeg) :: st) w Q) : J d mi pc ls (.int i :: .ref a :: st) w Q := by
  intro p l e R s m args below meth c H locs q D dA A arr hR C hS hP hD hl
  obtain ⟨h, rfl⟩ := h
  exact va_bald C.1 C.2.1 C.2.2.2.2.2.2.2.2.1 hP a 1 (cW_get hc) rfl hi h (k p l e R s m args below meth c H locs q D dA A arr hR C hS hP hD hl)
theorem j_aald {a n b : Nat} {f : Nat → Option Nat} {i : Int32} (h : decode mi.2.1 pc = .ok (.aaload, 1) ∧ pc + 1 = pc') (hc : w[a]? = some (rA n f)) (hi : vp_in i n) (hb : f i.toNatClampNeg = some b) (k : J d mi pc' ls (.ref b :: st) w Q) : J d mi pc ls (.int i :: .ref a :: st) w Q := by
  intro p l e R s m args below meth c H locs q D dA A arr hR C hS hP hD hl
  obtain ⟨h, rfl⟩ := h
  have hlt : i.toNatClampNeg < n := Nat.not_le.mp fun q => hi (Or.inr q)
  have hg : H[q a]? = some (arrV (dA 2) n (fun j => va_rf ((f j).map q))) := hP a _ (cW_get hc)
  refine W.aald (v := .ref (q b)) (ty := .array .int) C.1 C.2.1 hg ((C.2.2.2.2.2.2.2.2.1.2 2 _ rfl).1 n (fun j => va_rf ((f j).map q))) rfl (fun q => by cases q) (by show ¬ (i < 0 ∨ (arrV _ _ _).slots.size ≤ _); rw [arrV_size]; exact hi) (by show (arrV _ _ _).slots[_]? = _; rw [arrV_read _ _ hlt]; simp [hb, va_rf]) rfl rfl h (k p l e R s m args below meth c H locs q D dA A arr hR C hS hP hD hl)
theorem j_alen {a n : Nat} {t : Nat} {x : _} {v : Int32} (h : decode mi.2.1 pc = .ok (.arraylength, 1) ∧ pc + 1 = pc') (hc : w[a]? = some (.inl (t, n, x))) (ht : t < 3) (hv : Int32.ofNat n = v) (k : J d mi pc' ls (.int v :: st) w Q) : J d mi pc ls (.ref a :: st) w Q := by
  intro p l e R s m args below meth c H locs q D dA A arr hR C hS hP hD hl
  obtain ⟨h, rfl⟩ := h
  have hx : ∃ y, (cW q dA w)[a]? = some (q a, .inl (dA t, n, y)) := by
    refine ⟨(cR q (n, x)).2, ?_⟩
    rw [cW_get hc]
    rcases x with x | x | x | x | x <;> rfl
  obtain ⟨y, hx⟩ := hx
  rcases (show t = 0 ∨ t = 1 ∨ t = 2 by omega) with rfl | rfl | rfl
  · exact va_alen C.1 C.2.1 C.2.2.2.2.2.2.2.2.1 hP a 0 hx rfl hv h (k p l e R s m args below meth c H locs q D dA A arr hR C hS hP hD hl)
  · exact va_alen C.1 C.2.1 C.2.2.2.2.2.2.2.2.1 hP a 1 hx rfl hv h (k p l e R s m args below meth c H locs q D dA A arr hR C hS hP hD hl)
  · exact va_alen C.1 C.2.1 C.2.2.2.2.2.2.2.2.1 hP a 2 hx rfl hv h (k p l e R s m args below meth c H locs q D dA A arr hR C hS hP hD hl)
theorem j_iast {a n : Nat} {f : Nat → Int32} {i x : Int32} (h : decode mi.2.1 pc = .ok (.iastore, 1) ∧ pc + 1 = pc') (hc : w[a]? = some (iA n f)) (hi : vp_in i n) (k : J d mi pc' ls st (w.set a (iA n (upd f i.toNatClampNeg x))) Q) : J d mi pc ls (.int x :: .int i :: .ref a :: st) w Q := by
  intro p l e R s m args below meth c H locs q D dA A arr hR C hS hP hD hl
  obtain ⟨h, rfl⟩ := h
  refine va_iast C.1 C.2.1 C.2.2.2.2.2.2.2.2.1 hP hD hS a 0 (cW_get hc) rfl hi h fun H1 locs1 hP1 hD1 hS1 => ?_
  exact k p l e R s m args below meth c H1 locs1 q D dA A arr hR C hS1 (by rw [← cW_set]; exact hP1) (by rw [← cW_set]; exact hD1) hl
theorem j_bast {a n : Nat} {f : Nat → Int32} {i x : Int32} (h : decode mi.2.1 pc = .ok (.bastore, 1) ∧ pc + 1 = pc') (hc : w[a]? = some (bA n f)) (hi : vp_in i n) (k : J d mi pc' ls st (w.set a (bA n (upd f i.toNatClampNeg (vp_nar .byte x)))) Q) : J d mi pc ls (.int x :: .int i :: .ref a :: st) w Q := by
  intro p l e R s m args below meth c H locs q D dA A arr hR C hS hP hD hl
  obtain ⟨h, rfl⟩ := h
  refine va_bast C.1 C.2.1 C.2.2.2.2.2.2.2.2.1 hP hD hS a 1 (cW_get hc) rfl hi h fun H1 locs1 hP1 hD1 hS1 => ?_
  exact k p l e R s m args below meth c H1 locs1 q D dA A arr hR C hS1 (by rw [← cW_set]; exact hP1) (by rw [← cW_set]; exact hD1) hl
theorem j_mmax {x y : Int32} {idx : Nat} (hlink : Cond.methodLink mi.1.cls idx Lib.Math.max.name ∈ UW) (h : decode mi.2.1 pc = .ok (.invokestatic idx, 3) ∧ pc + 3 = pc') (hd : 1 ≤ d) (hr : (st.map fun v => v.category).sum ≤ 8) (k : J d mi pc' ls (.int (if x < y then y else x) :: st) w Q) : J d mi pc ls (.int y :: .int x :: st) w Q := by
  intro p l e R s m args below meth c H locs q D dA A arr hR C hS hP hD hl
  obtain ⟨h, rfl⟩ := h
  have hr2 : ((st.map (cV q)).map fun v => v.category).sum ≤ 8 := by
    rw [List.map_map, show ((fun v : Value => v.category) ∘ cV q) = fun v => v.category from funext fun v => cV_cat q v]
    exact hr
  exact va_mmax C.1 C.2.1 (C.2.2.1.trans hl.1.symm) C.2.2.2.2.2.1 (C.2.2.2.2.2.2.1 _ hlink) (C.2.2.2.2.2.2.1 _ math_max.1) (C.2.2.2.2.2.2.1 _ math_init) (C.2.2.2.2.2.2.1 _ math_max.2) (by omega) (by omega) (Nat.zero_le _) (Nat.zero_le _) h (k p l e R s m args below meth c H locs q D dA A arr hR C hS hP hD hl)
theorem j_mmin {x y : Int32} {idx : Nat} (hlink : Cond.methodLink mi.1.cls idx Lib.Math.min.name ∈ UW) (h : decode mi.2.1 pc = .ok (.invokestatic idx, 3) ∧ pc + 3 = pc') (hd : 1 ≤ d) (hr : (st.map fun v => v.category).sum ≤ 8) (k : J d mi pc' ls (.int (if y < x then y else x) :: st) w Q) : J d mi pc ls (.int y :: .int x :: st) w Q := by
  intro p l e R s m args below meth c H locs q D dA A arr hR C hS hP hD hl
  obtain ⟨h, rfl⟩ := h
  have hr2 : ((st.map (cV q)).map fun v => v.category).sum ≤ 8 := by
    rw [List.map_map, show ((fun v : Value => v.category) ∘ cV q) = fun v => v.category from funext fun v => cV_cat q v]
    exact hr
  exact va_mmin C.1 C.2.1 (C.2.2.1.trans hl.1.symm) C.2.2.2.2.2.1 (C.2.2.2.2.2.2.1 _ hlink) (C.2.2.2.2.2.2.1 _ math_min.1) (C.2.2.2.2.2.2.1 _ math_init) (C.2.2.2.2.2.2.1 _ math_min.2) (by omega) (by omega) (Nat.zero_le _) (Nat.zero_le _) h (k p l e R s m args below meth c H locs q D dA A arr hR C hS hP hD hl)
theorem j_mabs {x : Int32} {idx : Nat} (hlink : Cond.methodLink mi.1.cls idx Lib.Math.abs.name ∈ UW) (h : decode mi.2.1 pc = .ok (.invokestatic idx, 3) ∧ pc + 3 = pc') (hd : 1 ≤ d) (hr : (st.map fun v => v.category).sum ≤ 8) (k : J d mi pc' ls (.int (if 0 ≤ x then x else 0 - x) :: st) w Q) : J d mi pc ls (.int x :: st) w Q := by
  intro p l e R s m args below meth c H locs q D dA A arr hR C hS hP hD hl
  obtain ⟨h, rfl⟩ := h
  have hr2 : ((st.map (cV q)).map fun v => v.category).sum ≤ 8 := by
    rw [List.map_map, show ((fun v : Value => v.category) ∘ cV q) = fun v => v.category from funext fun v => cV_cat q v]
    exact hr
  exact va_mabs C.1 C.2.1 (C.2.2.1.trans hl.1.symm) C.2.2.2.2.2.1 (C.2.2.2.2.2.2.1 _ hlink) (C.2.2.2.2.2.2.1 _ math_abs.1) (C.2.2.2.2.2.2.1 _ math_init) (C.2.2.2.2.2.2.1 _ math_abs.2) (by omega) (by omega) (Nat.zero_le _) (Nat.zero_le _) h (k p l e R s m args below meth c H locs q D dA A arr hR C hS hP hD hl)
theorem j_ldcS (hy : mi.1.cls = "LeapBoard$Page") (h : decode mi.2.1 pc = .ok (.ldc 46, 2) ∧ pc + 2 = pc') (k : J d mi pc' ls (.ref 1000 :: st) w Q) : J d mi pc ls st w Q := by
  intro p l e R s m args below meth c H locs q D dA A arr hR C hS hP hD hl
  obtain ⟨h, rfl⟩ := h
  exact va_ldcS C.1 C.2.1 (by rw [← hy]; exact C.2.2.2.2.2.1) C.2.2.2.2.2.2.2.2.2.2.1 h (k p l e R s m args below meth c H locs q D dA A arr hR C hS hP hD hl)
theorem j_getSv {idx : Nat} (hlink : Cond.fieldLink mi.1.cls idx "java/lang/String" "value" "[B" ∈ UW) (h : decode mi.2.1 pc = .ok (.getfield idx, 3) ∧ pc + 3 = pc') (k : J d mi pc' ls (.ref 1001 :: st) w Q) : J d mi pc ls (.ref 1000 :: st) w Q := by
  intro p l e R s m args below meth c H locs q D dA A arr hR C hS hP hD hl
  obtain ⟨h, rfl⟩ := h
  exact vk_getf C.1 C.2.1 (C.2.2.2.2.2.2.2.2.2.1.1 0 (by decide)).2.2.1 hS C.2.2.2.2.2.1 (C.2.2.2.2.2.2.1 _ hlink) (fun _ h9 => h9) h (k p l e R s m args below meth c H locs q D dA A arr hR C hS hP hD hl)
theorem j_getSc {idx : Nat} (hlink : Cond.fieldLink mi.1.cls idx "java/lang/String" "coder" "B" ∈ UW) (h : decode mi.2.1 pc = .ok (.getfield idx, 3) ∧ pc + 3 = pc') (k : J d mi pc' ls (.int 0 :: st) w Q) : J d mi pc ls (.ref 1000 :: st) w Q := by
  intro p l e R s m args below meth c H locs q D dA A arr hR C hS hP hD hl
  obtain ⟨h, rfl⟩ := h
  exact vk_getf C.1 C.2.1 (C.2.2.2.2.2.2.2.2.2.1.1 0 (by decide)).2.1 hS C.2.2.2.2.2.1 (C.2.2.2.2.2.2.1 _ hlink) (fun _ h9 => h9) h (k p l e R s m args below meth c H locs q D dA A arr hR C hS hP hD hl)
theorem j_getsC {idx : Nat} (hlink : Cond.fieldLink mi.1.cls idx "java/lang/String" "COMPACT_STRINGS" "Z" ∈ UW) (h : decode mi.2.1 pc = .ok (.getstatic idx, 3) ∧ pc + 3 = pc') (k : J d mi pc' ls (.int 1 :: st) w Q) : J d mi pc ls st w Q := by
  intro p l e R s m args below meth c H locs q D dA A arr hR C hS hP hD hl
  obtain ⟨h, rfl⟩ := h
  exact va_gets C.1 C.2.1 C.2.2.2.2.2.2.2.2.2.2.2 hS C.2.2.2.2.2.1 (C.2.2.2.2.2.2.1 _ hlink) (fun _ h9 => h9) h (k p l e R s m args below meth c H locs q D dA A arr hR C hS hP hD hl)
theorem j_baldS {i v : Int32} (h : decode mi.2.1 pc = .ok (.baload, 1) ∧ pc + 1 = pc') (hi : vp_in i 5) (hv : ([107, 119, 102, 99, 98] : List Int32).getD i.toNatClampNeg 0 = v) (k : J d mi pc' ls (.int v :: st) w Q) : J d mi pc ls (.int i :: .ref 1001 :: st) w Q := by
  intro p l e R s m args below meth c H locs q D dA A arr hR C hS hP hD hl
  obtain ⟨h, rfl⟩ := h
  exact va_tb C.1 C.2.1 (C.2.2.2.2.2.2.2.2.2.1.1 0 (by decide)).2.2.2 hS hi (v := .int v) (by subst hv; rfl) h (k p l e R s m args below meth c H locs q D dA A arr hR C hS hP hD hl)
theorem j_alenS (h : decode mi.2.1 pc = .ok (.arraylength, 1) ∧ pc + 1 = pc') (k : J d mi pc' ls (.int 5 :: st) w Q) : J d mi pc ls (.ref 1001 :: st) w Q := by
  intro p l e R s m args below meth c H locs q D dA A arr hR C hS hP hD hl
  obtain ⟨h, rfl⟩ := h
  exact va_tlen C.1 C.2.1 (C.2.2.2.2.2.2.2.2.2.1.1 0 (by decide)).2.2.2 hS (v := 5) (by decide) h (k p l e R s m args below meth c H locs q D dA A arr hR C hS hP hD hl)
theorem j_iret {ty : FieldType} {v : Int32} (h : decode mi.2.1 pc = .ok (.ireturn, 1) ∧ pc + 1 = pc') (hr : mi.2.2.2.1 = some ty) (hn : narrow ty (.int v) = .int v) (hq : Q (some (.int v)) w) : J d mi pc ls [.int v] w Q := by
  intro p l e R s m args below meth c H locs q D dA A arr hR C hS hP hD hl
  have hlocks : meth.locks = false := C.2.2.2.2.1
  refine W.zret C.1 C.2.1 (C.2.2.2.1.trans hr) hn (fun t ht hW => ⟨⟨some (.int v), w, rfl, hq, by rw [ht]; exact hP, va_K.moved hW.alike C.2.2.2.2.2.2.2.2.1, hD⟩, hS.F ht⟩) hS.2.2 h.1
theorem j_lret {v : Int64} (h : decode mi.2.1 pc = .ok (.lreturn, 1) ∧ pc + 1 = pc') (hr : mi.2.2.2.1 = some .long) (hq : Q (some (.long v)) w) : J d mi pc ls [.long v] w Q := by
  intro p l e R s m args below meth c H locs q D dA A arr hR C hS hP hD hl
  have hlocks : meth.locks = false := C.2.2.2.2.1
  refine W.lret C.1 C.2.1 (C.2.2.2.1.trans hr) (fun t ht hW => ⟨⟨some (.long v), w, rfl, hq, by rw [ht]; exact hP, va_K.moved hW.alike C.2.2.2.2.2.2.2.2.1, hD⟩, hS.F ht⟩) hS.2.2 h.1
theorem j_aret {rt : FieldType} {a : Nat} (h : decode mi.2.1 pc = .ok (.areturn, 1) ∧ pc + 1 = pc') (hr : mi.2.2.2.1 = some rt) (hrt : (∃ n, rt = .object n) ∨ ∃ t, rt = .array t) (hq : Q (some (.ref a)) w) : J d mi pc ls [.ref a] w Q := by
  intro p l e R s m args below meth c H locs q D dA A arr hR C hS hP hD hl
  have hlocks : meth.locks = false := C.2.2.2.2.1
  refine W.aret C.1 C.2.1 (C.2.2.2.1.trans hr) hrt (Or.inr ⟨_, rfl⟩) (fun t ht hW => ⟨⟨some (.ref a), w, rfl, hq, by rw [ht]; exact hP, va_K.moved hW.alike C.2.2.2.2.2.2.2.2.1, hD⟩, hS.F ht⟩) hS.2.2 h.1
theorem j_vret (h : decode mi.2.1 pc = .ok (.return_, 1) ∧ pc + 1 = pc') (hr : mi.2.2.2.1 = none) (hq : Q none w) : J d mi pc ls [] w Q := by
  intro p l e R s m args below meth c H locs q D dA A arr hR C hS hP hD hl
  have hlocks : meth.locks = false := C.2.2.2.2.1
  refine W.vret C.1 C.2.1 (C.2.2.2.1.trans hr) (fun t ht hW => ⟨⟨none, w, rfl, hq, by rw [ht]; exact hP, va_K.moved hW.alike C.2.2.2.2.2.2.2.2.1, hD⟩, hS.F ht⟩) hS.2.2 h.1
/-! calls -/
def JPre (q : Nat → Nat) (D : va_G) (dA : Nat → ClassId) (A : Nat → Prop) (w : mW) : State → Prop := fun U => va_P D vwCl (cW q dA w) U.heap ∧ va_K D vwCl (tyA dA) U ∧ va_D A (cW q dA w) ∧ Amb q A U U.heap ∧ ∀ w ∈ NW, va_Nw w U
def cws (mi : MI) : List Cond := Cond.code mi.1 mi.2.1 mi.2.2.1 mi.2.2.2.1 :: UW
theorem cws_good {mi : MI} (h : mOK mi) : GoodIn UW (cws mi) := fun w hw => by
  rcases List.mem_cons.mp hw with rfl | hw
  · exact ⟨h.1, uw_good h.1⟩
  · exact ⟨hw, uw_good hw⟩
theorem Amb.moved {q : Nat → Nat} {A : Nat → Prop} {u U : State} {H : Heap} (hW : u.WarmedH U.vm) (h : Amb q A u H) : Amb q A U H := ⟨vk_S.moved hW.alike h.1, vk_R.warm hW h.2.1, va_Z.moved hW.alike h.2.2⟩
theorem Amb.kept {q : Nat → Nat} {A : Nat → Prop} {U : State} {H H1 : Heap} (h : Amb q A U H) (hq : ∀ a : Nat, a < H.size → ¬ A a → H1[a]? = H[a]?) : Amb q A U H1 := ⟨vk_S.kept h.1 hq, h.2.1, va_Z.kept h.2.2 hq⟩
theorem JPre.blind {as : List Value} {q : Nat → Nat} {D : va_G} {dA : Nat → ClassId} {A : Nat → Prop} {w : mW} : FrameBlind (va_Pc as (JPre q D dA A w)) := by
  intro a U g mk h
  obtain ⟨h0, h1, h2, h3, h4, h5⟩ := h
  exact ⟨h0, h1, va_K.moved (u := U) (U := U.calling g mk a) (Vm.Alike.refl U.vm) h2, h3, ⟨vk_S.moved (u := U) (U := U.calling g mk a) (Vm.Alike.refl U.vm) h4.1, vk_R.same (u := U) (U := U.calling g mk a) rfl h4.2.1, va_Z.moved (u := U) (U := U.calling g mk a) (Vm.Alike.refl U.vm) h4.2.2⟩, fun w hw => by
    obtain ⟨a1, i1, x1, h1, e1⟩ := nw_form w hw
    subst e1
    exact va_Nw.same (u := U) (U := U.calling g mk a) rfl rfl (h5 _ hw)⟩
theorem JC.pre {p : Program} {s : State} {m : MethodId} {args : Array Value} {meth : Method} {c : Code} {H : Heap} {locs : List Loc} {q : Nat → Nat} {D : va_G} {dA : Nat → ClassId} {A : Nat → Prop} (C : JC p s m args meth c mi q D dA A) (hS : va_S A s.heap H locs) (hP : va_P D vwCl (cW q dA w) H) (hD : va_D A (cW q dA w)) (U : State) (hU : U.heap = H) (hW : s.WarmedH U.vm) : JPre q D dA A w U := by
  refine ⟨by rw [hU]; exact hP, va_K.moved hW.alike C.2.2.2.2.2.2.2.2.1, hD, ?_, fun w hw => ?_⟩
  · rw [hU]
    exact (Amb.moved hW C.2.2.2.2.2.2.2.2.2).kept hS.2.1
  · obtain ⟨a1, i1, x1, h1, e1⟩ := nw_form w hw
    subst e1
    exact va_Nw.warmM hW (C.2.2.2.2.2.2.2.1 _ hw)
/-- a judgement at a method's entry is its contract -/
theorem J_met {as : List Value} (hm : mOK mi) (hlen : (entL as).length ≤ mi.2.2.1) (hJ : JX d mi as w Q) (l : Launch) (q : Nat → Nat) (D : va_G) (dA : Nat → ClassId) (A : Nat → Prop) : Met l mi.1 (cws mi) (jR d) (va_Pc (as.map (cV q)) (JPre q D dA A w)) (JQ q D dA A Q) 0 0 A := by
  refine Met.ofW (cc := mi.2.1) (maxL := mi.2.2.1) (ret := mi.2.2.2.1) hm.2.2.2.2.1 rfl ?_
  intro p e s m args below meth c s₁ B hml hv
  obtain ⟨rfl, hP, hK, hD, hA, hN⟩ := hv
  have hts := atoms_spec (ws := cws mi) B.pre
  have h := hJ p l e (headSpec (cws mi) (jR d)).room s m (as.map (cV q)).toArray below meth c s.heap [] q D dA A ((lg_sl (as.map (cV q)) ++ List.replicate (mi.2.2.1 - (lg_sl (as.map (cV q))).length) Slot.unset).toArray) ⟨Nat.le_refl _, Nat.le_refl _⟩
    ⟨B.exec, B.bytes, hml, B.returns, B.notSynchronized, findClass_of_methodNamed B.named, fun w hw => hts w (List.mem_cons_of_mem _ hw), hN, hK, hA⟩ va_S.rf hP hD
    (lvH.of (lv_entry (as.map (cV q)) (by rw [entL_len]; exact hlen)) fun i v h1 h2 => ent_mem h1 h2)
  rw [lg_entry_eq]
  exact h
theorem j_run {mi' : MI} {as rest : List Value} {d' : Nat} (hc : JX d' mi' as w Q')
    (kk : ∀ v w', Q' v w' → J d mi pc' ls (v.toList ++ rest) w' Q) {p : Program} {l : Launch} {e : Env} {R : Room} {s : State} {m : MethodId} {args : Array Value} {below : List Frame} {meth : Method} {c : Code} {H : Heap} {locs : List Loc} {q : Nat → Nat} {D : va_G} {dA : Nat → ClassId} {A : Nat → Prop} {arr : Array Slot} {st0 : List Value} {a : Array Value}
    (hR : d ≤ R.frames ∧ 64 * d ≤ R.locals) (C : JC p s m args meth c mi q D dA A) (hS : va_S A s.heap H locs) (hl : lvH q arr mi.2.2.1 ls) (hpc : pc + 3 = pc')
    (hr : va_Run p l e R s m args below meth c H locs 0 0 0 0 (F0 m pc arr st0) (rest.map (cV q)) (JQ q D dA A Q' a) A) : W p l e R s m args below meth c H locs 0 0 (MQ below (JQ q D dA A Q) args s 0 0 A) (F0 m pc arr st0) := by
  intro T hT X
  obtain ⟨v, st₀, t, T', L, h0, X', hL, e1, e2, ⟨⟨v1, w', hv, hp, hP1, hK1, hD1⟩, hz, hk⟩, stp⟩ := hr T hT X
  cases hv
  rw [h0] at hz hk
  obtain ⟨t2, a1, b1⟩ := kk v1 w' hp p l e R s m args below meth c T'.heap (locs ++ L) q D dA A arr hR C
    ⟨Nat.le_trans hS.1 (by rw [e1]; exact hz), fun x h1 h2 => by rw [e1, hk x (Nat.lt_of_lt_of_le h1 hS.1) h2]; exact hS.2.1 x h1 h2, fun x hx => by
      rcases List.mem_append.mp hx with h | h
      · exact hS.2.2 x h
      · exact hL x h⟩ (by rw [e1]; exact hP1) hD1 hl T' rfl X'
  refine ⟨t2, stp t2 ?_, b1⟩
  subst hpc
  have : (F0 m (pc + 3) arr ((v1.toList ++ rest).map (cV q))) = { (F0 m pc arr st0) with pc := pc + 3, stack := (v1.map (cV q)).toList ++ rest.map (cV q) } := by
    cases v1 <;> simp
  rw [← this]
  exact a1
theorem hroom {rest : List Value} {q : Nat → Nat} {m : MethodId} {pc : Nat} {arr : Array Slot} {st0 : List Value} (h : (rest.map fun v => v.category).sum ≤ 8) : 2 * (F0 m pc arr st0).monitorRoom + ((rest.map (cV q)).map fun v => v.category).sum ≤ 8 := by
  refine lv_room ?_
  rw [List.map_map, show ((fun v : Value => v.category) ∘ cV q) = fun v => v.category from funext fun v => cV_cat q v]
  exact h
theorem j_callS {mi' : MI} {as rest : List Value} {d' idx : Nat} (hm : mS mi') (hlink : Cond.methodLink mi.1.cls idx mi'.1 ∈ UW) (h : decode mi.2.1 pc = .ok (.invokestatic idx, 3) ∧ pc + 3 = pc') (hd : d' + 1 ≤ d) (hc : JX d' mi' as w Q') (hn : as.length = mi'.2.2.2.2) (he : (entL as).length ≤ mi'.2.2.1) (hr : (rest.map fun v => v.category).sum ≤ 8)
    (kk : ∀ v w', Q' v w' → J d mi pc' ls (v.toList ++ rest) w' Q) : J d mi pc ls (as.reverse ++ rest) w Q := by
  intro p l e R s m args below meth c H locs q D dA A arr hR C hS hP hD hl
  refine j_run hc kk hR C hS hl h.2 (va_runS (As := as.map (cV q)) (rest := rest.map (cV q)) (Ts := UW) (own := mi.1.cls) (n := mi'.2.2.2.2) ⟨C.1, C.2.1, C.2.2.1, C.2.2.2.2.2.1, C.2.2.2.2.2.2.1⟩ (J_met hm.1 he hc l q D dA A) ⟨callB_of _ C.2.2.2.2.2.2.1 (cws_good hm.1) rfl rfl rfl (C.2.2.2.2.2.2.1 _ hm.1.2.1) (C.2.2.2.2.2.2.1 _ hlink) ⟨hm.1.2.2.1.1, hm.1.2.2.1.2, hm.1.2.2.2.1⟩ ⟨?_, ?_⟩, C.2.2.2.2.2.2.1 _ hm.2⟩ ⟨JPre.blind, fun U hU hW => ⟨rfl, C.pre hS hP hD U hU hW⟩⟩ rfl (by rw [List.length_map]; exact hn) hl.1 (by simp) (hroom hr) h.1 ⟨Nat.zero_le _, Nat.zero_le _⟩)
  · show d' + 1 ≤ R.frames; omega
  · have := hm.1.2.2.2.2.2
    show 8 + (mi'.2.2.1 + 11) + 64 * d' ≤ R.locals; omega
theorem j_callSN {mi' : MI} {as rest : List Value} {d' idx : Nat} {host : String} (hm : mS mi') (hlink : Cond.methodLinkNest mi.1.cls idx mi'.1 host ∈ NW) (h : decode mi.2.1 pc = .ok (.invokestatic idx, 3) ∧ pc + 3 = pc') (hd : d' + 1 ≤ d) (hc : JX d' mi' as w Q') (hn : as.length = mi'.2.2.2.2) (he : (entL as).length ≤ mi'.2.2.1) (hr : (rest.map fun v => v.category).sum ≤ 8)
    (kk : ∀ v w', Q' v w' → J d mi pc' ls (v.toList ++ rest) w' Q) : J d mi pc ls (as.reverse ++ rest) w Q := by
  intro p l e R s m args below meth c H locs q D dA A arr hR C hS hP hD hl
  refine j_run hc kk hR C hS hl h.2 (va_runSN (As := as.map (cV q)) (rest := rest.map (cV q)) (Ts := UW) (own := mi.1.cls) (n := mi'.2.2.2.2) ⟨C.1, C.2.1, C.2.2.1, C.2.2.2.2.2.1, C.2.2.2.2.2.2.1⟩ (J_met hm.1 he hc l q D dA A) ⟨va_cnB _ C.2.2.2.2.2.2.1 (cws_good hm.1) rfl rfl rfl (C.2.2.2.2.2.2.2.1 _ hlink) (C.2.2.2.2.2.2.1 _ hm.1.2.1) ⟨hm.1.2.2.1.1, hm.1.2.2.1.2, hm.1.2.2.2.1⟩ ⟨?_, ?_⟩, C.2.2.2.2.2.2.1 _ hm.2, trivial⟩ ⟨JPre.blind, fun U hU hW => ⟨rfl, C.pre hS hP hD U hU hW⟩⟩ rfl (by rw [List.length_map]; exact hn) hl.1 (by simp) (hroom hr) h.1 ⟨Nat.zero_le _, Nat.zero_le _⟩)
  · show d' + 1 ≤ R.frames; omega
  · have := hm.1.2.2.2.2.2
    show 8 + (mi'.2.2.1 + 11) + 64 * d' ≤ R.locals; omega
theorem j_callV {mi' : MI} {as rest fs : List Value} {d' idx a ci N : Nat} {T : u_T} (hm : mV mi') (hlink : Cond.methodLink mi.1.cls idx mi'.1 ∈ UW) (h : decode mi.2.1 pc = .ok (.invokevirtual idx, 3) ∧ pc + 3 = pc') (hd : d' + 1 ≤ d) (ho : w[a]? = some (.inr (ci, fs))) (hci : vwCl[ci]? = some (mi'.1.cls, T, N)) (hc : JX d' mi' (.ref a :: as) w Q') (hn : as.length = mi'.2.2.2.2) (he : (entL (.ref a :: as)).length ≤ mi'.2.2.1) (hr : (rest.map fun v => v.category).sum ≤ 8)
    (kk : ∀ v w', Q' v w' → J d mi pc' ls (v.toList ++ rest) w' Q) : J d mi pc ls (as.reverse ++ .ref a :: rest) w Q := by
  intro p l e R s m args below meth c H locs q D dA A arr hR C hS hP hD hl
  refine j_run hc kk hR C hS hl h.2 (va_runV (As := as.map (cV q)) (rest := rest.map (cV q)) (Ts := UW) (own := mi.1.cls) (n := mi'.2.2.2.2) (C := mi'.1.cls) (b := q a) ⟨C.1, C.2.1, C.2.2.1, C.2.2.2.2.2.1, C.2.2.2.2.2.2.1⟩ (J_met hm.1 he hc l q D dA A) ⟨callB_of _ C.2.2.2.2.2.2.1 (cws_good hm.1) rfl rfl rfl (C.2.2.2.2.2.2.1 _ hm.1.2.1) (C.2.2.2.2.2.2.1 _ hlink) ⟨hm.1.2.2.1.1, hm.1.2.2.1.2, hm.1.2.2.2.1⟩ ⟨?_, ?_⟩, C.2.2.2.2.2.2.1 _ hm.2.1, C.2.2.2.2.2.2.1 _ hm.2.2⟩ ⟨JPre.blind, va_recv C.2.2.2.2.2.2.2.2.1 hP hci (cW_get ho), fun U hU hW => ⟨rfl, C.pre hS hP hD U hU hW⟩⟩ rfl (by rw [List.length_map]; exact hn) hl.1 (by simp [cV]) (hroom hr) h.1 ⟨Nat.zero_le _, Nat.zero_le _⟩)
  · show d' + 1 ≤ R.frames; omega
  · have := hm.1.2.2.2.2.2
    show 8 + (mi'.2.2.1 + 11) + 64 * d' ≤ R.locals; omega
theorem j_callVS {mi' : MI} {as rest : List Value} {d' idx : Nat} (hm : mV mi') (hlink : Cond.methodLink mi.1.cls idx mi'.1 ∈ UW) (h : decode mi.2.1 pc = .ok (.invokevirtual idx, 3) ∧ pc + 3 = pc') (hd : d' + 1 ≤ d) (hci : mi'.1.cls = "java/lang/String") (hc : JX d' mi' (.ref 1000 :: as) w Q') (hn : as.length = mi'.2.2.2.2) (he : (entL (.ref 1000 :: as)).length ≤ mi'.2.2.1) (hr : (rest.map fun v => v.category).sum ≤ 8)
    (kk : ∀ v w', Q' v w' → J d mi pc' ls (v.toList ++ rest) w' Q) : J d mi pc ls (as.reverse ++ .ref 1000 :: rest) w Q := by
  intro p l e R s m args below meth c H locs q D dA A arr hR C hS hP hD hl
  refine j_run hc kk hR C hS hl h.2 (va_runV (As := as.map (cV q)) (rest := rest.map (cV q)) (Ts := UW) (own := mi.1.cls) (n := mi'.2.2.2.2) (C := mi'.1.cls) (b := q 1000) ⟨C.1, C.2.1, C.2.2.1, C.2.2.2.2.2.1, C.2.2.2.2.2.2.1⟩ (J_met hm.1 he hc l q D dA A) ⟨callB_of _ C.2.2.2.2.2.2.1 (cws_good hm.1) rfl rfl rfl (C.2.2.2.2.2.2.1 _ hm.1.2.1) (C.2.2.2.2.2.2.1 _ hlink) ⟨hm.1.2.2.1.1, hm.1.2.2.1.2, hm.1.2.2.2.1⟩ ⟨?_, ?_⟩, C.2.2.2.2.2.2.1 _ hm.2.1, C.2.2.2.2.2.2.1 _ hm.2.2⟩ ⟨JPre.blind, by rw [hci]; exact vk_recv (adK := fun _ => q 1000) C.2.2.2.2.2.2.2.2.2.1 (i := 0) (by decide) hS, fun U hU hW => ⟨rfl, C.pre hS hP hD U hU hW⟩⟩ rfl (by rw [List.length_map]; exact hn) hl.1 (by simp [cV]) (hroom hr) h.1 ⟨Nat.zero_le _, Nat.zero_le _⟩)
  · show d' + 1 ≤ R.frames; omega
  · have := hm.1.2.2.2.2.2
    show 8 + (mi'.2.2.1 + 11) + 64 * d' ≤ R.locals; omega

theorem j_S0R {mi' : MI} {rest : List Value} {d' idx : Nat} {r : Value} {w' : mW}   (hm : mS mi') (hlink : Cond.methodLink mi.1.cls idx mi'.1 ∈ UW) (h : decode mi.2.1 pc = .ok (.invokestatic idx, 3) ∧ pc + 3 = pc') (hd : d' + 1 ≤ d)  (hc : JR d' mi' [] w r w') (hn : 0 = mi'.2.2.2.2) (he : (entL []).length ≤ mi'.2.2.1) (hr : (rest.map fun v => v.category).sum ≤ 8) (kk : J d mi pc' ls (r :: rest) w' Q) : J d mi pc ls (rest) w Q :=
  j_callS (as := []) (rest := rest) hm hlink h hd hc hn he hr (fun v u hvu => by obtain ⟨rfl, rfl⟩ := hvu; exact kk)
theorem j_S0U {mi' : MI} {rest : List Value} {d' idx : Nat} {r : Value} {w' : mW}   (hm : mS mi') (hlink : Cond.methodLink mi.1.cls idx mi'.1 ∈ UW) (h : decode mi.2.1 pc = .ok (.invokestatic idx, 3) ∧ pc + 3 = pc') (hd : d' + 1 ≤ d)  (hc : JV d' mi' [] w w') (hn : 0 = mi'.2.2.2.2) (he : (entL []).length ≤ mi'.2.2.1) (hr : (rest.map fun v => v.category).sum ≤ 8) (kk : J d mi pc' ls rest w' Q) : J d mi pc ls (rest) w Q :=
  j_callS (as := []) (rest := rest) hm hlink h hd hc hn he hr (fun v u hvu => by obtain ⟨rfl, rfl⟩ := hvu; exact kk)
theorem j_S0X {mi' : MI} {rest : List Value} {d' idx : Nat} {r : Value} {w' : mW}   (hm : mS mi') (hlink : Cond.methodLink mi.1.cls idx mi'.1 ∈ UW) (h : decode mi.2.1 pc = .ok (.invokestatic idx, 3) ∧ pc + 3 = pc') (hd : d' + 1 ≤ d)  (hc : JX d' mi' [] w Q') (hn : 0 = mi'.2.2.2.2) (he : (entL []).length ≤ mi'.2.2.1) (hr : (rest.map fun v => v.category).sum ≤ 8) (kk : ∀ v w', Q' v w' → J d mi pc' ls (v.toList ++ rest) w' Q) : J d mi pc ls (rest) w Q :=
  j_callS (as := []) (rest := rest) hm hlink h hd hc hn he hr kk
theorem j_SN0R {mi' : MI} {rest : List Value} {d' idx : Nat} {r : Value} {w' : mW}   (hm : mS mi') {host : String} (hlink : Cond.methodLinkNest mi.1.cls idx mi'.1 host ∈ NW) (h : decode mi.2.1 pc = .ok (.invokestatic idx, 3) ∧ pc + 3 = pc') (hd : d' + 1 ≤ d)  (hc : JR d' mi' [] w r w') (hn : 0 = mi'.2.2.2.2) (he : (entL []).length ≤ mi'.2.2.1) (hr : (rest.map fun v => v.category).sum ≤ 8) (kk : J d mi pc' ls (r :: rest) w' Q) : J d mi pc ls (rest) w Q :=
  j_callSN (as := []) (rest := rest) hm hlink h hd hc hn he hr (fun v u hvu => by obtain ⟨rfl, rfl⟩ := hvu; exact kk)
theorem j_SN0U {mi' : MI} {rest : List Value} {d' idx : Nat} {r : Value} {w' : mW}   (hm : mS mi') {host : String} (hlink : Cond.methodLinkNest mi.1.cls idx mi'.1 host ∈ NW) (h : decode mi.2.1 pc = .ok (.invokestatic idx, 3) ∧ pc + 3 = pc') (hd : d' + 1 ≤ d)  (hc : JV d' mi' [] w w') (hn : 0 = mi'.2.2.2.2) (he : (entL []).length ≤ mi'.2.2.1) (hr : (rest.map fun v => v.category).sum ≤ 8) (kk : J d mi pc' ls rest w' Q) : J d mi pc ls (rest) w Q :=
  j_callSN (as := []) (rest := rest) hm hlink h hd hc hn he hr (fun v u hvu => by obtain ⟨rfl, rfl⟩ := hvu; exact kk)
theorem j_SN0X {mi' : MI} {rest : List Value} {d' idx : Nat} {r : Value} {w' : mW}   (hm : mS mi') {host : String} (hlink : Cond.methodLinkNest mi.1.cls idx mi'.1 host ∈ NW) (h : decode mi.2.1 pc = .ok (.invokestatic idx, 3) ∧ pc + 3 = pc') (hd : d' + 1 ≤ d)  (hc : JX d' mi' [] w Q') (hn : 0 = mi'.2.2.2.2) (he : (entL []).length ≤ mi'.2.2.1) (hr : (rest.map fun v => v.category).sum ≤ 8) (kk : ∀ v w', Q' v w' → J d mi pc' ls (v.toList ++ rest) w' Q) : J d mi pc ls (rest) w Q :=
  j_callSN (as := []) (rest := rest) hm hlink h hd hc hn he hr kk
theorem j_V0R {mi' : MI} {rest : List Value} {d' idx : Nat} {r : Value} {w' : mW}  {a ci N : Nat} {T : u_T} {fs : List Value} (hm : mV mi') (hlink : Cond.methodLink mi.1.cls idx mi'.1 ∈ UW) (h : decode mi.2.1 pc = .ok (.invokevirtual idx, 3) ∧ pc + 3 = pc') (hd : d' + 1 ≤ d) (ho : w[a]? = some (.inr (ci, fs))) (hci : vwCl[ci]? = some (mi'.1.cls, T, N)) (hc : JR d' mi' [.ref a] w r w') (hn : 0 = mi'.2.2.2.2) (he : (entL [.ref a]).length ≤ mi'.2.2.1) (hr : (rest.map fun v => v.category).sum ≤ 8) (kk : J d mi pc' ls (r :: rest) w' Q) : J d mi pc ls (.ref a :: rest) w Q :=
  j_callV (as := []) (rest := rest) hm hlink h hd ho hci hc hn he hr (fun v u hvu => by obtain ⟨rfl, rfl⟩ := hvu; exact kk)
theorem j_V0U {mi' : MI} {rest : List Value} {d' idx : Nat} {r : Value} {w' : mW}  {a ci N : Nat} {T : u_T} {fs : List Value} (hm : mV mi') (hlink : Cond.methodLink mi.1.cls idx mi'.1 ∈ UW) (h : decode mi.2.1 pc = .ok (.invokevirtual idx, 3) ∧ pc + 3 = pc') (hd : d' + 1 ≤ d) (ho : w[a]? = some (.inr (ci, fs))) (hci : vwCl[ci]? = some (mi'.1.cls, T, N)) (hc : JV d' mi' [.ref a] w w') (hn : 0 = mi'.2.2.2.2) (he : (entL [.ref a]).length ≤ mi'.2.2.1) (hr : (rest.map fun v => v.category).sum ≤ 8) (kk : J d mi pc' ls rest w' Q) : J d mi pc ls (.ref a :: rest) w Q :=
  j_callV (as := []) (rest := rest) hm hlink h hd ho hci hc hn he hr (fun v u hvu => by obtain ⟨rfl, rfl⟩ := hvu; exact kk)
theorem j_V0X {mi' : MI} {rest : List Value} {d' idx : Nat} {r : Value} {w' : mW}  {a ci N : Nat} {T : u_T} {fs : List Value} (hm : mV mi') (hlink : Cond.methodLink mi.1.cls idx mi'.1 ∈ UW) (h : decode mi.2.1 pc = .ok (.invokevirtual idx, 3) ∧ pc + 3 = pc') (hd : d' + 1 ≤ d) (ho : w[a]? = some (.inr (ci, fs))) (hci : vwCl[ci]? = some (mi'.1.cls, T, N)) (hc : JX d' mi' [.ref a] w Q') (hn : 0 = mi'.2.2.2.2) (he : (entL [.ref a]).length ≤ mi'.2.2.1) (hr : (rest.map fun v => v.category).sum ≤ 8) (kk : ∀ v w', Q' v w' → J d mi pc' ls (v.toList ++ rest) w' Q) : J d mi pc ls (.ref a :: rest) w Q :=
  j_callV (as := []) (rest := rest) hm hlink h hd ho hci hc hn he hr kk
theorem j_S1R {mi' : MI} {rest : List Value} {d' idx : Nat} {r : Value} {w' : mW} {a0 : Value}  (hm : mS mi') (hlink : Cond.methodLink mi.1.cls idx mi'.1 ∈ UW) (h : decode mi.2.1 pc = .ok (.invokestatic idx, 3) ∧ pc + 3 = pc') (hd : d' + 1 ≤ d)  (hc : JR d' mi' [a0] w r w') (hn : 1 = mi'.2.2.2.2) (he : (entL [a0]).length ≤ mi'.2.2.1) (hr : (rest.map fun v => v.category).sum ≤ 8) (kk : J d mi pc' ls (r :: rest) w' Q) : J d mi pc ls (a0 :: rest) w Q :=
  j_callS (as := [a0]) (rest := rest) hm hlink h hd hc hn he hr (fun v u hvu => by obtain ⟨rfl, rfl⟩ := hvu; exact kk)
theorem j_S1U {mi' : MI} {rest : List Value} {d' idx : Nat} {r : Value} {w' : mW} {a0 : Value}  (hm : mS mi') (hlink : Cond.methodLink mi.1.cls idx mi'.1 ∈ UW) (h : decode mi.2.1 pc = .ok (.invokestatic idx, 3) ∧ pc + 3 = pc') (hd : d' + 1 ≤ d)  (hc : JV d' mi' [a0] w w') (hn : 1 = mi'.2.2.2.2) (he : (entL [a0]).length ≤ mi'.2.2.1) (hr : (rest.map fun v => v.category).sum ≤ 8) (kk : J d mi pc' ls rest w' Q) : J d mi pc ls (a0 :: rest) w Q :=
  j_callS (as := [a0]) (rest := rest) hm hlink h hd hc hn he hr (fun v u hvu => by obtain ⟨rfl, rfl⟩ := hvu; exact kk)
theorem j_S1X {mi' : MI} {rest : List Value} {d' idx : Nat} {r : Value} {w' : mW} {a0 : Value}  (hm : mS mi') (hlink : Cond.methodLink mi.1.cls idx mi'.1 ∈ UW) (h : decode mi.2.1 pc = .ok (.invokestatic idx, 3) ∧ pc + 3 = pc') (hd : d' + 1 ≤ d)  (hc : JX d' mi' [a0] w Q') (hn : 1 = mi'.2.2.2.2) (he : (entL [a0]).length ≤ mi'.2.2.1) (hr : (rest.map fun v => v.category).sum ≤ 8) (kk : ∀ v w', Q' v w' → J d mi pc' ls (v.toList ++ rest) w' Q) : J d mi pc ls (a0 :: rest) w Q :=
  j_callS (as := [a0]) (rest := rest) hm hlink h hd hc hn he hr kk
theorem j_SN1R {mi' : MI} {rest : List Value} {d' idx : Nat} {r : Value} {w' : mW} {a0 : Value}  (hm : mS mi') {host : String} (hlink : Cond.methodLinkNest mi.1.cls idx mi'.1 host ∈ NW) (h : decode mi.2.1 pc = .ok (.invokestatic idx, 3) ∧ pc + 3 = pc') (hd : d' + 1 ≤ d)  (hc : JR d' mi' [a0] w r w') (hn : 1 = mi'.2.2.2.2) (he : (entL [a0]).length ≤ mi'.2.2.1) (hr : (rest.map fun v => v.category).sum ≤ 8) (kk : J d mi pc' ls (r :: rest) w' Q) : J d mi pc ls (a0 :: rest) w Q :=
  j_callSN (as := [a0]) (rest := rest) hm hlink h hd hc hn he hr (fun v u hvu => by obtain ⟨rfl, rfl⟩ := hvu; exact kk)
theorem j_SN1U {mi' : MI} {rest : List Value} {d' idx : Nat} {r : Value} {w' : mW} {a0 : Value}  (hm : mS mi') {host : String} (hlink : Cond.methodLinkNest mi.1.cls idx mi'.1 host ∈ NW) (h : decode mi.2.1 pc = .ok (.invokestatic idx, 3) ∧ pc + 3 = pc') (hd : d' + 1 ≤ d)  (hc : JV d' mi' [a0] w w') (hn : 1 = mi'.2.2.2.2) (he : (entL [a0]).length ≤ mi'.2.2.1) (hr : (rest.map fun v => v.category).sum ≤ 8) (kk : J d mi pc' ls rest w' Q) : J d mi pc ls (a0 :: rest) w Q :=
  j_callSN (as := [a0]) (rest := rest) hm hlink h hd hc hn he hr (fun v u hvu => by obtain ⟨rfl, rfl⟩ := hvu; exact kk)
theorem j_SN1X {mi' : MI} {rest : List Value} {d' idx : Nat} {r : Value} {w' : mW} {a0 : Value}  (hm : mS mi') {host : String} (hlink : Cond.methodLinkNest mi.1.cls idx mi'.1 host ∈ NW) (h : decode mi.2.1 pc = .ok (.invokestatic idx, 3) ∧ pc + 3 = pc') (hd : d' + 1 ≤ d)  (hc : JX d' mi' [a0] w Q') (hn : 1 = mi'.2.2.2.2) (he : (entL [a0]).length ≤ mi'.2.2.1) (hr : (rest.map fun v => v.category).sum ≤ 8) (kk : ∀ v w', Q' v w' → J d mi pc' ls (v.toList ++ rest) w' Q) : J d mi pc ls (a0 :: rest) w Q :=
  j_callSN (as := [a0]) (rest := rest) hm hlink h hd hc hn he hr kk
theorem j_V1R {mi' : MI} {rest : List Value} {d' idx : Nat} {r : Value} {w' : mW} {a0 : Value} {a ci N : Nat} {T : u_T} {fs : List Value} (hm : mV mi') (hlink : Cond.methodLink mi.1.cls idx mi'.1 ∈ UW) (h : decode mi.2.1 pc = .ok (.invokevirtual idx, 3) ∧ pc + 3 = pc') (hd : d' + 1 ≤ d) (ho : w[a]? = some (.inr (ci, fs))) (hci : vwCl[ci]? = some (mi'.1.cls, T, N)) (hc : JR d' mi' [.ref a, a0] w r w') (hn : 1 = mi'.2.2.2.2) (he : (entL [.ref a, a0]).length ≤ mi'.2.2.1) (hr : (rest.map fun v => v.category).sum ≤ 8) (kk : J d mi pc' ls (r :: rest) w' Q) : J d mi pc ls (a0 :: .ref a :: rest) w Q :=
  j_callV (as := [a0]) (rest := rest) hm hlink h hd ho hci hc hn he hr (fun v u hvu => by obtain ⟨rfl, rfl⟩ := hvu; exact kk)
theorem j_V1U {mi' : MI} {rest : List Value} {d' idx : Nat} {r : Value} {w' : mW} {a0 : Value} {a ci N : Nat} {T : u_T} {fs : List Value} (hm : mV mi') (hlink : Cond.methodLink mi.1.cls idx mi'.1 ∈ UW) (h : decode mi.2.1 pc = .ok (.invokevirtual idx, 3) ∧ pc + 3 = pc') (hd : d' + 1 ≤ d) (ho : w[a]? = some (.inr (ci, fs))) (hci : vwCl[ci]? = some (mi'.1.cls, T, N)) (hc : JV d' mi' [.ref a, a0] w w') (hn : 1 = mi'.2.2.2.2) (he : (entL [.ref a, a0]).length ≤ mi'.2.2.1) (hr : (rest.map fun v => v.category).sum ≤ 8) (kk : J d mi pc' ls rest w' Q) : J d mi pc ls (a0 :: .ref a :: rest) w Q :=
  j_callV (as := [a0]) (rest := rest) hm hlink h hd ho hci hc hn he hr (fun v u hvu => by obtain ⟨rfl, rfl⟩ := hvu; exact kk)
theorem j_V1X {mi' : MI} {rest : List Value} {d' idx : Nat} {r : Value} {w' : mW} {a0 : Value} {a ci N : Nat} {T : u_T} {fs : List Value} (hm : mV mi') (hlink : Cond.methodLink mi.1.cls idx mi'.1 ∈ UW) (h : decode mi.2.1 pc = .ok (.invokevirtual idx, 3) ∧ pc + 3 = pc') (hd : d' + 1 ≤ d) (ho : w[a]? = some (.inr (ci, fs))) (hci : vwCl[ci]? = some (mi'.1.cls, T, N)) (hc : JX d' mi' [.ref a, a0] w Q') (hn : 1 = mi'.2.2.2.2) (he : (entL [.ref a, a0]).length ≤ mi'.2.2.1) (hr : (rest.map fun v => v.category).sum ≤ 8) (kk : ∀ v w', Q' v w' → J d mi pc' ls (v.toList ++ rest) w' Q) : J d mi pc ls (a0 :: .ref a :: rest) w Q :=
  j_callV (as := [a0]) (rest := rest) hm hlink h hd ho hci hc hn he hr kk
theorem j_S2R {mi' : MI} {rest : List Value} {d' idx : Nat} {r : Value} {w' : mW} {a0 a1 : Value}  (hm : mS mi') (hlink : Cond.methodLink mi.1.cls idx mi'.1 ∈ UW) (h : decode mi.2.1 pc = .ok (.invokestatic idx, 3) ∧ pc + 3 = pc') (hd : d' + 1 ≤ d)  (hc : JR d' mi' [a0, a1] w r w') (hn : 2 = mi'.2.2.2.2) (he : (entL [a0, a1]).length ≤ mi'.2.2.1) (hr : (rest.map fun v => v.category).sum ≤ 8) (kk : J d mi pc' ls (r :: rest) w' Q) : J d mi pc ls (a1 :: a0 :: rest) w Q :=
  j_callS (as := [a0, a1]) (rest := rest) hm hlink h hd hc hn he hr (fun v u hvu => by obtain ⟨rfl, rfl⟩ := hvu; exact kk)
theorem j_S2U {mi' : MI} {rest : List Value} {d' idx : Nat} {r : Value} {w' : mW} {a0 a1 : Value}  (hm : mS mi') (hlink : Cond.methodLink mi.1.cls idx mi'.1 ∈ UW) (h : decode mi.2.1 pc = .ok (.invokestatic idx, 3) ∧ pc + 3 = pc') (hd : d' + 1 ≤ d)  (hc : JV d' mi' [a0, a1] w w') (hn : 2 = mi'.2.2.2.2) (he : (entL [a0, a1]).length ≤ mi'.2.2.1) (hr : (rest.map fun v => v.category).sum ≤ 8) (kk : J d mi pc' ls rest w' Q) : J d mi pc ls (a1 :: a0 :: rest) w Q :=
  j_callS (as := [a0, a1]) (rest := rest) hm hlink h hd hc hn he hr (fun v u hvu => by obtain ⟨rfl, rfl⟩ := hvu; exact kk)
theorem j_S2X {mi' : MI} {rest : List Value} {d' idx : Nat} {r : Value} {w' : mW} {a0 a1 : Value}  (hm : mS mi') (hlink : Cond.methodLink mi.1.cls idx mi'.1 ∈ UW) (h : decode mi.2.1 pc = .ok (.invokestatic idx, 3) ∧ pc + 3 = pc') (hd : d' + 1 ≤ d)  (hc : JX d' mi' [a0, a1] w Q') (hn : 2 = mi'.2.2.2.2) (he : (entL [a0, a1]).length ≤ mi'.2.2.1) (hr : (rest.map fun v => v.category).sum ≤ 8) (kk : ∀ v w', Q' v w' → J d mi pc' ls (v.toList ++ rest) w' Q) : J d mi pc ls (a1 :: a0 :: rest) w Q :=
  j_callS (as := [a0, a1]) (rest := rest) hm hlink h hd hc hn he hr kk
theorem j_SN2R {mi' : MI} {rest : List Value} {d' idx : Nat} {r : Value} {w' : mW} {a0 a1 : Value}  (hm : mS mi') {host : String} (hlink : Cond.methodLinkNest mi.1.cls idx mi'.1 host ∈ NW) (h : decode mi.2.1 pc = .ok (.invokestatic idx, 3) ∧ pc + 3 = pc') (hd : d' + 1 ≤ d)  (hc : JR d' mi' [a0, a1] w r w') (hn : 2 = mi'.2.2.2.2) (he : (entL [a0, a1]).length ≤ mi'.2.2.1) (hr : (rest.map fun v => v.category).sum ≤ 8) (kk : J d mi pc' ls (r :: rest) w' Q) : J d mi pc ls (a1 :: a0 :: rest) w Q :=
  j_callSN (as := [a0, a1]) (rest := rest) hm hlink h hd hc hn he hr (fun v u hvu => by obtain ⟨rfl, rfl⟩ := hvu; exact kk)
theorem j_SN2U {mi' : MI} {rest : List Value} {d' idx : Nat} {r : Value} {w' : mW} {a0 a1 : Value}  (hm : mS mi') {host : String} (hlink : Cond.methodLinkNest mi.1.cls idx mi'.1 host ∈ NW) (h : decode mi.2.1 pc = .ok (.invokestatic idx, 3) ∧ pc + 3 = pc') (hd : d' + 1 ≤ d)  (hc : JV d' mi' [a0, a1] w w') (hn : 2 = mi'.2.2.2.2) (he : (entL [a0, a1]).length ≤ mi'.2.2.1) (hr : (rest.map fun v => v.category).sum ≤ 8) (kk : J d mi pc' ls rest w' Q) : J d mi pc ls (a1 :: a0 :: rest) w Q :=
  j_callSN (as := [a0, a1]) (rest := rest) hm hlink h hd hc hn he hr (fun v u hvu => by obtain ⟨rfl, rfl⟩ := hvu; exact kk)
theorem j_SN2X {mi' : MI} {rest : List Value} {d' idx : Nat} {r : Value} {w' : mW} {a0 a1 : Value}  (hm : mS mi') {host : String} (hlink : Cond.methodLinkNest mi.1.cls idx mi'.1 host ∈ NW) (h : decode mi.2.1 pc = .ok (.invokestatic idx, 3) ∧ pc + 3 = pc') (hd : d' + 1 ≤ d)  (hc : JX d' mi' [a0, a1] w Q') (hn : 2 = mi'.2.2.2.2) (he : (entL [a0, a1]).length ≤ mi'.2.2.1) (hr : (rest.map fun v => v.category).sum ≤ 8) (kk : ∀ v w', Q' v w' → J d mi pc' ls (v.toList ++ rest) w' Q) : J d mi pc ls (a1 :: a0 :: rest) w Q :=
  j_callSN (as := [a0, a1]) (rest := rest) hm hlink h hd hc hn he hr kk
theorem j_V2R {mi' : MI} {rest : List Value} {d' idx : Nat} {r : Value} {w' : mW} {a0 a1 : Value} {a ci N : Nat} {T : u_T} {fs : List Value} (hm : mV mi') (hlink : Cond.methodLink mi.1.cls idx mi'.1 ∈ UW) (h : decode mi.2.1 pc = .ok (.invokevirtual idx, 3) ∧ pc + 3 = pc') (hd : d' + 1 ≤ d) (ho : w[a]? = some (.inr (ci, fs))) (hci : vwCl[ci]? = some (mi'.1.cls, T, N)) (hc : JR d' mi' [.ref a, a0, a1] w r w') (hn : 2 = mi'.2.2.2.2) (he : (entL [.ref a, a0, a1]).length ≤ mi'.2.2.1) (hr : (rest.map fun v => v.category).sum ≤ 8) (kk : J d mi pc' ls (r :: rest) w' Q) : J d mi pc ls (a1 :: a0 :: .ref a :: rest) w Q :=
  j_callV (as := [a0, a1]) (rest := rest) hm hlink h hd ho hci hc hn he hr (fun v u hvu => by obtain ⟨rfl, rfl⟩ := hvu; exact kk)
theorem j_V2U {mi' : MI} {rest : List Value} {d' idx : Nat} {r : Value} {w' : mW} {a0 a1 : Value} {a ci N : Nat} {T : u_T} {fs : List Value} (hm : mV mi') (hlink : Cond.methodLink mi.1.cls idx mi'.1 ∈ UW) (h : decode mi.2.1 pc = .ok (.invokevirtual idx, 3) ∧ pc + 3 = pc') (hd : d' + 1 ≤ d) (ho : w[a]? = some (.inr (ci, fs))) (hci : vwCl[ci]? = some (mi'.1.cls, T, N)) (hc : JV d' mi' [.ref a, a0, a1] w w') (hn : 2 = mi'.2.2.2.2) (he : (entL [.ref a, a0, a1]).length ≤ mi'.2.2.1) (hr : (rest.map fun v => v.category).sum ≤ 8) (kk : J d mi pc' ls rest w' Q) : J d mi pc ls (a1 :: a0 :: .ref a :: rest) w Q :=
  j_callV (as := [a0, a1]) (rest := rest) hm hlink h hd ho hci hc hn he hr (fun v u hvu => by obtain ⟨rfl, rfl⟩ := hvu; exact kk)
theorem j_V2X {mi' : MI} {rest : List Value} {d' idx : Nat} {r : Value} {w' : mW} {a0 a1 : Value} {a ci N : Nat} {T : u_T} {fs : List Value} (hm : mV mi') (hlink : Cond.methodLink mi.1.cls idx mi'.1 ∈ UW) (h : decode mi.2.1 pc = .ok (.invokevirtual idx, 3) ∧ pc + 3 = pc') (hd : d' + 1 ≤ d) (ho : w[a]? = some (.inr (ci, fs))) (hci : vwCl[ci]? = some (mi'.1.cls, T, N)) (hc : JX d' mi' [.ref a, a0, a1] w Q') (hn : 2 = mi'.2.2.2.2) (he : (entL [.ref a, a0, a1]).length ≤ mi'.2.2.1) (hr : (rest.map fun v => v.category).sum ≤ 8) (kk : ∀ v w', Q' v w' → J d mi pc' ls (v.toList ++ rest) w' Q) : J d mi pc ls (a1 :: a0 :: .ref a :: rest) w Q :=
  j_callV (as := [a0, a1]) (rest := rest) hm hlink h hd ho hci hc hn he hr kk
theorem j_S3R {mi' : MI} {rest : List Value} {d' idx : Nat} {r : Value} {w' : mW} {a0 a1 a2 : Value}  (hm : mS mi') (hlink : Cond.methodLink mi.1.cls idx mi'.1 ∈ UW) (h : decode mi.2.1 pc = .ok (.invokestatic idx, 3) ∧ pc + 3 = pc') (hd : d' + 1 ≤ d)  (hc : JR d' mi' [a0, a1, a2] w r w') (hn : 3 = mi'.2.2.2.2) (he : (entL [a0, a1, a2]).length ≤ mi'.2.2.1) (hr : (rest.map fun v => v.category).sum ≤ 8) (kk : J d mi pc' ls (r :: rest) w' Q) : J d mi pc ls (a2 :: a1 :: a0 :: rest) w Q :=
  j_callS (as := [a0, a1, a2]) (rest := rest) hm hlink h hd hc hn he hr (fun v u hvu => by obtain ⟨rfl, rfl⟩ := hvu; exact kk)
theorem j_S3U {mi' : MI} {rest : List Value} {d' idx : Nat} {r : Value} {w' : mW} {a0 a1 a2 : Value}  (hm : mS mi') (hlink : Cond.methodLink mi.1.cls idx mi'.1 ∈ UW) (h : decode mi.2.1 pc = .ok (.invokestatic idx, 3) ∧ pc + 3 = pc') (hd : d' + 1 ≤ d)  (hc : JV d' mi' [a0, a1, a2] w w') (hn : 3 = mi'.2.2.2.2) (he : (entL [a0, a1, a2]).length ≤ mi'.2.2.1) (hr : (rest.map fun v => v.category).sum ≤ 8) (kk : J d mi pc' ls rest w' Q) : J d mi pc ls (a2 :: a1 :: a0 :: rest) w Q :=
  j_callS (as := [a0, a1, a2]) (rest := rest) hm hlink h hd hc hn he hr (fun v u hvu => by obtain ⟨rfl, rfl⟩ := hvu; exact kk)
theorem j_S3X {mi' : MI} {rest : List Value} {d' idx : Nat} {r : Value} {w' : mW} {a0 a1 a2 : Value}  (hm : mS mi') (hlink : Cond.methodLink mi.1.cls idx mi'.1 ∈ UW) (h : decode mi.2.1 pc = .ok (.invokestatic idx, 3) ∧ pc + 3 = pc') (hd : d' + 1 ≤ d)  (hc : JX d' mi' [a0, a1, a2] w Q') (hn : 3 = mi'.2.2.2.2) (he : (entL [a0, a1, a2]).length ≤ mi'.2.2.1) (hr : (rest.map fun v => v.category).sum ≤ 8) (kk : ∀ v w', Q' v w' → J d mi pc' ls (v.toList ++ rest) w' Q) : J d mi pc ls (a2 :: a1 :: a0 :: rest) w Q :=
  j_callS (as := [a0, a1, a2]) (rest := rest) hm hlink h hd hc hn he hr kk
theorem j_SN3R {mi' : MI} {rest : List Value} {d' idx : Nat} {r : Value} {w' : mW} {a0 a1 a2 : Value}  (hm : mS mi') {host : String} (hlink : Cond.methodLinkNest mi.1.cls idx mi'.1 host ∈ NW) (h : decode mi.2.1 pc = .ok (.invokestatic idx, 3) ∧ pc + 3 = pc') (hd : d' + 1 ≤ d)  (hc : JR d' mi' [a0, a1, a2] w r w') (hn : 3 = mi'.2.2.2.2) (he : (entL [a0, a1, a2]).length ≤ mi'.2.2.1) (hr : (rest.map fun v => v.category).sum ≤ 8) (kk : J d mi pc' ls (r :: rest) w' Q) : J d mi pc ls (a2 :: a1 :: a0 :: rest) w Q :=
  j_callSN (as := [a0, a1, a2]) (rest := rest) hm hlink h hd hc hn he hr (fun v u hvu => by obtain ⟨rfl, rfl⟩ := hvu; exact kk)
theorem j_SN3U {mi' : MI} {rest : List Value} {d' idx : Nat} {r : Value} {w' : mW} {a0 a1 a2 : Value}  (hm : mS mi') {host : String} (hlink : Cond.methodLinkNest mi.1.cls idx mi'.1 host ∈ NW) (h : decode mi.2.1 pc = .ok (.invokestatic idx, 3) ∧ pc + 3 = pc') (hd : d' + 1 ≤ d)  (hc : JV d' mi' [a0, a1, a2] w w') (hn : 3 = mi'.2.2.2.2) (he : (entL [a0, a1, a2]).length ≤ mi'.2.2.1) (hr : (rest.map fun v => v.category).sum ≤ 8) (kk : J d mi pc' ls rest w' Q) : J d mi pc ls (a2 :: a1 :: a0 :: rest) w Q :=
  j_callSN (as := [a0, a1, a2]) (rest := rest) hm hlink h hd hc hn he hr (fun v u hvu => by obtain ⟨rfl, rfl⟩ := hvu; exact kk)
theorem j_SN3X {mi' : MI} {rest : List Value} {d' idx : Nat} {r : Value} {w' : mW} {a0 a1 a2 : Value}  (hm : mS mi') {host : String} (hlink : Cond.methodLinkNest mi.1.cls idx mi'.1 host ∈ NW) (h : decode mi.2.1 pc = .ok (.invokestatic idx, 3) ∧ pc + 3 = pc') (hd : d' + 1 ≤ d)  (hc : JX d' mi' [a0, a1, a2] w Q') (hn : 3 = mi'.2.2.2.2) (he : (entL [a0, a1, a2]).length ≤ mi'.2.2.1) (hr : (rest.map fun v => v.category).sum ≤ 8) (kk : ∀ v w', Q' v w' → J d mi pc' ls (v.toList ++ rest) w' Q) : J d mi pc ls (a2 :: a1 :: a0 :: rest) w Q :=
  j_callSN (as := [a0, a1, a2]) (rest := rest) hm hlink h hd hc hn he hr kk
theorem j_V3R {mi' : MI} {rest : List Value} {d' idx : Nat} {r : Value} {w' : mW} {a0 a1 a2 : Value} {a ci N : Nat} {T : u_T} {fs : List Value} (hm : mV mi') (hlink : Cond.methodLink mi.1.cls idx mi'.1 ∈ UW) (h : decode mi.2.1 pc = .ok (.invokevirtual idx, 3) ∧ pc + 3 = pc') (hd : d' + 1 ≤ d) (ho : w[a]? = some (.inr (ci, fs))) (hci : vwCl[ci]? = some (mi'.1.cls, T, N)) (hc : JR d' mi' [.ref a, a0, a1, a2] w r w') (hn : 3 = mi'.2.2.2.2) (he : (entL [.ref a, a0, a1, a2]).length ≤ mi'.2.2.1) (hr : (rest.map fun v => v.category).sum ≤ 8) (kk : J d mi pc' ls (r :: rest) w' Q) : J d mi pc ls (a2 :: a1 :: a0 :: .ref a :: rest) w Q :=
  j_callV (as := [a0, a1, a2]) (rest := rest) hm hlink h hd ho hci hc hn he hr (fun v u hvu => by obtain ⟨rfl, rfl⟩ := hvu; exact kk)
theorem j_V3U {mi' : MI} {rest : List Value} {d' idx : Nat} {r : Value} {w' : mW} {a0 a1 a2 : Value} {a ci N : Nat} {T : u_T} {fs : List Value} (hm : mV mi') (hlink : Cond.methodLink mi.1.cls idx mi'.1 ∈ UW) (h : decode mi.2.1 pc = .ok (.invokevirtual idx, 3) ∧ pc + 3 = pc') (hd : d' + 1 ≤ d) (ho : w[a]? = some (.inr (ci, fs))) (hci : vwCl[ci]? = some (mi'.1.cls, T, N)) (hc : JV d' mi' [.ref a, a0, a1, a2] w w') (hn : 3 = mi'.2.2.2.2) (he : (entL [.ref a, a0, a1, a2]).length ≤ mi'.2.2.1) (hr : (rest.map fun v => v.category).sum ≤ 8) (kk : J d mi pc' ls rest w' Q) : J d mi pc ls (a2 :: a1 :: a0 :: .ref a :: rest) w Q :=
  j_callV (as := [a0, a1, a2]) (rest := rest) hm hlink h hd ho hci hc hn he hr (fun v u hvu => by obtain ⟨rfl, rfl⟩ := hvu; exact kk)
theorem j_V3X {mi' : MI} {rest : List Value} {d' idx : Nat} {r : Value} {w' : mW} {a0 a1 a2 : Value} {a ci N : Nat} {T : u_T} {fs : List Value} (hm : mV mi') (hlink : Cond.methodLink mi.1.cls idx mi'.1 ∈ UW) (h : decode mi.2.1 pc = .ok (.invokevirtual idx, 3) ∧ pc + 3 = pc') (hd : d' + 1 ≤ d) (ho : w[a]? = some (.inr (ci, fs))) (hci : vwCl[ci]? = some (mi'.1.cls, T, N)) (hc : JX d' mi' [.ref a, a0, a1, a2] w Q') (hn : 3 = mi'.2.2.2.2) (he : (entL [.ref a, a0, a1, a2]).length ≤ mi'.2.2.1) (hr : (rest.map fun v => v.category).sum ≤ 8) (kk : ∀ v w', Q' v w' → J d mi pc' ls (v.toList ++ rest) w' Q) : J d mi pc ls (a2 :: a1 :: a0 :: .ref a :: rest) w Q :=
  j_callV (as := [a0, a1, a2]) (rest := rest) hm hlink h hd ho hci hc hn he hr kk
theorem j_S4R {mi' : MI} {rest : List Value} {d' idx : Nat} {r : Value} {w' : mW} {a0 a1 a2 a3 : Value}  (hm : mS mi') (hlink : Cond.methodLink mi.1.cls idx mi'.1 ∈ UW) (h : decode mi.2.1 pc = .ok (.invokestatic idx, 3) ∧ pc + 3 = pc') (hd : d' + 1 ≤ d)  (hc : JR d' mi' [a0, a1, a2, a3] w r w') (hn : 4 = mi'.2.2.2.2) (he : (entL [a0, a1, a2, a3]).length ≤ mi'.2.2.1) (hr : (rest.map fun v => v.category).sum ≤ 8) (kk : J d mi pc' ls (r :: rest) w' Q) : J d mi pc ls (a3 :: a2 :: a1 :: a0 :: rest) w Q :=
  j_callS (as := [a0, a1, a2, a3]) (rest := rest) hm hlink h hd hc hn he hr (fun v u hvu => by obtain ⟨rfl, rfl⟩ := hvu; exact kk)
theorem j_S4U {mi' : MI} {rest : List Value} {d' idx : Nat} {r : Value} {w' : mW} {a0 a1 a2 a3 : Value}  (hm : mS mi') (hlink : Cond.methodLink mi.1.cls idx mi'.1 ∈ UW) (h : decode mi.2.1 pc = .ok (.invokestatic idx, 3) ∧ pc + 3 = pc') (hd : d' + 1 ≤ d)  (hc : JV d' mi' [a0, a1, a2, a3] w w') (hn : 4 = mi'.2.2.2.2) (he : (entL [a0, a1, a2, a3]).length ≤ mi'.2.2.1) (hr : (rest.map fun v => v.category).sum ≤ 8) (kk : J d mi pc' ls rest w' Q) : J d mi pc ls (a3 :: a2 :: a1 :: a0 :: rest) w Q :=
  j_callS (as := [a0, a1, a2, a3]) (rest := rest) hm hlink h hd hc hn he hr (fun v u hvu => by obtain ⟨rfl, rfl⟩ := hvu; exact kk)
theorem j_S4X {mi' : MI} {rest : List Value} {d' idx : Nat} {r : Value} {w' : mW} {a0 a1 a2 a3 : Value}  (hm : mS mi') (hlink : Cond.methodLink mi.1.cls idx mi'.1 ∈ UW) (h : decode mi.2.1 pc = .ok (.invokestatic idx, 3) ∧ pc + 3 = pc') (hd : d' + 1 ≤ d)  (hc : JX d' mi' [a0, a1, a2, a3] w Q') (hn : 4 = mi'.2.2.2.2) (he : (entL [a0, a1, a2, a3]).length ≤ mi'.2.2.1) (hr : (rest.map fun v => v.category).sum ≤ 8) (kk : ∀ v w', Q' v w' → J d mi pc' ls (v.toList ++ rest) w' Q) : J d mi pc ls (a3 :: a2 :: a1 :: a0 :: rest) w Q :=
  j_callS (as := [a0, a1, a2, a3]) (rest := rest) hm hlink h hd hc hn he hr kk
theorem j_SN4R {mi' : MI} {rest : List Value} {d' idx : Nat} {r : Value} {w' : mW} {a0 a1 a2 a3 : Value}  (hm : mS mi') {host : String} (hlink : Cond.methodLinkNest mi.1.cls idx mi'.1 host ∈ NW) (h : decode mi.2.1 pc = .ok (.invokestatic idx, 3) ∧ pc + 3 = pc') (hd : d' + 1 ≤ d)  (hc : JR d' mi' [a0, a1, a2, a3] w r w') (hn : 4 = mi'.2.2.2.2) (he : (entL [a0, a1, a2, a3]).length ≤ mi'.2.2.1) (hr : (rest.map fun v => v.category).sum ≤ 8) (kk : J d mi pc' ls (r :: rest) w' Q) : J d mi pc ls (a3 :: a2 :: a1 :: a0 :: rest) w Q :=
  j_callSN (as := [a0, a1, a2, a3]) (rest := rest) hm hlink h hd hc hn he hr (fun v u hvu => by obtain ⟨rfl, rfl⟩ := hvu; exact kk)
theorem j_SN4U {mi' : MI} {rest : List Value} {d' idx : Nat} {r : Value} {w' : mW} {a0 a1 a2 a3 : Value}  (hm : mS mi') {host : String} (hlink : Cond.methodLinkNest mi.1.cls idx mi'.1 host ∈ NW) (h : decode mi.2.1 pc = .ok (.invokestatic idx, 3) ∧ pc + 3 = pc') (hd : d' + 1 ≤ d)  (hc : JV d' mi' [a0, a1, a2, a3] w w') (hn : 4 = mi'.2.2.2.2) (he : (entL [a0, a1, a2, a3]).length ≤ mi'.2.2.1) (hr : (rest.map fun v => v.category).sum ≤ 8) (kk : J d mi pc' ls rest w' Q) : J d mi pc ls (a3 :: a2 :: a1 :: a0 :: rest) w Q :=
  j_callSN (as := [a0, a1, a2, a3]) (rest := rest) hm hlink h hd hc hn he hr (fun v u hvu => by obtain ⟨rfl, rfl⟩ := hvu; exact kk)
theorem j_SN4X {mi' : MI} {rest : List Value} {d' idx : Nat} {r : Value} {w' : mW} {a0 a1 a2 a3 : Value}  (hm : mS mi') {host : String} (hlink : Cond.methodLinkNest mi.1.cls idx mi'.1 host ∈ NW) (h : decode mi.2.1 pc = .ok (.invokestatic idx, 3) ∧ pc + 3 = pc') (hd : d' + 1 ≤ d)  (hc : JX d' mi' [a0, a1, a2, a3] w Q') (hn : 4 = mi'.2.2.2.2) (he : (entL [a0, a1, a2, a3]).length ≤ mi'.2.2.1) (hr : (rest.map fun v => v.category).sum ≤ 8) (kk : ∀ v w', Q' v w' → J d mi pc' ls (v.toList ++ rest) w' Q) : J d mi pc ls (a3 :: a2 :: a1 :: a0 :: rest) w Q :=
  j_callSN (as := [a0, a1, a2, a3]) (rest := rest) hm hlink h hd hc hn he hr kk
theorem j_V4R {mi' : MI} {rest : List Value} {d' idx : Nat} {r : Value} {w' : mW} {a0 a1 a2 a3 : Value} {a ci N : Nat} {T : u_T} {fs : List Value} (hm : mV mi') (hlink : Cond.methodLink mi.1.cls idx mi'.1 ∈ UW) (h : decode mi.2.1 pc = .ok (.invokevirtual idx, 3) ∧ pc + 3 = pc') (hd : d' + 1 ≤ d) (ho : w[a]? = some (.inr (ci, fs))) (hci : vwCl[ci]? = some (mi'.1.cls, T, N)) (hc : JR d' mi' [.ref a, a0, a1, a2, a3] w r w') (hn : 4 = mi'.2.2.2.2) (he : (entL [.ref a, a0, a1, a2, a3]).length ≤ mi'.2.2.1) (hr : (rest.map fun v => v.category).sum ≤ 8) (kk : J d mi pc' ls (r :: rest) w' Q) : J d mi pc ls (a3 :: a2 :: a1 :: a0 :: .ref a :: rest) w Q :=
  j_callV (as := [a0, a1, a2, a3]) (rest := rest) hm hlink h hd ho hci hc hn he hr (fun v u hvu => by obtain ⟨rfl, rfl⟩ := hvu; exact kk)
theorem j_V4U {mi' : MI} {rest : List Value} {d' idx : Nat} {r : Value} {w' : mW} {a0 a1 a2 a3 : Value} {a ci N : Nat} {T : u_T} {fs : List Value} (hm : mV mi') (hlink : Cond.methodLink mi.1.cls idx mi'.1 ∈ UW) (h : decode mi.2.1 pc = .ok (.invokevirtual idx, 3) ∧ pc + 3 = pc') (hd : d' + 1 ≤ d) (ho : w[a]? = some (.inr (ci, fs))) (hci : vwCl[ci]? = some (mi'.1.cls, T, N)) (hc : JV d' mi' [.ref a, a0, a1, a2, a3] w w') (hn : 4 = mi'.2.2.2.2) (he : (entL [.ref a, a0, a1, a2, a3]).length ≤ mi'.2.2.1) (hr : (rest.map fun v => v.category).sum ≤ 8) (kk : J d mi pc' ls rest w' Q) : J d mi pc ls (a3 :: a2 :: a1 :: a0 :: .ref a :: rest) w Q :=
  j_callV (as := [a0, a1, a2, a3]) (rest := rest) hm hlink h hd ho hci hc hn he hr (fun v u hvu => by obtain ⟨rfl, rfl⟩ := hvu; exact kk)
theorem j_V4X {mi' : MI} {rest : List Value} {d' idx : Nat} {r : Value} {w' : mW} {a0 a1 a2 a3 : Value} {a ci N : Nat} {T : u_T} {fs : List Value} (hm : mV mi') (hlink : Cond.methodLink mi.1.cls idx mi'.1 ∈ UW) (h : decode mi.2.1 pc = .ok (.invokevirtual idx, 3) ∧ pc + 3 = pc') (hd : d' + 1 ≤ d) (ho : w[a]? = some (.inr (ci, fs))) (hci : vwCl[ci]? = some (mi'.1.cls, T, N)) (hc : JX d' mi' [.ref a, a0, a1, a2, a3] w Q') (hn : 4 = mi'.2.2.2.2) (he : (entL [.ref a, a0, a1, a2, a3]).length ≤ mi'.2.2.1) (hr : (rest.map fun v => v.category).sum ≤ 8) (kk : ∀ v w', Q' v w' → J d mi pc' ls (v.toList ++ rest) w' Q) : J d mi pc ls (a3 :: a2 :: a1 :: a0 :: .ref a :: rest) w Q :=
  j_callV (as := [a0, a1, a2, a3]) (rest := rest) hm hlink h hd ho hci hc hn he hr kk
theorem j_S5R {mi' : MI} {rest : List Value} {d' idx : Nat} {r : Value} {w' : mW} {a0 a1 a2 a3 a4 : Value}  (hm : mS mi') (hlink : Cond.methodLink mi.1.cls idx mi'.1 ∈ UW) (h : decode mi.2.1 pc = .ok (.invokestatic idx, 3) ∧ pc + 3 = pc') (hd : d' + 1 ≤ d)  (hc : JR d' mi' [a0, a1, a2, a3, a4] w r w') (hn : 5 = mi'.2.2.2.2) (he : (entL [a0, a1, a2, a3, a4]).length ≤ mi'.2.2.1) (hr : (rest.map fun v => v.category).sum ≤ 8) (kk : J d mi pc' ls (r :: rest) w' Q) : J d mi pc ls (a4 :: a3 :: a2 :: a1 :: a0 :: rest) w Q :=
  j_callS (as := [a0, a1, a2, a3, a4]) (rest := rest) hm hlink h hd hc hn he hr (fun v u hvu => by obtain ⟨rfl, rfl⟩ := hvu; exact kk)
theorem j_S5U {mi' : MI} {rest : List Value} {d' idx : Nat} {r : Value} {w' : mW} {a0 a1 a2 a3 a4 : Value}  (hm : mS mi') (hlink : Cond.methodLink mi.1.cls idx mi'.1 ∈ UW) (h : decode mi.2.1 pc = .ok (.invokestatic idx, 3) ∧ pc + 3 = pc') (hd : d' + 1 ≤ d)  (hc : JV d' mi' [a0, a1, a2, a3, a4] w w') (hn : 5 = mi'.2.2.2.2) (he : (entL [a0, a1, a2, a3, a4]).length ≤ mi'.2.2.1) (hr : (rest.map fun v => v.category).sum ≤ 8) (kk : J d mi pc' ls rest w' Q) : J d mi pc ls (a4 :: a3 :: a2 :: a1 :: a0 :: rest) w Q :=
  j_callS (as := [a0, a1, a2, a3, a4]) (rest := rest) hm hlink h hd hc hn he hr (fun v u hvu => by obtain ⟨rfl, rfl⟩ := hvu; exact kk)
theorem j_S5X {mi' : MI} {rest : List Value} {d' idx : Nat} {r : Value} {w' : mW} {a0 a1 a2 a3 a4 : Value}  (hm : mS mi') (hlink : Cond.methodLink mi.1.cls idx mi'.1 ∈ UW) (h : decode mi.2.1 pc = .ok (.invokestatic idx, 3) ∧ pc + 3 = pc') (hd : d' + 1 ≤ d)  (hc : JX d' mi' [a0, a1, a2, a3, a4] w Q') (hn : 5 = mi'.2.2.2.2) (he : (entL [a0, a1, a2, a3, a4]).length ≤ mi'.2.2.1) (hr : (rest.map fun v => v.category).sum ≤ 8) (kk : ∀ v w', Q' v w' → J d mi pc' ls (v.toList ++ rest) w' Q) : J d mi pc ls (a4 :: a3 :: a2 :: a1 :: a0 :: rest) w Q :=
  j_callS (as := [a0, a1, a2, a3, a4]) (rest := rest) hm hlink h hd hc hn he hr kk
theorem j_SN5R {mi' : MI} {rest : List Value} {d' idx : Nat} {r : Value} {w' : mW} {a0 a1 a2 a3 a4 : Value}  (hm : mS mi') {host : String} (hlink : Cond.methodLinkNest mi.1.cls idx mi'.1 host ∈ NW) (h : decode mi.2.1 pc = .ok (.invokestatic idx, 3) ∧ pc + 3 = pc') (hd : d' + 1 ≤ d)  (hc : JR d' mi' [a0, a1, a2, a3, a4] w r w') (hn : 5 = mi'.2.2.2.2) (he : (entL [a0, a1, a2, a3, a4]).length ≤ mi'.2.2.1) (hr : (rest.map fun v => v.category).sum ≤ 8) (kk : J d mi pc' ls (r :: rest) w' Q) : J d mi pc ls (a4 :: a3 :: a2 :: a1 :: a0 :: rest) w Q :=
  j_callSN (as := [a0, a1, a2, a3, a4]) (rest := rest) hm hlink h hd hc hn he hr (fun v u hvu => by obtain ⟨rfl, rfl⟩ := hvu; exact kk)
theorem j_SN5U {mi' : MI} {rest : List Value} {d' idx : Nat} {r : Value} {w' : mW} {a0 a1 a2 a3 a4 : Value}  (hm : mS mi') {host : String} (hlink : Cond.methodLinkNest mi.1.cls idx mi'.1 host ∈ NW) (h : decode mi.2.1 pc = .ok (.invokestatic idx, 3) ∧ pc + 3 = pc') (hd : d' + 1 ≤ d)  (hc : JV d' mi' [a0, a1, a2, a3, a4] w w') (hn : 5 = mi'.2.2.2.2) (he : (entL [a0, a1, a2, a3, a4]).length ≤ mi'.2.2.1) (hr : (rest.map fun v => v.category).sum ≤ 8) (kk : J d mi pc' ls rest w' Q) : J d mi pc ls (a4 :: a3 :: a2 :: a1 :: a0 :: rest) w Q :=
  j_callSN (as := [a0, a1, a2, a3, a4]) (rest := rest) hm hlink h hd hc hn he hr (fun v u hvu => by obtain ⟨rfl, rfl⟩ := hvu; exact kk)
theorem j_SN5X {mi' : MI} {rest : List Value} {d' idx : Nat} {r : Value} {w' : mW} {a0 a1 a2 a3 a4 : Value}  (hm : mS mi') {host : String} (hlink : Cond.methodLinkNest mi.1.cls idx mi'.1 host ∈ NW) (h : decode mi.2.1 pc = .ok (.invokestatic idx, 3) ∧ pc + 3 = pc') (hd : d' + 1 ≤ d)  (hc : JX d' mi' [a0, a1, a2, a3, a4] w Q') (hn : 5 = mi'.2.2.2.2) (he : (entL [a0, a1, a2, a3, a4]).length ≤ mi'.2.2.1) (hr : (rest.map fun v => v.category).sum ≤ 8) (kk : ∀ v w', Q' v w' → J d mi pc' ls (v.toList ++ rest) w' Q) : J d mi pc ls (a4 :: a3 :: a2 :: a1 :: a0 :: rest) w Q :=
  j_callSN (as := [a0, a1, a2, a3, a4]) (rest := rest) hm hlink h hd hc hn he hr kk
theorem j_V5R {mi' : MI} {rest : List Value} {d' idx : Nat} {r : Value} {w' : mW} {a0 a1 a2 a3 a4 : Value} {a ci N : Nat} {T : u_T} {fs : List Value} (hm : mV mi') (hlink : Cond.methodLink mi.1.cls idx mi'.1 ∈ UW) (h : decode mi.2.1 pc = .ok (.invokevirtual idx, 3) ∧ pc + 3 = pc') (hd : d' + 1 ≤ d) (ho : w[a]? = some (.inr (ci, fs))) (hci : vwCl[ci]? = some (mi'.1.cls, T, N)) (hc : JR d' mi' [.ref a, a0, a1, a2, a3, a4] w r w') (hn : 5 = mi'.2.2.2.2) (he : (entL [.ref a, a0, a1, a2, a3, a4]).length ≤ mi'.2.2.1) (hr : (rest.map fun v => v.category).sum ≤ 8) (kk : J d mi pc' ls (r :: rest) w' Q) : J d mi pc ls (a4 :: a3 :: a2 :: a1 :: a0 :: .ref a :: rest) w Q :=
  j_callV (as := [a0, a1, a2, a3, a4]) (rest := rest) hm hlink h hd ho hci hc hn he hr (fun v u hvu => by obtain ⟨rfl, rfl⟩ := hvu; exact kk)
theorem j_V5U {mi' : MI} {rest : List Value} {d' idx : Nat} {r : Value} {w' : mW} {a0 a1 a2 a3 a4 : Value} {a ci N : Nat} {T : u_T} {fs : List Value} (hm : mV mi') (hlink : Cond.methodLink mi.1.cls idx mi'.1 ∈ UW) (h : decode mi.2.1 pc = .ok (.invokevirtual idx, 3) ∧ pc + 3 = pc') (hd : d' + 1 ≤ d) (ho : w[a]? = some (.inr (ci, fs))) (hci : vwCl[ci]? = some (mi'.1.cls, T, N)) (hc : JV d' mi' [.ref a, a0, a1, a2, a3, a4] w w') (hn : 5 = mi'.2.2.2.2) (he : (entL [.ref a, a0, a1, a2, a3, a4]).length ≤ mi'.2.2.1) (hr : (rest.map fun v => v.category).sum ≤ 8) (kk : J d mi pc' ls rest w' Q) : J d mi pc ls (a4 :: a3 :: a2 :: a1 :: a0 :: .ref a :: rest) w Q :=
  j_callV (as := [a0, a1, a2, a3, a4]) (rest := rest) hm hlink h hd ho hci hc hn he hr (fun v u hvu => by obtain ⟨rfl, rfl⟩ := hvu; exact kk)
theorem j_V5X {mi' : MI} {rest : List Value} {d' idx : Nat} {r : Value} {w' : mW} {a0 a1 a2 a3 a4 : Value} {a ci N : Nat} {T : u_T} {fs : List Value} (hm : mV mi') (hlink : Cond.methodLink mi.1.cls idx mi'.1 ∈ UW) (h : decode mi.2.1 pc = .ok (.invokevirtual idx, 3) ∧ pc + 3 = pc') (hd : d' + 1 ≤ d) (ho : w[a]? = some (.inr (ci, fs))) (hci : vwCl[ci]? = some (mi'.1.cls, T, N)) (hc : JX d' mi' [.ref a, a0, a1, a2, a3, a4] w Q') (hn : 5 = mi'.2.2.2.2) (he : (entL [.ref a, a0, a1, a2, a3, a4]).length ≤ mi'.2.2.1) (hr : (rest.map fun v => v.category).sum ≤ 8) (kk : ∀ v w', Q' v w' → J d mi pc' ls (v.toList ++ rest) w' Q) : J d mi pc ls (a4 :: a3 :: a2 :: a1 :: a0 :: .ref a :: rest) w Q :=
  j_callV (as := [a0, a1, a2, a3, a4]) (rest := rest) hm hlink h hd ho hci hc hn he hr kk
theorem j_S6R {mi' : MI} {rest : List Value} {d' idx : Nat} {r : Value} {w' : mW} {a0 a1 a2 a3 a4 a5 : Value}  (hm : mS mi') (hlink : Cond.methodLink mi.1.cls idx mi'.1 ∈ UW) (h : decode mi.2.1 pc = .ok (.invokestatic idx, 3) ∧ pc + 3 = pc') (hd : d' + 1 ≤ d)  (hc : JR d' mi' [a0, a1, a2, a3, a4, a5] w r w') (hn : 6 = mi'.2.2.2.2) (he : (entL [a0, a1, a2, a3, a4, a5]).length ≤ mi'.2.2.1) (hr : (rest.map fun v => v.category).sum ≤ 8) (kk : J d mi pc' ls (r :: rest) w' Q) : J d mi pc ls (a5 :: a4 :: a3 :: a2 :: a1 :: a0 :: rest) w Q :=
  j_callS (as := [a0, a1, a2, a3, a4, a5]) (rest := rest) hm hlink h hd hc hn he hr (fun v u hvu => by obtain ⟨rfl, rfl⟩ := hvu; exact kk)
theorem j_S6U {mi' : MI} {rest : List Value} {d' idx : Nat} {r : Value} {w' : mW} {a0 a1 a2 a3 a4 a5 : Value}  (hm : mS mi') (hlink : Cond.methodLink mi.1.cls idx mi'.1 ∈ UW) (h : decode mi.2.1 pc = .ok (.invokestatic idx, 3) ∧ pc + 3 = pc') (hd : d' + 1 ≤ d)  (hc : JV d' mi' [a0, a1, a2, a3, a4, a5] w w') (hn : 6 = mi'.2.2.2.2) (he : (entL [a0, a1, a2, a3, a4, a5]).length ≤ mi'.2.2.1) (hr : (rest.map fun v => v.category).sum ≤ 8) (kk : J d mi pc' ls rest w' Q) : J d mi pc ls (a5 :: a4 :: a3 :: a2 :: a1 :: a0 :: rest) w Q :=
  j_callS (as := [a0, a1, a2, a3, a4, a5]) (rest := rest) hm hlink h hd hc hn he hr (fun v u hvu => by obtain ⟨rfl, rfl⟩ := hvu; exact kk)
theorem j_S6X {mi' : MI} {rest : List Value} {d' idx : Nat} {r : Value} {w' : mW} {a0 a1 a2 a3 a4 a5 : Value}  (hm : mS mi') (hlink : Cond.methodLink mi.1.cls idx mi'.1 ∈ UW) (h : decode mi.2.1 pc = .ok (.invokestatic idx, 3) ∧ pc + 3 = pc') (hd : d' + 1 ≤ d)  (hc : JX d' mi' [a0, a1, a2, a3, a4, a5] w Q') (hn : 6 = mi'.2.2.2.2) (he : (entL [a0, a1, a2, a3, a4, a5]).length ≤ mi'.2.2.1) (hr : (rest.map fun v => v.category).sum ≤ 8) (kk : ∀ v w', Q' v w' → J d mi pc' ls (v.toList ++ rest) w' Q) : J d mi pc ls (a5 :: a4 :: a3 :: a2 :: a1 :: a0 :: rest) w Q :=
  j_callS (as := [a0, a1, a2, a3, a4, a5]) (rest := rest) hm hlink h hd hc hn he hr kk
end JRules
end
