section
-- ===== PART A: goes FIRST, ahead of the names: the tables' words, and 'selects' of the private methods out of them =====
/-- a private method of a class that the tables say can be made, by its rows of tables_1 -/
def lw_okq (q : MethodName × Nat) : Prop := (q.1.cls ≠ "java/lang/invoke/MethodHandle" ∧ q.1.cls ≠ "java/lang/invoke/VarHandle") ∧ Cond.instantiable q.1.cls q.2 ∈ tables_1 ∧ Cond.privateMethod q.1 ∈ tables_1 ∧ Cond.instanceMethod q.1 ∈ tables_1
theorem lw_p0 : lw_okq (⟨"BoardMoves$Wiring", "turnedX", "(III)J"⟩, 12) := ⟨⟨by decide +kernel, by decide +kernel⟩, List.mem_of_getElem? (i := 108) (by decide +kernel), List.mem_of_getElem? (i := 240) (by decide +kernel), List.mem_of_getElem? (i := 241) (by decide +kernel)⟩
theorem lw_p1 : lw_okq (⟨"BoardMoves$Wiring", "turnedY", "(III)J"⟩, 12) := ⟨⟨by decide +kernel, by decide +kernel⟩, List.mem_of_getElem? (i := 108) (by decide +kernel), List.mem_of_getElem? (i := 244) (by decide +kernel), List.mem_of_getElem? (i := 245) (by decide +kernel)⟩
theorem lw_p2 : lw_okq (⟨"BoardMoves$Wiring", "reach", "(IJJ)V"⟩, 12) := ⟨⟨by decide +kernel, by decide +kernel⟩, List.mem_of_getElem? (i := 108) (by decide +kernel), List.mem_of_getElem? (i := 248) (by decide +kernel), List.mem_of_getElem? (i := 249) (by decide +kernel)⟩
theorem lw_p3 : lw_okq (⟨"BoardMoves", "allStandWell", "()Z"⟩, 10) := ⟨⟨by decide +kernel, by decide +kernel⟩, List.mem_of_getElem? (i := 15) (by decide +kernel), List.mem_of_getElem? (i := 258) (by decide +kernel), List.mem_of_getElem? (i := 259) (by decide +kernel)⟩
theorem lw_p4 : lw_okq (⟨"BoardMoves", "standsWell", "(I)Z"⟩, 10) := ⟨⟨by decide +kernel, by decide +kernel⟩, List.mem_of_getElem? (i := 15) (by decide +kernel), List.mem_of_getElem? (i := 262) (by decide +kernel), List.mem_of_getElem? (i := 263) (by decide +kernel)⟩
theorem lw_p5 : lw_okq (⟨"BoardMoves", "fitsBoard", "(IJJI)Z"⟩, 10) := ⟨⟨by decide +kernel, by decide +kernel⟩, List.mem_of_getElem? (i := 15) (by decide +kernel), List.mem_of_getElem? (i := 266) (by decide +kernel), List.mem_of_getElem? (i := 267) (by decide +kernel)⟩
theorem lw_p6 : lw_okq (⟨"java/lang/Throwable", "fillInStackTrace", "(I)Ljava/lang/Throwable;"⟩, 6) := ⟨⟨by decide +kernel, by decide +kernel⟩, List.mem_of_getElem? (i := 353) (by decide +kernel), List.mem_of_getElem? (i := 351) (by decide +kernel), List.mem_of_getElem? (i := 352) (by decide +kernel)⟩
theorem lw_p7 : lw_okq (⟨"BoardMoves", "needPart", "(I)V"⟩, 10) := ⟨⟨by decide +kernel, by decide +kernel⟩, List.mem_of_getElem? (i := 15) (by decide +kernel), List.mem_of_getElem? (i := 395) (by decide +kernel), List.mem_of_getElem? (i := 396) (by decide +kernel)⟩
theorem lw_p8 : lw_okq (⟨"BoardMoves", "keepChange", "(J)Z"⟩, 10) := ⟨⟨by decide +kernel, by decide +kernel⟩, List.mem_of_getElem? (i := 15) (by decide +kernel), List.mem_of_getElem? (i := 437) (by decide +kernel), List.mem_of_getElem? (i := 438) (by decide +kernel)⟩
theorem lw_p9 : lw_okq (⟨"BoardMoves", "takeBack", "()Z"⟩, 10) := ⟨⟨by decide +kernel, by decide +kernel⟩, List.mem_of_getElem? (i := 15) (by decide +kernel), List.mem_of_getElem? (i := 445) (by decide +kernel), List.mem_of_getElem? (i := 446) (by decide +kernel)⟩
theorem lw_p10 : lw_okq (⟨"BoardMoves", "clearTheWay", "(IZZ)Z"⟩, 10) := ⟨⟨by decide +kernel, by decide +kernel⟩, List.mem_of_getElem? (i := 15) (by decide +kernel), List.mem_of_getElem? (i := 496) (by decide +kernel), List.mem_of_getElem? (i := 497) (by decide +kernel)⟩
theorem lw_p11 : lw_okq (⟨"BoardMoves", "goesOn", "(IIIZZ)Z"⟩, 10) := ⟨⟨by decide +kernel, by decide +kernel⟩, List.mem_of_getElem? (i := 15) (by decide +kernel), List.mem_of_getElem? (i := 506) (by decide +kernel), List.mem_of_getElem? (i := 507) (by decide +kernel)⟩
theorem lw_p12 : lw_okq (⟨"BoardMoves", "countChanged", "(I)I"⟩, 10) := ⟨⟨by decide +kernel, by decide +kernel⟩, List.mem_of_getElem? (i := 15) (by decide +kernel), List.mem_of_getElem? (i := 514) (by decide +kernel), List.mem_of_getElem? (i := 515) (by decide +kernel)⟩
theorem lw_p13 : lw_okq (⟨"BoardMoves", "step", "(J)Z"⟩, 10) := ⟨⟨by decide +kernel, by decide +kernel⟩, List.mem_of_getElem? (i := 15) (by decide +kernel), List.mem_of_getElem? (i := 536) (by decide +kernel), List.mem_of_getElem? (i := 537) (by decide +kernel)⟩
theorem lw_p14 : lw_okq (⟨"BoardMoves", "draw", "()J"⟩, 10) := ⟨⟨by decide +kernel, by decide +kernel⟩, List.mem_of_getElem? (i := 15) (by decide +kernel), List.mem_of_getElem? (i := 540) (by decide +kernel), List.mem_of_getElem? (i := 541) (by decide +kernel)⟩
theorem lw_p15 : lw_okq (⟨"BoardMoves", "swapPlaces", "(II)V"⟩, 10) := ⟨⟨by decide +kernel, by decide +kernel⟩, List.mem_of_getElem? (i := 15) (by decide +kernel), List.mem_of_getElem? (i := 547) (by decide +kernel), List.mem_of_getElem? (i := 548) (by decide +kernel)⟩
def lw_privs_1 : List (MethodName × Nat) := [(⟨"BoardMoves$Wiring", "turnedX", "(III)J"⟩, 12), (⟨"BoardMoves$Wiring", "turnedY", "(III)J"⟩, 12), (⟨"BoardMoves$Wiring", "reach", "(IJJ)V"⟩, 12), (⟨"BoardMoves", "allStandWell", "()Z"⟩, 10), (⟨"BoardMoves", "standsWell", "(I)Z"⟩, 10), (⟨"BoardMoves", "fitsBoard", "(IJJI)Z"⟩, 10), (⟨"java/lang/Throwable", "fillInStackTrace", "(I)Ljava/lang/Throwable;"⟩, 6), (⟨"BoardMoves", "needPart", "(I)V"⟩, 10), (⟨"BoardMoves", "keepChange", "(J)Z"⟩, 10), (⟨"BoardMoves", "takeBack", "()Z"⟩, 10), (⟨"BoardMoves", "clearTheWay", "(IZZ)Z"⟩, 10), (⟨"BoardMoves", "goesOn", "(IIIZZ)Z"⟩, 10), (⟨"BoardMoves", "countChanged", "(I)I"⟩, 10), (⟨"BoardMoves", "step", "(J)Z"⟩, 10), (⟨"BoardMoves", "draw", "()J"⟩, 10), (⟨"BoardMoves", "swapPlaces", "(II)V"⟩, 10)]
theorem lw_r1 : ∀ q ∈ lw_privs_1, lw_okq q := List.forall_mem_cons.mpr ⟨lw_p0, List.forall_mem_cons.mpr ⟨lw_p1, List.forall_mem_cons.mpr ⟨lw_p2, List.forall_mem_cons.mpr ⟨lw_p3, List.forall_mem_cons.mpr ⟨lw_p4, List.forall_mem_cons.mpr ⟨lw_p5, List.forall_mem_cons.mpr ⟨lw_p6, List.forall_mem_cons.mpr ⟨lw_p7, List.forall_mem_cons.mpr ⟨lw_p8, List.forall_mem_cons.mpr ⟨lw_p9, List.forall_mem_cons.mpr ⟨lw_p10, List.forall_mem_cons.mpr ⟨lw_p11, List.forall_mem_cons.mpr ⟨lw_p12, List.forall_mem_cons.mpr ⟨lw_p13, List.forall_mem_cons.mpr ⟨lw_p14, List.forall_mem_cons.mpr ⟨lw_p15, fun _ h => absurd h List.not_mem_nil⟩⟩⟩⟩⟩⟩⟩⟩⟩⟩⟩⟩⟩⟩⟩⟩
theorem lw_p16 : lw_okq (⟨"BoardMoves", "turnAlone", "(II)V"⟩, 10) := ⟨⟨by decide +kernel, by decide +kernel⟩, List.mem_of_getElem? (i := 15) (by decide +kernel), List.mem_of_getElem? (i := 552) (by decide +kernel), List.mem_of_getElem? (i := 553) (by decide +kernel)⟩
theorem lw_p17 : lw_okq (⟨"BoardMovesModel", "isPart", "(I)Z"⟩, 28) := ⟨⟨by decide +kernel, by decide +kernel⟩, List.mem_of_getElem? (i := 614) (by decide +kernel), List.mem_of_getElem? (i := 721) (by decide +kernel), List.mem_of_getElem? (i := 722) (by decide +kernel)⟩
theorem lw_p18 : lw_okq (⟨"BoardMovesModel", "begin", "()V"⟩, 28) := ⟨⟨by decide +kernel, by decide +kernel⟩, List.mem_of_getElem? (i := 614) (by decide +kernel), List.mem_of_getElem? (i := 725) (by decide +kernel), List.mem_of_getElem? (i := 726) (by decide +kernel)⟩
theorem lw_p19 : lw_okq (⟨"BoardMovesModel", "copy", "(II)V"⟩, 28) := ⟨⟨by decide +kernel, by decide +kernel⟩, List.mem_of_getElem? (i := 614) (by decide +kernel), List.mem_of_getElem? (i := 729) (by decide +kernel), List.mem_of_getElem? (i := 730) (by decide +kernel)⟩
theorem lw_p20 : lw_okq (⟨"BoardMovesModel", "hasMate", "(I)Z"⟩, 28) := ⟨⟨by decide +kernel, by decide +kernel⟩, List.mem_of_getElem? (i := 614) (by decide +kernel), List.mem_of_getElem? (i := 733) (by decide +kernel), List.mem_of_getElem? (i := 734) (by decide +kernel)⟩
theorem lw_p21 : lw_okq (⟨"BoardMovesModel", "left", "(II)J"⟩, 28) := ⟨⟨by decide +kernel, by decide +kernel⟩, List.mem_of_getElem? (i := 614) (by decide +kernel), List.mem_of_getElem? (i := 737) (by decide +kernel), List.mem_of_getElem? (i := 738) (by decide +kernel)⟩
theorem lw_p22 : lw_okq (⟨"BoardMovesModel", "low", "(II)J"⟩, 28) := ⟨⟨by decide +kernel, by decide +kernel⟩, List.mem_of_getElem? (i := 614) (by decide +kernel), List.mem_of_getElem? (i := 741) (by decide +kernel), List.mem_of_getElem? (i := 742) (by decide +kernel)⟩
theorem lw_p23 : lw_okq (⟨"BoardMovesModel", "go", "(IJJ)V"⟩, 28) := ⟨⟨by decide +kernel, by decide +kernel⟩, List.mem_of_getElem? (i := 614) (by decide +kernel), List.mem_of_getElem? (i := 745) (by decide +kernel), List.mem_of_getElem? (i := 746) (by decide +kernel)⟩
theorem lw_p24 : lw_okq (⟨"BoardMovesModel", "movesLocked", "()Z"⟩, 28) := ⟨⟨by decide +kernel, by decide +kernel⟩, List.mem_of_getElem? (i := 614) (by decide +kernel), List.mem_of_getElem? (i := 749) (by decide +kernel), List.mem_of_getElem? (i := 750) (by decide +kernel)⟩
theorem lw_p25 : lw_okq (⟨"BoardMovesModel", "isSame", "(II)Z"⟩, 28) := ⟨⟨by decide +kernel, by decide +kernel⟩, List.mem_of_getElem? (i := 614) (by decide +kernel), List.mem_of_getElem? (i := 753) (by decide +kernel), List.mem_of_getElem? (i := 754) (by decide +kernel)⟩
theorem lw_p26 : lw_okq (⟨"BoardMovesModel", "isWell", "(I)Z"⟩, 28) := ⟨⟨by decide +kernel, by decide +kernel⟩, List.mem_of_getElem? (i := 614) (by decide +kernel), List.mem_of_getElem? (i := 757) (by decide +kernel), List.mem_of_getElem? (i := 758) (by decide +kernel)⟩
theorem lw_p27 : lw_okq (⟨"BoardMovesModel", "isOnBoard", "(II)Z"⟩, 28) := ⟨⟨by decide +kernel, by decide +kernel⟩, List.mem_of_getElem? (i := 614) (by decide +kernel), List.mem_of_getElem? (i := 761) (by decide +kernel), List.mem_of_getElem? (i := 762) (by decide +kernel)⟩
theorem lw_p28 : lw_okq (⟨"BoardMovesModel", "right", "(II)J"⟩, 28) := ⟨⟨by decide +kernel, by decide +kernel⟩, List.mem_of_getElem? (i := 614) (by decide +kernel), List.mem_of_getElem? (i := 765) (by decide +kernel), List.mem_of_getElem? (i := 766) (by decide +kernel)⟩
theorem lw_p29 : lw_okq (⟨"BoardMovesModel", "lies", "(II)Z"⟩, 28) := ⟨⟨by decide +kernel, by decide +kernel⟩, List.mem_of_getElem? (i := 614) (by decide +kernel), List.mem_of_getElem? (i := 769) (by decide +kernel), List.mem_of_getElem? (i := 770) (by decide +kernel)⟩
theorem lw_p30 : lw_okq (⟨"BoardMovesModel", "top", "(II)J"⟩, 28) := ⟨⟨by decide +kernel, by decide +kernel⟩, List.mem_of_getElem? (i := 614) (by decide +kernel), List.mem_of_getElem? (i := 773) (by decide +kernel), List.mem_of_getElem? (i := 774) (by decide +kernel)⟩
theorem lw_p31 : lw_okq (⟨"BoardMovesModel", "isKeptOut", "(II)Z"⟩, 28) := ⟨⟨by decide +kernel, by decide +kernel⟩, List.mem_of_getElem? (i := 614) (by decide +kernel), List.mem_of_getElem? (i := 777) (by decide +kernel), List.mem_of_getElem? (i := 778) (by decide +kernel)⟩
def lw_privs_2 : List (MethodName × Nat) := [(⟨"BoardMoves", "turnAlone", "(II)V"⟩, 10), (⟨"BoardMovesModel", "isPart", "(I)Z"⟩, 28), (⟨"BoardMovesModel", "begin", "()V"⟩, 28), (⟨"BoardMovesModel", "copy", "(II)V"⟩, 28), (⟨"BoardMovesModel", "hasMate", "(I)Z"⟩, 28), (⟨"BoardMovesModel", "left", "(II)J"⟩, 28), (⟨"BoardMovesModel", "low", "(II)J"⟩, 28), (⟨"BoardMovesModel", "go", "(IJJ)V"⟩, 28), (⟨"BoardMovesModel", "movesLocked", "()Z"⟩, 28), (⟨"BoardMovesModel", "isSame", "(II)Z"⟩, 28), (⟨"BoardMovesModel", "isWell", "(I)Z"⟩, 28), (⟨"BoardMovesModel", "isOnBoard", "(II)Z"⟩, 28), (⟨"BoardMovesModel", "right", "(II)J"⟩, 28), (⟨"BoardMovesModel", "lies", "(II)Z"⟩, 28), (⟨"BoardMovesModel", "top", "(II)J"⟩, 28), (⟨"BoardMovesModel", "isKeptOut", "(II)Z"⟩, 28)]
theorem lw_r2 : ∀ q ∈ lw_privs_2, lw_okq q := List.forall_mem_cons.mpr ⟨lw_p16, List.forall_mem_cons.mpr ⟨lw_p17, List.forall_mem_cons.mpr ⟨lw_p18, List.forall_mem_cons.mpr ⟨lw_p19, List.forall_mem_cons.mpr ⟨lw_p20, List.forall_mem_cons.mpr ⟨lw_p21, List.forall_mem_cons.mpr ⟨lw_p22, List.forall_mem_cons.mpr ⟨lw_p23, List.forall_mem_cons.mpr ⟨lw_p24, List.forall_mem_cons.mpr ⟨lw_p25, List.forall_mem_cons.mpr ⟨lw_p26, List.forall_mem_cons.mpr ⟨lw_p27, List.forall_mem_cons.mpr ⟨lw_p28, List.forall_mem_cons.mpr ⟨lw_p29, List.forall_mem_cons.mpr ⟨lw_p30, List.forall_mem_cons.mpr ⟨lw_p31, fun _ h => absurd h List.not_mem_nil⟩⟩⟩⟩⟩⟩⟩⟩⟩⟩⟩⟩⟩⟩⟩⟩
theorem lw_p32 : lw_okq (⟨"BoardMovesModel", "overlap", "(III)Z"⟩, 28) := ⟨⟨by decide +kernel, by decide +kernel⟩, List.mem_of_getElem? (i := 614) (by decide +kernel), List.mem_of_getElem? (i := 781) (by decide +kernel), List.mem_of_getElem? (i := 782) (by decide +kernel)⟩
theorem lw_p33 : lw_okq (⟨"BoardMovesModel", "isNear", "(II)Z"⟩, 28) := ⟨⟨by decide +kernel, by decide +kernel⟩, List.mem_of_getElem? (i := 614) (by decide +kernel), List.mem_of_getElem? (i := 785) (by decide +kernel), List.mem_of_getElem? (i := 786) (by decide +kernel)⟩
theorem lw_p34 : lw_okq (⟨"BoardMovesModel", "wireOf", "(I)J"⟩, 28) := ⟨⟨by decide +kernel, by decide +kernel⟩, List.mem_of_getElem? (i := 614) (by decide +kernel), List.mem_of_getElem? (i := 808) (by decide +kernel), List.mem_of_getElem? (i := 809) (by decide +kernel)⟩
theorem lw_p35 : lw_okq (⟨"BoardMovesModel", "reach", "(IIZ)J"⟩, 28) := ⟨⟨by decide +kernel, by decide +kernel⟩, List.mem_of_getElem? (i := 614) (by decide +kernel), List.mem_of_getElem? (i := 812) (by decide +kernel), List.mem_of_getElem? (i := 813) (by decide +kernel)⟩
theorem lw_p36 : lw_okq (⟨"BoardMovesModel", "pinAt", "(IIZ)J"⟩, 28) := ⟨⟨by decide +kernel, by decide +kernel⟩, List.mem_of_getElem? (i := 614) (by decide +kernel), List.mem_of_getElem? (i := 816) (by decide +kernel), List.mem_of_getElem? (i := 817) (by decide +kernel)⟩
theorem lw_p37 : lw_okq (⟨"BoardMovesModel", "shove", "(II)Z"⟩, 28) := ⟨⟨by decide +kernel, by decide +kernel⟩, List.mem_of_getElem? (i := 614) (by decide +kernel), List.mem_of_getElem? (i := 831) (by decide +kernel), List.mem_of_getElem? (i := 832) (by decide +kernel)⟩
theorem lw_p38 : lw_okq (⟨"BoardMovesModel", "firstOverlap", "()I"⟩, 28) := ⟨⟨by decide +kernel, by decide +kernel⟩, List.mem_of_getElem? (i := 614) (by decide +kernel), List.mem_of_getElem? (i := 835) (by decide +kernel), List.mem_of_getElem? (i := 836) (by decide +kernel)⟩
theorem lw_p39 : lw_okq (⟨"BoardMovesModel", "beginOn", "(II)J"⟩, 28) := ⟨⟨by decide +kernel, by decide +kernel⟩, List.mem_of_getElem? (i := 614) (by decide +kernel), List.mem_of_getElem? (i := 839) (by decide +kernel), List.mem_of_getElem? (i := 840) (by decide +kernel)⟩
theorem lw_p40 : lw_okq (⟨"BoardMovesModel", "goOn", "(III)V"⟩, 28) := ⟨⟨by decide +kernel, by decide +kernel⟩, List.mem_of_getElem? (i := 614) (by decide +kernel), List.mem_of_getElem? (i := 843) (by decide +kernel), List.mem_of_getElem? (i := 844) (by decide +kernel)⟩
theorem lw_p41 : lw_okq (⟨"BoardMovesModel", "draw", "()J"⟩, 28) := ⟨⟨by decide +kernel, by decide +kernel⟩, List.mem_of_getElem? (i := 614) (by decide +kernel), List.mem_of_getElem? (i := 864) (by decide +kernel), List.mem_of_getElem? (i := 865) (by decide +kernel)⟩
theorem lw_p42 : lw_okq (⟨"BoardMovesModel", "step", "(JJJJ)V"⟩, 28) := ⟨⟨by decide +kernel, by decide +kernel⟩, List.mem_of_getElem? (i := 614) (by decide +kernel), List.mem_of_getElem? (i := 870) (by decide +kernel), List.mem_of_getElem? (i := 871) (by decide +kernel)⟩
theorem lw_p43 : lw_okq (⟨"BoardMovesModel", "changes", "()Z"⟩, 28) := ⟨⟨by decide +kernel, by decide +kernel⟩, List.mem_of_getElem? (i := 614) (by decide +kernel), List.mem_of_getElem? (i := 877) (by decide +kernel), List.mem_of_getElem? (i := 878) (by decide +kernel)⟩
def lw_privs_3 : List (MethodName × Nat) := [(⟨"BoardMovesModel", "overlap", "(III)Z"⟩, 28), (⟨"BoardMovesModel", "isNear", "(II)Z"⟩, 28), (⟨"BoardMovesModel", "wireOf", "(I)J"⟩, 28), (⟨"BoardMovesModel", "reach", "(IIZ)J"⟩, 28), (⟨"BoardMovesModel", "pinAt", "(IIZ)J"⟩, 28), (⟨"BoardMovesModel", "shove", "(II)Z"⟩, 28), (⟨"BoardMovesModel", "firstOverlap", "()I"⟩, 28), (⟨"BoardMovesModel", "beginOn", "(II)J"⟩, 28), (⟨"BoardMovesModel", "goOn", "(III)V"⟩, 28), (⟨"BoardMovesModel", "draw", "()J"⟩, 28), (⟨"BoardMovesModel", "step", "(JJJJ)V"⟩, 28), (⟨"BoardMovesModel", "changes", "()Z"⟩, 28)]
theorem lw_r3 : ∀ q ∈ lw_privs_3, lw_okq q := List.forall_mem_cons.mpr ⟨lw_p32, List.forall_mem_cons.mpr ⟨lw_p33, List.forall_mem_cons.mpr ⟨lw_p34, List.forall_mem_cons.mpr ⟨lw_p35, List.forall_mem_cons.mpr ⟨lw_p36, List.forall_mem_cons.mpr ⟨lw_p37, List.forall_mem_cons.mpr ⟨lw_p38, List.forall_mem_cons.mpr ⟨lw_p39, List.forall_mem_cons.mpr ⟨lw_p40, List.forall_mem_cons.mpr ⟨lw_p41, List.forall_mem_cons.mpr ⟨lw_p42, List.forall_mem_cons.mpr ⟨lw_p43, fun _ h => absurd h List.not_mem_nil⟩⟩⟩⟩⟩⟩⟩⟩⟩⟩⟩⟩
def lw_privs : List (MethodName × Nat) := lw_privs_1 ++ (lw_privs_2 ++ (lw_privs_3))
def lw_tbl : List Cond := k2_sels lw_privs ++ tables_1
theorem lw_privs_ok : ∀ q ∈ lw_privs, lw_okq q := by
  show ∀ q ∈ lw_privs_1 ++ (lw_privs_2 ++ (lw_privs_3)), lw_okq q
  exact List.forall_mem_append.mpr ⟨lw_r1, List.forall_mem_append.mpr ⟨lw_r2, lw_r3⟩⟩
-- ===== end of PART A =====
end
section
-- BM LAYER: wrappers of the kit's rows for worlds of long / Nat / Bool arrays, one uniform world, readers and writers
def bm_b (b : Bool) : Int32 := if b then 1 else 0
theorem bm_b_t : bm_b true = 1 := rfl
theorem bm_b_f : bm_b false = 0 := rfl
theorem bm_b_nar (b : Bool) : vp_nar .boolean (bm_b b) = bm_b b := by cases b <;> decide
theorem bm_b_narrow (b : Bool) : narrow .boolean (.int (bm_b b)) = .int (bm_b b) := by cases b <;> rfl
theorem bm_b_eq0 (b : Bool) : bm_b b = 0 ↔ b = false := by cases b <;> decide
theorem bm_b_inj (a b : Bool) : bm_b a = bm_b b ↔ a = b := by cases a <;> cases b <;> decide
theorem bm_upB (f : Nat → Bool) (k : Nat) (v : Bool) : upd (fun j => bm_b (f j)) k (bm_b v) = fun j => bm_b (va_up f k v j) := by
  funext j
  by_cases h : j = k
  · simp [upd, va_up, h]
  · simp [upd, va_up, h]
theorem bm_upN (f : Nat → Nat) (k : Nat) (v : Nat) : upd (fun j => nI (f j)) k (nI v) = fun j => nI (va_up f k v j) := by
  funext j
  by_cases h : j = k
  · simp [upd, va_up, h]
  · simp [upd, va_up, h]
theorem bm_upL (f : Nat → Int64) (k : Nat) (v : Int64) : vp_updL f k v = va_up f k v := rfl
theorem bm_cmp_lt {x y : Int64} : lg_cmp x y < 0 ↔ x < y := by
  unfold lg_cmp
  by_cases h1 : y < x
  · have : ¬ x < y := by rw [Int64.lt_iff_toInt_lt] at *; omega
    simp [h1, this]
  · by_cases h2 : x = y
    · subst h2; simp [h1]
    · have : x < y := by
        rw [Int64.lt_iff_toInt_lt] at *
        have h3 : x.toInt ≠ y.toInt := fun q => h2 (Int64.toInt_inj.mp q)
        omega
      simp [h1, h2, this]
theorem bm_cmp_gt {x y : Int64} : 0 < lg_cmp x y ↔ y < x := by
  unfold lg_cmp
  by_cases h1 : y < x
  · simp [h1]
  · by_cases h2 : x = y
    · subst h2; simp [h1]
    · simp [h1, h2]
theorem bm_cmp_eq {x y : Int64} : lg_cmp x y = 0 ↔ x = y := by
  unfold lg_cmp
  by_cases h1 : y < x
  · have : ¬ x = y := by intro q; subst q; rw [Int64.lt_iff_toInt_lt] at h1; omega
    simp [h1, this]
  · by_cases h2 : x = y
    · subst h2; simp [h1]
    · simp [h1, h2]
section BMK
variable {p : Program} {l : Launch} {e : Env} {R : Room} {s : State} {m : MethodId} {args : Array Value} {below : List Frame} {meth : Method} {c : Code} {H : Heap} {locs : List Loc} {cells slots : Nat} {Q : State → Prop}
variable {cc : ByteArray} {pc : Nat} {ls : Array Slot} {rest : List Value} {D : va_G} {cl : List vw_C} {A : Nat → Prop} {a : Nat} {tys : List (ClassId × FieldType)} {ws : va_W} {H0 : Heap}
theorem bm_lald (hexec : p.tables.exec = Jvm.exec) (hb : c.code = cc) (hK : va_K D cl tys s) (hP : va_P D cl ws H) (q0 t0 : Nat) {cA : ClassId} {n : Nat} {f : Nat → Int64} (ha : ws[q0]? = some (a, .inl (cA, n, .inr (.inl f)))) (ht : tys[t0]? = some (cA, .long)) {j : Nat} (hj : j < n) (hn : n < 2 ^ 31) (hdg : decode cc pc = .ok (.laload, 1))
    (kk : W p l e R s m args below meth c H locs cells slots Q (F0 m (pc + 1) ls (.long (f j) :: rest))) : W p l e R s m args below meth c H locs cells slots Q (F0 m pc ls (.int (nI j) :: .ref a :: rest)) := by
  refine va_lald hexec hb hK hP q0 t0 ha ht (vp_in_nI hj hn) hdg ?_
  rw [nI_clamp (Nat.lt_trans hj hn)]
  exact kk
theorem bm_nald (hexec : p.tables.exec = Jvm.exec) (hb : c.code = cc) (hK : va_K D cl tys s) (hP : va_P D cl ws H) (q0 t0 : Nat) {cA : ClassId} {n : Nat} {f : Nat → Nat} (ha : ws[q0]? = some (a, .inl (cA, n, .inl (fun j => nI (f j))))) (ht : tys[t0]? = some (cA, .int)) {j : Nat} (hj : j < n) (hn : n < 2 ^ 31) (hdg : decode cc pc = .ok (.iaload, 1))
    (kk : W p l e R s m args below meth c H locs cells slots Q (F0 m (pc + 1) ls (.int (nI (f j)) :: rest))) : W p l e R s m args below meth c H locs cells slots Q (F0 m pc ls (.int (nI j) :: .ref a :: rest)) := by
  refine va_iald hexec hb hK hP q0 t0 ha ht (vp_in_nI hj hn) hdg ?_
  rw [nI_clamp (Nat.lt_trans hj hn)]
  exact kk
theorem bm_zald (hexec : p.tables.exec = Jvm.exec) (hb : c.code = cc) (hK : va_K D cl tys s) (hP : va_P D cl ws H) (q0 t0 : Nat) {cA : ClassId} {n : Nat} {f : Nat → Bool} (ha : ws[q0]? = some (a, .inl (cA, n, .inl (fun j => bm_b (f j))))) (ht : tys[t0]? = some (cA, .boolean)) {j : Nat} (hj : j < n) (hn : n < 2 ^ 31) (hdg : decode cc pc = .ok (.baload, 1))
    (kk : W p l e R s m args below meth c H locs cells slots Q (F0 m (pc + 1) ls (.int (bm_b (f j)) :: rest))) : W p l e R s m args below meth c H locs cells slots Q (F0 m pc ls (.int (nI j) :: .ref a :: rest)) := by
  refine va_zald hexec hb hK hP q0 t0 ha ht (vp_in_nI hj hn) hdg ?_
  rw [nI_clamp (Nat.lt_trans hj hn)]
  exact kk
theorem bm_last (hexec : p.tables.exec = Jvm.exec) (hb : c.code = cc) (hK : va_K D cl tys s) (hP : va_P D cl ws H) (hD : va_D A ws) (hS : va_S A H0 H locs) (q0 t0 : Nat) {cA : ClassId} {n : Nat} {f : Nat → Int64} (ha : ws[q0]? = some (a, .inl (cA, n, .inr (.inl f)))) (ht : tys[t0]? = some (cA, .long)) {j : Nat} {x : Int64} (hj : j < n) (hn : n < 2 ^ 31) (hdg : decode cc pc = .ok (.lastore, 1))
    (kk : ∀ (H1 : Heap) (locs1 : List Loc), va_P D cl (ws.set q0 (a, .inl (cA, n, .inr (.inl (va_up f j x))))) H1 → va_D A (ws.set q0 (a, .inl (cA, n, .inr (.inl (va_up f j x))))) → va_S A H0 H1 locs1 → W p l e R s m args below meth c H1 locs1 cells slots Q (F0 m (pc + 1) ls rest)) : W p l e R s m args below meth c H locs cells slots Q (F0 m pc ls (.long x :: .int (nI j) :: .ref a :: rest)) := by
  refine va_last hexec hb hK hP hD hS q0 t0 ha ht (vp_in_nI hj hn) hdg ?_
  rw [nI_clamp (Nat.lt_trans hj hn)]
  exact kk
theorem bm_nast (hexec : p.tables.exec = Jvm.exec) (hb : c.code = cc) (hK : va_K D cl tys s) (hP : va_P D cl ws H) (hD : va_D A ws) (hS : va_S A H0 H locs) (q0 t0 : Nat) {cA : ClassId} {n : Nat} {f : Nat → Nat} (ha : ws[q0]? = some (a, .inl (cA, n, .inl (fun j => nI (f j))))) (ht : tys[t0]? = some (cA, .int)) {j : Nat} {x : Nat} (hj : j < n) (hn : n < 2 ^ 31) (hdg : decode cc pc = .ok (.iastore, 1))
    (kk : ∀ (H1 : Heap) (locs1 : List Loc), va_P D cl (ws.set q0 (a, .inl (cA, n, .inl (fun i => nI (va_up f j x i))))) H1 → va_D A (ws.set q0 (a, .inl (cA, n, .inl (fun i => nI (va_up f j x i))))) → va_S A H0 H1 locs1 → W p l e R s m args below meth c H1 locs1 cells slots Q (F0 m (pc + 1) ls rest)) : W p l e R s m args below meth c H locs cells slots Q (F0 m pc ls (.int (nI x) :: .int (nI j) :: .ref a :: rest)) := by
  refine va_iast hexec hb hK hP hD hS q0 t0 ha ht (vp_in_nI hj hn) hdg ?_
  rw [nI_clamp (Nat.lt_trans hj hn), bm_upN]
  exact kk
theorem bm_zast (hexec : p.tables.exec = Jvm.exec) (hb : c.code = cc) (hK : va_K D cl tys s) (hP : va_P D cl ws H) (hD : va_D A ws) (hS : va_S A H0 H locs) (q0 t0 : Nat) {cA : ClassId} {n : Nat} {f : Nat → Bool} (ha : ws[q0]? = some (a, .inl (cA, n, .inl (fun j => bm_b (f j))))) (ht : tys[t0]? = some (cA, .boolean)) {j : Nat} {x : Bool} (hj : j < n) (hn : n < 2 ^ 31) (hdg : decode cc pc = .ok (.bastore, 1))
    (kk : ∀ (H1 : Heap) (locs1 : List Loc), va_P D cl (ws.set q0 (a, .inl (cA, n, .inl (fun i => bm_b (va_up f j x i))))) H1 → va_D A (ws.set q0 (a, .inl (cA, n, .inl (fun i => bm_b (va_up f j x i))))) → va_S A H0 H1 locs1 → W p l e R s m args below meth c H1 locs1 cells slots Q (F0 m (pc + 1) ls rest)) : W p l e R s m args below meth c H locs cells slots Q (F0 m pc ls (.int (bm_b x) :: .int (nI j) :: .ref a :: rest)) := by
  refine va_zast hexec hb hK hP hD hS q0 t0 ha ht (vp_in_nI hj hn) hdg ?_
  rw [nI_clamp (Nat.lt_trans hj hn), bm_b_nar, bm_upB]
  exact kk
theorem bm_lc_eq (hexec : p.tables.exec = Jvm.exec) (hb : c.code = cc) {x y : Int64} {off : Int} {tgt : Nat} (hd1 : decode cc pc = .ok (.lcmp, 1)) (hdg : decode cc (pc + 1) = .ok (.ifCond .eq off, 3)) (ht : ((pc + 1 : Nat) : Int) + off = (tgt : Int))
    (kt : x = y → W p l e R s m args below meth c H locs cells slots Q (F0 m tgt ls rest)) (kf : ¬ x = y → W p l e R s m args below meth c H locs cells slots Q (F0 m (pc + 1 + 3) ls rest)) : W p l e R s m args below meth c H locs cells slots Q (F0 m pc ls (.long y :: .long x :: rest)) :=
  W.lcmp hexec hb hd1 (lv_if_eq hexec hb hdg ht (fun h => kt (bm_cmp_eq.mp h)) (fun h => kf (fun q => h (bm_cmp_eq.mpr q))))
theorem bm_lc_ne (hexec : p.tables.exec = Jvm.exec) (hb : c.code = cc) {x y : Int64} {off : Int} {tgt : Nat} (hd1 : decode cc pc = .ok (.lcmp, 1)) (hdg : decode cc (pc + 1) = .ok (.ifCond .ne off, 3)) (ht : ((pc + 1 : Nat) : Int) + off = (tgt : Int))
    (kt : ¬ x = y → W p l e R s m args below meth c H locs cells slots Q (F0 m tgt ls rest)) (kf : x = y → W p l e R s m args below meth c H locs cells slots Q (F0 m (pc + 1 + 3) ls rest)) : W p l e R s m args below meth c H locs cells slots Q (F0 m pc ls (.long y :: .long x :: rest)) :=
  W.lcmp hexec hb hd1 (lv_if_ne hexec hb hdg ht (fun h => kt (fun q => h (bm_cmp_eq.mpr q))) (fun h => kf (bm_cmp_eq.mp h)))
theorem bm_lc_lt (hexec : p.tables.exec = Jvm.exec) (hb : c.code = cc) {x y : Int64} {off : Int} {tgt : Nat} (hd1 : decode cc pc = .ok (.lcmp, 1)) (hdg : decode cc (pc + 1) = .ok (.ifCond .lt off, 3)) (ht : ((pc + 1 : Nat) : Int) + off = (tgt : Int))
    (kt : x < y → W p l e R s m args below meth c H locs cells slots Q (F0 m tgt ls rest)) (kf : ¬ x < y → W p l e R s m args below meth c H locs cells slots Q (F0 m (pc + 1 + 3) ls rest)) : W p l e R s m args below meth c H locs cells slots Q (F0 m pc ls (.long y :: .long x :: rest)) :=
  W.lcmp hexec hb hd1 (lv_if_lt hexec hb hdg ht (fun h => kt (bm_cmp_lt.mp h)) (fun h => kf (fun q => h (bm_cmp_lt.mpr q))))
theorem bm_i_ge {x : Int32} (h : 0 ≤ x) : ¬ x < 0 := by rw [Int32.lt_iff_toInt_lt]; rw [Int32.le_iff_toInt_le] at h; omega
theorem bm_i_nge {x : Int32} (h : ¬ 0 ≤ x) : x < 0 := by rw [Int32.lt_iff_toInt_lt]; rw [Int32.le_iff_toInt_le] at h; omega
theorem bm_i_le {x : Int32} (h : x ≤ 0) : ¬ 0 < x := by rw [Int32.lt_iff_toInt_lt]; rw [Int32.le_iff_toInt_le] at h; omega
theorem bm_i_nle {x : Int32} (h : ¬ x ≤ 0) : 0 < x := by rw [Int32.lt_iff_toInt_lt]; rw [Int32.le_iff_toInt_le] at h; omega
theorem bm_lc_ge (hexec : p.tables.exec = Jvm.exec) (hb : c.code = cc) {x y : Int64} {off : Int} {tgt : Nat} (hd1 : decode cc pc = .ok (.lcmp, 1)) (hdg : decode cc (pc + 1) = .ok (.ifCond .ge off, 3)) (ht : ((pc + 1 : Nat) : Int) + off = (tgt : Int))
    (kt : ¬ x < y → W p l e R s m args below meth c H locs cells slots Q (F0 m tgt ls rest)) (kf : x < y → W p l e R s m args below meth c H locs cells slots Q (F0 m (pc + 1 + 3) ls rest)) : W p l e R s m args below meth c H locs cells slots Q (F0 m pc ls (.long y :: .long x :: rest)) :=
  W.lcmp hexec hb hd1 (lv_if_ge hexec hb hdg ht (fun h => kt (fun q => bm_i_ge h (bm_cmp_lt.mpr q))) (fun h => kf (bm_cmp_lt.mp (bm_i_nge h))))
theorem bm_lc_gt (hexec : p.tables.exec = Jvm.exec) (hb : c.code = cc) {x y : Int64} {off : Int} {tgt : Nat} (hd1 : decode cc pc = .ok (.lcmp, 1)) (hdg : decode cc (pc + 1) = .ok (.ifCond .gt off, 3)) (ht : ((pc + 1 : Nat) : Int) + off = (tgt : Int))
    (kt : y < x → W p l e R s m args below meth c H locs cells slots Q (F0 m tgt ls rest)) (kf : ¬ y < x → W p l e R s m args below meth c H locs cells slots Q (F0 m (pc + 1 + 3) ls rest)) : W p l e R s m args below meth c H locs cells slots Q (F0 m pc ls (.long y :: .long x :: rest)) :=
  W.lcmp hexec hb hd1 (lv_if_gt hexec hb hdg ht (fun h => kt (bm_cmp_gt.mp h)) (fun h => kf (fun q => h (bm_cmp_gt.mpr q))))
theorem bm_lc_le (hexec : p.tables.exec = Jvm.exec) (hb : c.code = cc) {x y : Int64} {off : Int} {tgt : Nat} (hd1 : decode cc pc = .ok (.lcmp, 1)) (hdg : decode cc (pc + 1) = .ok (.ifCond .le off, 3)) (ht : ((pc + 1 : Nat) : Int) + off = (tgt : Int))
    (kt : ¬ y < x → W p l e R s m args below meth c H locs cells slots Q (F0 m tgt ls rest)) (kf : y < x → W p l e R s m args below meth c H locs cells slots Q (F0 m (pc + 1 + 3) ls rest)) : W p l e R s m args below meth c H locs cells slots Q (F0 m pc ls (.long y :: .long x :: rest)) :=
  W.lcmp hexec hb hd1 (lv_if_le hexec hb hdg ht (fun h => kt (fun q => bm_i_le h (bm_cmp_gt.mpr q))) (fun h => kf (bm_cmp_gt.mp (bm_i_nle h))))
-- branches on a boolean
theorem bm_zb_eq (hexec : p.tables.exec = Jvm.exec) (hb : c.code = cc) {x : Bool} {off : Int} {tgt : Nat} (hdg : decode cc pc = .ok (.ifCond .eq off, 3)) (ht : (pc : Int) + off = (tgt : Int))
    (kt : x = false → W p l e R s m args below meth c H locs cells slots Q (F0 m tgt ls rest)) (kf : x = true → W p l e R s m args below meth c H locs cells slots Q (F0 m (pc + 3) ls rest)) : W p l e R s m args below meth c H locs cells slots Q (F0 m pc ls (.int (bm_b x) :: rest)) :=
  lv_if_eq hexec hb hdg ht (fun h => kt ((bm_b_eq0 x).mp h)) (fun h => kf (by cases x; exact absurd rfl h; rfl))
theorem bm_zb_ne (hexec : p.tables.exec = Jvm.exec) (hb : c.code = cc) {x : Bool} {off : Int} {tgt : Nat} (hdg : decode cc pc = .ok (.ifCond .ne off, 3)) (ht : (pc : Int) + off = (tgt : Int))
    (kt : x = true → W p l e R s m args below meth c H locs cells slots Q (F0 m tgt ls rest)) (kf : x = false → W p l e R s m args below meth c H locs cells slots Q (F0 m (pc + 3) ls rest)) : W p l e R s m args below meth c H locs cells slots Q (F0 m pc ls (.int (bm_b x) :: rest)) :=
  lv_if_ne hexec hb hdg ht (fun h => kt (by cases x; exact absurd rfl h; rfl)) (fun h => kf ((bm_b_eq0 x).mp h))
-- branches on small numbers
theorem bm_ni_eq (hexec : p.tables.exec = Jvm.exec) (hb : c.code = cc) {x y : Nat} (hx : x < 2 ^ 31) (hy : y < 2 ^ 31) {off : Int} {tgt : Nat} (hdg : decode cc pc = .ok (.if_icmp .eq off, 3)) (ht : (pc : Int) + off = (tgt : Int))
    (kt : x = y → W p l e R s m args below meth c H locs cells slots Q (F0 m tgt ls rest)) (kf : ¬ x = y → W p l e R s m args below meth c H locs cells slots Q (F0 m (pc + 3) ls rest)) : W p l e R s m args below meth c H locs cells slots Q (F0 m pc ls (.int (nI y) :: .int (nI x) :: rest)) :=
  lv_icmp_eq hexec hb hdg ht (fun h => kt ((nI_eq hx hy).mp h)) (fun h => kf (fun q => h ((nI_eq hx hy).mpr q)))
theorem bm_ni_ne (hexec : p.tables.exec = Jvm.exec) (hb : c.code = cc) {x y : Nat} (hx : x < 2 ^ 31) (hy : y < 2 ^ 31) {off : Int} {tgt : Nat} (hdg : decode cc pc = .ok (.if_icmp .ne off, 3)) (ht : (pc : Int) + off = (tgt : Int))
    (kt : ¬ x = y → W p l e R s m args below meth c H locs cells slots Q (F0 m tgt ls rest)) (kf : x = y → W p l e R s m args below meth c H locs cells slots Q (F0 m (pc + 3) ls rest)) : W p l e R s m args below meth c H locs cells slots Q (F0 m pc ls (.int (nI y) :: .int (nI x) :: rest)) :=
  lv_icmp_ne hexec hb hdg ht (fun h => kt (fun q => h ((nI_eq hx hy).mpr q))) (fun h => kf ((nI_eq hx hy).mp h))
theorem bm_ni_ge (hexec : p.tables.exec = Jvm.exec) (hb : c.code = cc) {x y : Nat} (hx : x < 2 ^ 31) (hy : y < 2 ^ 31) {off : Int} {tgt : Nat} (hdg : decode cc pc = .ok (.if_icmp .ge off, 3)) (ht : (pc : Int) + off = (tgt : Int))
    (kt : ¬ x < y → W p l e R s m args below meth c H locs cells slots Q (F0 m tgt ls rest)) (kf : x < y → W p l e R s m args below meth c H locs cells slots Q (F0 m (pc + 3) ls rest)) : W p l e R s m args below meth c H locs cells slots Q (F0 m pc ls (.int (nI y) :: .int (nI x) :: rest)) :=
  lv_icmp_ge hexec hb hdg ht (fun h => kt (Nat.not_lt.mpr ((nI_leI hy hx).mp h))) (fun h => kf (Nat.not_le.mp (fun q => h ((nI_leI hy hx).mpr q))))
theorem bm_ni_lt (hexec : p.tables.exec = Jvm.exec) (hb : c.code = cc) {x y : Nat} (hx : x < 2 ^ 31) (hy : y < 2 ^ 31) {off : Int} {tgt : Nat} (hdg : decode cc pc = .ok (.if_icmp .lt off, 3)) (ht : (pc : Int) + off = (tgt : Int))
    (kt : x < y → W p l e R s m args below meth c H locs cells slots Q (F0 m tgt ls rest)) (kf : ¬ x < y → W p l e R s m args below meth c H locs cells slots Q (F0 m (pc + 3) ls rest)) : W p l e R s m args below meth c H locs cells slots Q (F0 m pc ls (.int (nI y) :: .int (nI x) :: rest)) :=
  lv_icmp_lt hexec hb hdg ht (fun h => kt ((nI_ltI hx hy).mp h)) (fun h => kf (fun q => h ((nI_ltI hx hy).mpr q)))
theorem bm_nz_eq (hexec : p.tables.exec = Jvm.exec) (hb : c.code = cc) {x : Nat} (hx : x < 2 ^ 31) {off : Int} {tgt : Nat} (hdg : decode cc pc = .ok (.ifCond .eq off, 3)) (ht : (pc : Int) + off = (tgt : Int))
    (kt : x = 0 → W p l e R s m args below meth c H locs cells slots Q (F0 m tgt ls rest)) (kf : ¬ x = 0 → W p l e R s m args below meth c H locs cells slots Q (F0 m (pc + 3) ls rest)) : W p l e R s m args below meth c H locs cells slots Q (F0 m pc ls (.int (nI x) :: rest)) :=
  lv_if_eq hexec hb hdg ht (fun h => kt ((nI_eq hx (by decide : 0 < 2 ^ 31)).mp (h.trans nI_0.symm))) (fun h => kf (fun q => h (by rw [q]; exact nI_0)))
theorem bm_nz_ne (hexec : p.tables.exec = Jvm.exec) (hb : c.code = cc) {x : Nat} (hx : x < 2 ^ 31) {off : Int} {tgt : Nat} (hdg : decode cc pc = .ok (.ifCond .ne off, 3)) (ht : (pc : Int) + off = (tgt : Int))
    (kt : ¬ x = 0 → W p l e R s m args below meth c H locs cells slots Q (F0 m tgt ls rest)) (kf : x = 0 → W p l e R s m args below meth c H locs cells slots Q (F0 m (pc + 3) ls rest)) : W p l e R s m args below meth c H locs cells slots Q (F0 m pc ls (.int (nI x) :: rest)) :=
  lv_if_ne hexec hb hdg ht (fun h => kt (fun q => h (by rw [q]; exact nI_0))) (fun h => kf ((nI_eq hx (by decide : 0 < 2 ^ 31)).mp (h.trans nI_0.symm)))
theorem bm_nrem (hexec : p.tables.exec = Jvm.exec) (hb : c.code = cc) {x y : Nat} (hx : x < 2 ^ 31) (h0 : 0 < y) (hy : y < 2 ^ 31) (hdg : decode cc pc = .ok (.irem, 1))
    (k : W p l e R s m args below meth c H locs cells slots Q (F0 m (pc + 1) ls (.int (nI (x % y)) :: rest))) : W p l e R s m args below meth c H locs cells slots Q (F0 m pc ls (.int (nI y) :: .int (nI x) :: rest)) := by
  refine lv_irem hexec hb hdg (nI_ne0 h0 hy) ?_
  rw [pk_rem hx h0 hy]
  exact k
theorem bm_nadd (hexec : p.tables.exec = Jvm.exec) (hb : c.code = cc) {x y : Nat} (hdg : decode cc pc = .ok (.iadd, 1))
    (k : W p l e R s m args below meth c H locs cells slots Q (F0 m (pc + 1) ls (.int (nI (x + y)) :: rest))) : W p l e R s m args below meth c H locs cells slots Q (F0 m pc ls (.int (nI y) :: .int (nI x) :: rest)) := by
  refine lv_iadd hexec hb hdg ?_
  rw [nI_add]
  exact k
theorem bm_nsub (hexec : p.tables.exec = Jvm.exec) (hb : c.code = cc) {x y : Nat} (h : y ≤ x) (hdg : decode cc pc = .ok (.isub, 1))
    (k : W p l e R s m args below meth c H locs cells slots Q (F0 m (pc + 1) ls (.int (nI (x - y)) :: rest))) : W p l e R s m args below meth c H locs cells slots Q (F0 m pc ls (.int (nI y) :: .int (nI x) :: rest)) := by
  refine lv_isub hexec hb hdg ?_
  rw [pk_sub h]
  exact k
theorem bm_iconst (hexec : p.tables.exec = Jvm.exec) (hb : c.code = cc) {n : Int} (v : Nat) (hdg : decode cc pc = .ok (.iconst n, 1)) (hv : Int32.ofInt n = nI v)
    (k : W p l e R s m args below meth c H locs cells slots Q (F0 m (pc + 1) ls (.int (nI v) :: rest))) : W p l e R s m args below meth c H locs cells slots Q (F0 m pc ls (rest)) := lv_iconst hexec hb hdg hv k
theorem bm_bconst (hexec : p.tables.exec = Jvm.exec) (hb : c.code = cc) {n : Int} (v : Bool) (hdg : decode cc pc = .ok (.iconst n, 1)) (hv : Int32.ofInt n = bm_b v)
    (k : W p l e R s m args below meth c H locs cells slots Q (F0 m (pc + 1) ls (.int (bm_b v) :: rest))) : W p l e R s m args below meth c H locs cells slots Q (F0 m pc ls (rest)) := lv_iconst hexec hb hdg hv k
end BMK
-- READERS AND WRITERS of a world
def bm_Rp (D : va_G) (cl : List vw_C) (tys : List (ClassId × FieldType)) (ws : va_W) (av : List Value) : Array Value → State → Prop := fun v U => v = av.toArray ∧ va_P D cl ws U.heap ∧ va_K D cl tys U
def bm_Rd (l : Launch) (y : MethodName) (wd : List Cond) (rm : Room) (D : va_G) (cl : List vw_C) (tys : List (ClassId × FieldType)) (ws : va_W) (av : List Value) (r : Value) : Prop := Met l y wd rm (bm_Rp D cl tys ws av) (k2_QcV r) 0 0 (fun _ => False)
def bm_Wp (D : va_G) (cl : List vw_C) (tys : List (ClassId × FieldType)) (ws : va_W) (av : List Value) (sz : Nat) : Array Value → State → Prop := fun v U => v = av.toArray ∧ U.heap.size = sz ∧ va_P D cl ws U.heap ∧ va_K D cl tys U ∧ va_D (fun _ => True) ws
def bm_Wq (D : va_G) (cl : List vw_C) (tys : List (ClassId × FieldType)) (ws' : va_W) (r : Option Value) (A : Nat → Prop) : Array Value → State → Outcome → State → Prop := fun _ st oc t => (oc = .returned r ∧ va_P D cl ws' t.heap ∧ va_K D cl tys t ∧ va_D A ws') ∧ va_F A st t
def bm_Wr (l : Launch) (y : MethodName) (wd : List Cond) (rm : Room) (D : va_G) (cl : List vw_C) (tys : List (ClassId × FieldType)) (ws : va_W) (av : List Value) (ws' : va_W) (r : Option Value) : Prop := ∀ sz : Nat, Met l y wd rm (bm_Wp D cl tys ws av sz) (bm_Wq D cl tys ws' r (va_A ws sz)) 0 0 (va_A ws sz)
theorem bm_Rp.blind {D : va_G} {cl : List vw_C} {tys : List (ClassId × FieldType)} {ws : va_W} {av : List Value} : FrameBlind (bm_Rp D cl tys ws av) := by
  intro a U g mk q
  obtain ⟨q0, qP, qK⟩ := q
  exact ⟨q0, qP, va_K.moved (u := U) (U := U.calling g mk a) (Vm.Alike.refl U.vm) qK⟩
theorem bm_Wp.blind {D : va_G} {cl : List vw_C} {tys : List (ClassId × FieldType)} {ws : va_W} {av : List Value} {sz : Nat} : FrameBlind (bm_Wp D cl tys ws av sz) := by
  intro a U g mk q
  obtain ⟨q0, q1, qP, qK, qD⟩ := q
  exact ⟨q0, q1, qP, va_K.moved (u := U) (U := U.calling g mk a) (Vm.Alike.refl U.vm) qK, qD⟩
section BMC
variable {p : Program} {l : Launch} {e : Env} {R : Room} {s : State} {m : MethodId} {args : Array Value} {below : List Frame} {meth : Method} {c : Code} {H : Heap} {locs : List Loc} {cells slots : Nat} {Q : State → Prop}
variable {cc bytes : ByteArray} {pc nL maxL n index : Nat} {ret : Option FieldType} {ls : Array Slot} {st0 As rest : List Value} {D : va_G} {cl : List vw_C} {A : Nat → Prop} {b : Nat} {tys : List (ClassId × FieldType)} {ws ws' : va_W} {H0 : Heap} {Ts wd : List Cond} {rm : Room} {own C : String} {T : u_T} {N : Nat} {y : MethodName} {fs : List Value}
theorem bm_rcallV {r : Value} (S : CallFix p m c cc nL s args Ts own) (hM : bm_Rd l y wd rm D cl tys ws (.ref b :: As) r) (cw : CallW R s args own C index y bytes maxL ret wd rm 0 0 n) (hK : va_K D cl tys s) (hP : va_P D cl ws H) (q0 ci : Nat) (hc : cl[ci]? = some (C, T, N)) (he : ws[q0]? = some (b, .inr (ci, fs)))
    (hn : As.length = n) (hsize : ls.size = nL) (hstack : st0 = As.reverse ++ .ref b :: rest) (hW : (rest.map fun v => v.category).sum ≤ 8) (hdg : decode cc pc = .ok (.invokevirtual index, 3)) (hcs : cells ≤ R.cells ∧ slots ≤ R.slots)
    (kk : W p l e R s m args below meth c H locs cells slots Q (F0 m (pc + 3) ls (r :: rest))) : W p l e R s m args below meth c H locs cells slots Q (F0 m pc ls st0) :=
  W.callV (W.runV (g := F0 m pc ls st0) S hM cw ⟨bm_Rp.blind, va_recv hK hP hc he, fun U hU hW => ⟨rfl, by rw [hU]; exact hP, va_K.moved hW.alike hK⟩⟩ rfl hn hsize hstack (lv_room hW) hdg hcs) kk
theorem bm_rcallS {r : Value} (S : CallFix p m c cc nL s args Ts own) (hM : bm_Rd l y wd rm D cl tys ws As r) (cw : CallB R s args own index y bytes maxL ret wd rm 0 0 n ∧ (Cond.static y).before args s = true) (hK : va_K D cl tys s) (hP : va_P D cl ws H)
    (hn : As.length = n) (hsize : ls.size = nL) (hstack : st0 = As.reverse ++ rest) (hW : (rest.map fun v => v.category).sum ≤ 8) (hdg : decode cc pc = .ok (.invokestatic index, 3)) (hcs : cells ≤ R.cells ∧ slots ≤ R.slots)
    (kk : W p l e R s m args below meth c H locs cells slots Q (F0 m (pc + 3) ls (r :: rest))) : W p l e R s m args below meth c H locs cells slots Q (F0 m pc ls st0) :=
  W.callV (W.runS (g := F0 m pc ls st0) S hM cw ⟨bm_Rp.blind, fun U hU hW => ⟨rfl, by rw [hU]; exact hP, va_K.moved hW.alike hK⟩⟩ rfl hn hsize hstack (lv_room hW) hdg hcs) kk
theorem bm_wcallV {r : Option Value} (S : CallFix p m c cc nL s args Ts own) (hM : bm_Wr l y wd rm D cl tys ws (.ref b :: As) ws' r) (cw : CallW R s args own C index y bytes maxL ret wd rm 0 0 n) (hK : va_K D cl tys s) (hP : va_P D cl ws H) (hD : va_D A ws) (hS : va_S A H0 H locs) (hA : ∀ q : Nat, H0.size ≤ q → A q) (q0 ci : Nat) (hc : cl[ci]? = some (C, T, N)) (he : ws[q0]? = some (b, .inr (ci, fs)))
    (hn : As.length = n) (hsize : ls.size = nL) (hstack : st0 = As.reverse ++ .ref b :: rest) (hW : (rest.map fun v => v.category).sum ≤ 8) (hdg : decode cc pc = .ok (.invokevirtual index, 3)) (hcs : cells ≤ R.cells ∧ slots ≤ R.slots)
    (kk : ∀ (H1 : Heap) (locs1 : List Loc), va_P D cl ws' H1 → va_D A ws' → va_S A H0 H1 locs1 → W p l e R s m args below meth c H1 locs1 cells slots Q (F0 m (pc + 3) ls (r.toList ++ rest))) : W p l e R s m args below meth c H locs cells slots Q (F0 m pc ls st0) := by
  have hr := va_runV (g := F0 m pc ls st0) (e := e) (below := below) (meth := meth) (locs := locs) (cells := cells) (slots := slots) S (hM H.size) cw ⟨bm_Wp.blind, va_recv hK hP hc he, fun U hU hW => ⟨rfl, by rw [hU], by rw [hU]; exact hP, va_K.moved hW.alike hK, hD.weaken (fun _ _ _ _ => trivial)⟩⟩ rfl hn hsize hstack (lv_room hW) hdg hcs
  have hF : ∀ q, va_A ws H.size q → A q := by
    intro q h
    rcases h with ⟨k, e9, h⟩ | h
    · exact hD.2 k (q, e9) h
    · exact hA q (Nat.le_trans hS.1 h)
  intro T hT X
  obtain ⟨v, st₀, t, T', L, h0, X', hL, e1, e2, ⟨⟨hv, hP', hK', hD'⟩, hz, hk⟩, st⟩ := hr T hT X
  cases hv
  rw [h0] at hz hk
  obtain ⟨t2, a1, b1⟩ := kk T'.heap (locs ++ L) (by rw [e1]; exact hP') (hD'.weaken (fun _ _ _ h => hF _ h))
    ⟨Nat.le_trans hS.1 (by rw [e1]; exact hz), fun q h1 h2 => by rw [e1, hk q (Nat.lt_of_lt_of_le h1 hS.1) (fun z => h2 (hF q z))]; exact hS.2.1 q h1 h2, fun q hq => by
      rcases List.mem_append.mp hq with h | h
      · exact hS.2.2 q h
      · exact hF _ (hL q h)⟩ T' rfl X'
  exact ⟨t2, st t2 a1, b1⟩
end BMC
section BME
variable {p : Program} {l : Launch} {e : Env} {R : Room} {s : State} {m : MethodId} {args : Array Value} {below : List Frame} {meth : Method} {c : Code} {H : Heap} {locs : List Loc} {cells slots : Nat} {Q : State → Prop}
variable {cc : ByteArray} {pc : Nat} {ls : Array Slot} {rest : List Value} {D : va_G} {cl : List vw_C} {A : Nat → Prop} {tys : List (ClassId × FieldType)} {ws ws' : va_W}
theorem bm_zretR {v r : Bool} (hexec : p.tables.exec = Jvm.exec) (hb : c.code = cc) (hr : meth.sig.returnType = some .boolean) (he : v = r) (hdg : decode cc pc = .ok (.ireturn, 1)) (hlocks : meth.locks = false) : W p l e R s m args below meth c s.heap [] cells slots (MQ below (k2_QcV (.int (bm_b r))) args s cells slots (fun _ => False)) (F0 m pc ls [.int (bm_b v)]) := by
  subst he
  exact W.zret hexec hb hr (bm_b_narrow v) (fun t ht hW => ⟨rfl, ht⟩) (fun q h => by cases h) hdg hlocks
theorem bm_iretR {v r : Int32} (hexec : p.tables.exec = Jvm.exec) (hb : c.code = cc) (hr : meth.sig.returnType = some .int) (he : v = r) (hdg : decode cc pc = .ok (.ireturn, 1)) (hlocks : meth.locks = false) : W p l e R s m args below meth c s.heap [] cells slots (MQ below (k2_QcV (.int r)) args s cells slots (fun _ => False)) (F0 m pc ls [.int v]) := by
  subst he
  exact W.iret hexec hb hr (fun t ht hW => ⟨rfl, ht⟩) (fun q h => by cases h) hdg hlocks
theorem bm_lretR {v r : Int64} (hexec : p.tables.exec = Jvm.exec) (hb : c.code = cc) (hr : meth.sig.returnType = some .long) (he : v = r) (hdg : decode cc pc = .ok (.lreturn, 1)) (hlocks : meth.locks = false) : W p l e R s m args below meth c s.heap [] cells slots (MQ below (k2_QcV (.long r)) args s cells slots (fun _ => False)) (F0 m pc ls [.long v]) := by
  subst he
  exact W.lret hexec hb hr (fun t ht hW => ⟨rfl, ht⟩) (fun q h => by cases h) hdg hlocks
theorem bm_vretW (hexec : p.tables.exec = Jvm.exec) (hb : c.code = cc) (hr : meth.sig.returnType = none) (hP : va_P D cl ws H) (hD : va_D A ws) (hK : va_K D cl tys s) (hS : va_S A s.heap H locs) (he : ws = ws') (hdg : decode cc pc = .ok (.return_, 1)) (hlocks : meth.locks = false) : W p l e R s m args below meth c H locs cells slots (MQ below (bm_Wq D cl tys ws' none A) args s cells slots A) (F0 m pc ls []) := by
  subst he
  exact W.vret hexec hb hr (fun t ht hW => ⟨⟨rfl, by rw [ht]; exact hP, va_K.moved hW.alike hK, hD⟩, hS.F ht⟩) hS.2.2 hdg hlocks
theorem bm_iretW {v r : Int32} (hexec : p.tables.exec = Jvm.exec) (hb : c.code = cc) (hr : meth.sig.returnType = some .int) (hP : va_P D cl ws H) (hD : va_D A ws) (hK : va_K D cl tys s) (hS : va_S A s.heap H locs) (he : v = r ∧ ws = ws') (hdg : decode cc pc = .ok (.ireturn, 1)) (hlocks : meth.locks = false) : W p l e R s m args below meth c H locs cells slots (MQ below (bm_Wq D cl tys ws' (some (.int r)) A) args s cells slots A) (F0 m pc ls [.int v]) := by
  obtain ⟨h1, h2⟩ := he
  subst h1; subst h2
  exact W.iret hexec hb hr (fun t ht hW => ⟨⟨rfl, by rw [ht]; exact hP, va_K.moved hW.alike hK, hD⟩, hS.F ht⟩) hS.2.2 hdg hlocks
theorem bm_zretW {v r : Bool} (hexec : p.tables.exec = Jvm.exec) (hb : c.code = cc) (hr : meth.sig.returnType = some .boolean) (hP : va_P D cl ws H) (hD : va_D A ws) (hK : va_K D cl tys s) (hS : va_S A s.heap H locs) (he : v = r ∧ ws = ws') (hdg : decode cc pc = .ok (.ireturn, 1)) (hlocks : meth.locks = false) : W p l e R s m args below meth c H locs cells slots (MQ below (bm_Wq D cl tys ws' (some (.int (bm_b r))) A) args s cells slots A) (F0 m pc ls [.int (bm_b v)]) := by
  obtain ⟨h1, h2⟩ := he
  subst h1; subst h2
  exact W.zret hexec hb hr (bm_b_narrow v) (fun t ht hW => ⟨⟨rfl, by rw [ht]; exact hP, va_K.moved hW.alike hK, hD⟩, hS.F ht⟩) hS.2.2 hdg hlocks
theorem bm_lretW {v r : Int64} (hexec : p.tables.exec = Jvm.exec) (hb : c.code = cc) (hr : meth.sig.returnType = some .long) (hP : va_P D cl ws H) (hD : va_D A ws) (hK : va_K D cl tys s) (hS : va_S A s.heap H locs) (he : v = r ∧ ws = ws') (hdg : decode cc pc = .ok (.lreturn, 1)) (hlocks : meth.locks = false) : W p l e R s m args below meth c H locs cells slots (MQ below (bm_Wq D cl tys ws' (some (.long r)) A) args s cells slots A) (F0 m pc ls [.long v]) := by
  obtain ⟨h1, h2⟩ := he
  subst h1; subst h2
  exact W.lret hexec hb hr (fun t ht hW => ⟨⟨rfl, by rw [ht]; exact hP, va_K.moved hW.alike hK, hD⟩, hS.F ht⟩) hS.2.2 hdg hlocks
theorem bm_bb_eq (hexec : p.tables.exec = Jvm.exec) (hb : c.code = cc) {x y : Bool} {off : Int} {tgt : Nat} (hdg : decode cc pc = .ok (.if_icmp .eq off, 3)) (ht : (pc : Int) + off = (tgt : Int))
    (kt : x = y → W p l e R s m args below meth c H locs cells slots Q (F0 m tgt ls rest)) (kf : ¬ x = y → W p l e R s m args below meth c H locs cells slots Q (F0 m (pc + 3) ls rest)) : W p l e R s m args below meth c H locs cells slots Q (F0 m pc ls (.int (bm_b y) :: .int (bm_b x) :: rest)) :=
  lv_icmp_eq hexec hb hdg ht (fun h => kt ((bm_b_inj x y).mp h)) (fun h => kf (fun q => h ((bm_b_inj x y).mpr q)))
theorem bm_bb_ne (hexec : p.tables.exec = Jvm.exec) (hb : c.code = cc) {x y : Bool} {off : Int} {tgt : Nat} (hdg : decode cc pc = .ok (.if_icmp .ne off, 3)) (ht : (pc : Int) + off = (tgt : Int))
    (kt : ¬ x = y → W p l e R s m args below meth c H locs cells slots Q (F0 m tgt ls rest)) (kf : x = y → W p l e R s m args below meth c H locs cells slots Q (F0 m (pc + 3) ls rest)) : W p l e R s m args below meth c H locs cells slots Q (F0 m pc ls (.int (bm_b y) :: .int (bm_b x) :: rest)) :=
  lv_icmp_ne hexec hb hdg ht (fun h => kt (fun q => h ((bm_b_inj x y).mpr q))) (fun h => kf ((bm_b_inj x y).mp h))
end BME
theorem bm_nmin {a b : Nat} (ha : a < 2 ^ 31) (hb : b < 2 ^ 31) : (if nI b < nI a then nI b else nI a) = nI (Nat.min a b) := by
  by_cases h : b < a
  · rw [if_pos ((nI_ltI hb ha).mpr h)]
    congr 1
    exact (Nat.min_eq_right (Nat.le_of_lt h)).symm
  · rw [if_neg (fun q => h ((nI_ltI hb ha).mp q))]
    congr 1
    exact (Nat.min_eq_left (Nat.not_lt.mp h)).symm
def q_max (x y : Int64) : Int64 := if y < x then x else y
def q_min (x y : Int64) : Int64 := if y < x then y else x
def q_abs (x : Int64) : Int64 := if 0 < x then x else -x
section BMM
variable {p : Program} {l : Launch} {e : Env} {R : Room} {s : State} {m : MethodId} {args : Array Value} {below : List Frame} {meth : Method} {c : Code} {H : Heap} {locs : List Loc} {cells slots : Nat} {Q : State → Prop} {pc : Nat} {ls : Array Slot} {rest : List Value}
theorem bm_mmaxl {cc : ByteArray} (hexec : p.tables.exec = Jvm.exec) (hb : c.code = cc) (hml : c.maxLocals = ls.size) {own : String} {index : Nat} (hown : s.vm.findClass own = some m.cls) (hlink : (Cond.methodLink own index Lib.MathLoose.max_long.x).before args s = true) (hstat : (Cond.static Lib.MathLoose.max_long.x).before args s = true) (hini : (Cond.initialized "java/lang/Math").before args s = true) (hcode : (Cond.code Lib.MathLoose.max_long.x Lib.MathLoose.max_long.code 4 (some .long)).before args s = true)
    (hframes : 1 ≤ R.frames) (hlocals : (rest.map fun v => v.category).sum + 15 ≤ R.locals) (hc : cells ≤ R.cells) (hs : slots ≤ R.slots) {x y : Int64} (hdg : decode cc pc = .ok (.invokestatic index, 3))
    (kk : W p l e R s m args below meth c H locs cells slots Q (F0 m (pc + 3) ls (.long (q_max x y) :: rest))) : W p l e R s m args below meth c H locs cells slots Q (F0 m pc ls (.long y :: .long x :: rest)) :=
  va_mmax_long hexec hb hml hown hlink hstat hini hcode hframes hlocals hc hs hdg kk
theorem bm_mminl {cc : ByteArray} (hexec : p.tables.exec = Jvm.exec) (hb : c.code = cc) (hml : c.maxLocals = ls.size) {own : String} {index : Nat} (hown : s.vm.findClass own = some m.cls) (hlink : (Cond.methodLink own index Lib.MathLoose.min_long.x).before args s = true) (hstat : (Cond.static Lib.MathLoose.min_long.x).before args s = true) (hini : (Cond.initialized "java/lang/Math").before args s = true) (hcode : (Cond.code Lib.MathLoose.min_long.x Lib.MathLoose.min_long.code 4 (some .long)).before args s = true)
    (hframes : 1 ≤ R.frames) (hlocals : (rest.map fun v => v.category).sum + 15 ≤ R.locals) (hc : cells ≤ R.cells) (hs : slots ≤ R.slots) {x y : Int64} (hdg : decode cc pc = .ok (.invokestatic index, 3))
    (kk : W p l e R s m args below meth c H locs cells slots Q (F0 m (pc + 3) ls (.long (q_min x y) :: rest))) : W p l e R s m args below meth c H locs cells slots Q (F0 m pc ls (.long y :: .long x :: rest)) :=
  va_mmin_long hexec hb hml hown hlink hstat hini hcode hframes hlocals hc hs hdg kk
theorem bm_mabsl {cc : ByteArray} (hexec : p.tables.exec = Jvm.exec) (hb : c.code = cc) (hml : c.maxLocals = ls.size) {own : String} {index : Nat} (hown : s.vm.findClass own = some m.cls) (hlink : (Cond.methodLink own index Lib.MathLoose.abs_long.x).before args s = true) (hstat : (Cond.static Lib.MathLoose.abs_long.x).before args s = true) (hini : (Cond.initialized "java/lang/Math").before args s = true) (hcode : (Cond.code Lib.MathLoose.abs_long.x Lib.MathLoose.abs_long.code 2 (some .long)).before args s = true)
    (hframes : 1 ≤ R.frames) (hlocals : (rest.map fun v => v.category).sum + 13 ≤ R.locals) (hc : cells ≤ R.cells) (hs : slots ≤ R.slots) {x : Int64} (hdg : decode cc pc = .ok (.invokestatic index, 3))
    (kk : W p l e R s m args below meth c H locs cells slots Q (F0 m (pc + 3) ls (.long (q_abs x) :: rest))) : W p l e R s m args below meth c H locs cells slots Q (F0 m pc ls (.long x :: rest)) :=
  va_mabs_long hexec hb hml hown hlink hstat hini hcode hframes hlocals hc hs hdg kk
theorem bm_mminn {cc : ByteArray} (hexec : p.tables.exec = Jvm.exec) (hb : c.code = cc) (hml : c.maxLocals = ls.size) {own : String} {index : Nat} (hown : s.vm.findClass own = some m.cls) (hlink : (Cond.methodLink own index Lib.Math.min.name).before args s = true) (hstat : (Cond.static Lib.Math.min.name).before args s = true) (hini : (Cond.initialized "java/lang/Math").before args s = true) (hcode : (Cond.code Lib.Math.min.name Lib.Math.min.code 2 (some .int)).before args s = true)
    (hframes : 1 ≤ R.frames) (hlocals : (rest.map fun v => v.category).sum + 13 ≤ R.locals) (hc : cells ≤ R.cells) (hs : slots ≤ R.slots) {x y : Nat} (hx : x < 2 ^ 31) (hy : y < 2 ^ 31) (hdg : decode cc pc = .ok (.invokestatic index, 3))
    (kk : W p l e R s m args below meth c H locs cells slots Q (F0 m (pc + 3) ls (.int (nI (Nat.min x y)) :: rest))) : W p l e R s m args below meth c H locs cells slots Q (F0 m pc ls (.int (nI y) :: .int (nI x) :: rest)) := by
  refine va_mmin hexec hb hml hown hlink hstat hini hcode hframes hlocals hc hs hdg ?_
  rw [bm_nmin hx hy]
  exact kk
end BMM
section BMN
variable {p : Program} {l : Launch} {e : Env} {R : Room} {s : State} {m : MethodId} {args : Array Value} {below : List Frame} {meth : Method} {c : Code} {H : Heap} {locs : List Loc} {cells slots : Nat} {Q : State → Prop}
variable {cc : ByteArray} {pc : Nat} {ls : Array Slot} {rest : List Value}
theorem bm_lrN (hexec : p.tables.exec = Jvm.exec) (hb : c.code = cc) {x y : Nat} (hx : x < 2 ^ 63) (h0 : 0 < y) (hy : y < 2 ^ 63) (hdg : decode cc pc = .ok (.lrem, 1))
    (k : W p l e R s m args below meth c H locs cells slots Q (F0 m (pc + 1) ls (.long (lN (x % y)) :: rest))) : W p l e R s m args below meth c H locs cells slots Q (F0 m pc ls (.long (lN y) :: .long (lN x) :: rest)) := by
  refine lv_lrem hexec hb hdg (fun q => ?_) ?_
  · have := (pk_lEQ hy (by decide : 0 < 2 ^ 63)).mp q
    omega
  · rw [pk_lRem hx h0 hy]
    exact k
theorem bm_l2iN (hexec : p.tables.exec = Jvm.exec) (hb : c.code = cc) {x : Nat} (hdg : decode cc pc = .ok (.l2i, 1))
    (k : W p l e R s m args below meth c H locs cells slots Q (F0 m (pc + 1) ls (.int (nI x) :: rest))) : W p l e R s m args below meth c H locs cells slots Q (F0 m pc ls (.long (lN x) :: rest)) := lv_l2i hexec hb hdg (lN_i x) k
theorem bm_i2lN (hexec : p.tables.exec = Jvm.exec) (hb : c.code = cc) {x : Nat} (hx : x < 2 ^ 31) (hdg : decode cc pc = .ok (.i2l, 1))
    (k : W p l e R s m args below meth c H locs cells slots Q (F0 m (pc + 1) ls (.long (lN x) :: rest))) : W p l e R s m args below meth c H locs cells slots Q (F0 m pc ls (.int (nI x) :: rest)) := lv_i2l hexec hb hdg (nI_l hx) k
theorem bm_Nlc_ne (hexec : p.tables.exec = Jvm.exec) (hb : c.code = cc) {x y : Nat} (hx : x < 2 ^ 63) (hy : y < 2 ^ 63) {off : Int} {tgt : Nat} (hd1 : decode cc pc = .ok (.lcmp, 1)) (hdg : decode cc (pc + 1) = .ok (.ifCond .ne off, 3)) (ht : ((pc + 1 : Nat) : Int) + off = (tgt : Int))
    (kt : ¬ x = y → W p l e R s m args below meth c H locs cells slots Q (F0 m tgt ls rest)) (kf : x = y → W p l e R s m args below meth c H locs cells slots Q (F0 m (pc + 1 + 3) ls rest)) : W p l e R s m args below meth c H locs cells slots Q (F0 m pc ls (.long (lN y) :: .long (lN x) :: rest)) :=
  bm_lc_ne hexec hb hd1 hdg ht (fun h => kt (fun q => h (by rw [q]))) (fun h => kf ((pk_lEQ hx hy).mp h))
theorem bm_nz_le (hexec : p.tables.exec = Jvm.exec) (hb : c.code = cc) {x : Nat} (hx : x < 2 ^ 31) {off : Int} {tgt : Nat} (hdg : decode cc pc = .ok (.ifCond .le off, 3)) (ht : (pc : Int) + off = (tgt : Int))
    (kt : x = 0 → W p l e R s m args below meth c H locs cells slots Q (F0 m tgt ls rest)) (kf : ¬ x = 0 → W p l e R s m args below meth c H locs cells slots Q (F0 m (pc + 3) ls rest)) : W p l e R s m args below meth c H locs cells slots Q (F0 m pc ls (.int (nI x) :: rest)) :=
  lv_if_le hexec hb hdg ht (fun h => kt (by
    rcases Nat.eq_zero_or_pos x with q | q
    · exact q
    · exact absurd h (nI_nle q hx))) (fun h => kf (fun q => h (by rw [q, nI_0]; decide)))
end BMN
end
section
abbrev gPA : Type := (Nat → Int64) × (Nat → Int64) × (Nat → Nat) × (Nat → Int64) × (Nat → Bool) × (Nat → Nat) × Nat
abbrev gPL : Type := (Nat → Int64) × (Nat → Int64) × (Nat → Nat) × (Nat → Bool)
abbrev gLI : Type := (Nat → Int64) × (Nat → Int64) × (Nat → Int64) × (Nat → Int64) × (Nat → Int64) × (Nat → Nat) × (Nat → Nat) × (Nat → Int64) × Nat × Nat
abbrev gWI : Type := (Nat → Nat) × (Nat → Nat) × (Nat → Int64) × (Nat → Int64) × (Nat → Bool) × (Nat → Int64) × (Nat → Int64) × (Nat → Int64) × (Nat → Int64) × Nat × Nat
abbrev gBM : Type := Int64 × Int64 × Int64 × Int64
abbrev gMS : Type := Int64 × Int64 × Nat × Nat × Nat × Nat × Nat × Int64
abbrev gMA : Type := (Nat → Int64) × (Nat → Int64) × (Nat → Nat) × (Nat → Int64) × (Nat → Bool) × (Nat → Nat) × (Nat → Bool)
abbrev gMP : Type := (Nat → Int64) × (Nat → Int64) × (Nat → Nat)
abbrev gMK : Type := (Nat → Int64) × (Nat → Nat) × (Nat → Nat) × (Nat → Int64)
abbrev gMN : Type := (Nat → Nat) × (Nat → Nat) × (Nat → Int64) × (Nat → Int64) × (Nat → Bool)
def WW (ad : Nat → Nat) (cJ cI cZ : ClassId) (bm : gBM) (pa : gPA) (p0 : gPL) (p1 : gPL) (p2 : gPL) (li : gLI) (wi : gWI) (mt : Nat) (ms : gMS) (ma : gMA) (mp : gMP) (mk : gMK) (mn : gMN) (ou : (Nat → Int64)) : va_W := [(ad 0, .inr (4, [.long bm.1, .long bm.2.1, .ref (ad 1), .ref (ad 23), .ref (ad 32), .ref (ad 8), .ref (ad 13), .ref (ad 18), .long bm.2.2.1, .long bm.2.2.2])),
  (ad 1, .inr (1, [.ref (ad 2), .ref (ad 3), .ref (ad 4), .ref (ad 5), .ref (ad 6), .ref (ad 7), .int (nI pa.2.2.2.2.2.2)])),
  (ad 2, .inl (cJ, 40, .inr (.inl pa.1))),
  (ad 3, .inl (cJ, 40, .inr (.inl pa.2.1))),
  (ad 4, .inl (cI, 40, .inl (fun j => nI (pa.2.2.1 j)))),
  (ad 5, .inl (cJ, 40, .inr (.inl pa.2.2.2.1))),
  (ad 6, .inl (cZ, 40, .inl (fun j => bm_b (pa.2.2.2.2.1 j)))),
  (ad 7, .inl (cI, 40, .inl (fun j => nI (pa.2.2.2.2.2.1 j)))),
  (ad 8, .inr (2, [.ref (ad 1), .ref (ad 9), .ref (ad 10), .ref (ad 11), .ref (ad 12)])),
  (ad 9, .inl (cJ, 40, .inr (.inl p0.1))),
  (ad 10, .inl (cJ, 40, .inr (.inl p0.2.1))),
  (ad 11, .inl (cI, 40, .inl (fun j => nI (p0.2.2.1 j)))),
  (ad 12, .inl (cZ, 40, .inl (fun j => bm_b (p0.2.2.2 j)))),
  (ad 13, .inr (2, [.ref (ad 1), .ref (ad 14), .ref (ad 15), .ref (ad 16), .ref (ad 17)])),
  (ad 14, .inl (cJ, 40, .inr (.inl p1.1))),
  (ad 15, .inl (cJ, 40, .inr (.inl p1.2.1))),
  (ad 16, .inl (cI, 40, .inl (fun j => nI (p1.2.2.1 j)))),
  (ad 17, .inl (cZ, 40, .inl (fun j => bm_b (p1.2.2.2 j)))),
  (ad 18, .inr (2, [.ref (ad 1), .ref (ad 19), .ref (ad 20), .ref (ad 21), .ref (ad 22)])),
  (ad 19, .inl (cJ, 40, .inr (.inl p2.1))),
  (ad 20, .inl (cJ, 40, .inr (.inl p2.2.1))),
  (ad 21, .inl (cI, 40, .inl (fun j => nI (p2.2.2.1 j)))),
  (ad 22, .inl (cZ, 40, .inl (fun j => bm_b (p2.2.2.2 j)))),
  (ad 23, .inr (0, [.ref (ad 1), .ref (ad 24), .ref (ad 25), .ref (ad 26), .ref (ad 27), .ref (ad 28), .ref (ad 29), .ref (ad 30), .ref (ad 31), .int (nI li.2.2.2.2.2.2.2.2.1), .int (nI li.2.2.2.2.2.2.2.2.2)])),
  (ad 24, .inl (cJ, 10, .inr (.inl li.1))),
  (ad 25, .inl (cJ, 10, .inr (.inl li.2.1))),
  (ad 26, .inl (cJ, 10, .inr (.inl li.2.2.1))),
  (ad 27, .inl (cJ, 10, .inr (.inl li.2.2.2.1))),
  (ad 28, .inl (cJ, 10, .inr (.inl li.2.2.2.2.1))),
  (ad 29, .inl (cI, 20, .inl (fun j => nI (li.2.2.2.2.2.1 j)))),
  (ad 30, .inl (cI, 20, .inl (fun j => nI (li.2.2.2.2.2.2.1 j)))),
  (ad 31, .inl (cJ, 20, .inr (.inl li.2.2.2.2.2.2.2.1))),
  (ad 32, .inr (3, [.ref (ad 1), .ref (ad 33), .ref (ad 34), .ref (ad 35), .ref (ad 36), .ref (ad 37), .ref (ad 38), .ref (ad 39), .ref (ad 40), .ref (ad 41), .int (nI wi.2.2.2.2.2.2.2.2.2.1), .int (nI wi.2.2.2.2.2.2.2.2.2.2)])),
  (ad 33, .inl (cI, 120, .inl (fun j => nI (wi.1 j)))),
  (ad 34, .inl (cI, 120, .inl (fun j => nI (wi.2.1 j)))),
  (ad 35, .inl (cJ, 120, .inr (.inl wi.2.2.1))),
  (ad 36, .inl (cJ, 120, .inr (.inl wi.2.2.2.1))),
  (ad 37, .inl (cZ, 40, .inl (fun j => bm_b (wi.2.2.2.2.1 j)))),
  (ad 38, .inl (cJ, 40, .inr (.inl wi.2.2.2.2.2.1))),
  (ad 39, .inl (cJ, 40, .inr (.inl wi.2.2.2.2.2.2.1))),
  (ad 40, .inl (cJ, 40, .inr (.inl wi.2.2.2.2.2.2.2.1))),
  (ad 41, .inl (cJ, 40, .inr (.inl wi.2.2.2.2.2.2.2.2.1))),
  (ad 42, .inr (5, [.int (nI mt), .long ms.1, .long ms.2.1, .int (nI ms.2.2.1), .ref (ad 43), .ref (ad 44), .ref (ad 45), .ref (ad 46), .ref (ad 47), .ref (ad 48), .ref (ad 49), .ref (ad 50), .ref (ad 51), .ref (ad 52), .int (nI ms.2.2.2.1), .ref (ad 53), .int (nI ms.2.2.2.2.1), .ref (ad 54), .ref (ad 55), .ref (ad 56), .int (nI ms.2.2.2.2.2.1), .int (nI ms.2.2.2.2.2.2.1), .ref (ad 57), .ref (ad 58), .ref (ad 59), .ref (ad 60), .ref (ad 61), .long ms.2.2.2.2.2.2.2])),
  (ad 43, .inl (cJ, 40, .inr (.inl ma.1))),
  (ad 44, .inl (cJ, 40, .inr (.inl ma.2.1))),
  (ad 45, .inl (cI, 40, .inl (fun j => nI (ma.2.2.1 j)))),
  (ad 46, .inl (cJ, 40, .inr (.inl ma.2.2.2.1))),
  (ad 47, .inl (cZ, 40, .inl (fun j => bm_b (ma.2.2.2.2.1 j)))),
  (ad 48, .inl (cI, 40, .inl (fun j => nI (ma.2.2.2.2.2.1 j)))),
  (ad 49, .inl (cZ, 40, .inl (fun j => bm_b (ma.2.2.2.2.2.2 j)))),
  (ad 50, .inl (cJ, 120, .inr (.inl mp.1))),
  (ad 51, .inl (cJ, 120, .inr (.inl mp.2.1))),
  (ad 52, .inl (cI, 120, .inl (fun j => nI (mp.2.2 j)))),
  (ad 53, .inl (cJ, 50, .inr (.inl mk.1))),
  (ad 54, .inl (cI, 20, .inl (fun j => nI (mk.2.1 j)))),
  (ad 55, .inl (cI, 20, .inl (fun j => nI (mk.2.2.1 j)))),
  (ad 56, .inl (cJ, 20, .inr (.inl mk.2.2.2))),
  (ad 57, .inl (cI, 120, .inl (fun j => nI (mn.1 j)))),
  (ad 58, .inl (cI, 120, .inl (fun j => nI (mn.2.1 j)))),
  (ad 59, .inl (cJ, 120, .inr (.inl mn.2.2.1))),
  (ad 60, .inl (cJ, 120, .inr (.inl mn.2.2.2.1))),
  (ad 61, .inl (cZ, 40, .inl (fun j => bm_b (mn.2.2.2.2 j)))),
  (ad 62, .inl (cJ, 1, .inr (.inl ou)))]
abbrev fPA : gPA := (fun _ => 0, fun _ => 0, fun _ => 0, fun _ => 0, fun _ => false, fun _ => 0, 0)
abbrev fPL : gPL := (fun _ => 0, fun _ => 0, fun _ => 0, fun _ => false)
abbrev fLI : gLI := (fun _ => 0, fun _ => 0, fun _ => 0, fun _ => 0, fun _ => 0, fun _ => 0, fun _ => 0, fun _ => 0, 0, 0)
abbrev fWI : gWI := (fun _ => 0, fun _ => 0, fun _ => 0, fun _ => 0, fun _ => false, fun _ => 0, fun _ => 0, fun _ => 0, fun _ => 0, 0, 0)
abbrev fMA : gMA := (fun _ => 0, fun _ => 0, fun _ => 0, fun _ => 0, fun _ => false, fun _ => 0, fun _ => false)
abbrev fMP : gMP := (fun _ => 0, fun _ => 0, fun _ => 0)
abbrev fMK : gMK := (fun _ => 0, fun _ => 0, fun _ => 0, fun _ => 0)
abbrev fMN : gMN := (fun _ => 0, fun _ => 0, fun _ => 0, fun _ => 0, fun _ => false)
end
section
-- EXCEPTIONS: own rows. A method that throws a new exception and changes nothing that was there; its callers; a catch.
theorem bx_state {U V : State} (hv : U.vm = V.vm) (C n d : String) : U.fieldFound? C n d = V.fieldFound? C n d := by
  unfold State.fieldFound?
  rw [hv]
def bx_tb (w : Cond) : Bool := w.onTables && w.keepsFace
theorem bx_tb_at {a a' : Array Value} {s U : State} {w : Cond} (hW : s.WarmedH U.vm) (hw : bx_tb w = true) (h : w.before a s = true) : w.before a' U = true := by
  simp only [bx_tb, Bool.and_eq_true] at hw
  have h1 : w.before a (s.setVm U.vm) = true := Cond.before_shiftedFace (State.Shifted.of_warmed hW) w hw.2 h
  rw [Cond.onTables_vm (A' := a') (U' := U) U.vm w hw.1, State.setVm_self] at h1
  exact h1
theorem bx_lay_at {C n d : String} {a a' : Array Value} {s U : State} (hW : s.WarmedH U.vm) (hh : ∀ q : Nat, q < s.heap.size → U.heap[q]? = s.heap[q]?) (h : (Cond.laysStatic C n d).before a s = true) : (Cond.laysStatic C n d).before a' U = true := by
  obtain ⟨c, k, i, f, q, cell, h1, h2, h3, h4, h5, h6, h7, h8, h9⟩ := Cond.laysStatic_spec h
  obtain ⟨k', hi', he⟩ := State.fieldFound?_setVm hW.alike h2
  have h5' : U.heap[q]? = some cell := by rw [hh q (Array.getElem?_eq_some_iff.mp h5).1]; exact h5
  show (Cond.laysStatic C n d).holds a' U none U [] = true
  exact Cond.laysStatic_of (by rw [hW.alike.findClass]; exact h1) hi' h3 (by rw [he]; exact h4) h5' h6 h7 h8 (by rw [he]; exact h9)
theorem bx_ref_at {C n d : String} {a a' : Array Value} {s U : State} (hW : s.WarmedH U.vm) (hh : ∀ q : Nat, q < s.heap.size → U.heap[q]? = s.heap[q]?) (hl : (Cond.laysStatic C n d).before a s = true) (hini : (Cond.initialized C).before a s = true) (h : (Cond.isRef (.static C n d)).before a s = true) : (Cond.isRef (.static C n d)).before a' U = true := by
  have z0 : va_Zq C n d (fun _ => False) s s.heap := va_Zqof hl hini h (fun _ _ z => z)
  have z1 : va_Zq C n d (fun _ => False) U U.heap := va_Zq.moved hW.alike (va_Zq.kept z0 (fun q hq _ => hh q hq))
  have key : ∀ v : Value, v.isRef = true → va_Z C n d v (fun _ => False) U U.heap → (Cond.isRef (.static C n d)).before a' U = true := by
    intro v hv hz
    obtain ⟨cf, kf, fi, f, q, cell, h1, h2, h3, h4, h5, h6, h7, -⟩ := hz
    have he : (Term.static C n d).eval a' U none [] U = some v := by simp [Term.eval, State.fieldNamed?, h1, h2, h4, h5, h6, h7]
    simp only [Cond.before, Cond.holds, Cond.value, he]
    cases v <;> simp_all [Value.isRef]
  rcases z1 with h9 | ⟨t, h9⟩
  · exact key _ rfl h9
  · exact key _ rfl h9
/-- the words of a throw that speak of the heap -/
def bx_st : List Cond := [.laysStatic Bundle.tN "UNASSIGNED_STACK" Bundle.steD, .laysStatic Bundle.tN "SUPPRESSED_SENTINEL" Bundle.listD, .isRef (.static Bundle.tN "UNASSIGNED_STACK" Bundle.steD), .isRef (.static Bundle.tN "SUPPRESSED_SENTINEL" Bundle.listD)]
/-- the words xw hold, whatever the arguments -/
def bx_X (xw : List Cond) (U : State) : Prop := ∀ w ∈ xw, ∀ a : Array Value, w.before a U = true
def bx_ok (xw : List Cond) : Bool := xw.all (fun w => bx_tb w || decide (w ∈ bx_st)) && bx_st.all (fun w => decide (w ∈ xw)) && decide (Cond.initialized Bundle.tN ∈ xw)
theorem bx_X.of {xw : List Cond} {s U : State} {a0 : Array Value} (hok : bx_ok xw = true) (hW : s.WarmedH U.vm) (hh : ∀ q : Nat, q < s.heap.size → U.heap[q]? = s.heap[q]?) (h : ∀ w ∈ xw, w.before a0 s = true) : bx_X xw U := by
  simp only [bx_ok, Bool.and_eq_true, List.all_eq_true, decide_eq_true_eq, Bool.or_eq_true] at hok
  obtain ⟨⟨h1, h2⟩, h3⟩ := hok
  intro w hw a
  rcases h1 w hw with h4 | h4
  · exact bx_tb_at hW h4 (h w hw)
  · simp only [bx_st, List.mem_cons, List.not_mem_nil, or_false] at h4
    rcases h4 with rfl | rfl | rfl | rfl
    · exact bx_lay_at hW hh (h _ hw)
    · exact bx_lay_at hW hh (h _ hw)
    · exact bx_ref_at hW hh (h _ (h2 _ (by simp [bx_st]))) (h _ h3) (h _ hw)
    · exact bx_ref_at hW hh (h _ (h2 _ (by simp [bx_st]))) (h _ h3) (h _ hw)
theorem bx_X.mv {xw : List Cond} {s U : State} (hok : bx_ok xw = true) (hW : s.WarmedH U.vm) (hh : ∀ q : Nat, q < s.heap.size → U.heap[q]? = s.heap[q]?) (h : bx_X xw s) : bx_X xw U := bx_X.of (a0 := #[]) hok hW hh (fun w hw => h w hw _)
/-- the strings: each is interned somewhere -/
def bx_S (own : String) (strs : List (Nat × String)) (U : State) : Prop := ∀ q ∈ strs, ∃ sa : Nat, vk_R own q.1 q.2 sa U
theorem bx_S.mv {own : String} {strs : List (Nat × String)} {s U : State} (hW : s.WarmedH U.vm) (h : bx_S own strs s) : bx_S own strs U := fun q hq => by
  obtain ⟨sa, h1⟩ := h q hq
  exact ⟨sa, vk_R.warm hW h1⟩
theorem bx_frame {s U : State} {k n : Nat} (h : s.sameButNew ({ U with vm := s.vm } : State) [] k n) : s.heap.size ≤ U.heap.size ∧ ∀ q : Nat, q < s.heap.size → U.heap[q]? = s.heap[q]? := by
  refine ⟨h.2.1, fun q hq => ?_⟩
  obtain ⟨c9, e1, e2, -, e4⟩ := h.2.2.2.2.2 q _ (Array.getElem?_eq_getElem hq)
  have es : c9.slots = (s.heap[q]).slots := Array.ext_getElem? (fun i => e4 i (by intro z; cases z))
  rw [es] at e2
  have e5 : U.heap[q]? = some c9 := e1
  rw [e5, e2, Array.getElem?_eq_getElem hq]
/-- how a throwing body ends -/
def bx_Tq (E : String) : Array Value → State → Outcome → State → Prop := fun _ st o t => ∃ (q : Addr) (ce : Cell), o = .threw q ∧ t.heap[q]? = some ce ∧ ce.vm = .none ∧ st.vm.findClass E = some ce.cls ∧ st.WarmedH t.vm ∧ st.sameButNew ({ t with vm := st.vm } : State) [] 1 6
def bx_T (l : Launch) (y : MethodName) (ws : List Cond) (rm : Room) (Pc : Array Value → State → Prop) (E : String) : Prop := MetFree l y (headSpec ws rm) Pc (fun _ _ _ _ _ => True) (bx_Tq E)
def bx_MQ (below : List Frame) (E : String) (a : Array Value) (s : State) : State → Prop := fun t => ∃ o, t.status = .running ∧ Ended t below o ∧ bx_Tq E a s o t
theorem bx_ofW {l : Launch} {y : MethodName} {ws ws' : List Cond} {rm : Room} {Pc : Array Value → State → Prop} {E : String} {cc : ByteArray} {maxL : Nat} {ret : Option FieldType}
    (hy : plainName y.cls = true) (hw : ws = Cond.code y cc maxL ret :: ws')
    (body : ∀ p e s m args below meth c s₁, BodyLoose p l y (headSpec ws rm) cc maxL ret e s m args below meth c s₁ → c.maxLocals = maxL → (∀ x ∈ c.exceptionTable.toList, ∀ pc, covers x pc = false) → Pc args s →
      W p l e (headSpec ws rm).room s m args below meth c s.heap [] 0 0 (bx_MQ below E args s) (entryFrame m args maxL)) : bx_T l y ws rm Pc E := by
  have hm : Cond.code y cc maxL ret ∈ ws := by rw [hw]; exact List.mem_cons_self
  refine MetFree.of_bodyS (code := cc) (maxLocals := maxL) (ret := ret) hy ?_ ?_
  · intro args s m h hn
    obtain ⟨meth, c, h1, h2, h3, h4, h5, h6, -, -⟩ := Cond.code_spec hn (atoms_spec (ws := ws) h _ hm)
    exact ⟨meth, c, h1, h2, h3, h4, h5, h6⟩
  · intro p e s m args below meth c s₁ B hml hP _
    have he := B.noHandlers (atoms_spec (ws := ws) B.pre _ hm)
    obtain ⟨t, a1, o, b1, b2, b3⟩ := body p e s m args below meth c s₁ B hml (fun x hx => by
      rw [Array.isEmpty_iff] at he
      rw [he] at hx
      cases hx) hP s₁ (by rw [B.state]; rfl) (Stand.of_body B)
    exact ⟨t, o, a1, b1, b2, b3⟩
section BX1
variable {p : Program} {l : Launch} {e : Env} {R : Room} {s : State} {m : MethodId} {args : Array Value} {below : List Frame} {meth : Method} {c : Code} {H : Heap} {locs : List Loc} {cells slots : Nat} {Q : State → Prop}
/-- throw new cls(text): new, dup, ldc, invokespecial, athrow -/
theorem bx_throw {cc : ByteArray} {pc : Nat} {ls : Array Slot} {rest : List Value} (hx : p.tables.exec = Jvm.exec) (hb : c.code = cc) (hl : l.stackTraces = false) {own cls text : String} {names : List String} {ik is ic sa : Nat}
    (hown : s.vm.findClass own = some m.cls) (hcls : Bundle.fit cls = true) (hnames : ∀ n ∈ names, Bundle.fit n = true) (hk : (Cond.classLink own ik cls).before args s = true) (hini : (Cond.initialized cls).before args s = true)
    (hstr : vk_R own is text sa s) (hat : ∀ w ∈ Bundle.ownAtoms own ic cls names, w.before args s = true) (hsize : ls.size = c.maxLocals)
    (d0 : decode cc pc = .ok (.new ik, 3)) (d3 : decode cc (pc + 3) = .ok (.dup, 1)) (d4 : decode cc (pc + 4) = .ok (.ldc is, 2)) (d6 : decode cc (pc + 6) = .ok (.invokespecial ic, 3)) (d9 : decode cc (pc + 9) = .ok (.athrow, 1))
    (hout : ∀ x ∈ c.exceptionTable.toList, ∀ pc, covers x pc = false) (hF : names.length + 3 < R.frames) (hL : (rest.map fun v => v.category).sum + (13 * (names.length + 1) + 43) ≤ R.locals) (hC : 1 ≤ R.cells) (hS : 6 ≤ R.slots) (hlocks : meth.locks = false) :
    W p l e R s m args below meth c s.heap [] 0 0 (bx_MQ below cls args s) (F0 m pc ls rest) := by
  intro T hT X
  have htr : e.platform.stackTraces = false := (show e.platform.stackTraces = l.stackTraces by rw [X.admits.platform]).trans hl
  have hins : (Cond.instantiable cls 6).before args s = true := hat _ (by simp [Bundle.ownAtoms])
  obtain ⟨vm₁, cX, kX, hfX, hkX, -, -, X₁, st1⟩ := X.newCold hx (own := own) (C := cls) (index := ik) (n := 6) hown hk hins hini (g := F0 m pc ls rest) rfl (by rw [hb]; exact d0) (by omega) (by omega)
  generalize hT1 : (T.setVm vm₁).pushCell { cls := cX, slots := kX.instanceTypes.map defaultValue, vm := .none } = T1 at X₁ st1
  have hcat : (Value.ref T.heap.size).category = 1 := rfl
  have hcellA : T1.heap[T.heap.size]? = some (freshCell cX kX) := by rw [← hT1]; exact State.heap_pushCell_size _ _
  have d3' : decode c.code (pc + 3) = .ok (.dup, 1) := by rw [hb]; exact d3
  have d4' : decode c.code (pc + 4) = .ok (.ldc is, 2) := by rw [hb]; exact d4
  obtain ⟨U, hsteps, hrun, hend, hW, hsame, ce, hce, hO⟩ := X₁.ctorThrowS hx htr (own := own) (cls := cls) (names := names) (ic := ic) hown hcls hnames hat (fun x hx => nomatch hx) hfX hkX hcellA (by rw [hT]; exact Nat.le_refl _) (msg := .ref sa) rfl
    (g := { method := m, pc := pc + 6, locals := ls, stack := .ref sa :: .ref T.heap.size :: .ref T.heap.size :: rest, locked := none }) rfl hsize rfl rfl (rest := rest) rfl
    (by rw [hb]; exact d6) (by rw [hb]; exact d9) (fun x hx => hout x hx _) hF (by simp only [List.map_cons, List.sum_cons, hcat]; omega) hlocks
  refine ⟨U, ?_, .threw T.heap.size, hrun, hend, T.heap.size, ce, rfl, hce, hO.vm, hO.cls, hW, hsame⟩
  refine st1 _ ?_
  show Steps p.tables e below (T1.setTop { method := m, pc := pc + 3, locals := ls, stack := .ref T.heap.size :: rest, locked := none }) _
  jvm_step X₁.here [X₁.here.top, hx, d3', Value.category]
  exact X₁.ldcString hx (own := own) (text := text) (index := is) (a := sa) hown hstr.1 hstr.2
    (g := { method := m, pc := pc + 4, locals := ls, stack := .ref T.heap.size :: .ref T.heap.size :: rest, locked := none }) rfl d4' _ hsteps
/-- what a call of a thrower does: the note lies over the caller's frame -/
def bx_Run (p : Program) (l : Launch) (e : Env) (R : Room) (s : State) (m : MethodId) (args : Array Value) (below : List Frame) (meth : Method) (c : Code) (H : Heap) (locs : List Loc) (cells slots : Nat) (g : JFrame) (rest : List Value) (E : String) : Prop :=
  ∀ T : State, T.heap = H → Stand p l e R s m args below meth c T locs cells slots → ∃ (q : Addr) (ce : Cell) (T' : State), Stand p l e R s m args below meth c T' locs (cells + 1) (slots + 6) ∧ T'.heap[q]? = some ce ∧ ce.vm = .none ∧ s.vm.findClass E = some ce.cls ∧ H.size ≤ T'.heap.size ∧ (∀ k : Nat, k < H.size → T'.heap[k]? = H[k]?) ∧
    Steps p.tables e below (T.setTop g) ((T'.setTop { g with stack := rest }).pushFrame (.throwing q))
theorem bx_core {U : State} (X : Stand p l e R s m args below meth c U locs cells slots) {y : MethodName} {ws : List Cond} {rm : Room} {Pc : Array Value → State → Prop} {E : String} (hM : bx_T l y ws rm Pc E) {bytes : ByteArray} {maxL : Nat} {ret : Option FieldType}
    {g : JFrame} (hg : g.method = m) (hsize : g.locals.size = c.maxLocals) {ig : Instr} {len : Nat} (hdg : decode c.code g.pc = .ok (ig, len)) (hW : 2 * g.monitorRoom + (g.stack.map fun v => v.category).sum ≤ 8) {mk : MethodId} {a : Array Value}
    (hn : U.methodNamed? y = some mk) (hws : ∀ w ∈ ws, w.before a U = true) (hcode : (Cond.code y bytes maxL ret).before a U = true) (hini : (Cond.initialized y.cls).before a U = true) (hP : Pc a (U.calling g mk a))
    (hfr : rm.frames + 1 ≤ R.frames) (hlo : 8 + (maxL + 11) + rm.locals ≤ R.locals) (hrc : rm.cells = 1) (hrs : rm.slots = 6) (hc1 : cells + 1 ≤ R.cells) (hs1 : slots + 6 ≤ R.slots) :
    ∃ (q : Addr) (ce : Cell) (T' : State), Stand p l e R s m args below meth c T' locs (cells + 1) (slots + 6) ∧ T'.heap[q]? = some ce ∧ ce.vm = .none ∧ U.vm.findClass E = some ce.cls ∧ U.heap.size ≤ T'.heap.size ∧ (∀ k : Nat, k < U.heap.size → T'.heap[k]? = U.heap[k]?) ∧
      Steps p.tables e below (doInvoke e (U.setTop g) [] mk a).1 ((T'.setTop g).pushFrame (.throwing q)) := by
  obtain ⟨methY, cY, hmY, hcY, -, hlY, -, -, -, -⟩ := Cond.code_spec hn hcode
  obtain ⟨kY, hkY, -⟩ := className_of_methodNamed hn
  have hAt : At U g.method c below := by rw [hg]; exact X.here
  have happ : (headSpec ws rm).appliesLoose y e.platform (U.calling g mk a) = true :=
    Spec.appliesLoose_calling (g := g) hAt hdg hn hkY (Cond.initialized_spec (findClass_of_methodNamed hn) hkY hini)
      (X.room_calling (g := g) (R' := (headSpec ws rm).room) hsize hmY hcY hfr (by rw [hlY]; show _ + rm.locals ≤ _; omega) (by show cells + rm.cells ≤ _; omega) (by show slots + rm.slots ≤ _; omega)) (atoms_intro hws)
  obtain ⟨mid, hmid⟩ := hAt.above
  have hfrm : (U.setTop g).frames = (.java g :: mid) ++ below := by rw [State.frames_setTop' g hAt.top, hmid]; rfl
  obtain ⟨o, z, hsteps, -, hend, hq⟩ := Steps.callFree hM p X.admits X.cas X.clock (acts := []) hfrm happ hP trivial
  have hq' : bx_Tq E a (U.calling g mk a) o z := hq
  obtain ⟨q, ce, ho, h1, h2, h3, hWm, hsm⟩ := hq'
  subst ho
  have hfm := bx_frame hsm
  rw [State.frames_setTop' g hAt.top] at hend
  have hf2 : z.frames = .throwing q :: .java g :: U.frames.tail := hend
  obtain ⟨e2, q2, q3, q4, q5, q6⟩ := hsm
  have e3 : z = ({ (U.calling g mk a).setFrames z.frames with heap := z.heap, slotsUsed := z.slotsUsed } : State).setVm z.vm := by
    have e4 : z = ({ z with vm := (U.calling g mk a).vm } : State).setVm z.vm := rfl
    rw [e2] at e4
    exact e4
  have hWU : U.WarmedH z.vm := hWm
  obtain ⟨g₀, hg0⟩ := Option.isSome_iff_exists.mp hAt.top
  obtain ⟨r, hr⟩ := State.topJava?_eq_some.mp hg0
  obtain ⟨T', hT'⟩ : ∃ T' : State, T' = ({ U with heap := z.heap, slotsUsed := z.slotsUsed } : State).setVm z.vm := ⟨_, rfl⟩
  have hz : z = (T'.setTop g).pushFrame (.throwing q) := by
    have hr' : T'.frames = .java g₀ :: r := by rw [hT']; exact hr
    rw [State.pushFrame, State.frames_setTop _ hr', State.setTop_of_frames _ hr', State.setFrames_setFrames]
    refine e3.trans ?_
    rw [hf2, State.calling_eq hAt.top, State.setFrames_setFrames, hr, hT']
    rfl
  have hsame : U.sameButNew ({ U with heap := z.heap, slotsUsed := z.slotsUsed } : State) [] 1 6 := by
    refine ⟨?_, q2, q3, q4, q5, q6⟩
    obtain ⟨t, ht, -⟩ := State.frames_cons hr
    show ({ U with heap := z.heap, slotsUsed := z.slotsUsed } : State) = { U.setFrames U.frames with heap := z.heap, slotsUsed := z.slotsUsed }
    rw [State.setFrames_self ht]
  have hall := X.same.trans (hsame.setVm s.vm)
  rw [List.append_nil] at hall
  refine ⟨q, ce, T', ?_, by rw [hT']; exact h1, h2, h3, by rw [hT']; exact hfm.1, by rw [hT']; exact hfm.2, by rw [← hz]; exact hsteps⟩
  subst hT'
  exact ⟨X.admits, X.cas, X.clock, X.frames, X.room, X.hears, X.method, X.code, (X.here.setHeapUsed z.heap z.slotsUsed).setVm hWU.alike, X.tail, State.WarmedH.trans X.warmed hWU, X.limits, X.bytes, hall⟩
theorem bx_runV {cc bytes : ByteArray} {pc nL maxL n index : Nat} {ret : Option FieldType} {ls : Array Slot} {st0 As rest : List Value} {b : Nat} {Ts ws : List Cond} {rm : Room} {own C : String} {y : MethodName} {Pc : Array Value → State → Prop} {E : String}
    (S : CallFix p m c cc nL s args Ts own) (hM : bx_T l y ws rm Pc E) (cw : CallW R s args own C index y bytes maxL ret ws rm 1 6 n) (hp : PreV s H C b Pc As)
    (hn : As.length = n) (hsize : ls.size = nL) (hstack : st0 = As.reverse ++ .ref b :: rest) (hW : (rest.map fun v => v.category).sum ≤ 8) (hdg : decode cc pc = .ok (.invokevirtual index, 3)) (hcs : cells + 1 ≤ R.cells ∧ slots + 6 ≤ R.slots) :
    bx_Run p l e R s m args below meth c H locs cells slots (F0 m pc ls st0) rest E := by
  obtain ⟨⟨hrc, hrs, hfr, hlo, hws, hcw, hcode, hini, hy, hlen, hlk⟩, hin, hse⟩ := cw
  obtain ⟨hx, hb, hml, ho, -⟩ := S
  obtain ⟨hbl, ⟨cellB, hcB, hoB, hclB⟩, hPc⟩ := hp
  intro T hT X
  obtain ⟨mk, methM, hnamed, hmethM, hstM, habM⟩ := Cond.instanceMethod_spec hin
  obtain ⟨methM', cM, hmethM', -, -, -, -, -, -, hsigM⟩ := Cond.code_spec hnamed hcode
  cases hmethM.symm.trans hmethM'
  obtain ⟨c2, r2, m2, q1, q2, q3, q4, kP, hkP, hkPi⟩ := Cond.selects_spec hse
  cases hclB.symm.trans q1
  cases (State.methodFound?_of_named hnamed hy).symm.trans q2
  cases hnamed.symm.trans q3
  have hsel : selectMethod e.platform s.vm cellB.cls mk = .method mk := by rw [Launch.admits_selectMethod X.admits]; exact q4
  obtain ⟨vm₁, X₁, hstep⟩ := X.invokevirtual hx ho hlk hnamed hmethM hstM hkP hkPi hy (a := b) (cell := cellB) (by rw [hT]; exact hcB)
    (fun z h => by rw [h] at hoB; cases hoB) hsel hmethM habM hkP hkPi (g := F0 m pc ls st0) rfl (argsL := As) (rest := rest) (hn.trans (hlen _ hsigM)) hstack (by rw [hb]; exact hdg)
  have hWs : s.WarmedH (T.setVm vm₁).vm := X₁.warmed
  obtain ⟨q, ce, T', X', h1, h2, h3, h4, h5, st⟩ := bx_core X₁ hM (bytes := bytes) (maxL := maxL) (ret := ret) (g := { F0 m pc ls st0 with stack := rest }) rfl (hsize.trans hml.symm) (by rw [hb]; exact hdg) (lv_room hW)
    (mk := mk) (a := (Value.ref b :: As).toArray) (X₁.named hnamed) (fun w hw => hws w hw _ _ hWs) (hws _ hcw _ _ hWs) (word_at hWs (Or.inl (by first | rfl | simp [Cond.onTables, Cond.keeps, Cond.steady])) hini)
    (hbl _ _ _ _ (hPc (T.setVm vm₁) hT hWs)) hfr hlo hrc hrs hcs.1 hcs.2
  refine ⟨q, ce, T', X', h1, h2, by rw [← hWs.alike.findClass]; exact h3, by rw [← hT]; exact h4, by rw [← hT]; exact h5, ?_⟩
  exact hstep _ fun acts => by rw [doInvoke_state]; exact st
/-- not caught here: it goes on to the caller -/
theorem bx_leave {pc : Nat} {ls : Array Slot} {st0 rest : List Value} {E : String} (hr : bx_Run p l e R s m args below meth c s.heap [] 0 0 (F0 m pc ls st0) rest E) (hout : ∀ x ∈ c.exceptionTable.toList, ∀ pc, covers x pc = false) (hlocks : meth.locks = false) :
    W p l e R s m args below meth c s.heap [] 0 0 (bx_MQ below E args s) (F0 m pc ls st0) := by
  intro T hT X
  obtain ⟨q, ce, T', X', h1, h2, h3, h4, h5, st⟩ := hr T hT X
  obtain ⟨l1, l2, l3, l4, l5⟩ := X'.leaveThrown q (g := { F0 m pc ls st0 with stack := rest }) rfl rfl rfl (fun x hx => hout x hx _) hlocks
  exact ⟨_, st.trans l1, .threw q, l2, l3, q, ce, rfl, h1, h2, h3, l4, l5⟩
end BX1
end
section
-- CATCHING: the first row of the method's own table takes it (its class cold or warm)
theorem bx_go {Qh : Handler → Pre} {Ec : CtlPost} {e : Env} {d : Bool} {acts : List Action} {s : State} {f : JFrame} {a : Addr} {x : ExceptionTableEntry} {t : List ExceptionTableEntry} {k : ClassId} {cell : Cell} (hx : covers x f.pc = true) (h0 : x.catchType ≠ 0)
    (hlk : s.vm.ClassLinks e.platform f.method.cls x.catchType k) (hcell : s.heap[a]? = some cell) (hobj : ∀ z, cell.vm ≠ .statics z) (hk1 : ∃ z, s.vm.classes[cell.cls]? = some z) (hk2 : ∃ z, s.vm.classes[k]? = some z) (hfit : s.vm.assignable cell.cls k = true) :
    wp (findHandler.go f a (x :: t)) Qh Ec e d acts s ↔ Qh (.found x.handlerPc) d acts (s.setVm (s.vm.noted f.method.cls x.catchType (.cls k))) := by
  have hal : s.vm.Alike (s.vm.noted f.method.cls x.catchType (.cls k)) := (Vm.Alike.refl s.vm).noted _ _ _
  obtain ⟨h1, h2⟩ := (resolveClass_links e.toSetting hlk).op (op := VmOp.resolveClass f.method.cls x.catchType) rfl
  obtain ⟨z1, hz1⟩ := hk1
  obtain ⟨z2, hz2⟩ := hk2
  obtain ⟨y1, hy1, -⟩ := hal.2.2 _ _ hz1
  obtain ⟨y2, hy2, -⟩ := hal.2.2 _ _ hz2
  have hfit' : (s.vm.noted f.method.cls x.catchType (.cls k)).assignable cell.cls k = true := by rw [hal.assignable]; exact hfit
  simp only [covers] at hx
  simp [findHandler.go, hx, h0, h1, h2, hcell, hobj, hy1, hy2, hfit', VmOp.dirties, VmOp.acts]
theorem bx_caught {p : Program} {l : Launch} {e : Env} {R : Room} {s : State} {m : MethodId} {args : Array Value} {below : List Frame} {meth : Method} {c : Code} {T : State} {locs : List Loc} {cells slots : Nat} (X : Stand p l e R s m args below meth c T locs cells slots) {q : Addr} {pc : Nat} {ls : Array Slot} {rest : List Value}
    {x : ExceptionTableEntry} {suf : List ExceptionTableEntry} (hsplit : c.exceptionTable.toList = x :: suf) (hcov : covers x pc = true) (h0 : x.catchType ≠ 0) {own name E : String} (hown : s.vm.findClass own = some m.cls) (hlink : (Cond.classLink own x.catchType name).before args s = true) (hcast : (Cond.castable E name).before args s = true)
    {ce : Cell} (hce : T.heap[q]? = some ce) (hv : ce.vm = .none) (hcl : s.vm.findClass E = some ce.cls) :
    ∃ vm', Stand p l e R s m args below meth c (T.setVm vm') locs cells slots ∧ ∀ target, Steps p.tables e below ((T.setVm vm').setTop (F0 m x.handlerPc ls [.ref q])) target → Steps p.tables e below ((T.setTop (F0 m pc ls rest)).pushFrame (.throwing q)) target := by
  have hpl : e.platform.magicAccessors = ({} : Platform).magicAccessors := by rw [X.admits.platform]
  obtain ⟨cE, cN, hcE, hcN, hasg⟩ := Cond.castable_spec hcast
  cases Option.some.inj (hcE.symm.trans hcl)
  obtain ⟨c5, hc5, hlk⟩ := Cond.classLink_spec hown hlink e.platform hpl
  cases Option.some.inj (hcN.symm.trans hc5)
  obtain ⟨dk, _, _, kt, hd, _, _, _, _, hkt, _, hopen⟩ := hlk.here
  have hlk' := X.warmed.classLinks hlk
  have hW' : s.WarmedH (T.vm.noted m.cls x.catchType (.cls cN)) := X.warmed.noted hd hopen (State.rightAt_cls hlk)
  have hal := X.warmed.alike
  obtain ⟨kt', hkt', -⟩ := hal.2.2 _ _ hkt
  have hfit : T.vm.assignable ce.cls cN = true := by rw [hal.assignable]; exact hasg
  refine ⟨_, X.noted hW', fun target hrest => ?_⟩
  have hAt : At T (F0 m pc ls rest).method c below := X.here
  obtain ⟨hgo, hw⟩ := hAt.throwing q
  refine Steps.head hgo hw ?_
  rw [stepThread_throwing (frames_entered hAt.top _)]
  obtain ⟨g₀, hg⟩ := Option.isSome_iff_exists.mp hAt.top
  obtain ⟨r, hr⟩ := State.topJava?_eq_some.mp hg
  have hfind : ∀ (Qh : Handler → Pre) (Ec : CtlPost) (d : Bool) (acts : List Action), wp (findHandler (F0 m pc ls rest) q) Qh Ec e d acts ((T.setTop (F0 m pc ls rest)).pushFrame (.throwing q)) ↔ Qh (.found x.handlerPc) d acts (((T.setTop (F0 m pc ls rest)).pushFrame (.throwing q)).setVm (T.vm.noted m.cls x.catchType (.cls cN))) := by
    intro Qh Ec d acts
    rw [Jvm.W.findHandler_eq (s := (T.setTop (F0 m pc ls rest)).pushFrame (.throwing q)) (f := F0 m pc ls rest) (meth := meth) (code := c) X.method' X.code, hsplit]
    exact bx_go (s := (T.setTop (F0 m pc ls rest)).pushFrame (.throwing q)) (f := F0 m pc ls rest) hcov h0 hlk' hce (VmData.ne_statics_of (by rw [hv]; rfl)) (Vm.classAt_of_assignable hfit ⟨kt', hkt'⟩) ⟨kt', hkt'⟩ hfit
  have hstep : (stepThrowing e ((T.setTop (F0 m pc ls rest)).pushFrame (.throwing q)) q (.java (F0 m pc ls rest) :: T.frames.tail)).1 = (((T.setTop (F0 m pc ls rest)).pushFrame (.throwing q)).setVm (T.vm.noted m.cls x.catchType (.cls cN))).setFrames (.java { (F0 m pc ls rest) with pc := x.handlerPc, stack := [.ref q] } :: T.frames.tail) := by
    simp only [stepThrowing, searchFrame, vmDo]
    generalize hres : Sem.go _ e false [] _ = res
    obtain ⟨as, rfl, ha⟩ := Sem.eq_ok_of hres (a := Handler.found x.handlerPc) (s' := ((T.setTop (F0 m pc ls rest)).pushFrame (.throwing q)).setVm (T.vm.noted m.cls x.catchType (.cls cN))) (acts' := []) (by simp [hfind _ _ _ _])
    rfl
  rw [hstep]
  have hr' : (T.setVm (T.vm.noted m.cls x.catchType (.cls cN))).frames = .java g₀ :: r := hr
  rw [State.setTop_of_frames _ hr'] at hrest
  have hsw : ∀ (u : State) (v : Vm) (F G : List Frame), ((u.setFrames F).setVm v).setFrames G = (u.setVm v).setFrames G := by
    intro u v F G
    have e1 : (u.setFrames F).setVm v = (u.setVm v).setFrames F := rfl
    rw [e1, State.setFrames_setFrames]
  rw [hr, List.tail_cons, State.pushFrame, hsw, State.setTop_of_frames _ hr, hsw]
  exact hrest
section BX2
variable {p : Program} {l : Launch} {e : Env} {R : Room} {s : State} {m : MethodId} {args : Array Value} {below : List Frame} {meth : Method} {c : Code} {H : Heap} {locs : List Loc} {cells slots : Nat} {Q : State → Prop}
theorem bx_catch {pc : Nat} {ls : Array Slot} {st0 rest : List Value} {E own name : String} (hr : bx_Run p l e R s m args below meth c H locs cells slots (F0 m pc ls st0) rest E) (hown : s.vm.findClass own = some m.cls) {h1 h2 h3 h4 : Nat} {hs : List (Nat × Nat × Nat × Nat)}
    (hsplit : c.exceptionTable.toList.map (fun h => (h.startPc, h.endPc, h.handlerPc, h.catchType)) = (h1, h2, h3, h4) :: hs) (hcov : h1 ≤ pc ∧ pc < h2) (h0 : h4 ≠ 0) (hlink : (Cond.classLink own h4 name).before args s = true) (hcast : (Cond.castable E name).before args s = true)
    (kk : ∀ (q : Nat) (H1 : Heap), H.size ≤ H1.size → (∀ k : Nat, k < H.size → H1[k]? = H[k]?) → W p l e R s m args below meth c H1 locs (cells + 1) (slots + 6) Q (F0 m h3 ls [.ref q])) : W p l e R s m args below meth c H locs cells slots Q (F0 m pc ls st0) := by
  intro T hT X
  obtain ⟨q, ce, T', X', e1, e2, e3, e4, e5, st⟩ := hr T hT X
  cases hx : c.exceptionTable.toList with
  | nil => rw [hx] at hsplit; cases hsplit
  | cons x suf =>
    rw [hx] at hsplit
    simp only [List.map_cons, List.cons.injEq, Prod.mk.injEq] at hsplit
    obtain ⟨⟨rfl, rfl, rfl, rfl⟩, -⟩ := hsplit
    obtain ⟨vm', X2, st2⟩ := bx_caught X' (pc := pc) (ls := ls) (rest := rest) hx (by simp [covers, hcov.1, hcov.2]) h0 hown hlink hcast e1 e2 e3
    obtain ⟨t, a1, b1⟩ := kk q (T'.setVm vm').heap e4 e5 (T'.setVm vm') rfl X2
    exact ⟨t, st.trans (st2 t a1), b1⟩
end BX2
/-- a method with a table of handlers -/
theorem bx_ofWH {l : Launch} {y : MethodName} {ws ws' : List Cond} {rm : Room} {Pc : Array Value → State → Prop} {Qc : Array Value → State → Outcome → State → Prop} {mc ms : Nat} {free : Addr → Prop} {cc : ByteArray} {maxL : Nat} {ret : Option FieldType} {hs : List (Nat × Nat × Nat × Nat)}
    (hy : plainName y.cls = true) (hw : ws = Cond.codeWith y cc maxL ret hs :: ws')
    (body : ∀ p e s m args below meth c s₁, BodyLoose p l y (headSpec ws rm) cc maxL ret e s m args below meth c s₁ → c.maxLocals = maxL → c.exceptionTable.toList.map (fun h => (h.startPc, h.endPc, h.handlerPc, h.catchType)) = hs → Pc args s →
      W p l e (headSpec ws rm).room s m args below meth c s.heap [] 0 0 (MQ below Qc args s mc ms free) (entryFrame m args maxL)) : Met l y ws rm Pc Qc mc ms free := by
  have hm : Cond.codeWith y cc maxL ret hs ∈ ws := by rw [hw]; exact List.mem_cons_self
  refine MetFree.of_bodyS (code := cc) (maxLocals := maxL) (ret := ret) hy ?_ ?_
  · intro args s m h hn
    obtain ⟨m', meth, c, h0, h1, h2, h3, h4, -, h5, h6, -⟩ := Cond.codeWith_spec (atoms_spec (ws := ws) h _ hm)
    cases hn.symm.trans h0
    exact ⟨meth, c, h1, h2, h3, h4, h5, h6⟩
  · intro p e s m args below meth c s₁ B hml hP _
    obtain ⟨m', meth', c', h0, h1, h2, -, -, htab, -, -, -⟩ := Cond.codeWith_spec (atoms_spec (ws := ws) B.pre _ hm)
    cases B.named.symm.trans h0
    cases B.method.symm.trans h1
    cases (Stand.of_body B).code.symm.trans h2
    obtain ⟨t, a1, o, b1, b2, b3⟩ := body p e s m args below meth c s₁ B hml htab hP s₁ (by rw [B.state]; rfl) (Stand.of_body B)
    exact ⟨t, o, a1, b1, b2, ⟨b3.1, b3.2⟩⟩
section BX3
variable {p : Program} {l : Launch} {e : Env} {R : Room} {s : State} {m : MethodId} {args : Array Value} {below : List Frame} {meth : Method} {c : Code} {H : Heap} {locs : List Loc} {cells slots : Nat} {Q : State → Prop}
/-- a static call of a method with handlers that returns -/
theorem bx_runSH {cc bytes : ByteArray} {nL maxL n index mc ms : Nat} {ret : Option FieldType} {As rest : List Value} {ws : List Cond} {rm : Room} {own : String} {y : MethodName} {Pc : Array Value → State → Prop} {Qc : Array Value → State → Outcome → State → Prop} {free : Addr → Prop} {hs : List (Nat × Nat × Nat × Nat)} {g : JFrame} {Ts : List Cond}
    (S : CallFix p m c cc nL s args Ts own) (hM : Met l y ws rm Pc Qc mc ms free) (hrc : rm.cells = mc) (hrs : rm.slots = ms) (hfr : rm.frames + 1 ≤ R.frames) (hlo : 8 + (maxL + 11) + rm.locals ≤ R.locals)
    (hws : ∀ w ∈ ws, ∀ (a' : Array Value) (U : State), s.WarmedH U.vm → w.before a' U = true) (hcw : Cond.codeWith y bytes maxL ret hs ∈ ws) (hini : ∀ (a' : Array Value) (U : State), s.WarmedH U.vm → (Cond.initialized y.cls).before a' U = true) (hst : (Cond.static y).before args s = true) (hlk : (Cond.methodLink own index y).before args s = true)
    (hy : y.cls ≠ "java/lang/invoke/MethodHandle" ∧ y.cls ≠ "java/lang/invoke/VarHandle") (hd : (parseMethodDescriptor y.desc).map (fun d => d.parameters.length) = some n) (hp : PreS s H Pc As)
    (hg : g.method = m) (hn : As.length = n) (hsize : g.locals.size = nL) (hstack : g.stack = As.reverse ++ rest) (hW : 2 * g.monitorRoom + (rest.map fun v => v.category).sum ≤ 8) (hdg : decode cc g.pc = .ok (.invokestatic index, 3)) (hf : cells + mc ≤ R.cells ∧ slots + ms ≤ R.slots) :
    va_Run p l e R s m args below meth c H locs cells slots mc ms g rest (Qc As.toArray) free := by
  obtain ⟨hx, hb, hml, ho, -⟩ := S
  have hK : Back l R p e below s args y 3 8 (PreOf R mc ms Pc) (PostOf Qc mc ms free) := by
    refine Back.of_freeWith (handlers := hs) (S := headSpec ws rm) (P := Pc) (K := fun _ _ _ _ _ => True) (Q := fun a st o t => Qc a st o t ∧ ∃ L, FrameEnd st o t L mc ms ∧ ∀ q ∈ L, free q.base) (bytes := bytes) (maxL := maxL) (ret := ret)
      (E := fun a st o t L k n => k = mc ∧ n = ms ∧ ∀ q ∈ L, free q.base) hM hfr hlo ?_ ?_ (fun _ _ _ _ _ _ _ _ _ => trivial) ?_ ?_
    · intro m meth c A a X hp
      exact ⟨atoms_intro fun w hw => hws w hw _ _ X.warmed, hws _ hcw _ _ X.warmed, hini _ _ X.warmed, by rw [show (headSpec ws rm).room.cells = mc from hrc]; exact hp.1, by rw [show (headSpec ws rm).room.slots = ms from hrs]; exact hp.2.1⟩
    · intro m meth c A a g mk X hp'
      exact hp.1 _ _ _ _ hp'.2.2
    · intro a st o t ⟨hq, L, hF, hL⟩
      exact ⟨L, mc, ms, hF, rfl, rfl, hL⟩
    · intro m meth c A a g mk v t L k n X hp hq hF ⟨e1, e2, hL⟩
      subst e1; subst e2
      exact ⟨g, mk, t, L, rfl, rfl, hq.1, rfl, hL, rfl, rfl⟩
  intro T hT X
  obtain ⟨mk, methM, cM, hnamed, hmethM, -, -, -, -, -, -, hsig⟩ := Cond.codeWith_spec (hws _ hcw args s (State.WarmedH.refl s))
  have hstatic : methM.isStatic = true := Cond.static_spec hnamed hmethM hst
  obtain ⟨kP, hkP, -⟩ := className_of_methodNamed hnamed
  have hinitP : kP.init = .initialized := Cond.initialized_spec (findClass_of_methodNamed hnamed) hkP (hini args s (State.WarmedH.refl s))
  have hlen : As.length = methM.sig.parameters.length := by
    rw [hsig] at hd
    exact hn.trans (Option.some.inj hd).symm
  obtain ⟨vm₁, X₁, hstep⟩ := X.invokestatic hx ho hlk hnamed hmethM hstatic hkP hinitP hy (g := g) hg (argsL := As) (rest := rest) hlen hstack (by rw [hb]; exact hdg)
  obtain ⟨v, ⟨U', l2, c2, s2⟩, X', ⟨g', mk', t, L, e1, e2, hq, h1, hL, h2, h3⟩, hsteps⟩ := hK m meth c ⟨T.setVm vm₁, locs, cells, slots⟩ { g with stack := rest } (.invokestatic index) mk As.toArray X₁ hg (hsize.trans hml.symm) (by rw [hb]; exact hdg) hW (X₁.named hnamed) ⟨hf.1, hf.2, hp.2 (T.setVm vm₁) hT X₁.warmed⟩
  dsimp only [Pt.U, Pt.locs, Pt.cells, Pt.slots] at X' e1 e2 h1 h2 h3 hsteps
  subst h1; subst h2; subst h3
  exact ⟨v, (T.setVm vm₁).calling g' mk' As.toArray, t, U', L, hT, X', hL, e1, e2, hq, fun target h => hstep _ fun acts => by rw [doInvoke_state]; exact hsteps.trans h⟩
end BX3
section BX4
variable {p : Program} {l : Launch} {e : Env} {R : Room} {s : State} {m : MethodId} {args : Array Value} {below : List Frame} {meth : Method} {c : Code} {H : Heap} {locs : List Loc} {cells slots : Nat} {Q : State → Prop}
/-- a new array whose class is among the world's own -/
theorem bm_newa {cc : ByteArray} {pc : Nat} {ls : Array Slot} {rest : List Value} {D : va_G} {cl : List vw_C} {tys : List (ClassId × FieldType)} {ws : va_W} {A : Nat → Prop} {H0 : Heap} (hexec : p.tables.exec = Jvm.exec) (hb : c.code = cc) {atype : ArrayType} {ty : FieldType} (hty : newarray.typeOf atype = ty) (harr : (Cond.arrayClass ty).before args s = true) (hK : va_K D cl tys s) (hP : va_P D cl ws H) (hD : va_D A ws) (hS : va_S A H0 H locs) (hA : ∀ q, H0.size ≤ q → A q)
    (t0 : Nat) {cA : ClassId} (ht : tys[t0]? = some (cA, ty)) {n : Int32} {N' : Nat} {a0 : vp_A} (ha : vp_cell cA a0 = arrV cA N' (fun _ => defaultValue ty)) (hn : ¬ n < 0) (hN : n.toNatClampNeg = N') (hbytes : N' * componentBytes ty ≤ 536870912) (hcells : cells + 1 ≤ R.cells) (hslots : slots + N' ≤ R.slots) (hdg : decode cc pc = .ok (.newarray atype, 2))
    (kk : ∀ (q : Nat) (H1 : Heap), va_P D cl (ws ++ [(q, .inl (cA, a0))]) H1 → va_D A (ws ++ [(q, .inl (cA, a0))]) → va_S A H0 H1 locs → W p l e R s m args below meth c H1 locs (cells + 1) (slots + N') Q (F0 m (pc + 2) ls (.ref q :: rest))) : W p l e R s m args below meth c H locs cells slots Q (F0 m pc ls (.int n :: rest)) := by
  subst hty
  refine va_newaK hexec hb harr rfl hdg rfl hn hN hbytes hcells hslots rfl fun H1 cB e1 z1 o1 hAr hNm => ?_
  have hcc : cB = cA := by
    have h9 : s.vm.findClass ("[" ++ (newarray.typeOf atype).toString) = some cA := by
      have h8 := (hK.2 t0 _ ht).2
      cases atype <;> exact h8
    exact Option.some.inj (hNm.symm.trans h9)
  subst hcc
  have hk : ∀ (k : Nat) (x : Nat × va_E), ws[k]? = some x → H1[x.1]? = H[x.1]? := fun k x hx => o1 x.1 ((hP k x hx).lt)
  refine kk H.size H1 ((hP.kept hk).app (fun k x hx => ?_)) (hD.push hP rfl (hA _ hS.1)) ⟨Nat.le_trans hS.1 (by omega), fun x h1 h2 => (o1 x (Nat.lt_of_lt_of_le h1 hS.1)).trans (hS.2.1 x h1 h2), hS.2.2⟩
  have hz : k < 1 := (List.getElem?_eq_some_iff.mp hx).1
  rw [show k = 0 by omega] at hx
  cases hx
  show H1[H.size]? = some (vp_cell _ _)
  rw [ha]
  exact e1
end BX4
/-- what is read behind a catch: the world is as it was -/
theorem bx_keepP {D : va_G} {cl : List vw_C} {ws : va_W} {H H1 : Heap} (hP : va_P D cl ws H) (hh : ∀ k : Nat, k < H.size → H1[k]? = H[k]?) : va_P D cl ws H1 := hP.kept (fun k q hk => hh _ (hP k q hk).lt)
theorem bx_keepS {A : Nat → Prop} {H0 H H1 : Heap} {locs : List Loc} (hS : va_S A H0 H locs) (hz : H.size ≤ H1.size) (hh : ∀ k : Nat, k < H.size → H1[k]? = H[k]?) : va_S A H0 H1 locs := ⟨Nat.le_trans hS.1 hz, fun q h1 h2 => (hh q (Nat.lt_of_lt_of_le h1 hS.1)).trans (hS.2.1 q h1 h2), hS.2.2⟩
theorem bx_arr {a : Array Value} {s : State} {ty : FieldType} (h : (Cond.arrayClass ty).before a s = true) (hty : ∀ C, ty ≠ .object C) : ∃ cA : ClassId, ArrOfT s cA ty ∧ va_RA s cA ty := by
  obtain ⟨cA, k, comp, h1, h2, h3⟩ := Cond.arrayClass_spec h
  refine ⟨cA, fun n z => ⟨fun k h => (by cases h), k, h2, comp, h3⟩, ?_⟩
  cases ty with
  | object C => exact absurd rfl (hty C)
  | _ => exact h1
theorem bm_nmul {p : Program} {l : Launch} {e : Env} {R : Room} {s : State} {m : MethodId} {args : Array Value} {below : List Frame} {meth : Method} {c : Code} {H : Heap} {locs : List Loc} {cells slots : Nat} {Q : State → Prop} {cc : ByteArray} {pc : Nat} {ls : Array Slot} {rest : List Value} (hexec : p.tables.exec = Jvm.exec) (hb : c.code = cc) {x y : Nat} (hdg : decode cc pc = .ok (.imul, 1))
    (k : W p l e R s m args below meth c H locs cells slots Q (F0 m (pc + 1) ls (.int (nI (x * y)) :: rest))) : W p l e R s m args below meth c H locs cells slots Q (F0 m pc ls (.int (nI y) :: .int (nI x) :: rest)) := by
  refine lv_imul hexec hb hdg ?_
  rw [pk_mul]
  exact k
theorem bx_nlt0 {n : Nat} (h : n < 2) : ¬ nI n < 0 := by
  rcases (show n = 0 ∨ n = 1 by omega) with rfl | rfl <;> decide
theorem bx_le1 {n : Nat} (h : n < 2) : nI n ≤ nI 1 := by
  rcases (show n = 0 ∨ n = 1 by omega) with rfl | rfl <;> decide
end
section
def bT : List Cond := lw_tbl.filter goodWord
theorem inT {P : Cond → Prop} {a : Cond} (h : ∀ w, P w → w ∈ bT) : ∀ w, P w → w ∈ a :: bT := fun w q => List.mem_cons_of_mem _ (h w q)
theorem inTL {P : Cond → Prop} (h : ∀ w, P w → w ∈ bT) : ∀ w, P w → w ∈ lw_tbl := fun w q => (List.mem_filter.mp (h w q)).1
theorem bT_good {w : Cond} (h : w ∈ bT) : goodWord w = true := (List.mem_filter.mp h).2
theorem gdV {a b : Cond} {own C : String} {idx : Nat} {y : MethodName} (h0 : b ∈ bT) (h1 : Cond.methodLink own idx y ∈ bT) (h2 : Cond.instanceMethod y ∈ bT) (h3 : Cond.selects C y y ∈ bT) (h4 : Cond.initialized C ∈ bT) : GoodIn (a :: bT) (wsV own idx C y (b :: bT)) := by
  intro w hw
  have hm : w ∈ bT := by
    simp only [wsV, List.cons_append, List.nil_append, List.mem_cons] at hw
    rcases hw with rfl | rfl | rfl | rfl | rfl | h <;> assumption
  exact ⟨List.mem_cons_of_mem _ hm, good_of_word (bT_good hm)⟩
theorem gdS {a b : Cond} {own : String} {idx : Nat} {y : MethodName} (h0 : b ∈ bT) (h1 : Cond.methodLink own idx y ∈ bT) (h2 : Cond.static y ∈ bT) (h4 : Cond.initialized own ∈ bT) : GoodIn (a :: bT) (wsS own idx y (b :: bT)) := by
  intro w hw
  have hm : w ∈ bT := by
    simp only [wsS, List.cons_append, List.nil_append, List.mem_cons] at hw
    rcases hw with rfl | rfl | rfl | rfl | h <;> assumption
  exact ⟨List.mem_cons_of_mem _ hm, good_of_word (bT_good hm)⟩
def RL : String := "BoardMovesLaw"
def RX0 : String := "BoardMoves$Limits"
def TX0 : u_T := fun k => match k with
  | 0 => ("BoardMoves$Limits", "parts", "LBoardMoves$Parts;", true)
  | 1 => ("BoardMoves$Limits", "x0", "[J", true)
  | 2 => ("BoardMoves$Limits", "y0", "[J", true)
  | 3 => ("BoardMoves$Limits", "x1", "[J", true)
  | 4 => ("BoardMoves$Limits", "y1", "[J", true)
  | 5 => ("BoardMoves$Limits", "tallest", "[J", true)
  | 6 => ("BoardMoves$Limits", "one", "[I", true)
  | 7 => ("BoardMoves$Limits", "other", "[I", true)
  | 8 => ("BoardMoves$Limits", "most", "[J", true)
  | 9 => ("BoardMoves$Limits", "keepOuts", "I", false)
  | _ => ("BoardMoves$Limits", "nears", "I", false)
def tyX0 : Nat → FieldType := fun k => match k with
  | 0 => .object "BoardMoves$Parts"
  | 1 => .array .long
  | 2 => .array .long
  | 3 => .array .long
  | 4 => .array .long
  | 5 => .array .long
  | 6 => .array .int
  | 7 => .array .int
  | 8 => .array .long
  | 9 => .int
  | _ => .int
theorem nmX0 : ∀ a, a < 11 → ∀ b, b < 11 → a ≠ b → (TX0 a).2.1 ≠ (TX0 b).2.1 := by decide +kernel
theorem tyX0_ok : ∀ k, k < 11 → parseFieldDescriptor (TX0 k).2.2.1 = some (tyX0 k) := by decide +kernel
theorem inX0 : ∀ w, w ∈ u_ws RX0 TX0 11 → w ∈ bT := by decide +kernel
def RX1 : String := "BoardMoves$Parts"
def TX1 : u_T := fun k => match k with
  | 0 => ("BoardMoves$Parts", "w", "[J", true)
  | 1 => ("BoardMoves$Parts", "h", "[J", true)
  | 2 => ("BoardMoves$Parts", "side", "[I", true)
  | 3 => ("BoardMoves$Parts", "tall", "[J", true)
  | 4 => ("BoardMoves$Parts", "locked", "[Z", true)
  | 5 => ("BoardMoves$Parts", "lowest", "[I", true)
  | _ => ("BoardMoves$Parts", "count", "I", false)
def tyX1 : Nat → FieldType := fun k => match k with
  | 0 => .array .long
  | 1 => .array .long
  | 2 => .array .int
  | 3 => .array .long
  | 4 => .array .boolean
  | 5 => .array .int
  | _ => .int
theorem nmX1 : ∀ a, a < 7 → ∀ b, b < 7 → a ≠ b → (TX1 a).2.1 ≠ (TX1 b).2.1 := by decide +kernel
theorem tyX1_ok : ∀ k, k < 7 → parseFieldDescriptor (TX1 k).2.2.1 = some (tyX1 k) := by decide +kernel
theorem inX1 : ∀ w, w ∈ u_ws RX1 TX1 7 → w ∈ bT := by decide +kernel
def RX2 : String := "BoardMoves$Placement"
def TX2 : u_T := fun k => match k with
  | 0 => ("BoardMoves$Placement", "parts", "LBoardMoves$Parts;", true)
  | 1 => ("BoardMoves$Placement", "x", "[J", true)
  | 2 => ("BoardMoves$Placement", "y", "[J", true)
  | 3 => ("BoardMoves$Placement", "turn", "[I", true)
  | _ => ("BoardMoves$Placement", "placed", "[Z", true)
def tyX2 : Nat → FieldType := fun k => match k with
  | 0 => .object "BoardMoves$Parts"
  | 1 => .array .long
  | 2 => .array .long
  | 3 => .array .int
  | _ => .array .boolean
theorem nmX2 : ∀ a, a < 5 → ∀ b, b < 5 → a ≠ b → (TX2 a).2.1 ≠ (TX2 b).2.1 := by decide +kernel
theorem tyX2_ok : ∀ k, k < 5 → parseFieldDescriptor (TX2 k).2.2.1 = some (tyX2 k) := by decide +kernel
theorem inX2 : ∀ w, w ∈ u_ws RX2 TX2 5 → w ∈ bT := by decide +kernel
def RX3 : String := "BoardMoves$Wiring"
def TX3 : u_T := fun k => match k with
  | 0 => ("BoardMoves$Wiring", "parts", "LBoardMoves$Parts;", true)
  | 1 => ("BoardMoves$Wiring", "netOf", "[I", true)
  | 2 => ("BoardMoves$Wiring", "partOf", "[I", true)
  | 3 => ("BoardMoves$Wiring", "dx", "[J", true)
  | 4 => ("BoardMoves$Wiring", "dy", "[J", true)
  | 5 => ("BoardMoves$Wiring", "reached", "[Z", true)
  | 6 => ("BoardMoves$Wiring", "lowX", "[J", true)
  | 7 => ("BoardMoves$Wiring", "highX", "[J", true)
  | 8 => ("BoardMoves$Wiring", "lowY", "[J", true)
  | 9 => ("BoardMoves$Wiring", "highY", "[J", true)
  | 10 => ("BoardMoves$Wiring", "nets", "I", false)
  | _ => ("BoardMoves$Wiring", "pins", "I", false)
def tyX3 : Nat → FieldType := fun k => match k with
  | 0 => .object "BoardMoves$Parts"
  | 1 => .array .int
  | 2 => .array .int
  | 3 => .array .long
  | 4 => .array .long
  | 5 => .array .boolean
  | 6 => .array .long
  | 7 => .array .long
  | 8 => .array .long
  | 9 => .array .long
  | 10 => .int
  | _ => .int
theorem nmX3 : ∀ a, a < 12 → ∀ b, b < 12 → a ≠ b → (TX3 a).2.1 ≠ (TX3 b).2.1 := by decide +kernel
theorem tyX3_ok : ∀ k, k < 12 → parseFieldDescriptor (TX3 k).2.2.1 = some (tyX3 k) := by decide +kernel
theorem inX3 : ∀ w, w ∈ u_ws RX3 TX3 12 → w ∈ bT := by decide +kernel
def RX4 : String := "BoardMoves"
def TX4 : u_T := fun k => match k with
  | 0 => ("BoardMoves", "boardWide", "J", true)
  | 1 => ("BoardMoves", "boardHigh", "J", true)
  | 2 => ("BoardMoves", "parts", "LBoardMoves$Parts;", true)
  | 3 => ("BoardMoves", "limits", "LBoardMoves$Limits;", true)
  | 4 => ("BoardMoves", "wiring", "LBoardMoves$Wiring;", true)
  | 5 => ("BoardMoves", "now", "LBoardMoves$Placement;", true)
  | 6 => ("BoardMoves", "before", "LBoardMoves$Placement;", true)
  | 7 => ("BoardMoves", "best", "LBoardMoves$Placement;", true)
  | 8 => ("BoardMoves", "drawn", "J", false)
  | _ => ("BoardMoves", "keptWire", "J", false)
def tyX4 : Nat → FieldType := fun k => match k with
  | 0 => .long
  | 1 => .long
  | 2 => .object "BoardMoves$Parts"
  | 3 => .object "BoardMoves$Limits"
  | 4 => .object "BoardMoves$Wiring"
  | 5 => .object "BoardMoves$Placement"
  | 6 => .object "BoardMoves$Placement"
  | 7 => .object "BoardMoves$Placement"
  | 8 => .long
  | _ => .long
theorem nmX4 : ∀ a, a < 10 → ∀ b, b < 10 → a ≠ b → (TX4 a).2.1 ≠ (TX4 b).2.1 := by decide +kernel
theorem tyX4_ok : ∀ k, k < 10 → parseFieldDescriptor (TX4 k).2.2.1 = some (tyX4 k) := by decide +kernel
theorem inX4 : ∀ w, w ∈ u_ws RX4 TX4 10 → w ∈ bT := by decide +kernel
def RX5 : String := "BoardMovesModel"
def TX5 : u_T := fun k => match k with
  | 0 => ("BoardMovesModel", "thrown", "I", false)
  | 1 => ("BoardMovesModel", "width", "J", true)
  | 2 => ("BoardMovesModel", "height", "J", true)
  | 3 => ("BoardMovesModel", "parts", "I", false)
  | 4 => ("BoardMovesModel", "wide", "[J", true)
  | 5 => ("BoardMovesModel", "high", "[J", true)
  | 6 => ("BoardMovesModel", "sides", "[I", true)
  | 7 => ("BoardMovesModel", "heights", "[J", true)
  | 8 => ("BoardMovesModel", "locked", "[Z", true)
  | 9 => ("BoardMovesModel", "groups", "[I", true)
  | 10 => ("BoardMovesModel", "placed", "[Z", true)
  | 11 => ("BoardMovesModel", "x", "[J", true)
  | 12 => ("BoardMovesModel", "y", "[J", true)
  | 13 => ("BoardMovesModel", "turns", "[I", true)
  | 14 => ("BoardMovesModel", "outs", "I", false)
  | 15 => ("BoardMovesModel", "out", "[J", true)
  | 16 => ("BoardMovesModel", "nears", "I", false)
  | 17 => ("BoardMovesModel", "nearOne", "[I", true)
  | 18 => ("BoardMovesModel", "nearTwo", "[I", true)
  | 19 => ("BoardMovesModel", "nearMost", "[J", true)
  | 20 => ("BoardMovesModel", "nets", "I", false)
  | 21 => ("BoardMovesModel", "pins", "I", false)
  | 22 => ("BoardMovesModel", "pinNet", "[I", true)
  | 23 => ("BoardMovesModel", "pinPart", "[I", true)
  | 24 => ("BoardMovesModel", "pinX", "[J", true)
  | 25 => ("BoardMovesModel", "pinY", "[J", true)
  | 26 => ("BoardMovesModel", "moved", "[Z", true)
  | _ => ("BoardMovesModel", "s", "J", false)
def tyX5 : Nat → FieldType := fun k => match k with
  | 0 => .int
  | 1 => .long
  | 2 => .long
  | 3 => .int
  | 4 => .array .long
  | 5 => .array .long
  | 6 => .array .int
  | 7 => .array .long
  | 8 => .array .boolean
  | 9 => .array .int
  | 10 => .array .boolean
  | 11 => .array .long
  | 12 => .array .long
  | 13 => .array .int
  | 14 => .int
  | 15 => .array .long
  | 16 => .int
  | 17 => .array .int
  | 18 => .array .int
  | 19 => .array .long
  | 20 => .int
  | 21 => .int
  | 22 => .array .int
  | 23 => .array .int
  | 24 => .array .long
  | 25 => .array .long
  | 26 => .array .boolean
  | _ => .long
theorem nmX5 : ∀ a, a < 28 → ∀ b, b < 28 → a ≠ b → (TX5 a).2.1 ≠ (TX5 b).2.1 := by decide +kernel
theorem tyX5_ok : ∀ k, k < 28 → parseFieldDescriptor (TX5 k).2.2.1 = some (tyX5 k) := by decide +kernel
theorem inX5 : ∀ w, w ∈ u_ws RX5 TX5 28 → w ∈ bT := by decide +kernel
abbrev vwCl : List vw_C := [(RX0, TX0, 11), (RX1, TX1, 7), (RX2, TX2, 5), (RX3, TX3, 12), (RX4, TX4, 10), (RX5, TX5, 28)]
end
section
abbrev cX4_init : ByteArray := prog_1_method_1_code
def yX4_init : MethodName := ⟨RX4, "<init>", "(JJJ)V"⟩
def wsX4_init : List Cond := .code yX4_init cX4_init 7 none :: bT
theorem dX4_init_0 : decode cX4_init 0 = .ok (.aload_n 0, 1) := by decide +kernel
theorem dX4_init_1 : decode cX4_init 1 = .ok (.invokespecial 3, 3) := by decide +kernel
theorem dX4_init_4 : decode cX4_init 4 = .ok (.aload_n 0, 1) := by decide +kernel
theorem dX4_init_5 : decode cX4_init 5 = .ok (.new 9, 3) := by decide +kernel
theorem dX4_init_8 : decode cX4_init 8 = .ok (.dup, 1) := by decide +kernel
theorem dX4_init_9 : decode cX4_init 9 = .ok (.invokespecial 11, 3) := by decide +kernel
theorem dX4_init_12 : decode cX4_init 12 = .ok (.putfield 12, 3) := by decide +kernel
theorem dX4_init_15 : decode cX4_init 15 = .ok (.aload_n 0, 1) := by decide +kernel
theorem dX4_init_16 : decode cX4_init 16 = .ok (.new 18, 3) := by decide +kernel
theorem dX4_init_19 : decode cX4_init 19 = .ok (.dup, 1) := by decide +kernel
theorem dX4_init_20 : decode cX4_init 20 = .ok (.aload_n 0, 1) := by decide +kernel
theorem dX4_init_21 : decode cX4_init 21 = .ok (.getfield 12, 3) := by decide +kernel
theorem dX4_init_24 : decode cX4_init 24 = .ok (.invokespecial 20, 3) := by decide +kernel
theorem dX4_init_27 : decode cX4_init 27 = .ok (.putfield 23, 3) := by decide +kernel
theorem dX4_init_30 : decode cX4_init 30 = .ok (.aload_n 0, 1) := by decide +kernel
theorem dX4_init_31 : decode cX4_init 31 = .ok (.new 27, 3) := by decide +kernel
theorem dX4_init_34 : decode cX4_init 34 = .ok (.dup, 1) := by decide +kernel
theorem dX4_init_35 : decode cX4_init 35 = .ok (.aload_n 0, 1) := by decide +kernel
theorem dX4_init_36 : decode cX4_init 36 = .ok (.getfield 12, 3) := by decide +kernel
theorem dX4_init_39 : decode cX4_init 39 = .ok (.invokespecial 29, 3) := by decide +kernel
theorem dX4_init_42 : decode cX4_init 42 = .ok (.putfield 30, 3) := by decide +kernel
theorem dX4_init_45 : decode cX4_init 45 = .ok (.aload_n 0, 1) := by decide +kernel
theorem dX4_init_46 : decode cX4_init 46 = .ok (.new 34, 3) := by decide +kernel
theorem dX4_init_49 : decode cX4_init 49 = .ok (.dup, 1) := by decide +kernel
theorem dX4_init_50 : decode cX4_init 50 = .ok (.aload_n 0, 1) := by decide +kernel
theorem dX4_init_51 : decode cX4_init 51 = .ok (.getfield 12, 3) := by decide +kernel
theorem dX4_init_54 : decode cX4_init 54 = .ok (.invokespecial 36, 3) := by decide +kernel
theorem dX4_init_57 : decode cX4_init 57 = .ok (.putfield 37, 3) := by decide +kernel
theorem dX4_init_60 : decode cX4_init 60 = .ok (.aload_n 0, 1) := by decide +kernel
theorem dX4_init_61 : decode cX4_init 61 = .ok (.new 34, 3) := by decide +kernel
theorem dX4_init_64 : decode cX4_init 64 = .ok (.dup, 1) := by decide +kernel
theorem dX4_init_65 : decode cX4_init 65 = .ok (.aload_n 0, 1) := by decide +kernel
theorem dX4_init_66 : decode cX4_init 66 = .ok (.getfield 12, 3) := by decide +kernel
theorem dX4_init_69 : decode cX4_init 69 = .ok (.invokespecial 36, 3) := by decide +kernel
theorem dX4_init_72 : decode cX4_init 72 = .ok (.putfield 41, 3) := by decide +kernel
theorem dX4_init_75 : decode cX4_init 75 = .ok (.aload_n 0, 1) := by decide +kernel
theorem dX4_init_76 : decode cX4_init 76 = .ok (.new 34, 3) := by decide +kernel
theorem dX4_init_79 : decode cX4_init 79 = .ok (.dup, 1) := by decide +kernel
theorem dX4_init_80 : decode cX4_init 80 = .ok (.aload_n 0, 1) := by decide +kernel
theorem dX4_init_81 : decode cX4_init 81 = .ok (.getfield 12, 3) := by decide +kernel
theorem dX4_init_84 : decode cX4_init 84 = .ok (.invokespecial 36, 3) := by decide +kernel
theorem dX4_init_87 : decode cX4_init 87 = .ok (.putfield 44, 3) := by decide +kernel
theorem dX4_init_90 : decode cX4_init 90 = .ok (.aload_n 0, 1) := by decide +kernel
theorem dX4_init_91 : decode cX4_init 91 = .ok (.lconst 0, 1) := by decide +kernel
theorem dX4_init_92 : decode cX4_init 92 = .ok (.putfield 47, 3) := by decide +kernel
theorem dX4_init_95 : decode cX4_init 95 = .ok (.aload_n 0, 1) := by decide +kernel
theorem dX4_init_96 : decode cX4_init 96 = .ok (.lconst 1, 1) := by decide +kernel
theorem dX4_init_97 : decode cX4_init 97 = .ok (.ldc2_w 51, 3) := by decide +kernel
theorem dX4_init_100 : decode cX4_init 100 = .ok (.lload_n 1, 1) := by decide +kernel
theorem dX4_init_101 : decode cX4_init 101 = .ok (.invokestatic 53, 3) := by decide +kernel
theorem dX4_init_104 : decode cX4_init 104 = .ok (.invokestatic 59, 3) := by decide +kernel
theorem dX4_init_107 : decode cX4_init 107 = .ok (.putfield 62, 3) := by decide +kernel
theorem dX4_init_110 : decode cX4_init 110 = .ok (.aload_n 0, 1) := by decide +kernel
theorem dX4_init_111 : decode cX4_init 111 = .ok (.lconst 1, 1) := by decide +kernel
theorem dX4_init_112 : decode cX4_init 112 = .ok (.ldc2_w 51, 3) := by decide +kernel
theorem dX4_init_115 : decode cX4_init 115 = .ok (.lload_n 3, 1) := by decide +kernel
theorem dX4_init_116 : decode cX4_init 116 = .ok (.invokestatic 53, 3) := by decide +kernel
theorem dX4_init_119 : decode cX4_init 119 = .ok (.invokestatic 59, 3) := by decide +kernel
theorem dX4_init_122 : decode cX4_init 122 = .ok (.putfield 65, 3) := by decide +kernel
theorem dX4_init_125 : decode cX4_init 125 = .ok (.aload_n 0, 1) := by decide +kernel
theorem dX4_init_126 : decode cX4_init 126 = .ok (.lload 5, 2) := by decide +kernel
theorem dX4_init_128 : decode cX4_init 128 = .ok (.putfield 68, 3) := by decide +kernel
theorem dX4_init_131 : decode cX4_init 131 = .ok (.return_, 1) := by decide +kernel
abbrev cX4_part : ByteArray := prog_1_method_2_code
def yX4_part : MethodName := ⟨RX4, "part", "(JJI)I"⟩
def wsX4_part : List Cond := .code yX4_part cX4_part 6 (some .int) :: bT
theorem dX4_part_0 : decode cX4_part 0 = .ok (.lload_n 1, 1) := by decide +kernel
theorem dX4_part_1 : decode cX4_part 1 = .ok (.invokestatic 71, 3) := by decide +kernel
theorem dX4_part_4 : decode cX4_part 4 = .ok (.ifCond .eq (21), 3) := by decide +kernel
theorem dX4_part_7 : decode cX4_part 7 = .ok (.lload_n 3, 1) := by decide +kernel
theorem dX4_part_8 : decode cX4_part 8 = .ok (.invokestatic 71, 3) := by decide +kernel
theorem dX4_part_11 : decode cX4_part 11 = .ok (.ifCond .eq (14), 3) := by decide +kernel
theorem dX4_part_14 : decode cX4_part 14 = .ok (.iload 5, 2) := by decide +kernel
theorem dX4_part_16 : decode cX4_part 16 = .ok (.ifCond .lt (9), 3) := by decide +kernel
theorem dX4_part_19 : decode cX4_part 19 = .ok (.iload 5, 2) := by decide +kernel
theorem dX4_part_21 : decode cX4_part 21 = .ok (.iconst 1, 1) := by decide +kernel
theorem dX4_part_22 : decode cX4_part 22 = .ok (.if_icmp .le (13), 3) := by decide +kernel
theorem dX4_part_25 : decode cX4_part 25 = .ok (.new 75, 3) := by decide +kernel
theorem dX4_part_28 : decode cX4_part 28 = .ok (.dup, 1) := by decide +kernel
theorem dX4_part_29 : decode cX4_part 29 = .ok (.ldc 77, 2) := by decide +kernel
theorem dX4_part_31 : decode cX4_part 31 = .ok (.invokespecial 79, 3) := by decide +kernel
theorem dX4_part_34 : decode cX4_part 34 = .ok (.athrow, 1) := by decide +kernel
theorem dX4_part_35 : decode cX4_part 35 = .ok (.aload_n 0, 1) := by decide +kernel
theorem dX4_part_36 : decode cX4_part 36 = .ok (.getfield 12, 3) := by decide +kernel
theorem dX4_part_39 : decode cX4_part 39 = .ok (.lload_n 1, 1) := by decide +kernel
theorem dX4_part_40 : decode cX4_part 40 = .ok (.lload_n 3, 1) := by decide +kernel
theorem dX4_part_41 : decode cX4_part 41 = .ok (.iload 5, 2) := by decide +kernel
theorem dX4_part_43 : decode cX4_part 43 = .ok (.invokevirtual 82, 3) := by decide +kernel
theorem dX4_part_46 : decode cX4_part 46 = .ok (.ireturn, 1) := by decide +kernel
abbrev cX4_put : ByteArray := prog_1_method_3_code
def yX4_put : MethodName := ⟨RX4, "put", "(IJJI)Z"⟩
def wsX4_put : List Cond := .code yX4_put cX4_put 7 (some .boolean) :: bT
theorem dX4_put_0 : decode cX4_put 0 = .ok (.aload_n 0, 1) := by decide +kernel
theorem dX4_put_1 : decode cX4_put 1 = .ok (.iload_n 1, 1) := by decide +kernel
theorem dX4_put_2 : decode cX4_put 2 = .ok (.invokevirtual 86, 3) := by decide +kernel
abbrev cX4_lock : ByteArray := prog_1_method_4_code
def yX4_lock : MethodName := ⟨RX4, "lock", "(IZ)Z"⟩
def wsX4_lock : List Cond := .code yX4_lock cX4_lock 4 (some .boolean) :: bT
theorem dX4_lock_0 : decode cX4_lock 0 = .ok (.aload_n 0, 1) := by decide +kernel
theorem dX4_lock_1 : decode cX4_lock 1 = .ok (.iload_n 1, 1) := by decide +kernel
theorem dX4_lock_2 : decode cX4_lock 2 = .ok (.invokevirtual 86, 3) := by decide +kernel
abbrev cX4_net : ByteArray := prog_1_method_5_code
def yX4_net : MethodName := ⟨RX4, "net", "()I"⟩
def wsX4_net : List Cond := .code yX4_net cX4_net 1 (some .int) :: bT
theorem dX4_net_0 : decode cX4_net 0 = .ok (.aload_n 0, 1) := by decide +kernel
theorem dX4_net_1 : decode cX4_net 1 = .ok (.getfield 30, 3) := by decide +kernel
theorem dX4_net_4 : decode cX4_net 4 = .ok (.invokevirtual 135, 3) := by decide +kernel
theorem dX4_net_7 : decode cX4_net 7 = .ok (.ireturn, 1) := by decide +kernel
abbrev cX4_pin : ByteArray := prog_1_method_6_code
def yX4_pin : MethodName := ⟨RX4, "pin", "(IIJJ)Z"⟩
def wsX4_pin : List Cond := .code yX4_pin cX4_pin 7 (some .boolean) :: bT
theorem dX4_pin_0 : decode cX4_pin 0 = .ok (.iload_n 1, 1) := by decide +kernel
theorem dX4_pin_1 : decode cX4_pin 1 = .ok (.ifCond .lt (14), 3) := by decide +kernel
theorem dX4_pin_4 : decode cX4_pin 4 = .ok (.iload_n 1, 1) := by decide +kernel
theorem dX4_pin_5 : decode cX4_pin 5 = .ok (.aload_n 0, 1) := by decide +kernel
theorem dX4_pin_6 : decode cX4_pin 6 = .ok (.getfield 30, 3) := by decide +kernel
theorem dX4_pin_9 : decode cX4_pin 9 = .ok (.getfield 139, 3) := by decide +kernel
theorem dX4_pin_12 : decode cX4_pin 12 = .ok (.if_icmp .lt (13), 3) := by decide +kernel
theorem dX4_pin_15 : decode cX4_pin 15 = .ok (.new 143, 3) := by decide +kernel
theorem dX4_pin_18 : decode cX4_pin 18 = .ok (.dup, 1) := by decide +kernel
theorem dX4_pin_19 : decode cX4_pin 19 = .ok (.ldc 145, 2) := by decide +kernel
theorem dX4_pin_21 : decode cX4_pin 21 = .ok (.invokespecial 147, 3) := by decide +kernel
theorem dX4_pin_24 : decode cX4_pin 24 = .ok (.athrow, 1) := by decide +kernel
abbrev cX4_push : ByteArray := prog_1_method_7_code
def yX4_push : MethodName := ⟨RX4, "push", "(IJJ)I"⟩
def wsX4_push : List Cond := .code yX4_push cX4_push 13 (some .int) :: bT
theorem dX4_push_0 : decode cX4_push 0 = .ok (.aload_n 0, 1) := by decide +kernel
theorem dX4_push_1 : decode cX4_push 1 = .ok (.iload_n 1, 1) := by decide +kernel
theorem dX4_push_2 : decode cX4_push 2 = .ok (.invokevirtual 86, 3) := by decide +kernel
abbrev cX4_at : ByteArray := prog_1_method_8_code
def yX4_at : MethodName := ⟨RX4, "at", "(II)J"⟩
def wsX4_at : List Cond := .code yX4_at cX4_at 3 (some .long) :: bT
theorem dX4_at_0 : decode cX4_at 0 = .ok (.aload_n 0, 1) := by decide +kernel
theorem dX4_at_1 : decode cX4_at 1 = .ok (.iload_n 1, 1) := by decide +kernel
theorem dX4_at_2 : decode cX4_at 2 = .ok (.invokevirtual 86, 3) := by decide +kernel
abbrev cX4_run : ByteArray := prog_1_method_9_code
def yX4_run : MethodName := ⟨RX4, "run", "(J)I"⟩
def wsX4_run : List Cond := .code yX4_run cX4_run 10 (some .int) :: bT
theorem dX4_run_0 : decode cX4_run 0 = .ok (.lload_n 1, 1) := by decide +kernel
theorem dX4_run_1 : decode cX4_run 1 = .ok (.lconst 0, 1) := by decide +kernel
theorem dX4_run_2 : decode cX4_run 2 = .ok (.lcmp, 1) := by decide +kernel
theorem dX4_run_3 : decode cX4_run 3 = .ok (.ifCond .lt (11), 3) := by decide +kernel
theorem dX4_run_6 : decode cX4_run 6 = .ok (.lload_n 1, 1) := by decide +kernel
theorem dX4_run_7 : decode cX4_run 7 = .ok (.ldc2_w 193, 3) := by decide +kernel
theorem dX4_run_10 : decode cX4_run 10 = .ok (.lcmp, 1) := by decide +kernel
theorem dX4_run_11 : decode cX4_run 11 = .ok (.ifCond .le (13), 3) := by decide +kernel
theorem dX4_run_14 : decode cX4_run 14 = .ok (.new 75, 3) := by decide +kernel
theorem dX4_run_17 : decode cX4_run 17 = .ok (.dup, 1) := by decide +kernel
theorem dX4_run_18 : decode cX4_run 18 = .ok (.ldc 195, 2) := by decide +kernel
theorem dX4_run_20 : decode cX4_run 20 = .ok (.invokespecial 79, 3) := by decide +kernel
theorem dX4_run_23 : decode cX4_run 23 = .ok (.athrow, 1) := by decide +kernel
theorem dX4_run_24 : decode cX4_run 24 = .ok (.aload_n 0, 1) := by decide +kernel
theorem dX4_run_25 : decode cX4_run 25 = .ok (.getfield 12, 3) := by decide +kernel
theorem dX4_run_28 : decode cX4_run 28 = .ok (.getfield 197, 3) := by decide +kernel
theorem dX4_run_31 : decode cX4_run 31 = .ok (.ifCond .eq (9), 3) := by decide +kernel
theorem dX4_run_40 : decode cX4_run 40 = .ok (.iconst 0, 1) := by decide +kernel
theorem dX4_run_41 : decode cX4_run 41 = .ok (.ireturn, 1) := by decide +kernel
abbrev cX4_wire : ByteArray := prog_1_method_10_code
def yX4_wire : MethodName := ⟨RX4, "wire", "()J"⟩
def wsX4_wire : List Cond := .code yX4_wire cX4_wire 1 (some .long) :: bT
theorem dX4_wire_0 : decode cX4_wire 0 = .ok (.aload_n 0, 1) := by decide +kernel
theorem dX4_wire_1 : decode cX4_wire 1 = .ok (.getfield 47, 3) := by decide +kernel
theorem dX4_wire_4 : decode cX4_wire 4 = .ok (.lreturn, 1) := by decide +kernel
abbrev cX4_full : ByteArray := prog_1_method_11_code
def yX4_full : MethodName := ⟨RX4, "full", "()J"⟩
def wsX4_full : List Cond := .code yX4_full cX4_full 1 (some .long) :: bT
theorem dX4_full_0 : decode cX4_full 0 = .ok (.aload_n 0, 1) := by decide +kernel
theorem dX4_full_1 : decode cX4_full 1 = .ok (.getfield 30, 3) := by decide +kernel
theorem dX4_full_4 : decode cX4_full 4 = .ok (.aload_n 0, 1) := by decide +kernel
theorem dX4_full_5 : decode cX4_full 5 = .ok (.getfield 37, 3) := by decide +kernel
theorem dX4_full_8 : decode cX4_full 8 = .ok (.invokevirtual 160, 3) := by decide +kernel
theorem dX4_full_11 : decode cX4_full 11 = .ok (.lreturn, 1) := by decide +kernel
abbrev cX4_near : ByteArray := prog_1_method_12_code
def yX4_near : MethodName := ⟨RX4, "near", "(IIJ)Z"⟩
def wsX4_near : List Cond := .code yX4_near cX4_near 5 (some .boolean) :: bT
theorem dX4_near_0 : decode cX4_near 0 = .ok (.aload_n 0, 1) := by decide +kernel
theorem dX4_near_1 : decode cX4_near 1 = .ok (.iload_n 1, 1) := by decide +kernel
theorem dX4_near_2 : decode cX4_near 2 = .ok (.invokevirtual 86, 3) := by decide +kernel
abbrev cX4_group : ByteArray := prog_1_method_13_code
def yX4_group : MethodName := ⟨RX4, "group", "(II)I"⟩
def wsX4_group : List Cond := .code yX4_group cX4_group 3 (some .int) :: bT
theorem dX4_group_0 : decode cX4_group 0 = .ok (.aload_n 0, 1) := by decide +kernel
theorem dX4_group_1 : decode cX4_group 1 = .ok (.iload_n 1, 1) := by decide +kernel
theorem dX4_group_2 : decode cX4_group 2 = .ok (.invokevirtual 86, 3) := by decide +kernel
abbrev cX4_height : ByteArray := prog_1_method_14_code
def yX4_height : MethodName := ⟨RX4, "height", "(IJ)Z"⟩
def wsX4_height : List Cond := .code yX4_height cX4_height 6 (some .boolean) :: bT
theorem dX4_height_0 : decode cX4_height 0 = .ok (.aload_n 0, 1) := by decide +kernel
theorem dX4_height_1 : decode cX4_height 1 = .ok (.iload_n 1, 1) := by decide +kernel
theorem dX4_height_2 : decode cX4_height 2 = .ok (.invokevirtual 86, 3) := by decide +kernel
abbrev cX4_keepOut : ByteArray := prog_1_method_15_code
def yX4_keepOut : MethodName := ⟨RX4, "keepOut", "(JJJJJ)Z"⟩
def wsX4_keepOut : List Cond := .code yX4_keepOut cX4_keepOut 11 (some .boolean) :: bT
theorem dX4_keepOut_0 : decode cX4_keepOut 0 = .ok (.lload 9, 2) := by decide +kernel
theorem dX4_keepOut_2 : decode cX4_keepOut 2 = .ok (.lconst 0, 1) := by decide +kernel
theorem dX4_keepOut_3 : decode cX4_keepOut 3 = .ok (.lcmp, 1) := by decide +kernel
theorem dX4_keepOut_4 : decode cX4_keepOut 4 = .ok (.ifCond .ge (13), 3) := by decide +kernel
theorem dX4_keepOut_7 : decode cX4_keepOut 7 = .ok (.new 75, 3) := by decide +kernel
theorem dX4_keepOut_10 : decode cX4_keepOut 10 = .ok (.dup, 1) := by decide +kernel
theorem dX4_keepOut_11 : decode cX4_keepOut 11 = .ok (.ldc 223, 2) := by decide +kernel
theorem dX4_keepOut_13 : decode cX4_keepOut 13 = .ok (.invokespecial 79, 3) := by decide +kernel
theorem dX4_keepOut_16 : decode cX4_keepOut 16 = .ok (.athrow, 1) := by decide +kernel
theorem dX4_keepOut_17 : decode cX4_keepOut 17 = .ok (.lload_n 1, 1) := by decide +kernel
theorem dX4_keepOut_18 : decode cX4_keepOut 18 = .ok (.lload 5, 2) := by decide +kernel
theorem dX4_keepOut_20 : decode cX4_keepOut 20 = .ok (.lcmp, 1) := by decide +kernel
theorem dX4_keepOut_21 : decode cX4_keepOut 21 = .ok (.ifCond .ge (28), 3) := by decide +kernel
theorem dX4_keepOut_24 : decode cX4_keepOut 24 = .ok (.lload_n 3, 1) := by decide +kernel
theorem dX4_keepOut_25 : decode cX4_keepOut 25 = .ok (.lload 7, 2) := by decide +kernel
theorem dX4_keepOut_27 : decode cX4_keepOut 27 = .ok (.lcmp, 1) := by decide +kernel
theorem dX4_keepOut_28 : decode cX4_keepOut 28 = .ok (.ifCond .ge (21), 3) := by decide +kernel
theorem dX4_keepOut_31 : decode cX4_keepOut 31 = .ok (.aload_n 0, 1) := by decide +kernel
theorem dX4_keepOut_32 : decode cX4_keepOut 32 = .ok (.getfield 23, 3) := by decide +kernel
theorem dX4_keepOut_35 : decode cX4_keepOut 35 = .ok (.lload_n 1, 1) := by decide +kernel
theorem dX4_keepOut_36 : decode cX4_keepOut 36 = .ok (.lload_n 3, 1) := by decide +kernel
theorem dX4_keepOut_37 : decode cX4_keepOut 37 = .ok (.lload 5, 2) := by decide +kernel
theorem dX4_keepOut_39 : decode cX4_keepOut 39 = .ok (.lload 7, 2) := by decide +kernel
theorem dX4_keepOut_41 : decode cX4_keepOut 41 = .ok (.lload 9, 2) := by decide +kernel
theorem dX4_keepOut_43 : decode cX4_keepOut 43 = .ok (.invokevirtual 225, 3) := by decide +kernel
theorem dX4_keepOut_46 : decode cX4_keepOut 46 = .ok (.ifCond .ne (5), 3) := by decide +kernel
theorem dX4_keepOut_49 : decode cX4_keepOut 49 = .ok (.iconst 0, 1) := by decide +kernel
theorem dX4_keepOut_50 : decode cX4_keepOut 50 = .ok (.ireturn, 1) := by decide +kernel
theorem dX4_keepOut_51 : decode cX4_keepOut 51 = .ok (.aload_n 0, 1) := by decide +kernel
theorem dX4_keepOut_52 : decode cX4_keepOut 52 = .ok (.invokevirtual 229, 3) := by decide +kernel
theorem dX4_keepOut_55 : decode cX4_keepOut 55 = .ok (.ifCond .ne (12), 3) := by decide +kernel
theorem dX4_keepOut_67 : decode cX4_keepOut 67 = .ok (.iconst 1, 1) := by decide +kernel
theorem dX4_keepOut_68 : decode cX4_keepOut 68 = .ok (.ireturn, 1) := by decide +kernel
abbrev cX4_clear2 : ByteArray := prog_1_method_16_code
def yX4_clear2 : MethodName := ⟨RX4, "clear2", "()Z"⟩
def wsX4_clear2 : List Cond := .code yX4_clear2 cX4_clear2 1 (some .boolean) :: bT
theorem dX4_clear2_0 : decode cX4_clear2 0 = .ok (.aload_n 0, 1) := by decide +kernel
theorem dX4_clear2_1 : decode cX4_clear2 1 = .ok (.invokevirtual 229, 3) := by decide +kernel
theorem dX4_clear2_4 : decode cX4_clear2 4 = .ok (.ireturn, 1) := by decide +kernel
abbrev cX4_side : ByteArray := prog_1_method_17_code
def yX4_side : MethodName := ⟨RX4, "side", "(I)I"⟩
def wsX4_side : List Cond := .code yX4_side cX4_side 2 (some .int) :: bT
theorem dX4_side_0 : decode cX4_side 0 = .ok (.aload_n 0, 1) := by decide +kernel
theorem dX4_side_1 : decode cX4_side 1 = .ok (.iload_n 1, 1) := by decide +kernel
theorem dX4_side_2 : decode cX4_side 2 = .ok (.invokevirtual 86, 3) := by decide +kernel
abbrev cX4_isLength : ByteArray := prog_1_method_18_code
def yX4_isLength : MethodName := ⟨RX4, "isLength", "(J)Z"⟩
def wsX4_isLength : List Cond := .code yX4_isLength cX4_isLength 2 (some .boolean) :: bT
theorem dX4_isLength_0 : decode cX4_isLength 0 = .ok (.lload_n 0, 1) := by decide +kernel
theorem dX4_isLength_1 : decode cX4_isLength 1 = .ok (.lconst 1, 1) := by decide +kernel
theorem dX4_isLength_2 : decode cX4_isLength 2 = .ok (.lcmp, 1) := by decide +kernel
theorem dX4_isLength_3 : decode cX4_isLength 3 = .ok (.ifCond .lt (15), 3) := by decide +kernel
theorem dX4_isLength_6 : decode cX4_isLength 6 = .ok (.lload_n 0, 1) := by decide +kernel
theorem dX4_isLength_7 : decode cX4_isLength 7 = .ok (.ldc2_w 51, 3) := by decide +kernel
theorem dX4_isLength_10 : decode cX4_isLength 10 = .ok (.lcmp, 1) := by decide +kernel
theorem dX4_isLength_11 : decode cX4_isLength 11 = .ok (.ifCond .gt (7), 3) := by decide +kernel
theorem dX4_isLength_14 : decode cX4_isLength 14 = .ok (.iconst 1, 1) := by decide +kernel
theorem dX4_isLength_15 : decode cX4_isLength 15 = .ok (.goto (4), 3) := by decide +kernel
theorem dX4_isLength_18 : decode cX4_isLength 18 = .ok (.iconst 0, 1) := by decide +kernel
theorem dX4_isLength_19 : decode cX4_isLength 19 = .ok (.ireturn, 1) := by decide +kernel
abbrev cX4_needPart : ByteArray := prog_1_method_19_code
def yX4_needPart : MethodName := ⟨RX4, "needPart", "(I)V"⟩
def wsX4_needPart : List Cond := .code yX4_needPart cX4_needPart 2 none :: bT
theorem dX4_needPart_0 : decode cX4_needPart 0 = .ok (.iload_n 1, 1) := by decide +kernel
theorem dX4_needPart_1 : decode cX4_needPart 1 = .ok (.ifCond .lt (14), 3) := by decide +kernel
theorem dX4_needPart_4 : decode cX4_needPart 4 = .ok (.iload_n 1, 1) := by decide +kernel
theorem dX4_needPart_5 : decode cX4_needPart 5 = .ok (.aload_n 0, 1) := by decide +kernel
theorem dX4_needPart_6 : decode cX4_needPart 6 = .ok (.getfield 12, 3) := by decide +kernel
theorem dX4_needPart_9 : decode cX4_needPart 9 = .ok (.getfield 197, 3) := by decide +kernel
theorem dX4_needPart_12 : decode cX4_needPart 12 = .ok (.if_icmp .lt (13), 3) := by decide +kernel
theorem dX4_needPart_15 : decode cX4_needPart 15 = .ok (.new 143, 3) := by decide +kernel
theorem dX4_needPart_18 : decode cX4_needPart 18 = .ok (.dup, 1) := by decide +kernel
theorem dX4_needPart_19 : decode cX4_needPart 19 = .ok (.ldc 238, 2) := by decide +kernel
theorem dX4_needPart_21 : decode cX4_needPart 21 = .ok (.invokespecial 147, 3) := by decide +kernel
theorem dX4_needPart_24 : decode cX4_needPart 24 = .ok (.athrow, 1) := by decide +kernel
abbrev cX4_allStandWell : ByteArray := prog_1_method_22_code
def yX4_allStandWell : MethodName := ⟨RX4, "allStandWell", "()Z"⟩
def wsX4_allStandWell : List Cond := .code yX4_allStandWell cX4_allStandWell 2 (some .boolean) :: bT
theorem dX4_allStandWell_0 : decode cX4_allStandWell 0 = .ok (.iconst 0, 1) := by decide +kernel
theorem dX4_allStandWell_1 : decode cX4_allStandWell 1 = .ok (.istore_n 1, 1) := by decide +kernel
theorem dX4_allStandWell_2 : decode cX4_allStandWell 2 = .ok (.iload_n 1, 1) := by decide +kernel
theorem dX4_allStandWell_3 : decode cX4_allStandWell 3 = .ok (.aload_n 0, 1) := by decide +kernel
theorem dX4_allStandWell_4 : decode cX4_allStandWell 4 = .ok (.getfield 12, 3) := by decide +kernel
theorem dX4_allStandWell_7 : decode cX4_allStandWell 7 = .ok (.getfield 197, 3) := by decide +kernel
theorem dX4_allStandWell_10 : decode cX4_allStandWell 10 = .ok (.if_icmp .ge (19), 3) := by decide +kernel
theorem dX4_allStandWell_29 : decode cX4_allStandWell 29 = .ok (.iconst 1, 1) := by decide +kernel
theorem dX4_allStandWell_30 : decode cX4_allStandWell 30 = .ok (.ireturn, 1) := by decide +kernel
abbrev cX5_init : ByteArray := prog_7_method_1_code
def yX5_init : MethodName := ⟨RX5, "<init>", "(JJJ)V"⟩
def wsX5_init : List Cond := .code yX5_init cX5_init 7 none :: bT
theorem dX5_init_0 : decode cX5_init 0 = .ok (.aload_n 0, 1) := by decide +kernel
theorem dX5_init_1 : decode cX5_init 1 = .ok (.invokespecial 1, 3) := by decide +kernel
theorem dX5_init_4 : decode cX5_init 4 = .ok (.aload_n 0, 1) := by decide +kernel
theorem dX5_init_5 : decode cX5_init 5 = .ok (.bipush 40, 2) := by decide +kernel
theorem dX5_init_7 : decode cX5_init 7 = .ok (.newarray .long, 2) := by decide +kernel
theorem dX5_init_9 : decode cX5_init 9 = .ok (.putfield 7, 3) := by decide +kernel
theorem dX5_init_12 : decode cX5_init 12 = .ok (.aload_n 0, 1) := by decide +kernel
theorem dX5_init_13 : decode cX5_init 13 = .ok (.bipush 40, 2) := by decide +kernel
theorem dX5_init_15 : decode cX5_init 15 = .ok (.newarray .long, 2) := by decide +kernel
theorem dX5_init_17 : decode cX5_init 17 = .ok (.putfield 13, 3) := by decide +kernel
theorem dX5_init_20 : decode cX5_init 20 = .ok (.aload_n 0, 1) := by decide +kernel
theorem dX5_init_21 : decode cX5_init 21 = .ok (.bipush 40, 2) := by decide +kernel
theorem dX5_init_23 : decode cX5_init 23 = .ok (.newarray .int, 2) := by decide +kernel
theorem dX5_init_25 : decode cX5_init 25 = .ok (.putfield 16, 3) := by decide +kernel
theorem dX5_init_28 : decode cX5_init 28 = .ok (.aload_n 0, 1) := by decide +kernel
theorem dX5_init_29 : decode cX5_init 29 = .ok (.bipush 40, 2) := by decide +kernel
theorem dX5_init_31 : decode cX5_init 31 = .ok (.newarray .long, 2) := by decide +kernel
theorem dX5_init_33 : decode cX5_init 33 = .ok (.putfield 20, 3) := by decide +kernel
theorem dX5_init_36 : decode cX5_init 36 = .ok (.aload_n 0, 1) := by decide +kernel
theorem dX5_init_37 : decode cX5_init 37 = .ok (.bipush 40, 2) := by decide +kernel
theorem dX5_init_39 : decode cX5_init 39 = .ok (.newarray .boolean, 2) := by decide +kernel
theorem dX5_init_41 : decode cX5_init 41 = .ok (.putfield 23, 3) := by decide +kernel
theorem dX5_init_44 : decode cX5_init 44 = .ok (.aload_n 0, 1) := by decide +kernel
theorem dX5_init_45 : decode cX5_init 45 = .ok (.bipush 40, 2) := by decide +kernel
theorem dX5_init_47 : decode cX5_init 47 = .ok (.newarray .int, 2) := by decide +kernel
theorem dX5_init_49 : decode cX5_init 49 = .ok (.putfield 27, 3) := by decide +kernel
theorem dX5_init_52 : decode cX5_init 52 = .ok (.aload_n 0, 1) := by decide +kernel
theorem dX5_init_53 : decode cX5_init 53 = .ok (.bipush 40, 2) := by decide +kernel
theorem dX5_init_55 : decode cX5_init 55 = .ok (.newarray .boolean, 2) := by decide +kernel
theorem dX5_init_57 : decode cX5_init 57 = .ok (.putfield 30, 3) := by decide +kernel
theorem dX5_init_60 : decode cX5_init 60 = .ok (.aload_n 0, 1) := by decide +kernel
theorem dX5_init_61 : decode cX5_init 61 = .ok (.bipush 120, 2) := by decide +kernel
theorem dX5_init_63 : decode cX5_init 63 = .ok (.newarray .long, 2) := by decide +kernel
theorem dX5_init_65 : decode cX5_init 65 = .ok (.putfield 33, 3) := by decide +kernel
theorem dX5_init_68 : decode cX5_init 68 = .ok (.aload_n 0, 1) := by decide +kernel
theorem dX5_init_69 : decode cX5_init 69 = .ok (.bipush 120, 2) := by decide +kernel
theorem dX5_init_71 : decode cX5_init 71 = .ok (.newarray .long, 2) := by decide +kernel
theorem dX5_init_73 : decode cX5_init 73 = .ok (.putfield 36, 3) := by decide +kernel
theorem dX5_init_76 : decode cX5_init 76 = .ok (.aload_n 0, 1) := by decide +kernel
theorem dX5_init_77 : decode cX5_init 77 = .ok (.bipush 120, 2) := by decide +kernel
theorem dX5_init_79 : decode cX5_init 79 = .ok (.newarray .int, 2) := by decide +kernel
theorem dX5_init_81 : decode cX5_init 81 = .ok (.putfield 39, 3) := by decide +kernel
theorem dX5_init_84 : decode cX5_init 84 = .ok (.aload_n 0, 1) := by decide +kernel
theorem dX5_init_85 : decode cX5_init 85 = .ok (.bipush 50, 2) := by decide +kernel
theorem dX5_init_87 : decode cX5_init 87 = .ok (.newarray .long, 2) := by decide +kernel
theorem dX5_init_89 : decode cX5_init 89 = .ok (.putfield 42, 3) := by decide +kernel
theorem dX5_init_92 : decode cX5_init 92 = .ok (.aload_n 0, 1) := by decide +kernel
theorem dX5_init_93 : decode cX5_init 93 = .ok (.bipush 20, 2) := by decide +kernel
theorem dX5_init_95 : decode cX5_init 95 = .ok (.newarray .int, 2) := by decide +kernel
theorem dX5_init_97 : decode cX5_init 97 = .ok (.putfield 45, 3) := by decide +kernel
theorem dX5_init_100 : decode cX5_init 100 = .ok (.aload_n 0, 1) := by decide +kernel
theorem dX5_init_101 : decode cX5_init 101 = .ok (.bipush 20, 2) := by decide +kernel
theorem dX5_init_103 : decode cX5_init 103 = .ok (.newarray .int, 2) := by decide +kernel
theorem dX5_init_105 : decode cX5_init 105 = .ok (.putfield 48, 3) := by decide +kernel
theorem dX5_init_108 : decode cX5_init 108 = .ok (.aload_n 0, 1) := by decide +kernel
theorem dX5_init_109 : decode cX5_init 109 = .ok (.bipush 20, 2) := by decide +kernel
theorem dX5_init_111 : decode cX5_init 111 = .ok (.newarray .long, 2) := by decide +kernel
theorem dX5_init_113 : decode cX5_init 113 = .ok (.putfield 51, 3) := by decide +kernel
theorem dX5_init_116 : decode cX5_init 116 = .ok (.aload_n 0, 1) := by decide +kernel
theorem dX5_init_117 : decode cX5_init 117 = .ok (.bipush 120, 2) := by decide +kernel
theorem dX5_init_119 : decode cX5_init 119 = .ok (.newarray .int, 2) := by decide +kernel
theorem dX5_init_121 : decode cX5_init 121 = .ok (.putfield 54, 3) := by decide +kernel
theorem dX5_init_124 : decode cX5_init 124 = .ok (.aload_n 0, 1) := by decide +kernel
theorem dX5_init_125 : decode cX5_init 125 = .ok (.bipush 120, 2) := by decide +kernel
theorem dX5_init_127 : decode cX5_init 127 = .ok (.newarray .int, 2) := by decide +kernel
theorem dX5_init_129 : decode cX5_init 129 = .ok (.putfield 57, 3) := by decide +kernel
theorem dX5_init_132 : decode cX5_init 132 = .ok (.aload_n 0, 1) := by decide +kernel
theorem dX5_init_133 : decode cX5_init 133 = .ok (.bipush 120, 2) := by decide +kernel
theorem dX5_init_135 : decode cX5_init 135 = .ok (.newarray .long, 2) := by decide +kernel
theorem dX5_init_137 : decode cX5_init 137 = .ok (.putfield 60, 3) := by decide +kernel
theorem dX5_init_140 : decode cX5_init 140 = .ok (.aload_n 0, 1) := by decide +kernel
theorem dX5_init_141 : decode cX5_init 141 = .ok (.bipush 120, 2) := by decide +kernel
theorem dX5_init_143 : decode cX5_init 143 = .ok (.newarray .long, 2) := by decide +kernel
theorem dX5_init_145 : decode cX5_init 145 = .ok (.putfield 63, 3) := by decide +kernel
theorem dX5_init_148 : decode cX5_init 148 = .ok (.aload_n 0, 1) := by decide +kernel
theorem dX5_init_149 : decode cX5_init 149 = .ok (.bipush 40, 2) := by decide +kernel
theorem dX5_init_151 : decode cX5_init 151 = .ok (.newarray .boolean, 2) := by decide +kernel
theorem dX5_init_153 : decode cX5_init 153 = .ok (.putfield 66, 3) := by decide +kernel
theorem dX5_init_156 : decode cX5_init 156 = .ok (.aload_n 0, 1) := by decide +kernel
theorem dX5_init_157 : decode cX5_init 157 = .ok (.lload_n 1, 1) := by decide +kernel
theorem dX5_init_158 : decode cX5_init 158 = .ok (.lconst 1, 1) := by decide +kernel
theorem dX5_init_159 : decode cX5_init 159 = .ok (.lcmp, 1) := by decide +kernel
theorem dX5_init_160 : decode cX5_init 160 = .ok (.ifCond .ge (7), 3) := by decide +kernel
theorem dX5_init_163 : decode cX5_init 163 = .ok (.lconst 1, 1) := by decide +kernel
theorem dX5_init_164 : decode cX5_init 164 = .ok (.goto (18), 3) := by decide +kernel
theorem dX5_init_167 : decode cX5_init 167 = .ok (.lload_n 1, 1) := by decide +kernel
theorem dX5_init_168 : decode cX5_init 168 = .ok (.ldc2_w 69, 3) := by decide +kernel
theorem dX5_init_171 : decode cX5_init 171 = .ok (.lcmp, 1) := by decide +kernel
theorem dX5_init_172 : decode cX5_init 172 = .ok (.ifCond .le (9), 3) := by decide +kernel
theorem dX5_init_175 : decode cX5_init 175 = .ok (.ldc2_w 69, 3) := by decide +kernel
theorem dX5_init_178 : decode cX5_init 178 = .ok (.goto (4), 3) := by decide +kernel
theorem dX5_init_181 : decode cX5_init 181 = .ok (.lload_n 1, 1) := by decide +kernel
theorem dX5_init_182 : decode cX5_init 182 = .ok (.putfield 71, 3) := by decide +kernel
theorem dX5_init_185 : decode cX5_init 185 = .ok (.aload_n 0, 1) := by decide +kernel
theorem dX5_init_186 : decode cX5_init 186 = .ok (.lload_n 3, 1) := by decide +kernel
theorem dX5_init_187 : decode cX5_init 187 = .ok (.lconst 1, 1) := by decide +kernel
theorem dX5_init_188 : decode cX5_init 188 = .ok (.lcmp, 1) := by decide +kernel
theorem dX5_init_189 : decode cX5_init 189 = .ok (.ifCond .ge (7), 3) := by decide +kernel
theorem dX5_init_192 : decode cX5_init 192 = .ok (.lconst 1, 1) := by decide +kernel
theorem dX5_init_193 : decode cX5_init 193 = .ok (.goto (18), 3) := by decide +kernel
theorem dX5_init_196 : decode cX5_init 196 = .ok (.lload_n 3, 1) := by decide +kernel
theorem dX5_init_197 : decode cX5_init 197 = .ok (.ldc2_w 69, 3) := by decide +kernel
theorem dX5_init_200 : decode cX5_init 200 = .ok (.lcmp, 1) := by decide +kernel
theorem dX5_init_201 : decode cX5_init 201 = .ok (.ifCond .le (9), 3) := by decide +kernel
theorem dX5_init_204 : decode cX5_init 204 = .ok (.ldc2_w 69, 3) := by decide +kernel
theorem dX5_init_207 : decode cX5_init 207 = .ok (.goto (4), 3) := by decide +kernel
theorem dX5_init_210 : decode cX5_init 210 = .ok (.lload_n 3, 1) := by decide +kernel
theorem dX5_init_211 : decode cX5_init 211 = .ok (.putfield 75, 3) := by decide +kernel
theorem dX5_init_214 : decode cX5_init 214 = .ok (.aload_n 0, 1) := by decide +kernel
theorem dX5_init_215 : decode cX5_init 215 = .ok (.lload 5, 2) := by decide +kernel
theorem dX5_init_217 : decode cX5_init 217 = .ok (.putfield 78, 3) := by decide +kernel
theorem dX5_init_220 : decode cX5_init 220 = .ok (.return_, 1) := by decide +kernel
abbrev cX5_thrown : ByteArray := prog_7_method_2_code
def yX5_thrown : MethodName := ⟨RX5, "thrown", "()I"⟩
def wsX5_thrown : List Cond := .code yX5_thrown cX5_thrown 1 (some .int) :: bT
theorem dX5_thrown_0 : decode cX5_thrown 0 = .ok (.aload_n 0, 1) := by decide +kernel
theorem dX5_thrown_1 : decode cX5_thrown 1 = .ok (.getfield 81, 3) := by decide +kernel
theorem dX5_thrown_4 : decode cX5_thrown 4 = .ok (.ireturn, 1) := by decide +kernel
abbrev cX5_isSize : ByteArray := prog_7_method_3_code
def yX5_isSize : MethodName := ⟨RX5, "isSize", "(J)Z"⟩
def wsX5_isSize : List Cond := .code yX5_isSize cX5_isSize 2 (some .boolean) :: bT
theorem dX5_isSize_0 : decode cX5_isSize 0 = .ok (.lload_n 0, 1) := by decide +kernel
theorem dX5_isSize_1 : decode cX5_isSize 1 = .ok (.lconst 1, 1) := by decide +kernel
theorem dX5_isSize_2 : decode cX5_isSize 2 = .ok (.lcmp, 1) := by decide +kernel
theorem dX5_isSize_3 : decode cX5_isSize 3 = .ok (.ifCond .lt (15), 3) := by decide +kernel
theorem dX5_isSize_6 : decode cX5_isSize 6 = .ok (.lload_n 0, 1) := by decide +kernel
theorem dX5_isSize_7 : decode cX5_isSize 7 = .ok (.ldc2_w 69, 3) := by decide +kernel
theorem dX5_isSize_10 : decode cX5_isSize 10 = .ok (.lcmp, 1) := by decide +kernel
theorem dX5_isSize_11 : decode cX5_isSize 11 = .ok (.ifCond .gt (7), 3) := by decide +kernel
theorem dX5_isSize_14 : decode cX5_isSize 14 = .ok (.iconst 1, 1) := by decide +kernel
theorem dX5_isSize_15 : decode cX5_isSize 15 = .ok (.goto (4), 3) := by decide +kernel
theorem dX5_isSize_18 : decode cX5_isSize 18 = .ok (.iconst 0, 1) := by decide +kernel
theorem dX5_isSize_19 : decode cX5_isSize 19 = .ok (.ireturn, 1) := by decide +kernel
abbrev cX5_isPart : ByteArray := prog_7_method_4_code
def yX5_isPart : MethodName := ⟨RX5, "isPart", "(I)Z"⟩
def wsX5_isPart : List Cond := .code yX5_isPart cX5_isPart 2 (some .boolean) :: bT
theorem dX5_isPart_0 : decode cX5_isPart 0 = .ok (.iload_n 1, 1) := by decide +kernel
theorem dX5_isPart_1 : decode cX5_isPart 1 = .ok (.ifCond .lt (15), 3) := by decide +kernel
theorem dX5_isPart_4 : decode cX5_isPart 4 = .ok (.iload_n 1, 1) := by decide +kernel
theorem dX5_isPart_5 : decode cX5_isPart 5 = .ok (.aload_n 0, 1) := by decide +kernel
theorem dX5_isPart_6 : decode cX5_isPart 6 = .ok (.getfield 85, 3) := by decide +kernel
theorem dX5_isPart_9 : decode cX5_isPart 9 = .ok (.if_icmp .ge (7), 3) := by decide +kernel
theorem dX5_isPart_16 : decode cX5_isPart 16 = .ok (.iconst 0, 1) := by decide +kernel
theorem dX5_isPart_17 : decode cX5_isPart 17 = .ok (.ireturn, 1) := by decide +kernel
abbrev cX5_part : ByteArray := prog_7_method_5_code
def yX5_part : MethodName := ⟨RX5, "part", "(JJI)I"⟩
def wsX5_part : List Cond := .code yX5_part cX5_part 6 (some .int) :: bT
theorem dX5_part_0 : decode cX5_part 0 = .ok (.aload_n 0, 1) := by decide +kernel
theorem dX5_part_1 : decode cX5_part 1 = .ok (.lload_n 1, 1) := by decide +kernel
theorem dX5_part_2 : decode cX5_part 2 = .ok (.invokestatic 88, 3) := by decide +kernel
theorem dX5_part_5 : decode cX5_part 5 = .ok (.ifCond .eq (25), 3) := by decide +kernel
theorem dX5_part_8 : decode cX5_part 8 = .ok (.lload_n 3, 1) := by decide +kernel
theorem dX5_part_9 : decode cX5_part 9 = .ok (.invokestatic 88, 3) := by decide +kernel
theorem dX5_part_12 : decode cX5_part 12 = .ok (.ifCond .eq (18), 3) := by decide +kernel
theorem dX5_part_15 : decode cX5_part 15 = .ok (.iload 5, 2) := by decide +kernel
theorem dX5_part_17 : decode cX5_part 17 = .ok (.ifCond .eq (9), 3) := by decide +kernel
theorem dX5_part_20 : decode cX5_part 20 = .ok (.iload 5, 2) := by decide +kernel
theorem dX5_part_22 : decode cX5_part 22 = .ok (.iconst 1, 1) := by decide +kernel
theorem dX5_part_23 : decode cX5_part 23 = .ok (.if_icmp .ne (7), 3) := by decide +kernel
theorem dX5_part_26 : decode cX5_part 26 = .ok (.iconst 0, 1) := by decide +kernel
theorem dX5_part_27 : decode cX5_part 27 = .ok (.goto (4), 3) := by decide +kernel
theorem dX5_part_30 : decode cX5_part 30 = .ok (.iconst 1, 1) := by decide +kernel
theorem dX5_part_31 : decode cX5_part 31 = .ok (.putfield 81, 3) := by decide +kernel
theorem dX5_part_34 : decode cX5_part 34 = .ok (.aload_n 0, 1) := by decide +kernel
theorem dX5_part_35 : decode cX5_part 35 = .ok (.getfield 81, 3) := by decide +kernel
theorem dX5_part_38 : decode cX5_part 38 = .ok (.ifCond .eq (5), 3) := by decide +kernel
theorem dX5_part_41 : decode cX5_part 41 = .ok (.iconst 0, 1) := by decide +kernel
theorem dX5_part_42 : decode cX5_part 42 = .ok (.ireturn, 1) := by decide +kernel
theorem dX5_part_43 : decode cX5_part 43 = .ok (.aload_n 0, 1) := by decide +kernel
theorem dX5_part_44 : decode cX5_part 44 = .ok (.getfield 85, 3) := by decide +kernel
theorem dX5_part_47 : decode cX5_part 47 = .ok (.bipush 40, 2) := by decide +kernel
theorem dX5_part_49 : decode cX5_part 49 = .ok (.if_icmp .ne (5), 3) := by decide +kernel
theorem dX5_part_54 : decode cX5_part 54 = .ok (.aload_n 0, 1) := by decide +kernel
theorem dX5_part_55 : decode cX5_part 55 = .ok (.getfield 7, 3) := by decide +kernel
theorem dX5_part_58 : decode cX5_part 58 = .ok (.aload_n 0, 1) := by decide +kernel
theorem dX5_part_59 : decode cX5_part 59 = .ok (.getfield 85, 3) := by decide +kernel
theorem dX5_part_62 : decode cX5_part 62 = .ok (.lload_n 1, 1) := by decide +kernel
theorem dX5_part_63 : decode cX5_part 63 = .ok (.lastore, 1) := by decide +kernel
theorem dX5_part_64 : decode cX5_part 64 = .ok (.aload_n 0, 1) := by decide +kernel
theorem dX5_part_65 : decode cX5_part 65 = .ok (.getfield 13, 3) := by decide +kernel
theorem dX5_part_68 : decode cX5_part 68 = .ok (.aload_n 0, 1) := by decide +kernel
theorem dX5_part_69 : decode cX5_part 69 = .ok (.getfield 85, 3) := by decide +kernel
theorem dX5_part_72 : decode cX5_part 72 = .ok (.lload_n 3, 1) := by decide +kernel
theorem dX5_part_73 : decode cX5_part 73 = .ok (.lastore, 1) := by decide +kernel
theorem dX5_part_74 : decode cX5_part 74 = .ok (.aload_n 0, 1) := by decide +kernel
theorem dX5_part_75 : decode cX5_part 75 = .ok (.getfield 16, 3) := by decide +kernel
theorem dX5_part_78 : decode cX5_part 78 = .ok (.aload_n 0, 1) := by decide +kernel
theorem dX5_part_79 : decode cX5_part 79 = .ok (.getfield 85, 3) := by decide +kernel
theorem dX5_part_82 : decode cX5_part 82 = .ok (.iload 5, 2) := by decide +kernel
theorem dX5_part_84 : decode cX5_part 84 = .ok (.iastore, 1) := by decide +kernel
theorem dX5_part_85 : decode cX5_part 85 = .ok (.aload_n 0, 1) := by decide +kernel
theorem dX5_part_86 : decode cX5_part 86 = .ok (.getfield 27, 3) := by decide +kernel
theorem dX5_part_89 : decode cX5_part 89 = .ok (.aload_n 0, 1) := by decide +kernel
theorem dX5_part_90 : decode cX5_part 90 = .ok (.getfield 85, 3) := by decide +kernel
theorem dX5_part_93 : decode cX5_part 93 = .ok (.aload_n 0, 1) := by decide +kernel
theorem dX5_part_94 : decode cX5_part 94 = .ok (.getfield 85, 3) := by decide +kernel
theorem dX5_part_97 : decode cX5_part 97 = .ok (.iastore, 1) := by decide +kernel
theorem dX5_part_98 : decode cX5_part 98 = .ok (.aload_n 0, 1) := by decide +kernel
theorem dX5_part_99 : decode cX5_part 99 = .ok (.dup, 1) := by decide +kernel
theorem dX5_part_100 : decode cX5_part 100 = .ok (.getfield 85, 3) := by decide +kernel
theorem dX5_part_103 : decode cX5_part 103 = .ok (.iconst 1, 1) := by decide +kernel
theorem dX5_part_104 : decode cX5_part 104 = .ok (.iadd, 1) := by decide +kernel
theorem dX5_part_105 : decode cX5_part 105 = .ok (.putfield 85, 3) := by decide +kernel
theorem dX5_part_108 : decode cX5_part 108 = .ok (.aload_n 0, 1) := by decide +kernel
theorem dX5_part_109 : decode cX5_part 109 = .ok (.getfield 85, 3) := by decide +kernel
theorem dX5_part_112 : decode cX5_part 112 = .ok (.iconst 1, 1) := by decide +kernel
theorem dX5_part_113 : decode cX5_part 113 = .ok (.isub, 1) := by decide +kernel
theorem dX5_part_114 : decode cX5_part 114 = .ok (.ireturn, 1) := by decide +kernel
abbrev cX5_isWell : ByteArray := prog_7_method_16_code
def yX5_isWell : MethodName := ⟨RX5, "isWell", "(I)Z"⟩
def wsX5_isWell : List Cond := .code yX5_isWell cX5_isWell 4 (some .boolean) :: bT
theorem dX5_isWell_0 : decode cX5_isWell 0 = .ok (.iconst 0, 1) := by decide +kernel
theorem dX5_isWell_1 : decode cX5_isWell 1 = .ok (.istore_n 2, 1) := by decide +kernel
theorem dX5_isWell_2 : decode cX5_isWell 2 = .ok (.iload_n 2, 1) := by decide +kernel
theorem dX5_isWell_3 : decode cX5_isWell 3 = .ok (.aload_n 0, 1) := by decide +kernel
theorem dX5_isWell_4 : decode cX5_isWell 4 = .ok (.getfield 85, 3) := by decide +kernel
theorem dX5_isWell_7 : decode cX5_isWell 7 = .ok (.if_icmp .ge (90), 3) := by decide +kernel
theorem dX5_isWell_97 : decode cX5_isWell 97 = .ok (.iconst 1, 1) := by decide +kernel
theorem dX5_isWell_98 : decode cX5_isWell 98 = .ok (.istore_n 2, 1) := by decide +kernel
theorem dX5_isWell_99 : decode cX5_isWell 99 = .ok (.iconst 0, 1) := by decide +kernel
theorem dX5_isWell_100 : decode cX5_isWell 100 = .ok (.istore_n 3, 1) := by decide +kernel
theorem dX5_isWell_101 : decode cX5_isWell 101 = .ok (.iload_n 3, 1) := by decide +kernel
theorem dX5_isWell_102 : decode cX5_isWell 102 = .ok (.aload_n 0, 1) := by decide +kernel
theorem dX5_isWell_103 : decode cX5_isWell 103 = .ok (.getfield 126, 3) := by decide +kernel
theorem dX5_isWell_106 : decode cX5_isWell 106 = .ok (.if_icmp .ge (28), 3) := by decide +kernel
theorem dX5_isWell_134 : decode cX5_isWell 134 = .ok (.iload_n 2, 1) := by decide +kernel
theorem dX5_isWell_135 : decode cX5_isWell 135 = .ok (.ireturn, 1) := by decide +kernel
abbrev cX5_put : ByteArray := prog_7_method_23_code
def yX5_put : MethodName := ⟨RX5, "put", "(IJJI)Z"⟩
def wsX5_put : List Cond := .code yX5_put cX5_put 8 (some .boolean) :: bT
theorem dX5_put_0 : decode cX5_put 0 = .ok (.aload_n 0, 1) := by decide +kernel
theorem dX5_put_1 : decode cX5_put 1 = .ok (.aload_n 0, 1) := by decide +kernel
theorem dX5_put_2 : decode cX5_put 2 = .ok (.iload_n 1, 1) := by decide +kernel
theorem dX5_put_3 : decode cX5_put 3 = .ok (.invokevirtual 139, 3) := by decide +kernel
theorem dX5_put_6 : decode cX5_put 6 = .ok (.ifCond .ne (7), 3) := by decide +kernel
theorem dX5_put_9 : decode cX5_put 9 = .ok (.iconst 1, 1) := by decide +kernel
theorem dX5_put_10 : decode cX5_put 10 = .ok (.goto (19), 3) := by decide +kernel
theorem dX5_put_29 : decode cX5_put 29 = .ok (.putfield 81, 3) := by decide +kernel
theorem dX5_put_32 : decode cX5_put 32 = .ok (.aload_n 0, 1) := by decide +kernel
theorem dX5_put_33 : decode cX5_put 33 = .ok (.getfield 81, 3) := by decide +kernel
theorem dX5_put_36 : decode cX5_put 36 = .ok (.ifCond .eq (5), 3) := by decide +kernel
theorem dX5_put_39 : decode cX5_put 39 = .ok (.iconst 0, 1) := by decide +kernel
theorem dX5_put_40 : decode cX5_put 40 = .ok (.ireturn, 1) := by decide +kernel
abbrev cX5_lock : ByteArray := prog_7_method_24_code
def yX5_lock : MethodName := ⟨RX5, "lock", "(IZ)Z"⟩
def wsX5_lock : List Cond := .code yX5_lock cX5_lock 4 (some .boolean) :: bT
theorem dX5_lock_0 : decode cX5_lock 0 = .ok (.aload_n 0, 1) := by decide +kernel
theorem dX5_lock_1 : decode cX5_lock 1 = .ok (.aload_n 0, 1) := by decide +kernel
theorem dX5_lock_2 : decode cX5_lock 2 = .ok (.iload_n 1, 1) := by decide +kernel
theorem dX5_lock_3 : decode cX5_lock 3 = .ok (.invokevirtual 139, 3) := by decide +kernel
theorem dX5_lock_6 : decode cX5_lock 6 = .ok (.ifCond .eq (7), 3) := by decide +kernel
theorem dX5_lock_13 : decode cX5_lock 13 = .ok (.iconst 1, 1) := by decide +kernel
theorem dX5_lock_14 : decode cX5_lock 14 = .ok (.putfield 81, 3) := by decide +kernel
theorem dX5_lock_17 : decode cX5_lock 17 = .ok (.aload_n 0, 1) := by decide +kernel
theorem dX5_lock_18 : decode cX5_lock 18 = .ok (.getfield 81, 3) := by decide +kernel
theorem dX5_lock_21 : decode cX5_lock 21 = .ok (.ifCond .eq (5), 3) := by decide +kernel
theorem dX5_lock_24 : decode cX5_lock 24 = .ok (.iconst 0, 1) := by decide +kernel
theorem dX5_lock_25 : decode cX5_lock 25 = .ok (.ireturn, 1) := by decide +kernel
abbrev cX5_net : ByteArray := prog_7_method_25_code
def yX5_net : MethodName := ⟨RX5, "net", "()I"⟩
def wsX5_net : List Cond := .code yX5_net cX5_net 1 (some .int) :: bT
theorem dX5_net_0 : decode cX5_net 0 = .ok (.aload_n 0, 1) := by decide +kernel
theorem dX5_net_1 : decode cX5_net 1 = .ok (.iconst 0, 1) := by decide +kernel
theorem dX5_net_2 : decode cX5_net 2 = .ok (.putfield 81, 3) := by decide +kernel
theorem dX5_net_5 : decode cX5_net 5 = .ok (.aload_n 0, 1) := by decide +kernel
theorem dX5_net_6 : decode cX5_net 6 = .ok (.getfield 160, 3) := by decide +kernel
theorem dX5_net_9 : decode cX5_net 9 = .ok (.bipush 40, 2) := by decide +kernel
theorem dX5_net_11 : decode cX5_net 11 = .ok (.if_icmp .ne (5), 3) := by decide +kernel
theorem dX5_net_16 : decode cX5_net 16 = .ok (.aload_n 0, 1) := by decide +kernel
theorem dX5_net_17 : decode cX5_net 17 = .ok (.dup, 1) := by decide +kernel
theorem dX5_net_18 : decode cX5_net 18 = .ok (.getfield 160, 3) := by decide +kernel
theorem dX5_net_21 : decode cX5_net 21 = .ok (.iconst 1, 1) := by decide +kernel
theorem dX5_net_22 : decode cX5_net 22 = .ok (.iadd, 1) := by decide +kernel
theorem dX5_net_23 : decode cX5_net 23 = .ok (.putfield 160, 3) := by decide +kernel
theorem dX5_net_26 : decode cX5_net 26 = .ok (.aload_n 0, 1) := by decide +kernel
theorem dX5_net_27 : decode cX5_net 27 = .ok (.getfield 160, 3) := by decide +kernel
theorem dX5_net_30 : decode cX5_net 30 = .ok (.iconst 1, 1) := by decide +kernel
theorem dX5_net_31 : decode cX5_net 31 = .ok (.isub, 1) := by decide +kernel
theorem dX5_net_32 : decode cX5_net 32 = .ok (.ireturn, 1) := by decide +kernel
abbrev cX5_pin : ByteArray := prog_7_method_26_code
def yX5_pin : MethodName := ⟨RX5, "pin", "(IIJJ)Z"⟩
def wsX5_pin : List Cond := .code yX5_pin cX5_pin 9 (some .boolean) :: bT
theorem dX5_pin_0 : decode cX5_pin 0 = .ok (.iload_n 1, 1) := by decide +kernel
theorem dX5_pin_1 : decode cX5_pin 1 = .ok (.ifCond .lt (23), 3) := by decide +kernel
theorem dX5_pin_4 : decode cX5_pin 4 = .ok (.iload_n 1, 1) := by decide +kernel
theorem dX5_pin_5 : decode cX5_pin 5 = .ok (.aload_n 0, 1) := by decide +kernel
theorem dX5_pin_6 : decode cX5_pin 6 = .ok (.getfield 160, 3) := by decide +kernel
theorem dX5_pin_9 : decode cX5_pin 9 = .ok (.if_icmp .ge (15), 3) := by decide +kernel
theorem dX5_pin_24 : decode cX5_pin 24 = .ok (.iconst 0, 1) := by decide +kernel
theorem dX5_pin_25 : decode cX5_pin 25 = .ok (.istore 7, 2) := by decide +kernel
theorem dX5_pin_27 : decode cX5_pin 27 = .ok (.iload 7, 2) := by decide +kernel
theorem dX5_pin_29 : decode cX5_pin 29 = .ok (.ifCond .eq (43), 3) := by decide +kernel
theorem dX5_pin_72 : decode cX5_pin 72 = .ok (.iconst 0, 1) := by decide +kernel
theorem dX5_pin_73 : decode cX5_pin 73 = .ok (.istore 8, 2) := by decide +kernel
theorem dX5_pin_75 : decode cX5_pin 75 = .ok (.aload_n 0, 1) := by decide +kernel
theorem dX5_pin_76 : decode cX5_pin 76 = .ok (.iload 7, 2) := by decide +kernel
theorem dX5_pin_78 : decode cX5_pin 78 = .ok (.ifCond .ne (7), 3) := by decide +kernel
theorem dX5_pin_81 : decode cX5_pin 81 = .ok (.iconst 1, 1) := by decide +kernel
theorem dX5_pin_82 : decode cX5_pin 82 = .ok (.goto (13), 3) := by decide +kernel
theorem dX5_pin_95 : decode cX5_pin 95 = .ok (.putfield 81, 3) := by decide +kernel
theorem dX5_pin_98 : decode cX5_pin 98 = .ok (.aload_n 0, 1) := by decide +kernel
theorem dX5_pin_99 : decode cX5_pin 99 = .ok (.getfield 81, 3) := by decide +kernel
theorem dX5_pin_102 : decode cX5_pin 102 = .ok (.ifCond .ne (12), 3) := by decide +kernel
theorem dX5_pin_114 : decode cX5_pin 114 = .ok (.iconst 0, 1) := by decide +kernel
theorem dX5_pin_115 : decode cX5_pin 115 = .ok (.ireturn, 1) := by decide +kernel
abbrev cX5_wireOf : ByteArray := prog_7_method_29_code
def yX5_wireOf : MethodName := ⟨RX5, "wireOf", "(I)J"⟩
def wsX5_wireOf : List Cond := .code yX5_wireOf cX5_wireOf 5 (some .long) :: bT
theorem dX5_wireOf_0 : decode cX5_wireOf 0 = .ok (.lconst 0, 1) := by decide +kernel
theorem dX5_wireOf_1 : decode cX5_wireOf 1 = .ok (.lstore_n 2, 1) := by decide +kernel
theorem dX5_wireOf_2 : decode cX5_wireOf 2 = .ok (.iconst 0, 1) := by decide +kernel
theorem dX5_wireOf_3 : decode cX5_wireOf 3 = .ok (.istore 4, 2) := by decide +kernel
theorem dX5_wireOf_5 : decode cX5_wireOf 5 = .ok (.iload 4, 2) := by decide +kernel
theorem dX5_wireOf_7 : decode cX5_wireOf 7 = .ok (.aload_n 0, 1) := by decide +kernel
theorem dX5_wireOf_8 : decode cX5_wireOf 8 = .ok (.getfield 160, 3) := by decide +kernel
theorem dX5_wireOf_11 : decode cX5_wireOf 11 = .ok (.if_icmp .ge (29), 3) := by decide +kernel
theorem dX5_wireOf_40 : decode cX5_wireOf 40 = .ok (.lload_n 2, 1) := by decide +kernel
theorem dX5_wireOf_41 : decode cX5_wireOf 41 = .ok (.lreturn, 1) := by decide +kernel
abbrev cX5_wire : ByteArray := prog_7_method_30_code
def yX5_wire : MethodName := ⟨RX5, "wire", "()J"⟩
def wsX5_wire : List Cond := .code yX5_wire cX5_wire 1 (some .long) :: bT
theorem dX5_wire_0 : decode cX5_wire 0 = .ok (.aload_n 0, 1) := by decide +kernel
theorem dX5_wire_1 : decode cX5_wire 1 = .ok (.iconst 0, 1) := by decide +kernel
theorem dX5_wire_2 : decode cX5_wire 2 = .ok (.putfield 81, 3) := by decide +kernel
theorem dX5_wire_5 : decode cX5_wire 5 = .ok (.aload_n 0, 1) := by decide +kernel
theorem dX5_wire_6 : decode cX5_wire 6 = .ok (.iconst 0, 1) := by decide +kernel
theorem dX5_wire_7 : decode cX5_wire 7 = .ok (.invokevirtual 173, 3) := by decide +kernel
theorem dX5_wire_10 : decode cX5_wire 10 = .ok (.lreturn, 1) := by decide +kernel
abbrev cX5_full : ByteArray := prog_7_method_31_code
def yX5_full : MethodName := ⟨RX5, "full", "()J"⟩
def wsX5_full : List Cond := .code yX5_full cX5_full 1 (some .long) :: bT
theorem dX5_full_0 : decode cX5_full 0 = .ok (.aload_n 0, 1) := by decide +kernel
theorem dX5_full_1 : decode cX5_full 1 = .ok (.iconst 0, 1) := by decide +kernel
theorem dX5_full_2 : decode cX5_full 2 = .ok (.putfield 81, 3) := by decide +kernel
theorem dX5_full_5 : decode cX5_full 5 = .ok (.aload_n 0, 1) := by decide +kernel
theorem dX5_full_6 : decode cX5_full 6 = .ok (.iconst 0, 1) := by decide +kernel
theorem dX5_full_7 : decode cX5_full 7 = .ok (.invokevirtual 173, 3) := by decide +kernel
theorem dX5_full_10 : decode cX5_full 10 = .ok (.lreturn, 1) := by decide +kernel
abbrev cX5_push : ByteArray := prog_7_method_37_code
def yX5_push : MethodName := ⟨RX5, "push", "(IJJ)I"⟩
def wsX5_push : List Cond := .code yX5_push cX5_push 13 (some .int) :: bT
theorem dX5_push_0 : decode cX5_push 0 = .ok (.aload_n 0, 1) := by decide +kernel
theorem dX5_push_1 : decode cX5_push 1 = .ok (.aload_n 0, 1) := by decide +kernel
theorem dX5_push_2 : decode cX5_push 2 = .ok (.iload_n 1, 1) := by decide +kernel
theorem dX5_push_3 : decode cX5_push 3 = .ok (.invokevirtual 139, 3) := by decide +kernel
theorem dX5_push_6 : decode cX5_push 6 = .ok (.ifCond .ne (7), 3) := by decide +kernel
theorem dX5_push_9 : decode cX5_push 9 = .ok (.iconst 1, 1) := by decide +kernel
theorem dX5_push_10 : decode cX5_push 10 = .ok (.goto (17), 3) := by decide +kernel
theorem dX5_push_27 : decode cX5_push 27 = .ok (.putfield 81, 3) := by decide +kernel
theorem dX5_push_30 : decode cX5_push 30 = .ok (.aload_n 0, 1) := by decide +kernel
theorem dX5_push_31 : decode cX5_push 31 = .ok (.getfield 81, 3) := by decide +kernel
theorem dX5_push_34 : decode cX5_push 34 = .ok (.ifCond .eq (5), 3) := by decide +kernel
theorem dX5_push_37 : decode cX5_push 37 = .ok (.iconst 0, 1) := by decide +kernel
theorem dX5_push_38 : decode cX5_push 38 = .ok (.ireturn, 1) := by decide +kernel
abbrev cX5_at : ByteArray := prog_7_method_38_code
def yX5_at : MethodName := ⟨RX5, "at", "(II)J"⟩
def wsX5_at : List Cond := .code yX5_at cX5_at 3 (some .long) :: bT
theorem dX5_at_0 : decode cX5_at 0 = .ok (.aload_n 0, 1) := by decide +kernel
theorem dX5_at_1 : decode cX5_at 1 = .ok (.aload_n 0, 1) := by decide +kernel
theorem dX5_at_2 : decode cX5_at 2 = .ok (.iload_n 1, 1) := by decide +kernel
theorem dX5_at_3 : decode cX5_at 3 = .ok (.invokevirtual 139, 3) := by decide +kernel
theorem dX5_at_6 : decode cX5_at 6 = .ok (.ifCond .eq (17), 3) := by decide +kernel
theorem dX5_at_23 : decode cX5_at 23 = .ok (.iconst 1, 1) := by decide +kernel
theorem dX5_at_24 : decode cX5_at 24 = .ok (.putfield 81, 3) := by decide +kernel
theorem dX5_at_27 : decode cX5_at 27 = .ok (.aload_n 0, 1) := by decide +kernel
theorem dX5_at_28 : decode cX5_at 28 = .ok (.getfield 81, 3) := by decide +kernel
theorem dX5_at_31 : decode cX5_at 31 = .ok (.ifCond .eq (5), 3) := by decide +kernel
theorem dX5_at_34 : decode cX5_at 34 = .ok (.lconst 0, 1) := by decide +kernel
theorem dX5_at_35 : decode cX5_at 35 = .ok (.lreturn, 1) := by decide +kernel
abbrev cX5_side : ByteArray := prog_7_method_39_code
def yX5_side : MethodName := ⟨RX5, "side", "(I)I"⟩
def wsX5_side : List Cond := .code yX5_side cX5_side 2 (some .int) :: bT
theorem dX5_side_0 : decode cX5_side 0 = .ok (.aload_n 0, 1) := by decide +kernel
theorem dX5_side_1 : decode cX5_side 1 = .ok (.aload_n 0, 1) := by decide +kernel
theorem dX5_side_2 : decode cX5_side 2 = .ok (.iload_n 1, 1) := by decide +kernel
theorem dX5_side_3 : decode cX5_side 3 = .ok (.invokevirtual 139, 3) := by decide +kernel
theorem dX5_side_6 : decode cX5_side 6 = .ok (.ifCond .eq (7), 3) := by decide +kernel
theorem dX5_side_13 : decode cX5_side 13 = .ok (.iconst 1, 1) := by decide +kernel
theorem dX5_side_14 : decode cX5_side 14 = .ok (.putfield 81, 3) := by decide +kernel
theorem dX5_side_17 : decode cX5_side 17 = .ok (.aload_n 0, 1) := by decide +kernel
theorem dX5_side_18 : decode cX5_side 18 = .ok (.getfield 81, 3) := by decide +kernel
theorem dX5_side_21 : decode cX5_side 21 = .ok (.ifCond .ne (12), 3) := by decide +kernel
theorem dX5_side_33 : decode cX5_side 33 = .ok (.iconst 0, 1) := by decide +kernel
theorem dX5_side_34 : decode cX5_side 34 = .ok (.ireturn, 1) := by decide +kernel
abbrev cX5_clear2 : ByteArray := prog_7_method_40_code
def yX5_clear2 : MethodName := ⟨RX5, "clear2", "()Z"⟩
def wsX5_clear2 : List Cond := .code yX5_clear2 cX5_clear2 1 (some .boolean) :: bT
theorem dX5_clear2_0 : decode cX5_clear2 0 = .ok (.aload_n 0, 1) := by decide +kernel
theorem dX5_clear2_1 : decode cX5_clear2 1 = .ok (.iconst 0, 1) := by decide +kernel
theorem dX5_clear2_2 : decode cX5_clear2 2 = .ok (.putfield 81, 3) := by decide +kernel
theorem dX5_clear2_5 : decode cX5_clear2 5 = .ok (.iconst 1, 1) := by decide +kernel
theorem dX5_clear2_6 : decode cX5_clear2 6 = .ok (.ireturn, 1) := by decide +kernel
abbrev cX5_run : ByteArray := prog_7_method_44_code
def yX5_run : MethodName := ⟨RX5, "run", "(J)I"⟩
def wsX5_run : List Cond := .code yX5_run cX5_run 23 (some .int) :: bT
theorem dX5_run_0 : decode cX5_run 0 = .ok (.aload_n 0, 1) := by decide +kernel
theorem dX5_run_1 : decode cX5_run 1 = .ok (.lload_n 1, 1) := by decide +kernel
theorem dX5_run_2 : decode cX5_run 2 = .ok (.lconst 0, 1) := by decide +kernel
theorem dX5_run_3 : decode cX5_run 3 = .ok (.lcmp, 1) := by decide +kernel
theorem dX5_run_4 : decode cX5_run 4 = .ok (.ifCond .lt (15), 3) := by decide +kernel
theorem dX5_run_7 : decode cX5_run 7 = .ok (.lload_n 1, 1) := by decide +kernel
theorem dX5_run_8 : decode cX5_run 8 = .ok (.ldc2_w 203, 3) := by decide +kernel
theorem dX5_run_11 : decode cX5_run 11 = .ok (.lcmp, 1) := by decide +kernel
theorem dX5_run_12 : decode cX5_run 12 = .ok (.ifCond .gt (7), 3) := by decide +kernel
theorem dX5_run_15 : decode cX5_run 15 = .ok (.iconst 0, 1) := by decide +kernel
theorem dX5_run_16 : decode cX5_run 16 = .ok (.goto (4), 3) := by decide +kernel
theorem dX5_run_19 : decode cX5_run 19 = .ok (.iconst 1, 1) := by decide +kernel
theorem dX5_run_20 : decode cX5_run 20 = .ok (.putfield 81, 3) := by decide +kernel
theorem dX5_run_23 : decode cX5_run 23 = .ok (.aload_n 0, 1) := by decide +kernel
theorem dX5_run_24 : decode cX5_run 24 = .ok (.getfield 81, 3) := by decide +kernel
theorem dX5_run_27 : decode cX5_run 27 = .ok (.ifCond .ne (10), 3) := by decide +kernel
theorem dX5_run_30 : decode cX5_run 30 = .ok (.aload_n 0, 1) := by decide +kernel
theorem dX5_run_31 : decode cX5_run 31 = .ok (.getfield 85, 3) := by decide +kernel
theorem dX5_run_34 : decode cX5_run 34 = .ok (.ifCond .ne (5), 3) := by decide +kernel
theorem dX5_run_37 : decode cX5_run 37 = .ok (.iconst 0, 1) := by decide +kernel
theorem dX5_run_38 : decode cX5_run 38 = .ok (.ireturn, 1) := by decide +kernel
abbrev cX5_near : ByteArray := prog_7_method_45_code
def yX5_near : MethodName := ⟨RX5, "near", "(IIJ)Z"⟩
def wsX5_near : List Cond := .code yX5_near cX5_near 5 (some .boolean) :: bT
theorem dX5_near_0 : decode cX5_near 0 = .ok (.aload_n 0, 1) := by decide +kernel
theorem dX5_near_1 : decode cX5_near 1 = .ok (.aload_n 0, 1) := by decide +kernel
theorem dX5_near_2 : decode cX5_near 2 = .ok (.iload_n 1, 1) := by decide +kernel
theorem dX5_near_3 : decode cX5_near 3 = .ok (.invokevirtual 139, 3) := by decide +kernel
theorem dX5_near_6 : decode cX5_near 6 = .ok (.ifCond .eq (11), 3) := by decide +kernel
theorem dX5_near_17 : decode cX5_near 17 = .ok (.iconst 1, 1) := by decide +kernel
theorem dX5_near_18 : decode cX5_near 18 = .ok (.goto (14), 3) := by decide +kernel
theorem dX5_near_32 : decode cX5_near 32 = .ok (.putfield 81, 3) := by decide +kernel
theorem dX5_near_35 : decode cX5_near 35 = .ok (.aload_n 0, 1) := by decide +kernel
theorem dX5_near_36 : decode cX5_near 36 = .ok (.getfield 81, 3) := by decide +kernel
theorem dX5_near_39 : decode cX5_near 39 = .ok (.ifCond .ne (17), 3) := by decide +kernel
theorem dX5_near_56 : decode cX5_near 56 = .ok (.iconst 0, 1) := by decide +kernel
theorem dX5_near_57 : decode cX5_near 57 = .ok (.ireturn, 1) := by decide +kernel
abbrev cX5_group : ByteArray := prog_7_method_46_code
def yX5_group : MethodName := ⟨RX5, "group", "(II)I"⟩
def wsX5_group : List Cond := .code yX5_group cX5_group 7 (some .int) :: bT
theorem dX5_group_0 : decode cX5_group 0 = .ok (.aload_n 0, 1) := by decide +kernel
theorem dX5_group_1 : decode cX5_group 1 = .ok (.aload_n 0, 1) := by decide +kernel
theorem dX5_group_2 : decode cX5_group 2 = .ok (.iload_n 1, 1) := by decide +kernel
theorem dX5_group_3 : decode cX5_group 3 = .ok (.invokevirtual 139, 3) := by decide +kernel
theorem dX5_group_6 : decode cX5_group 6 = .ok (.ifCond .eq (15), 3) := by decide +kernel
theorem dX5_group_21 : decode cX5_group 21 = .ok (.iconst 1, 1) := by decide +kernel
theorem dX5_group_22 : decode cX5_group 22 = .ok (.putfield 81, 3) := by decide +kernel
theorem dX5_group_25 : decode cX5_group 25 = .ok (.aload_n 0, 1) := by decide +kernel
theorem dX5_group_26 : decode cX5_group 26 = .ok (.getfield 81, 3) := by decide +kernel
theorem dX5_group_29 : decode cX5_group 29 = .ok (.ifCond .eq (5), 3) := by decide +kernel
theorem dX5_group_32 : decode cX5_group 32 = .ok (.iconst 0, 1) := by decide +kernel
theorem dX5_group_33 : decode cX5_group 33 = .ok (.ireturn, 1) := by decide +kernel
abbrev cX5_height : ByteArray := prog_7_method_47_code
def yX5_height : MethodName := ⟨RX5, "height", "(IJ)Z"⟩
def wsX5_height : List Cond := .code yX5_height cX5_height 6 (some .boolean) :: bT
theorem dX5_height_0 : decode cX5_height 0 = .ok (.aload_n 0, 1) := by decide +kernel
theorem dX5_height_1 : decode cX5_height 1 = .ok (.aload_n 0, 1) := by decide +kernel
theorem dX5_height_2 : decode cX5_height 2 = .ok (.iload_n 1, 1) := by decide +kernel
theorem dX5_height_3 : decode cX5_height 3 = .ok (.invokevirtual 139, 3) := by decide +kernel
theorem dX5_height_6 : decode cX5_height 6 = .ok (.ifCond .ne (7), 3) := by decide +kernel
theorem dX5_height_9 : decode cX5_height 9 = .ok (.iconst 1, 1) := by decide +kernel
theorem dX5_height_10 : decode cX5_height 10 = .ok (.goto (22), 3) := by decide +kernel
theorem dX5_height_32 : decode cX5_height 32 = .ok (.putfield 81, 3) := by decide +kernel
theorem dX5_height_35 : decode cX5_height 35 = .ok (.aload_n 0, 1) := by decide +kernel
theorem dX5_height_36 : decode cX5_height 36 = .ok (.getfield 81, 3) := by decide +kernel
theorem dX5_height_39 : decode cX5_height 39 = .ok (.ifCond .eq (5), 3) := by decide +kernel
theorem dX5_height_42 : decode cX5_height 42 = .ok (.iconst 0, 1) := by decide +kernel
theorem dX5_height_43 : decode cX5_height 43 = .ok (.ireturn, 1) := by decide +kernel
abbrev cX5_keepOut : ByteArray := prog_7_method_48_code
def yX5_keepOut : MethodName := ⟨RX5, "keepOut", "(JJJJJ)Z"⟩
def wsX5_keepOut : List Cond := .code yX5_keepOut cX5_keepOut 12 (some .boolean) :: bT
theorem dX5_keepOut_0 : decode cX5_keepOut 0 = .ok (.aload_n 0, 1) := by decide +kernel
theorem dX5_keepOut_1 : decode cX5_keepOut 1 = .ok (.lload 9, 2) := by decide +kernel
theorem dX5_keepOut_3 : decode cX5_keepOut 3 = .ok (.lconst 0, 1) := by decide +kernel
theorem dX5_keepOut_4 : decode cX5_keepOut 4 = .ok (.lcmp, 1) := by decide +kernel
theorem dX5_keepOut_5 : decode cX5_keepOut 5 = .ok (.ifCond .ge (7), 3) := by decide +kernel
theorem dX5_keepOut_8 : decode cX5_keepOut 8 = .ok (.iconst 1, 1) := by decide +kernel
theorem dX5_keepOut_9 : decode cX5_keepOut 9 = .ok (.goto (4), 3) := by decide +kernel
theorem dX5_keepOut_12 : decode cX5_keepOut 12 = .ok (.iconst 0, 1) := by decide +kernel
theorem dX5_keepOut_13 : decode cX5_keepOut 13 = .ok (.putfield 81, 3) := by decide +kernel
theorem dX5_keepOut_16 : decode cX5_keepOut 16 = .ok (.aload_n 0, 1) := by decide +kernel
theorem dX5_keepOut_17 : decode cX5_keepOut 17 = .ok (.getfield 81, 3) := by decide +kernel
theorem dX5_keepOut_20 : decode cX5_keepOut 20 = .ok (.ifCond .ne (26), 3) := by decide +kernel
theorem dX5_keepOut_23 : decode cX5_keepOut 23 = .ok (.aload_n 0, 1) := by decide +kernel
theorem dX5_keepOut_24 : decode cX5_keepOut 24 = .ok (.getfield 109, 3) := by decide +kernel
theorem dX5_keepOut_27 : decode cX5_keepOut 27 = .ok (.bipush 10, 2) := by decide +kernel
theorem dX5_keepOut_29 : decode cX5_keepOut 29 = .ok (.if_icmp .eq (17), 3) := by decide +kernel
theorem dX5_keepOut_32 : decode cX5_keepOut 32 = .ok (.lload_n 1, 1) := by decide +kernel
theorem dX5_keepOut_33 : decode cX5_keepOut 33 = .ok (.lload 5, 2) := by decide +kernel
theorem dX5_keepOut_35 : decode cX5_keepOut 35 = .ok (.lcmp, 1) := by decide +kernel
theorem dX5_keepOut_36 : decode cX5_keepOut 36 = .ok (.ifCond .ge (10), 3) := by decide +kernel
theorem dX5_keepOut_39 : decode cX5_keepOut 39 = .ok (.lload_n 3, 1) := by decide +kernel
theorem dX5_keepOut_40 : decode cX5_keepOut 40 = .ok (.lload 7, 2) := by decide +kernel
theorem dX5_keepOut_42 : decode cX5_keepOut 42 = .ok (.lcmp, 1) := by decide +kernel
theorem dX5_keepOut_43 : decode cX5_keepOut 43 = .ok (.ifCond .lt (5), 3) := by decide +kernel
theorem dX5_keepOut_46 : decode cX5_keepOut 46 = .ok (.iconst 0, 1) := by decide +kernel
theorem dX5_keepOut_47 : decode cX5_keepOut 47 = .ok (.ireturn, 1) := by decide +kernel
theorem dX5_keepOut_48 : decode cX5_keepOut 48 = .ok (.iconst 5, 1) := by decide +kernel
theorem dX5_keepOut_49 : decode cX5_keepOut 49 = .ok (.aload_n 0, 1) := by decide +kernel
theorem dX5_keepOut_50 : decode cX5_keepOut 50 = .ok (.getfield 109, 3) := by decide +kernel
theorem dX5_keepOut_53 : decode cX5_keepOut 53 = .ok (.imul, 1) := by decide +kernel
theorem dX5_keepOut_54 : decode cX5_keepOut 54 = .ok (.istore 11, 2) := by decide +kernel
theorem dX5_keepOut_56 : decode cX5_keepOut 56 = .ok (.aload_n 0, 1) := by decide +kernel
theorem dX5_keepOut_57 : decode cX5_keepOut 57 = .ok (.getfield 42, 3) := by decide +kernel
theorem dX5_keepOut_60 : decode cX5_keepOut 60 = .ok (.iload 11, 2) := by decide +kernel
theorem dX5_keepOut_62 : decode cX5_keepOut 62 = .ok (.lload_n 1, 1) := by decide +kernel
theorem dX5_keepOut_63 : decode cX5_keepOut 63 = .ok (.lastore, 1) := by decide +kernel
theorem dX5_keepOut_64 : decode cX5_keepOut 64 = .ok (.aload_n 0, 1) := by decide +kernel
theorem dX5_keepOut_65 : decode cX5_keepOut 65 = .ok (.getfield 42, 3) := by decide +kernel
theorem dX5_keepOut_68 : decode cX5_keepOut 68 = .ok (.iload 11, 2) := by decide +kernel
theorem dX5_keepOut_70 : decode cX5_keepOut 70 = .ok (.iconst 1, 1) := by decide +kernel
theorem dX5_keepOut_71 : decode cX5_keepOut 71 = .ok (.iadd, 1) := by decide +kernel
theorem dX5_keepOut_72 : decode cX5_keepOut 72 = .ok (.lload_n 3, 1) := by decide +kernel
theorem dX5_keepOut_73 : decode cX5_keepOut 73 = .ok (.lastore, 1) := by decide +kernel
theorem dX5_keepOut_74 : decode cX5_keepOut 74 = .ok (.aload_n 0, 1) := by decide +kernel
theorem dX5_keepOut_75 : decode cX5_keepOut 75 = .ok (.getfield 42, 3) := by decide +kernel
theorem dX5_keepOut_78 : decode cX5_keepOut 78 = .ok (.iload 11, 2) := by decide +kernel
theorem dX5_keepOut_80 : decode cX5_keepOut 80 = .ok (.iconst 2, 1) := by decide +kernel
theorem dX5_keepOut_81 : decode cX5_keepOut 81 = .ok (.iadd, 1) := by decide +kernel
theorem dX5_keepOut_82 : decode cX5_keepOut 82 = .ok (.lload 5, 2) := by decide +kernel
theorem dX5_keepOut_84 : decode cX5_keepOut 84 = .ok (.lastore, 1) := by decide +kernel
theorem dX5_keepOut_85 : decode cX5_keepOut 85 = .ok (.aload_n 0, 1) := by decide +kernel
theorem dX5_keepOut_86 : decode cX5_keepOut 86 = .ok (.getfield 42, 3) := by decide +kernel
theorem dX5_keepOut_89 : decode cX5_keepOut 89 = .ok (.iload 11, 2) := by decide +kernel
theorem dX5_keepOut_91 : decode cX5_keepOut 91 = .ok (.iconst 3, 1) := by decide +kernel
theorem dX5_keepOut_92 : decode cX5_keepOut 92 = .ok (.iadd, 1) := by decide +kernel
theorem dX5_keepOut_93 : decode cX5_keepOut 93 = .ok (.lload 7, 2) := by decide +kernel
theorem dX5_keepOut_95 : decode cX5_keepOut 95 = .ok (.lastore, 1) := by decide +kernel
theorem dX5_keepOut_96 : decode cX5_keepOut 96 = .ok (.aload_n 0, 1) := by decide +kernel
theorem dX5_keepOut_97 : decode cX5_keepOut 97 = .ok (.getfield 42, 3) := by decide +kernel
theorem dX5_keepOut_100 : decode cX5_keepOut 100 = .ok (.iload 11, 2) := by decide +kernel
theorem dX5_keepOut_102 : decode cX5_keepOut 102 = .ok (.iconst 4, 1) := by decide +kernel
theorem dX5_keepOut_103 : decode cX5_keepOut 103 = .ok (.iadd, 1) := by decide +kernel
theorem dX5_keepOut_104 : decode cX5_keepOut 104 = .ok (.lload 9, 2) := by decide +kernel
theorem dX5_keepOut_106 : decode cX5_keepOut 106 = .ok (.lastore, 1) := by decide +kernel
theorem dX5_keepOut_107 : decode cX5_keepOut 107 = .ok (.aload_n 0, 1) := by decide +kernel
theorem dX5_keepOut_108 : decode cX5_keepOut 108 = .ok (.dup, 1) := by decide +kernel
theorem dX5_keepOut_109 : decode cX5_keepOut 109 = .ok (.getfield 109, 3) := by decide +kernel
theorem dX5_keepOut_112 : decode cX5_keepOut 112 = .ok (.iconst 1, 1) := by decide +kernel
theorem dX5_keepOut_113 : decode cX5_keepOut 113 = .ok (.iadd, 1) := by decide +kernel
theorem dX5_keepOut_114 : decode cX5_keepOut 114 = .ok (.putfield 109, 3) := by decide +kernel
theorem dX5_keepOut_117 : decode cX5_keepOut 117 = .ok (.aload_n 0, 1) := by decide +kernel
theorem dX5_keepOut_118 : decode cX5_keepOut 118 = .ok (.iconst 0, 1) := by decide +kernel
theorem dX5_keepOut_119 : decode cX5_keepOut 119 = .ok (.invokevirtual 157, 3) := by decide +kernel
theorem dX5_keepOut_122 : decode cX5_keepOut 122 = .ok (.ifCond .eq (5), 3) := by decide +kernel
theorem dX5_keepOut_125 : decode cX5_keepOut 125 = .ok (.iconst 1, 1) := by decide +kernel
theorem dX5_keepOut_126 : decode cX5_keepOut 126 = .ok (.ireturn, 1) := by decide +kernel
abbrev cX0_init : ByteArray := prog_2_method_1_code
def yX0_init : MethodName := ⟨RX0, "<init>", "(LBoardMoves$Parts;)V"⟩
def wsX0_init : List Cond := .code yX0_init cX0_init 2 none :: bT
theorem dX0_init_0 : decode cX0_init 0 = .ok (.aload_n 0, 1) := by decide +kernel
theorem dX0_init_1 : decode cX0_init 1 = .ok (.invokespecial 3, 3) := by decide +kernel
theorem dX0_init_4 : decode cX0_init 4 = .ok (.aload_n 0, 1) := by decide +kernel
theorem dX0_init_5 : decode cX0_init 5 = .ok (.bipush 10, 2) := by decide +kernel
theorem dX0_init_7 : decode cX0_init 7 = .ok (.newarray .long, 2) := by decide +kernel
theorem dX0_init_9 : decode cX0_init 9 = .ok (.putfield 9, 3) := by decide +kernel
theorem dX0_init_12 : decode cX0_init 12 = .ok (.aload_n 0, 1) := by decide +kernel
theorem dX0_init_13 : decode cX0_init 13 = .ok (.bipush 10, 2) := by decide +kernel
theorem dX0_init_15 : decode cX0_init 15 = .ok (.newarray .long, 2) := by decide +kernel
theorem dX0_init_17 : decode cX0_init 17 = .ok (.putfield 15, 3) := by decide +kernel
theorem dX0_init_20 : decode cX0_init 20 = .ok (.aload_n 0, 1) := by decide +kernel
theorem dX0_init_21 : decode cX0_init 21 = .ok (.bipush 10, 2) := by decide +kernel
theorem dX0_init_23 : decode cX0_init 23 = .ok (.newarray .long, 2) := by decide +kernel
theorem dX0_init_25 : decode cX0_init 25 = .ok (.putfield 18, 3) := by decide +kernel
theorem dX0_init_28 : decode cX0_init 28 = .ok (.aload_n 0, 1) := by decide +kernel
theorem dX0_init_29 : decode cX0_init 29 = .ok (.bipush 10, 2) := by decide +kernel
theorem dX0_init_31 : decode cX0_init 31 = .ok (.newarray .long, 2) := by decide +kernel
theorem dX0_init_33 : decode cX0_init 33 = .ok (.putfield 21, 3) := by decide +kernel
theorem dX0_init_36 : decode cX0_init 36 = .ok (.aload_n 0, 1) := by decide +kernel
theorem dX0_init_37 : decode cX0_init 37 = .ok (.bipush 10, 2) := by decide +kernel
theorem dX0_init_39 : decode cX0_init 39 = .ok (.newarray .long, 2) := by decide +kernel
theorem dX0_init_41 : decode cX0_init 41 = .ok (.putfield 24, 3) := by decide +kernel
theorem dX0_init_44 : decode cX0_init 44 = .ok (.aload_n 0, 1) := by decide +kernel
theorem dX0_init_45 : decode cX0_init 45 = .ok (.bipush 20, 2) := by decide +kernel
theorem dX0_init_47 : decode cX0_init 47 = .ok (.newarray .int, 2) := by decide +kernel
theorem dX0_init_49 : decode cX0_init 49 = .ok (.putfield 27, 3) := by decide +kernel
theorem dX0_init_52 : decode cX0_init 52 = .ok (.aload_n 0, 1) := by decide +kernel
theorem dX0_init_53 : decode cX0_init 53 = .ok (.bipush 20, 2) := by decide +kernel
theorem dX0_init_55 : decode cX0_init 55 = .ok (.newarray .int, 2) := by decide +kernel
theorem dX0_init_57 : decode cX0_init 57 = .ok (.putfield 31, 3) := by decide +kernel
theorem dX0_init_60 : decode cX0_init 60 = .ok (.aload_n 0, 1) := by decide +kernel
theorem dX0_init_61 : decode cX0_init 61 = .ok (.bipush 20, 2) := by decide +kernel
theorem dX0_init_63 : decode cX0_init 63 = .ok (.newarray .long, 2) := by decide +kernel
theorem dX0_init_65 : decode cX0_init 65 = .ok (.putfield 34, 3) := by decide +kernel
theorem dX0_init_68 : decode cX0_init 68 = .ok (.aload_n 0, 1) := by decide +kernel
theorem dX0_init_69 : decode cX0_init 69 = .ok (.iconst 0, 1) := by decide +kernel
theorem dX0_init_70 : decode cX0_init 70 = .ok (.putfield 37, 3) := by decide +kernel
theorem dX0_init_73 : decode cX0_init 73 = .ok (.aload_n 0, 1) := by decide +kernel
theorem dX0_init_74 : decode cX0_init 74 = .ok (.iconst 0, 1) := by decide +kernel
theorem dX0_init_75 : decode cX0_init 75 = .ok (.putfield 41, 3) := by decide +kernel
theorem dX0_init_78 : decode cX0_init 78 = .ok (.aload_n 0, 1) := by decide +kernel
theorem dX0_init_79 : decode cX0_init 79 = .ok (.aload_n 1, 1) := by decide +kernel
theorem dX0_init_80 : decode cX0_init 80 = .ok (.putfield 44, 3) := by decide +kernel
theorem dX0_init_83 : decode cX0_init 83 = .ok (.return_, 1) := by decide +kernel
abbrev cX0_addKeepOut : ByteArray := prog_2_method_2_code
def yX0_addKeepOut : MethodName := ⟨RX0, "addKeepOut", "(JJJJJ)Z"⟩
def wsX0_addKeepOut : List Cond := .code yX0_addKeepOut cX0_addKeepOut 11 (some .boolean) :: bT
theorem dX0_addKeepOut_0 : decode cX0_addKeepOut 0 = .ok (.aload_n 0, 1) := by decide +kernel
theorem dX0_addKeepOut_1 : decode cX0_addKeepOut 1 = .ok (.getfield 37, 3) := by decide +kernel
theorem dX0_addKeepOut_4 : decode cX0_addKeepOut 4 = .ok (.bipush 10, 2) := by decide +kernel
theorem dX0_addKeepOut_6 : decode cX0_addKeepOut 6 = .ok (.if_icmp .lt (5), 3) := by decide +kernel
theorem dX0_addKeepOut_11 : decode cX0_addKeepOut 11 = .ok (.aload_n 0, 1) := by decide +kernel
theorem dX0_addKeepOut_12 : decode cX0_addKeepOut 12 = .ok (.getfield 9, 3) := by decide +kernel
theorem dX0_addKeepOut_15 : decode cX0_addKeepOut 15 = .ok (.aload_n 0, 1) := by decide +kernel
theorem dX0_addKeepOut_16 : decode cX0_addKeepOut 16 = .ok (.getfield 37, 3) := by decide +kernel
theorem dX0_addKeepOut_19 : decode cX0_addKeepOut 19 = .ok (.lload_n 1, 1) := by decide +kernel
theorem dX0_addKeepOut_20 : decode cX0_addKeepOut 20 = .ok (.lastore, 1) := by decide +kernel
theorem dX0_addKeepOut_21 : decode cX0_addKeepOut 21 = .ok (.aload_n 0, 1) := by decide +kernel
theorem dX0_addKeepOut_22 : decode cX0_addKeepOut 22 = .ok (.getfield 15, 3) := by decide +kernel
theorem dX0_addKeepOut_25 : decode cX0_addKeepOut 25 = .ok (.aload_n 0, 1) := by decide +kernel
theorem dX0_addKeepOut_26 : decode cX0_addKeepOut 26 = .ok (.getfield 37, 3) := by decide +kernel
theorem dX0_addKeepOut_29 : decode cX0_addKeepOut 29 = .ok (.lload_n 3, 1) := by decide +kernel
theorem dX0_addKeepOut_30 : decode cX0_addKeepOut 30 = .ok (.lastore, 1) := by decide +kernel
theorem dX0_addKeepOut_31 : decode cX0_addKeepOut 31 = .ok (.aload_n 0, 1) := by decide +kernel
theorem dX0_addKeepOut_32 : decode cX0_addKeepOut 32 = .ok (.getfield 18, 3) := by decide +kernel
theorem dX0_addKeepOut_35 : decode cX0_addKeepOut 35 = .ok (.aload_n 0, 1) := by decide +kernel
theorem dX0_addKeepOut_36 : decode cX0_addKeepOut 36 = .ok (.getfield 37, 3) := by decide +kernel
theorem dX0_addKeepOut_39 : decode cX0_addKeepOut 39 = .ok (.lload 5, 2) := by decide +kernel
theorem dX0_addKeepOut_41 : decode cX0_addKeepOut 41 = .ok (.lastore, 1) := by decide +kernel
theorem dX0_addKeepOut_42 : decode cX0_addKeepOut 42 = .ok (.aload_n 0, 1) := by decide +kernel
theorem dX0_addKeepOut_43 : decode cX0_addKeepOut 43 = .ok (.getfield 21, 3) := by decide +kernel
theorem dX0_addKeepOut_46 : decode cX0_addKeepOut 46 = .ok (.aload_n 0, 1) := by decide +kernel
theorem dX0_addKeepOut_47 : decode cX0_addKeepOut 47 = .ok (.getfield 37, 3) := by decide +kernel
theorem dX0_addKeepOut_50 : decode cX0_addKeepOut 50 = .ok (.lload 7, 2) := by decide +kernel
theorem dX0_addKeepOut_52 : decode cX0_addKeepOut 52 = .ok (.lastore, 1) := by decide +kernel
theorem dX0_addKeepOut_53 : decode cX0_addKeepOut 53 = .ok (.aload_n 0, 1) := by decide +kernel
theorem dX0_addKeepOut_54 : decode cX0_addKeepOut 54 = .ok (.getfield 24, 3) := by decide +kernel
theorem dX0_addKeepOut_57 : decode cX0_addKeepOut 57 = .ok (.aload_n 0, 1) := by decide +kernel
theorem dX0_addKeepOut_58 : decode cX0_addKeepOut 58 = .ok (.getfield 37, 3) := by decide +kernel
theorem dX0_addKeepOut_61 : decode cX0_addKeepOut 61 = .ok (.lload 9, 2) := by decide +kernel
theorem dX0_addKeepOut_63 : decode cX0_addKeepOut 63 = .ok (.lastore, 1) := by decide +kernel
theorem dX0_addKeepOut_64 : decode cX0_addKeepOut 64 = .ok (.aload_n 0, 1) := by decide +kernel
theorem dX0_addKeepOut_65 : decode cX0_addKeepOut 65 = .ok (.dup, 1) := by decide +kernel
theorem dX0_addKeepOut_66 : decode cX0_addKeepOut 66 = .ok (.getfield 37, 3) := by decide +kernel
theorem dX0_addKeepOut_69 : decode cX0_addKeepOut 69 = .ok (.iconst 1, 1) := by decide +kernel
theorem dX0_addKeepOut_70 : decode cX0_addKeepOut 70 = .ok (.iadd, 1) := by decide +kernel
theorem dX0_addKeepOut_71 : decode cX0_addKeepOut 71 = .ok (.putfield 37, 3) := by decide +kernel
theorem dX0_addKeepOut_74 : decode cX0_addKeepOut 74 = .ok (.iconst 1, 1) := by decide +kernel
theorem dX0_addKeepOut_75 : decode cX0_addKeepOut 75 = .ok (.ireturn, 1) := by decide +kernel
abbrev cX1_init : ByteArray := prog_3_method_1_code
def yX1_init : MethodName := ⟨RX1, "<init>", "()V"⟩
def wsX1_init : List Cond := .code yX1_init cX1_init 1 none :: bT
theorem dX1_init_0 : decode cX1_init 0 = .ok (.aload_n 0, 1) := by decide +kernel
theorem dX1_init_1 : decode cX1_init 1 = .ok (.invokespecial 3, 3) := by decide +kernel
theorem dX1_init_4 : decode cX1_init 4 = .ok (.aload_n 0, 1) := by decide +kernel
theorem dX1_init_5 : decode cX1_init 5 = .ok (.bipush 40, 2) := by decide +kernel
theorem dX1_init_7 : decode cX1_init 7 = .ok (.newarray .long, 2) := by decide +kernel
theorem dX1_init_9 : decode cX1_init 9 = .ok (.putfield 9, 3) := by decide +kernel
theorem dX1_init_12 : decode cX1_init 12 = .ok (.aload_n 0, 1) := by decide +kernel
theorem dX1_init_13 : decode cX1_init 13 = .ok (.bipush 40, 2) := by decide +kernel
theorem dX1_init_15 : decode cX1_init 15 = .ok (.newarray .long, 2) := by decide +kernel
theorem dX1_init_17 : decode cX1_init 17 = .ok (.putfield 15, 3) := by decide +kernel
theorem dX1_init_20 : decode cX1_init 20 = .ok (.aload_n 0, 1) := by decide +kernel
theorem dX1_init_21 : decode cX1_init 21 = .ok (.bipush 40, 2) := by decide +kernel
theorem dX1_init_23 : decode cX1_init 23 = .ok (.newarray .int, 2) := by decide +kernel
theorem dX1_init_25 : decode cX1_init 25 = .ok (.putfield 18, 3) := by decide +kernel
theorem dX1_init_28 : decode cX1_init 28 = .ok (.aload_n 0, 1) := by decide +kernel
theorem dX1_init_29 : decode cX1_init 29 = .ok (.bipush 40, 2) := by decide +kernel
theorem dX1_init_31 : decode cX1_init 31 = .ok (.newarray .long, 2) := by decide +kernel
theorem dX1_init_33 : decode cX1_init 33 = .ok (.putfield 22, 3) := by decide +kernel
theorem dX1_init_36 : decode cX1_init 36 = .ok (.aload_n 0, 1) := by decide +kernel
theorem dX1_init_37 : decode cX1_init 37 = .ok (.bipush 40, 2) := by decide +kernel
theorem dX1_init_39 : decode cX1_init 39 = .ok (.newarray .boolean, 2) := by decide +kernel
theorem dX1_init_41 : decode cX1_init 41 = .ok (.putfield 25, 3) := by decide +kernel
theorem dX1_init_44 : decode cX1_init 44 = .ok (.aload_n 0, 1) := by decide +kernel
theorem dX1_init_45 : decode cX1_init 45 = .ok (.bipush 40, 2) := by decide +kernel
theorem dX1_init_47 : decode cX1_init 47 = .ok (.newarray .int, 2) := by decide +kernel
theorem dX1_init_49 : decode cX1_init 49 = .ok (.putfield 29, 3) := by decide +kernel
theorem dX1_init_52 : decode cX1_init 52 = .ok (.aload_n 0, 1) := by decide +kernel
theorem dX1_init_53 : decode cX1_init 53 = .ok (.iconst 0, 1) := by decide +kernel
theorem dX1_init_54 : decode cX1_init 54 = .ok (.putfield 32, 3) := by decide +kernel
theorem dX1_init_57 : decode cX1_init 57 = .ok (.return_, 1) := by decide +kernel
abbrev cX1_add : ByteArray := prog_3_method_2_code
def yX1_add : MethodName := ⟨RX1, "add", "(JJI)I"⟩
def wsX1_add : List Cond := .code yX1_add cX1_add 6 (some .int) :: bT
theorem dX1_add_0 : decode cX1_add 0 = .ok (.aload_n 0, 1) := by decide +kernel
theorem dX1_add_1 : decode cX1_add 1 = .ok (.getfield 32, 3) := by decide +kernel
theorem dX1_add_4 : decode cX1_add 4 = .ok (.bipush 40, 2) := by decide +kernel
theorem dX1_add_6 : decode cX1_add 6 = .ok (.if_icmp .lt (5), 3) := by decide +kernel
theorem dX1_add_11 : decode cX1_add 11 = .ok (.aload_n 0, 1) := by decide +kernel
theorem dX1_add_12 : decode cX1_add 12 = .ok (.getfield 9, 3) := by decide +kernel
theorem dX1_add_15 : decode cX1_add 15 = .ok (.aload_n 0, 1) := by decide +kernel
theorem dX1_add_16 : decode cX1_add 16 = .ok (.getfield 32, 3) := by decide +kernel
theorem dX1_add_19 : decode cX1_add 19 = .ok (.lload_n 1, 1) := by decide +kernel
theorem dX1_add_20 : decode cX1_add 20 = .ok (.lastore, 1) := by decide +kernel
theorem dX1_add_21 : decode cX1_add 21 = .ok (.aload_n 0, 1) := by decide +kernel
theorem dX1_add_22 : decode cX1_add 22 = .ok (.getfield 15, 3) := by decide +kernel
theorem dX1_add_25 : decode cX1_add 25 = .ok (.aload_n 0, 1) := by decide +kernel
theorem dX1_add_26 : decode cX1_add 26 = .ok (.getfield 32, 3) := by decide +kernel
theorem dX1_add_29 : decode cX1_add 29 = .ok (.lload_n 3, 1) := by decide +kernel
theorem dX1_add_30 : decode cX1_add 30 = .ok (.lastore, 1) := by decide +kernel
theorem dX1_add_31 : decode cX1_add 31 = .ok (.aload_n 0, 1) := by decide +kernel
theorem dX1_add_32 : decode cX1_add 32 = .ok (.getfield 18, 3) := by decide +kernel
theorem dX1_add_35 : decode cX1_add 35 = .ok (.aload_n 0, 1) := by decide +kernel
theorem dX1_add_36 : decode cX1_add 36 = .ok (.getfield 32, 3) := by decide +kernel
theorem dX1_add_39 : decode cX1_add 39 = .ok (.iload 5, 2) := by decide +kernel
theorem dX1_add_41 : decode cX1_add 41 = .ok (.iastore, 1) := by decide +kernel
theorem dX1_add_42 : decode cX1_add 42 = .ok (.aload_n 0, 1) := by decide +kernel
theorem dX1_add_43 : decode cX1_add 43 = .ok (.getfield 29, 3) := by decide +kernel
theorem dX1_add_46 : decode cX1_add 46 = .ok (.aload_n 0, 1) := by decide +kernel
theorem dX1_add_47 : decode cX1_add 47 = .ok (.getfield 32, 3) := by decide +kernel
theorem dX1_add_50 : decode cX1_add 50 = .ok (.aload_n 0, 1) := by decide +kernel
theorem dX1_add_51 : decode cX1_add 51 = .ok (.getfield 32, 3) := by decide +kernel
theorem dX1_add_54 : decode cX1_add 54 = .ok (.iastore, 1) := by decide +kernel
theorem dX1_add_55 : decode cX1_add 55 = .ok (.aload_n 0, 1) := by decide +kernel
theorem dX1_add_56 : decode cX1_add 56 = .ok (.dup, 1) := by decide +kernel
theorem dX1_add_57 : decode cX1_add 57 = .ok (.getfield 32, 3) := by decide +kernel
theorem dX1_add_60 : decode cX1_add 60 = .ok (.iconst 1, 1) := by decide +kernel
theorem dX1_add_61 : decode cX1_add 61 = .ok (.iadd, 1) := by decide +kernel
theorem dX1_add_62 : decode cX1_add 62 = .ok (.putfield 32, 3) := by decide +kernel
theorem dX1_add_65 : decode cX1_add 65 = .ok (.aload_n 0, 1) := by decide +kernel
theorem dX1_add_66 : decode cX1_add 66 = .ok (.getfield 32, 3) := by decide +kernel
theorem dX1_add_69 : decode cX1_add 69 = .ok (.iconst 1, 1) := by decide +kernel
theorem dX1_add_70 : decode cX1_add 70 = .ok (.isub, 1) := by decide +kernel
theorem dX1_add_71 : decode cX1_add 71 = .ok (.ireturn, 1) := by decide +kernel
abbrev cX2_init : ByteArray := prog_4_method_1_code
def yX2_init : MethodName := ⟨RX2, "<init>", "(LBoardMoves$Parts;)V"⟩
def wsX2_init : List Cond := .code yX2_init cX2_init 2 none :: bT
theorem dX2_init_0 : decode cX2_init 0 = .ok (.aload_n 0, 1) := by decide +kernel
theorem dX2_init_1 : decode cX2_init 1 = .ok (.invokespecial 3, 3) := by decide +kernel
theorem dX2_init_4 : decode cX2_init 4 = .ok (.aload_n 0, 1) := by decide +kernel
theorem dX2_init_5 : decode cX2_init 5 = .ok (.bipush 40, 2) := by decide +kernel
theorem dX2_init_7 : decode cX2_init 7 = .ok (.newarray .long, 2) := by decide +kernel
theorem dX2_init_9 : decode cX2_init 9 = .ok (.putfield 9, 3) := by decide +kernel
theorem dX2_init_12 : decode cX2_init 12 = .ok (.aload_n 0, 1) := by decide +kernel
theorem dX2_init_13 : decode cX2_init 13 = .ok (.bipush 40, 2) := by decide +kernel
theorem dX2_init_15 : decode cX2_init 15 = .ok (.newarray .long, 2) := by decide +kernel
theorem dX2_init_17 : decode cX2_init 17 = .ok (.putfield 15, 3) := by decide +kernel
theorem dX2_init_20 : decode cX2_init 20 = .ok (.aload_n 0, 1) := by decide +kernel
theorem dX2_init_21 : decode cX2_init 21 = .ok (.bipush 40, 2) := by decide +kernel
theorem dX2_init_23 : decode cX2_init 23 = .ok (.newarray .int, 2) := by decide +kernel
theorem dX2_init_25 : decode cX2_init 25 = .ok (.putfield 18, 3) := by decide +kernel
theorem dX2_init_28 : decode cX2_init 28 = .ok (.aload_n 0, 1) := by decide +kernel
theorem dX2_init_29 : decode cX2_init 29 = .ok (.bipush 40, 2) := by decide +kernel
theorem dX2_init_31 : decode cX2_init 31 = .ok (.newarray .boolean, 2) := by decide +kernel
theorem dX2_init_33 : decode cX2_init 33 = .ok (.putfield 22, 3) := by decide +kernel
theorem dX2_init_36 : decode cX2_init 36 = .ok (.aload_n 0, 1) := by decide +kernel
theorem dX2_init_37 : decode cX2_init 37 = .ok (.aload_n 1, 1) := by decide +kernel
theorem dX2_init_38 : decode cX2_init 38 = .ok (.putfield 26, 3) := by decide +kernel
theorem dX2_init_41 : decode cX2_init 41 = .ok (.return_, 1) := by decide +kernel
abbrev cX3_init : ByteArray := prog_5_method_1_code
def yX3_init : MethodName := ⟨RX3, "<init>", "(LBoardMoves$Parts;)V"⟩
def wsX3_init : List Cond := .code yX3_init cX3_init 2 none :: bT
theorem dX3_init_0 : decode cX3_init 0 = .ok (.aload_n 0, 1) := by decide +kernel
theorem dX3_init_1 : decode cX3_init 1 = .ok (.invokespecial 3, 3) := by decide +kernel
theorem dX3_init_4 : decode cX3_init 4 = .ok (.aload_n 0, 1) := by decide +kernel
theorem dX3_init_5 : decode cX3_init 5 = .ok (.bipush 120, 2) := by decide +kernel
theorem dX3_init_7 : decode cX3_init 7 = .ok (.newarray .int, 2) := by decide +kernel
theorem dX3_init_9 : decode cX3_init 9 = .ok (.putfield 9, 3) := by decide +kernel
theorem dX3_init_12 : decode cX3_init 12 = .ok (.aload_n 0, 1) := by decide +kernel
theorem dX3_init_13 : decode cX3_init 13 = .ok (.bipush 120, 2) := by decide +kernel
theorem dX3_init_15 : decode cX3_init 15 = .ok (.newarray .int, 2) := by decide +kernel
theorem dX3_init_17 : decode cX3_init 17 = .ok (.putfield 15, 3) := by decide +kernel
theorem dX3_init_20 : decode cX3_init 20 = .ok (.aload_n 0, 1) := by decide +kernel
theorem dX3_init_21 : decode cX3_init 21 = .ok (.bipush 120, 2) := by decide +kernel
theorem dX3_init_23 : decode cX3_init 23 = .ok (.newarray .long, 2) := by decide +kernel
theorem dX3_init_25 : decode cX3_init 25 = .ok (.putfield 18, 3) := by decide +kernel
theorem dX3_init_28 : decode cX3_init 28 = .ok (.aload_n 0, 1) := by decide +kernel
theorem dX3_init_29 : decode cX3_init 29 = .ok (.bipush 120, 2) := by decide +kernel
theorem dX3_init_31 : decode cX3_init 31 = .ok (.newarray .long, 2) := by decide +kernel
theorem dX3_init_33 : decode cX3_init 33 = .ok (.putfield 22, 3) := by decide +kernel
theorem dX3_init_36 : decode cX3_init 36 = .ok (.aload_n 0, 1) := by decide +kernel
theorem dX3_init_37 : decode cX3_init 37 = .ok (.bipush 40, 2) := by decide +kernel
theorem dX3_init_39 : decode cX3_init 39 = .ok (.newarray .boolean, 2) := by decide +kernel
theorem dX3_init_41 : decode cX3_init 41 = .ok (.putfield 25, 3) := by decide +kernel
theorem dX3_init_44 : decode cX3_init 44 = .ok (.aload_n 0, 1) := by decide +kernel
theorem dX3_init_45 : decode cX3_init 45 = .ok (.bipush 40, 2) := by decide +kernel
theorem dX3_init_47 : decode cX3_init 47 = .ok (.newarray .long, 2) := by decide +kernel
theorem dX3_init_49 : decode cX3_init 49 = .ok (.putfield 29, 3) := by decide +kernel
theorem dX3_init_52 : decode cX3_init 52 = .ok (.aload_n 0, 1) := by decide +kernel
theorem dX3_init_53 : decode cX3_init 53 = .ok (.bipush 40, 2) := by decide +kernel
theorem dX3_init_55 : decode cX3_init 55 = .ok (.newarray .long, 2) := by decide +kernel
theorem dX3_init_57 : decode cX3_init 57 = .ok (.putfield 32, 3) := by decide +kernel
theorem dX3_init_60 : decode cX3_init 60 = .ok (.aload_n 0, 1) := by decide +kernel
theorem dX3_init_61 : decode cX3_init 61 = .ok (.bipush 40, 2) := by decide +kernel
theorem dX3_init_63 : decode cX3_init 63 = .ok (.newarray .long, 2) := by decide +kernel
theorem dX3_init_65 : decode cX3_init 65 = .ok (.putfield 35, 3) := by decide +kernel
theorem dX3_init_68 : decode cX3_init 68 = .ok (.aload_n 0, 1) := by decide +kernel
theorem dX3_init_69 : decode cX3_init 69 = .ok (.bipush 40, 2) := by decide +kernel
theorem dX3_init_71 : decode cX3_init 71 = .ok (.newarray .long, 2) := by decide +kernel
theorem dX3_init_73 : decode cX3_init 73 = .ok (.putfield 38, 3) := by decide +kernel
theorem dX3_init_76 : decode cX3_init 76 = .ok (.aload_n 0, 1) := by decide +kernel
theorem dX3_init_77 : decode cX3_init 77 = .ok (.iconst 0, 1) := by decide +kernel
theorem dX3_init_78 : decode cX3_init 78 = .ok (.putfield 41, 3) := by decide +kernel
theorem dX3_init_81 : decode cX3_init 81 = .ok (.aload_n 0, 1) := by decide +kernel
theorem dX3_init_82 : decode cX3_init 82 = .ok (.iconst 0, 1) := by decide +kernel
theorem dX3_init_83 : decode cX3_init 83 = .ok (.putfield 45, 3) := by decide +kernel
theorem dX3_init_86 : decode cX3_init 86 = .ok (.aload_n 0, 1) := by decide +kernel
theorem dX3_init_87 : decode cX3_init 87 = .ok (.aload_n 1, 1) := by decide +kernel
theorem dX3_init_88 : decode cX3_init 88 = .ok (.putfield 48, 3) := by decide +kernel
theorem dX3_init_91 : decode cX3_init 91 = .ok (.return_, 1) := by decide +kernel
abbrev cX3_addNet : ByteArray := prog_5_method_2_code
def yX3_addNet : MethodName := ⟨RX3, "addNet", "()I"⟩
def wsX3_addNet : List Cond := .code yX3_addNet cX3_addNet 1 (some .int) :: bT
theorem dX3_addNet_0 : decode cX3_addNet 0 = .ok (.aload_n 0, 1) := by decide +kernel
theorem dX3_addNet_1 : decode cX3_addNet 1 = .ok (.getfield 41, 3) := by decide +kernel
theorem dX3_addNet_4 : decode cX3_addNet 4 = .ok (.bipush 40, 2) := by decide +kernel
theorem dX3_addNet_6 : decode cX3_addNet 6 = .ok (.if_icmp .lt (5), 3) := by decide +kernel
theorem dX3_addNet_11 : decode cX3_addNet 11 = .ok (.aload_n 0, 1) := by decide +kernel
theorem dX3_addNet_12 : decode cX3_addNet 12 = .ok (.dup, 1) := by decide +kernel
theorem dX3_addNet_13 : decode cX3_addNet 13 = .ok (.getfield 41, 3) := by decide +kernel
theorem dX3_addNet_16 : decode cX3_addNet 16 = .ok (.iconst 1, 1) := by decide +kernel
theorem dX3_addNet_17 : decode cX3_addNet 17 = .ok (.iadd, 1) := by decide +kernel
theorem dX3_addNet_18 : decode cX3_addNet 18 = .ok (.putfield 41, 3) := by decide +kernel
theorem dX3_addNet_21 : decode cX3_addNet 21 = .ok (.aload_n 0, 1) := by decide +kernel
theorem dX3_addNet_22 : decode cX3_addNet 22 = .ok (.getfield 41, 3) := by decide +kernel
theorem dX3_addNet_25 : decode cX3_addNet 25 = .ok (.iconst 1, 1) := by decide +kernel
theorem dX3_addNet_26 : decode cX3_addNet 26 = .ok (.isub, 1) := by decide +kernel
theorem dX3_addNet_27 : decode cX3_addNet 27 = .ok (.ireturn, 1) := by decide +kernel
abbrev cX3_measure : ByteArray := prog_5_method_4_code
def yX3_measure : MethodName := ⟨RX3, "measure", "(LBoardMoves$Placement;)J"⟩
def wsX3_measure : List Cond := .code yX3_measure cX3_measure 5 (some .long) :: bT
theorem dX3_measure_0 : decode cX3_measure 0 = .ok (.iconst 0, 1) := by decide +kernel
theorem dX3_measure_1 : decode cX3_measure 1 = .ok (.istore_n 2, 1) := by decide +kernel
theorem dX3_measure_2 : decode cX3_measure 2 = .ok (.iload_n 2, 1) := by decide +kernel
theorem dX3_measure_3 : decode cX3_measure 3 = .ok (.aload_n 0, 1) := by decide +kernel
theorem dX3_measure_4 : decode cX3_measure 4 = .ok (.getfield 41, 3) := by decide +kernel
theorem dX3_measure_7 : decode cX3_measure 7 = .ok (.if_icmp .ge (16), 3) := by decide +kernel
theorem dX3_measure_23 : decode cX3_measure 23 = .ok (.iconst 0, 1) := by decide +kernel
theorem dX3_measure_24 : decode cX3_measure 24 = .ok (.istore_n 2, 1) := by decide +kernel
theorem dX3_measure_25 : decode cX3_measure 25 = .ok (.iload_n 2, 1) := by decide +kernel
theorem dX3_measure_26 : decode cX3_measure 26 = .ok (.aload_n 0, 1) := by decide +kernel
theorem dX3_measure_27 : decode cX3_measure 27 = .ok (.getfield 45, 3) := by decide +kernel
theorem dX3_measure_30 : decode cX3_measure 30 = .ok (.if_icmp .ge (73), 3) := by decide +kernel
theorem dX3_measure_103 : decode cX3_measure 103 = .ok (.lconst 0, 1) := by decide +kernel
theorem dX3_measure_104 : decode cX3_measure 104 = .ok (.lstore_n 2, 1) := by decide +kernel
theorem dX3_measure_105 : decode cX3_measure 105 = .ok (.iconst 0, 1) := by decide +kernel
theorem dX3_measure_106 : decode cX3_measure 106 = .ok (.istore 4, 2) := by decide +kernel
theorem dX3_measure_108 : decode cX3_measure 108 = .ok (.iload 4, 2) := by decide +kernel
theorem dX3_measure_110 : decode cX3_measure 110 = .ok (.aload_n 0, 1) := by decide +kernel
theorem dX3_measure_111 : decode cX3_measure 111 = .ok (.getfield 41, 3) := by decide +kernel
theorem dX3_measure_114 : decode cX3_measure 114 = .ok (.if_icmp .ge (53), 3) := by decide +kernel
theorem dX3_measure_167 : decode cX3_measure 167 = .ok (.lload_n 2, 1) := by decide +kernel
theorem dX3_measure_168 : decode cX3_measure 168 = .ok (.lreturn, 1) := by decide +kernel
abbrev cL_cell : ByteArray := method_2_code
def yL_cell : MethodName := ⟨RL, "cell", "([II)I"⟩
def wsL_cell : List Cond := .code yL_cell cL_cell 2 (some .int) :: bT
theorem dL_cell_0 : decode cL_cell 0 = .ok (.iload_n 1, 1) := by decide +kernel
theorem dL_cell_1 : decode cL_cell 1 = .ok (.aload_n 0, 1) := by decide +kernel
theorem dL_cell_2 : decode cL_cell 2 = .ok (.arraylength, 1) := by decide +kernel
theorem dL_cell_3 : decode cL_cell 3 = .ok (.if_icmp .ge (9), 3) := by decide +kernel
theorem dL_cell_6 : decode cL_cell 6 = .ok (.aload_n 0, 1) := by decide +kernel
theorem dL_cell_7 : decode cL_cell 7 = .ok (.iload_n 1, 1) := by decide +kernel
theorem dL_cell_8 : decode cL_cell 8 = .ok (.iaload, 1) := by decide +kernel
theorem dL_cell_9 : decode cL_cell 9 = .ok (.goto (4), 3) := by decide +kernel
theorem dL_cell_12 : decode cL_cell 12 = .ok (.iconst 0, 1) := by decide +kernel
theorem dL_cell_13 : decode cL_cell 13 = .ok (.ireturn, 1) := by decide +kernel
abbrev cL_part : ByteArray := method_3_code
def yL_part : MethodName := ⟨RL, "part", "(LBoardMoves;JJI[J)I"⟩
def wsL_part : List Cond := .codeWith yL_part cL_part 8 (some .int) [(0, 13, 16, 13)] :: bT
theorem dL_part_0 : decode cL_part 0 = .ok (.aload 6, 2) := by decide +kernel
theorem dL_part_2 : decode cL_part 2 = .ok (.iconst 0, 1) := by decide +kernel
theorem dL_part_3 : decode cL_part 3 = .ok (.aload_n 0, 1) := by decide +kernel
theorem dL_part_4 : decode cL_part 4 = .ok (.lload_n 1, 1) := by decide +kernel
theorem dL_part_5 : decode cL_part 5 = .ok (.lload_n 3, 1) := by decide +kernel
theorem dL_part_6 : decode cL_part 6 = .ok (.iload 5, 2) := by decide +kernel
theorem dL_part_8 : decode cL_part 8 = .ok (.invokevirtual 7, 3) := by decide +kernel
theorem dL_part_11 : decode cL_part 11 = .ok (.i2l, 1) := by decide +kernel
theorem dL_part_12 : decode cL_part 12 = .ok (.lastore, 1) := by decide +kernel
theorem dL_part_13 : decode cL_part 13 = .ok (.goto (7), 3) := by decide +kernel
theorem dL_part_16 : decode cL_part 16 = .ok (.astore 7, 2) := by decide +kernel
theorem dL_part_18 : decode cL_part 18 = .ok (.iconst 1, 1) := by decide +kernel
theorem dL_part_19 : decode cL_part 19 = .ok (.ireturn, 1) := by decide +kernel
theorem dL_part_20 : decode cL_part 20 = .ok (.iconst 0, 1) := by decide +kernel
theorem dL_part_21 : decode cL_part 21 = .ok (.ireturn, 1) := by decide +kernel
abbrev cL_put : ByteArray := method_4_code
def yL_put : MethodName := ⟨RL, "put", "(LBoardMoves;IJJI[J)I"⟩
def wsL_put : List Cond := .codeWith yL_put cL_put 9 (some .int) [(0, 22, 25, 19), (0, 22, 29, 13)] :: bT
theorem dL_put_0 : decode cL_put 0 = .ok (.aload 7, 2) := by decide +kernel
theorem dL_put_2 : decode cL_put 2 = .ok (.iconst 0, 1) := by decide +kernel
theorem dL_put_3 : decode cL_put 3 = .ok (.aload_n 0, 1) := by decide +kernel
theorem dL_put_4 : decode cL_put 4 = .ok (.iload_n 1, 1) := by decide +kernel
theorem dL_put_5 : decode cL_put 5 = .ok (.lload_n 2, 1) := by decide +kernel
theorem dL_put_6 : decode cL_put 6 = .ok (.lload 4, 2) := by decide +kernel
theorem dL_put_8 : decode cL_put 8 = .ok (.iload 6, 2) := by decide +kernel
theorem dL_put_10 : decode cL_put 10 = .ok (.invokevirtual 15, 3) := by decide +kernel
theorem dL_put_25 : decode cL_put 25 = .ok (.astore 8, 2) := by decide +kernel
theorem dL_put_27 : decode cL_put 27 = .ok (.iconst 1, 1) := by decide +kernel
theorem dL_put_28 : decode cL_put 28 = .ok (.ireturn, 1) := by decide +kernel
abbrev cL_lock : ByteArray := method_5_code
def yL_lock : MethodName := ⟨RL, "lock", "(LBoardMoves;IZ[J)I"⟩
def wsL_lock : List Cond := .codeWith yL_lock cL_lock 5 (some .int) [(0, 17, 20, 19)] :: bT
theorem dL_lock_0 : decode cL_lock 0 = .ok (.aload_n 3, 1) := by decide +kernel
theorem dL_lock_1 : decode cL_lock 1 = .ok (.iconst 0, 1) := by decide +kernel
theorem dL_lock_2 : decode cL_lock 2 = .ok (.aload_n 0, 1) := by decide +kernel
theorem dL_lock_3 : decode cL_lock 3 = .ok (.iload_n 1, 1) := by decide +kernel
theorem dL_lock_4 : decode cL_lock 4 = .ok (.iload_n 2, 1) := by decide +kernel
theorem dL_lock_5 : decode cL_lock 5 = .ok (.invokevirtual 21, 3) := by decide +kernel
theorem dL_lock_20 : decode cL_lock 20 = .ok (.astore 4, 2) := by decide +kernel
theorem dL_lock_22 : decode cL_lock 22 = .ok (.iconst 1, 1) := by decide +kernel
theorem dL_lock_23 : decode cL_lock 23 = .ok (.ireturn, 1) := by decide +kernel
abbrev cL_pin : ByteArray := method_6_code
def yL_pin : MethodName := ⟨RL, "pin", "(LBoardMoves;IIJJ[J)I"⟩
def wsL_pin : List Cond := .codeWith yL_pin cL_pin 9 (some .int) [(0, 21, 24, 19), (0, 21, 28, 13)] :: bT
theorem dL_pin_0 : decode cL_pin 0 = .ok (.aload 7, 2) := by decide +kernel
theorem dL_pin_2 : decode cL_pin 2 = .ok (.iconst 0, 1) := by decide +kernel
theorem dL_pin_3 : decode cL_pin 3 = .ok (.aload_n 0, 1) := by decide +kernel
theorem dL_pin_4 : decode cL_pin 4 = .ok (.iload_n 1, 1) := by decide +kernel
theorem dL_pin_5 : decode cL_pin 5 = .ok (.iload_n 2, 1) := by decide +kernel
theorem dL_pin_6 : decode cL_pin 6 = .ok (.lload_n 3, 1) := by decide +kernel
theorem dL_pin_7 : decode cL_pin 7 = .ok (.lload 5, 2) := by decide +kernel
theorem dL_pin_9 : decode cL_pin 9 = .ok (.invokevirtual 25, 3) := by decide +kernel
theorem dL_pin_24 : decode cL_pin 24 = .ok (.astore 8, 2) := by decide +kernel
theorem dL_pin_26 : decode cL_pin 26 = .ok (.iconst 1, 1) := by decide +kernel
theorem dL_pin_27 : decode cL_pin 27 = .ok (.ireturn, 1) := by decide +kernel
abbrev cL_push : ByteArray := method_7_code
def yL_push : MethodName := ⟨RL, "push", "(LBoardMoves;IJJ[J)I"⟩
def wsL_push : List Cond := .codeWith yL_push cL_push 8 (some .int) [(0, 13, 16, 19), (0, 13, 20, 33)] :: bT
theorem dL_push_0 : decode cL_push 0 = .ok (.aload 6, 2) := by decide +kernel
theorem dL_push_2 : decode cL_push 2 = .ok (.iconst 0, 1) := by decide +kernel
theorem dL_push_3 : decode cL_push 3 = .ok (.aload_n 0, 1) := by decide +kernel
theorem dL_push_4 : decode cL_push 4 = .ok (.iload_n 1, 1) := by decide +kernel
theorem dL_push_5 : decode cL_push 5 = .ok (.lload_n 2, 1) := by decide +kernel
theorem dL_push_6 : decode cL_push 6 = .ok (.lload 4, 2) := by decide +kernel
theorem dL_push_8 : decode cL_push 8 = .ok (.invokevirtual 29, 3) := by decide +kernel
theorem dL_push_16 : decode cL_push 16 = .ok (.astore 7, 2) := by decide +kernel
theorem dL_push_18 : decode cL_push 18 = .ok (.iconst 1, 1) := by decide +kernel
theorem dL_push_19 : decode cL_push 19 = .ok (.ireturn, 1) := by decide +kernel
abbrev cL_at : ByteArray := method_8_code
def yL_at : MethodName := ⟨RL, "at", "(LBoardMoves;II[J)I"⟩
def wsL_at : List Cond := .codeWith yL_at cL_at 5 (some .int) [(0, 9, 12, 19)] :: bT
theorem dL_at_0 : decode cL_at 0 = .ok (.aload_n 3, 1) := by decide +kernel
theorem dL_at_1 : decode cL_at 1 = .ok (.iconst 0, 1) := by decide +kernel
theorem dL_at_2 : decode cL_at 2 = .ok (.aload_n 0, 1) := by decide +kernel
theorem dL_at_3 : decode cL_at 3 = .ok (.iload_n 1, 1) := by decide +kernel
theorem dL_at_4 : decode cL_at 4 = .ok (.iload_n 2, 1) := by decide +kernel
theorem dL_at_5 : decode cL_at 5 = .ok (.invokevirtual 35, 3) := by decide +kernel
theorem dL_at_12 : decode cL_at 12 = .ok (.astore 4, 2) := by decide +kernel
theorem dL_at_14 : decode cL_at 14 = .ok (.iconst 1, 1) := by decide +kernel
theorem dL_at_15 : decode cL_at 15 = .ok (.ireturn, 1) := by decide +kernel
abbrev cL_run : ByteArray := method_9_code
def yL_run : MethodName := ⟨RL, "run", "(LBoardMoves;J[J)I"⟩
def wsL_run : List Cond := .codeWith yL_run cL_run 5 (some .int) [(0, 9, 12, 13)] :: bT
theorem dL_run_0 : decode cL_run 0 = .ok (.aload_n 3, 1) := by decide +kernel
theorem dL_run_1 : decode cL_run 1 = .ok (.iconst 0, 1) := by decide +kernel
theorem dL_run_2 : decode cL_run 2 = .ok (.aload_n 0, 1) := by decide +kernel
theorem dL_run_3 : decode cL_run 3 = .ok (.lload_n 1, 1) := by decide +kernel
theorem dL_run_4 : decode cL_run 4 = .ok (.invokevirtual 39, 3) := by decide +kernel
theorem dL_run_7 : decode cL_run 7 = .ok (.i2l, 1) := by decide +kernel
theorem dL_run_8 : decode cL_run 8 = .ok (.lastore, 1) := by decide +kernel
theorem dL_run_9 : decode cL_run 9 = .ok (.goto (7), 3) := by decide +kernel
theorem dL_run_12 : decode cL_run 12 = .ok (.astore 4, 2) := by decide +kernel
theorem dL_run_14 : decode cL_run 14 = .ok (.iconst 1, 1) := by decide +kernel
theorem dL_run_15 : decode cL_run 15 = .ok (.ireturn, 1) := by decide +kernel
theorem dL_run_16 : decode cL_run 16 = .ok (.iconst 0, 1) := by decide +kernel
theorem dL_run_17 : decode cL_run 17 = .ok (.ireturn, 1) := by decide +kernel
abbrev cL_near : ByteArray := method_10_code
def yL_near : MethodName := ⟨RL, "near", "(LBoardMoves;IIJ[J)I"⟩
def wsL_near : List Cond := .codeWith yL_near cL_near 7 (some .int) [(0, 19, 22, 19), (0, 19, 26, 13)] :: bT
theorem dL_near_0 : decode cL_near 0 = .ok (.aload 5, 2) := by decide +kernel
theorem dL_near_2 : decode cL_near 2 = .ok (.iconst 0, 1) := by decide +kernel
theorem dL_near_3 : decode cL_near 3 = .ok (.aload_n 0, 1) := by decide +kernel
theorem dL_near_4 : decode cL_near 4 = .ok (.iload_n 1, 1) := by decide +kernel
theorem dL_near_5 : decode cL_near 5 = .ok (.iload_n 2, 1) := by decide +kernel
theorem dL_near_6 : decode cL_near 6 = .ok (.lload_n 3, 1) := by decide +kernel
theorem dL_near_7 : decode cL_near 7 = .ok (.invokevirtual 43, 3) := by decide +kernel
theorem dL_near_22 : decode cL_near 22 = .ok (.astore 6, 2) := by decide +kernel
theorem dL_near_24 : decode cL_near 24 = .ok (.iconst 1, 1) := by decide +kernel
theorem dL_near_25 : decode cL_near 25 = .ok (.ireturn, 1) := by decide +kernel
abbrev cL_group : ByteArray := method_11_code
def yL_group : MethodName := ⟨RL, "group", "(LBoardMoves;II[J)I"⟩
def wsL_group : List Cond := .codeWith yL_group cL_group 5 (some .int) [(0, 10, 13, 19)] :: bT
theorem dL_group_0 : decode cL_group 0 = .ok (.aload_n 3, 1) := by decide +kernel
theorem dL_group_1 : decode cL_group 1 = .ok (.iconst 0, 1) := by decide +kernel
theorem dL_group_2 : decode cL_group 2 = .ok (.aload_n 0, 1) := by decide +kernel
theorem dL_group_3 : decode cL_group 3 = .ok (.iload_n 1, 1) := by decide +kernel
theorem dL_group_4 : decode cL_group 4 = .ok (.iload_n 2, 1) := by decide +kernel
theorem dL_group_5 : decode cL_group 5 = .ok (.invokevirtual 47, 3) := by decide +kernel
theorem dL_group_13 : decode cL_group 13 = .ok (.astore 4, 2) := by decide +kernel
theorem dL_group_15 : decode cL_group 15 = .ok (.iconst 1, 1) := by decide +kernel
theorem dL_group_16 : decode cL_group 16 = .ok (.ireturn, 1) := by decide +kernel
abbrev cL_height : ByteArray := method_12_code
def yL_height : MethodName := ⟨RL, "height", "(LBoardMoves;IJ[J)I"⟩
def wsL_height : List Cond := .codeWith yL_height cL_height 6 (some .int) [(0, 18, 21, 19), (0, 18, 25, 13)] :: bT
theorem dL_height_0 : decode cL_height 0 = .ok (.aload 4, 2) := by decide +kernel
theorem dL_height_2 : decode cL_height 2 = .ok (.iconst 0, 1) := by decide +kernel
theorem dL_height_3 : decode cL_height 3 = .ok (.aload_n 0, 1) := by decide +kernel
theorem dL_height_4 : decode cL_height 4 = .ok (.iload_n 1, 1) := by decide +kernel
theorem dL_height_5 : decode cL_height 5 = .ok (.lload_n 2, 1) := by decide +kernel
theorem dL_height_6 : decode cL_height 6 = .ok (.invokevirtual 51, 3) := by decide +kernel
theorem dL_height_21 : decode cL_height 21 = .ok (.astore 5, 2) := by decide +kernel
theorem dL_height_23 : decode cL_height 23 = .ok (.iconst 1, 1) := by decide +kernel
theorem dL_height_24 : decode cL_height 24 = .ok (.ireturn, 1) := by decide +kernel
abbrev cL_keepOut : ByteArray := method_13_code
def yL_keepOut : MethodName := ⟨RL, "keepOut", "(LBoardMoves;JJJJJ[J)I"⟩
def wsL_keepOut : List Cond := .codeWith yL_keepOut cL_keepOut 13 (some .int) [(0, 24, 27, 13)] :: bT
theorem dL_keepOut_0 : decode cL_keepOut 0 = .ok (.aload 11, 2) := by decide +kernel
theorem dL_keepOut_2 : decode cL_keepOut 2 = .ok (.iconst 0, 1) := by decide +kernel
theorem dL_keepOut_3 : decode cL_keepOut 3 = .ok (.aload_n 0, 1) := by decide +kernel
theorem dL_keepOut_4 : decode cL_keepOut 4 = .ok (.lload_n 1, 1) := by decide +kernel
theorem dL_keepOut_5 : decode cL_keepOut 5 = .ok (.lload_n 3, 1) := by decide +kernel
theorem dL_keepOut_6 : decode cL_keepOut 6 = .ok (.lload 5, 2) := by decide +kernel
theorem dL_keepOut_8 : decode cL_keepOut 8 = .ok (.lload 7, 2) := by decide +kernel
theorem dL_keepOut_10 : decode cL_keepOut 10 = .ok (.lload 9, 2) := by decide +kernel
theorem dL_keepOut_12 : decode cL_keepOut 12 = .ok (.invokevirtual 55, 3) := by decide +kernel
theorem dL_keepOut_15 : decode cL_keepOut 15 = .ok (.ifCond .eq (7), 3) := by decide +kernel
theorem dL_keepOut_18 : decode cL_keepOut 18 = .ok (.lconst 1, 1) := by decide +kernel
theorem dL_keepOut_19 : decode cL_keepOut 19 = .ok (.goto (4), 3) := by decide +kernel
theorem dL_keepOut_22 : decode cL_keepOut 22 = .ok (.lconst 0, 1) := by decide +kernel
theorem dL_keepOut_23 : decode cL_keepOut 23 = .ok (.lastore, 1) := by decide +kernel
theorem dL_keepOut_24 : decode cL_keepOut 24 = .ok (.goto (7), 3) := by decide +kernel
theorem dL_keepOut_27 : decode cL_keepOut 27 = .ok (.astore 12, 2) := by decide +kernel
theorem dL_keepOut_29 : decode cL_keepOut 29 = .ok (.iconst 1, 1) := by decide +kernel
theorem dL_keepOut_30 : decode cL_keepOut 30 = .ok (.ireturn, 1) := by decide +kernel
theorem dL_keepOut_31 : decode cL_keepOut 31 = .ok (.iconst 0, 1) := by decide +kernel
theorem dL_keepOut_32 : decode cL_keepOut 32 = .ok (.ireturn, 1) := by decide +kernel
abbrev cL_side : ByteArray := method_14_code
def yL_side : MethodName := ⟨RL, "side", "(LBoardMoves;I[J)I"⟩
def wsL_side : List Cond := .codeWith yL_side cL_side 4 (some .int) [(0, 9, 12, 19)] :: bT
theorem dL_side_0 : decode cL_side 0 = .ok (.aload_n 2, 1) := by decide +kernel
theorem dL_side_1 : decode cL_side 1 = .ok (.iconst 0, 1) := by decide +kernel
theorem dL_side_2 : decode cL_side 2 = .ok (.aload_n 0, 1) := by decide +kernel
theorem dL_side_3 : decode cL_side 3 = .ok (.iload_n 1, 1) := by decide +kernel
theorem dL_side_4 : decode cL_side 4 = .ok (.invokevirtual 59, 3) := by decide +kernel
theorem dL_side_12 : decode cL_side 12 = .ok (.astore_n 3, 1) := by decide +kernel
theorem dL_side_13 : decode cL_side 13 = .ok (.iconst 1, 1) := by decide +kernel
theorem dL_side_14 : decode cL_side 14 = .ok (.ireturn, 1) := by decide +kernel
end
section
theorem dL_law_0 : decode code 0 = .ok (.new 8, 3) := by decide +kernel
theorem dL_law_3 : decode code 3 = .ok (.dup, 1) := by decide +kernel
theorem dL_law_4 : decode code 4 = .ok (.aload_n 0, 1) := by decide +kernel
theorem dL_law_5 : decode code 5 = .ok (.iconst 0, 1) := by decide +kernel
theorem dL_law_6 : decode code 6 = .ok (.invokestatic 63, 3) := by decide +kernel
theorem dL_law_9 : decode code 9 = .ok (.i2l, 1) := by decide +kernel
theorem dL_law_10 : decode code 10 = .ok (.aload_n 0, 1) := by decide +kernel
theorem dL_law_11 : decode code 11 = .ok (.iconst 1, 1) := by decide +kernel
theorem dL_law_12 : decode code 12 = .ok (.invokestatic 63, 3) := by decide +kernel
theorem dL_law_15 : decode code 15 = .ok (.i2l, 1) := by decide +kernel
theorem dL_law_16 : decode code 16 = .ok (.aload_n 0, 1) := by decide +kernel
theorem dL_law_17 : decode code 17 = .ok (.iconst 2, 1) := by decide +kernel
theorem dL_law_18 : decode code 18 = .ok (.invokestatic 63, 3) := by decide +kernel
theorem dL_law_21 : decode code 21 = .ok (.i2l, 1) := by decide +kernel
theorem dL_law_22 : decode code 22 = .ok (.invokespecial 69, 3) := by decide +kernel
theorem dL_law_25 : decode code 25 = .ok (.astore_n 1, 1) := by decide +kernel
theorem dL_law_26 : decode code 26 = .ok (.new 72, 3) := by decide +kernel
theorem dL_law_29 : decode code 29 = .ok (.dup, 1) := by decide +kernel
theorem dL_law_30 : decode code 30 = .ok (.aload_n 0, 1) := by decide +kernel
theorem dL_law_31 : decode code 31 = .ok (.iconst 0, 1) := by decide +kernel
theorem dL_law_32 : decode code 32 = .ok (.invokestatic 63, 3) := by decide +kernel
theorem dL_law_35 : decode code 35 = .ok (.i2l, 1) := by decide +kernel
theorem dL_law_36 : decode code 36 = .ok (.aload_n 0, 1) := by decide +kernel
theorem dL_law_37 : decode code 37 = .ok (.iconst 1, 1) := by decide +kernel
theorem dL_law_38 : decode code 38 = .ok (.invokestatic 63, 3) := by decide +kernel
theorem dL_law_41 : decode code 41 = .ok (.i2l, 1) := by decide +kernel
theorem dL_law_42 : decode code 42 = .ok (.aload_n 0, 1) := by decide +kernel
theorem dL_law_43 : decode code 43 = .ok (.iconst 2, 1) := by decide +kernel
theorem dL_law_44 : decode code 44 = .ok (.invokestatic 63, 3) := by decide +kernel
theorem dL_law_47 : decode code 47 = .ok (.i2l, 1) := by decide +kernel
theorem dL_law_48 : decode code 48 = .ok (.invokespecial 74, 3) := by decide +kernel
theorem dL_law_51 : decode code 51 = .ok (.astore_n 2, 1) := by decide +kernel
theorem dL_law_52 : decode code 52 = .ok (.iconst 1, 1) := by decide +kernel
theorem dL_law_53 : decode code 53 = .ok (.newarray .long, 2) := by decide +kernel
theorem dL_law_55 : decode code 55 = .ok (.astore_n 3, 1) := by decide +kernel
theorem dL_law_56 : decode code 56 = .ok (.iconst 3, 1) := by decide +kernel
theorem dL_law_57 : decode code 57 = .ok (.istore 4, 2) := by decide +kernel
theorem dL_law_59 : decode code 59 = .ok (.iload 4, 2) := by decide +kernel
theorem dL_law_61 : decode code 61 = .ok (.aload_n 0, 1) := by decide +kernel
theorem dL_law_62 : decode code 62 = .ok (.arraylength, 1) := by decide +kernel
theorem dL_law_63 : decode code 63 = .ok (.bipush 11, 2) := by decide +kernel
theorem dL_law_65 : decode code 65 = .ok (.isub, 1) := by decide +kernel
theorem dL_law_66 : decode code 66 = .ok (.if_icmp .gt (1645), 3) := by decide +kernel
theorem dL_law_69 : decode code 69 = .ok (.aload_n 0, 1) := by decide +kernel
theorem dL_law_70 : decode code 70 = .ok (.iload 4, 2) := by decide +kernel
theorem dL_law_72 : decode code 72 = .ok (.iaload, 1) := by decide +kernel
theorem dL_law_73 : decode code 73 = .ok (.bipush 15, 2) := by decide +kernel
theorem dL_law_75 : decode code 75 = .ok (.iand, 1) := by decide +kernel
theorem dL_law_76 : decode code 76 = .ok (.tableswitch 1629 0 15 #[80, 224, 389, 480, 493, 658, 802, 869, 957, 971, 985, 1104, 1172, 1279, 1560, 1573], 80) := by decide +kernel
theorem dL_law_156 : decode code 156 = .ok (.aload_n 1, 1) := by decide +kernel
theorem dL_law_157 : decode code 157 = .ok (.aload_n 0, 1) := by decide +kernel
theorem dL_law_158 : decode code 158 = .ok (.iload 4, 2) := by decide +kernel
theorem dL_law_160 : decode code 160 = .ok (.iconst 1, 1) := by decide +kernel
theorem dL_law_161 : decode code 161 = .ok (.iadd, 1) := by decide +kernel
theorem dL_law_162 : decode code 162 = .ok (.iaload, 1) := by decide +kernel
theorem dL_law_163 : decode code 163 = .ok (.i2l, 1) := by decide +kernel
theorem dL_law_164 : decode code 164 = .ok (.bipush 32, 2) := by decide +kernel
theorem dL_law_166 : decode code 166 = .ok (.lshl, 1) := by decide +kernel
theorem dL_law_167 : decode code 167 = .ok (.aload_n 0, 1) := by decide +kernel
theorem dL_law_168 : decode code 168 = .ok (.iload 4, 2) := by decide +kernel
theorem dL_law_170 : decode code 170 = .ok (.iconst 2, 1) := by decide +kernel
theorem dL_law_171 : decode code 171 = .ok (.iadd, 1) := by decide +kernel
theorem dL_law_172 : decode code 172 = .ok (.iaload, 1) := by decide +kernel
theorem dL_law_173 : decode code 173 = .ok (.i2l, 1) := by decide +kernel
theorem dL_law_174 : decode code 174 = .ok (.ldc2_w 75, 3) := by decide +kernel
theorem dL_law_177 : decode code 177 = .ok (.land, 1) := by decide +kernel
theorem dL_law_178 : decode code 178 = .ok (.lor, 1) := by decide +kernel
theorem dL_law_179 : decode code 179 = .ok (.aload_n 0, 1) := by decide +kernel
theorem dL_law_180 : decode code 180 = .ok (.iload 4, 2) := by decide +kernel
theorem dL_law_182 : decode code 182 = .ok (.iconst 3, 1) := by decide +kernel
theorem dL_law_183 : decode code 183 = .ok (.iadd, 1) := by decide +kernel
theorem dL_law_184 : decode code 184 = .ok (.iaload, 1) := by decide +kernel
theorem dL_law_185 : decode code 185 = .ok (.i2l, 1) := by decide +kernel
theorem dL_law_186 : decode code 186 = .ok (.bipush 32, 2) := by decide +kernel
theorem dL_law_188 : decode code 188 = .ok (.lshl, 1) := by decide +kernel
theorem dL_law_189 : decode code 189 = .ok (.aload_n 0, 1) := by decide +kernel
theorem dL_law_190 : decode code 190 = .ok (.iload 4, 2) := by decide +kernel
theorem dL_law_192 : decode code 192 = .ok (.iconst 4, 1) := by decide +kernel
theorem dL_law_193 : decode code 193 = .ok (.iadd, 1) := by decide +kernel
theorem dL_law_194 : decode code 194 = .ok (.iaload, 1) := by decide +kernel
theorem dL_law_195 : decode code 195 = .ok (.i2l, 1) := by decide +kernel
theorem dL_law_196 : decode code 196 = .ok (.ldc2_w 75, 3) := by decide +kernel
theorem dL_law_199 : decode code 199 = .ok (.land, 1) := by decide +kernel
theorem dL_law_200 : decode code 200 = .ok (.lor, 1) := by decide +kernel
theorem dL_law_201 : decode code 201 = .ok (.aload_n 0, 1) := by decide +kernel
theorem dL_law_202 : decode code 202 = .ok (.iload 4, 2) := by decide +kernel
theorem dL_law_204 : decode code 204 = .ok (.iconst 5, 1) := by decide +kernel
theorem dL_law_205 : decode code 205 = .ok (.iadd, 1) := by decide +kernel
theorem dL_law_206 : decode code 206 = .ok (.iaload, 1) := by decide +kernel
theorem dL_law_207 : decode code 207 = .ok (.aload_n 3, 1) := by decide +kernel
theorem dL_law_208 : decode code 208 = .ok (.invokestatic 77, 3) := by decide +kernel
theorem dL_law_211 : decode code 211 = .ok (.istore 5, 2) := by decide +kernel
theorem dL_law_213 : decode code 213 = .ok (.aload_n 2, 1) := by decide +kernel
theorem dL_law_214 : decode code 214 = .ok (.aload_n 0, 1) := by decide +kernel
theorem dL_law_215 : decode code 215 = .ok (.iload 4, 2) := by decide +kernel
theorem dL_law_217 : decode code 217 = .ok (.iconst 1, 1) := by decide +kernel
theorem dL_law_218 : decode code 218 = .ok (.iadd, 1) := by decide +kernel
theorem dL_law_219 : decode code 219 = .ok (.iaload, 1) := by decide +kernel
theorem dL_law_220 : decode code 220 = .ok (.i2l, 1) := by decide +kernel
theorem dL_law_221 : decode code 221 = .ok (.bipush 32, 2) := by decide +kernel
end
section
theorem dL_law_223 : decode code 223 = .ok (.lshl, 1) := by decide +kernel
theorem dL_law_224 : decode code 224 = .ok (.aload_n 0, 1) := by decide +kernel
theorem dL_law_225 : decode code 225 = .ok (.iload 4, 2) := by decide +kernel
theorem dL_law_227 : decode code 227 = .ok (.iconst 2, 1) := by decide +kernel
theorem dL_law_228 : decode code 228 = .ok (.iadd, 1) := by decide +kernel
theorem dL_law_229 : decode code 229 = .ok (.iaload, 1) := by decide +kernel
theorem dL_law_230 : decode code 230 = .ok (.i2l, 1) := by decide +kernel
theorem dL_law_231 : decode code 231 = .ok (.ldc2_w 75, 3) := by decide +kernel
theorem dL_law_234 : decode code 234 = .ok (.land, 1) := by decide +kernel
theorem dL_law_235 : decode code 235 = .ok (.lor, 1) := by decide +kernel
theorem dL_law_236 : decode code 236 = .ok (.aload_n 0, 1) := by decide +kernel
theorem dL_law_237 : decode code 237 = .ok (.iload 4, 2) := by decide +kernel
theorem dL_law_239 : decode code 239 = .ok (.iconst 3, 1) := by decide +kernel
theorem dL_law_240 : decode code 240 = .ok (.iadd, 1) := by decide +kernel
theorem dL_law_241 : decode code 241 = .ok (.iaload, 1) := by decide +kernel
theorem dL_law_242 : decode code 242 = .ok (.i2l, 1) := by decide +kernel
theorem dL_law_243 : decode code 243 = .ok (.bipush 32, 2) := by decide +kernel
theorem dL_law_245 : decode code 245 = .ok (.lshl, 1) := by decide +kernel
theorem dL_law_246 : decode code 246 = .ok (.aload_n 0, 1) := by decide +kernel
theorem dL_law_247 : decode code 247 = .ok (.iload 4, 2) := by decide +kernel
theorem dL_law_249 : decode code 249 = .ok (.iconst 4, 1) := by decide +kernel
theorem dL_law_250 : decode code 250 = .ok (.iadd, 1) := by decide +kernel
theorem dL_law_251 : decode code 251 = .ok (.iaload, 1) := by decide +kernel
theorem dL_law_252 : decode code 252 = .ok (.i2l, 1) := by decide +kernel
theorem dL_law_253 : decode code 253 = .ok (.ldc2_w 75, 3) := by decide +kernel
theorem dL_law_256 : decode code 256 = .ok (.land, 1) := by decide +kernel
theorem dL_law_257 : decode code 257 = .ok (.lor, 1) := by decide +kernel
theorem dL_law_258 : decode code 258 = .ok (.aload_n 0, 1) := by decide +kernel
theorem dL_law_259 : decode code 259 = .ok (.iload 4, 2) := by decide +kernel
theorem dL_law_261 : decode code 261 = .ok (.iconst 5, 1) := by decide +kernel
theorem dL_law_262 : decode code 262 = .ok (.iadd, 1) := by decide +kernel
theorem dL_law_263 : decode code 263 = .ok (.iaload, 1) := by decide +kernel
theorem dL_law_264 : decode code 264 = .ok (.invokevirtual 80, 3) := by decide +kernel
theorem dL_law_267 : decode code 267 = .ok (.istore 6, 2) := by decide +kernel
theorem dL_law_269 : decode code 269 = .ok (.aload_n 2, 1) := by decide +kernel
theorem dL_law_270 : decode code 270 = .ok (.invokevirtual 81, 3) := by decide +kernel
theorem dL_law_273 : decode code 273 = .ok (.iload 5, 2) := by decide +kernel
theorem dL_law_275 : decode code 275 = .ok (.if_icmp .eq (5), 3) := by decide +kernel
theorem dL_law_280 : decode code 280 = .ok (.iload 5, 2) := by decide +kernel
theorem dL_law_282 : decode code 282 = .ok (.ifCond .ne (15), 3) := by decide +kernel
theorem dL_law_285 : decode code 285 = .ok (.aload_n 3, 1) := by decide +kernel
theorem dL_law_286 : decode code 286 = .ok (.iconst 0, 1) := by decide +kernel
theorem dL_law_287 : decode code 287 = .ok (.laload, 1) := by decide +kernel
theorem dL_law_288 : decode code 288 = .ok (.iload 6, 2) := by decide +kernel
theorem dL_law_290 : decode code 290 = .ok (.i2l, 1) := by decide +kernel
theorem dL_law_291 : decode code 291 = .ok (.lcmp, 1) := by decide +kernel
theorem dL_law_292 : decode code 292 = .ok (.ifCond .eq (5), 3) := by decide +kernel
theorem dL_law_297 : decode code 297 = .ok (.goto (1408), 3) := by decide +kernel
theorem dL_law_300 : decode code 300 = .ok (.aload_n 1, 1) := by decide +kernel
theorem dL_law_301 : decode code 301 = .ok (.aload_n 0, 1) := by decide +kernel
theorem dL_law_302 : decode code 302 = .ok (.iload 4, 2) := by decide +kernel
theorem dL_law_304 : decode code 304 = .ok (.iconst 1, 1) := by decide +kernel
theorem dL_law_305 : decode code 305 = .ok (.iadd, 1) := by decide +kernel
theorem dL_law_306 : decode code 306 = .ok (.iaload, 1) := by decide +kernel
theorem dL_law_307 : decode code 307 = .ok (.aload_n 0, 1) := by decide +kernel
theorem dL_law_308 : decode code 308 = .ok (.iload 4, 2) := by decide +kernel
theorem dL_law_310 : decode code 310 = .ok (.iconst 2, 1) := by decide +kernel
theorem dL_law_311 : decode code 311 = .ok (.iadd, 1) := by decide +kernel
theorem dL_law_312 : decode code 312 = .ok (.iaload, 1) := by decide +kernel
theorem dL_law_313 : decode code 313 = .ok (.i2l, 1) := by decide +kernel
theorem dL_law_314 : decode code 314 = .ok (.bipush 32, 2) := by decide +kernel
theorem dL_law_316 : decode code 316 = .ok (.lshl, 1) := by decide +kernel
theorem dL_law_317 : decode code 317 = .ok (.aload_n 0, 1) := by decide +kernel
theorem dL_law_318 : decode code 318 = .ok (.iload 4, 2) := by decide +kernel
theorem dL_law_320 : decode code 320 = .ok (.iconst 3, 1) := by decide +kernel
theorem dL_law_321 : decode code 321 = .ok (.iadd, 1) := by decide +kernel
theorem dL_law_322 : decode code 322 = .ok (.iaload, 1) := by decide +kernel
theorem dL_law_323 : decode code 323 = .ok (.i2l, 1) := by decide +kernel
theorem dL_law_324 : decode code 324 = .ok (.ldc2_w 75, 3) := by decide +kernel
theorem dL_law_327 : decode code 327 = .ok (.land, 1) := by decide +kernel
theorem dL_law_328 : decode code 328 = .ok (.lor, 1) := by decide +kernel
theorem dL_law_329 : decode code 329 = .ok (.aload_n 0, 1) := by decide +kernel
theorem dL_law_330 : decode code 330 = .ok (.iload 4, 2) := by decide +kernel
theorem dL_law_332 : decode code 332 = .ok (.iconst 4, 1) := by decide +kernel
theorem dL_law_333 : decode code 333 = .ok (.iadd, 1) := by decide +kernel
theorem dL_law_334 : decode code 334 = .ok (.iaload, 1) := by decide +kernel
theorem dL_law_335 : decode code 335 = .ok (.i2l, 1) := by decide +kernel
theorem dL_law_336 : decode code 336 = .ok (.bipush 32, 2) := by decide +kernel
theorem dL_law_338 : decode code 338 = .ok (.lshl, 1) := by decide +kernel
theorem dL_law_339 : decode code 339 = .ok (.aload_n 0, 1) := by decide +kernel
theorem dL_law_340 : decode code 340 = .ok (.iload 4, 2) := by decide +kernel
theorem dL_law_342 : decode code 342 = .ok (.iconst 5, 1) := by decide +kernel
theorem dL_law_343 : decode code 343 = .ok (.iadd, 1) := by decide +kernel
theorem dL_law_344 : decode code 344 = .ok (.iaload, 1) := by decide +kernel
theorem dL_law_345 : decode code 345 = .ok (.i2l, 1) := by decide +kernel
theorem dL_law_346 : decode code 346 = .ok (.ldc2_w 75, 3) := by decide +kernel
theorem dL_law_349 : decode code 349 = .ok (.land, 1) := by decide +kernel
theorem dL_law_350 : decode code 350 = .ok (.lor, 1) := by decide +kernel
theorem dL_law_351 : decode code 351 = .ok (.aload_n 0, 1) := by decide +kernel
theorem dL_law_352 : decode code 352 = .ok (.iload 4, 2) := by decide +kernel
theorem dL_law_354 : decode code 354 = .ok (.bipush 6, 2) := by decide +kernel
theorem dL_law_356 : decode code 356 = .ok (.iadd, 1) := by decide +kernel
theorem dL_law_357 : decode code 357 = .ok (.iaload, 1) := by decide +kernel
theorem dL_law_358 : decode code 358 = .ok (.aload_n 3, 1) := by decide +kernel
theorem dL_law_359 : decode code 359 = .ok (.invokestatic 85, 3) := by decide +kernel
theorem dL_law_362 : decode code 362 = .ok (.istore 5, 2) := by decide +kernel
theorem dL_law_364 : decode code 364 = .ok (.aload_n 2, 1) := by decide +kernel
theorem dL_law_365 : decode code 365 = .ok (.aload_n 0, 1) := by decide +kernel
theorem dL_law_366 : decode code 366 = .ok (.iload 4, 2) := by decide +kernel
theorem dL_law_368 : decode code 368 = .ok (.iconst 1, 1) := by decide +kernel
end
section
theorem dL_law_369 : decode code 369 = .ok (.iadd, 1) := by decide +kernel
theorem dL_law_370 : decode code 370 = .ok (.iaload, 1) := by decide +kernel
theorem dL_law_371 : decode code 371 = .ok (.aload_n 0, 1) := by decide +kernel
theorem dL_law_372 : decode code 372 = .ok (.iload 4, 2) := by decide +kernel
theorem dL_law_374 : decode code 374 = .ok (.iconst 2, 1) := by decide +kernel
theorem dL_law_375 : decode code 375 = .ok (.iadd, 1) := by decide +kernel
theorem dL_law_376 : decode code 376 = .ok (.iaload, 1) := by decide +kernel
theorem dL_law_377 : decode code 377 = .ok (.i2l, 1) := by decide +kernel
theorem dL_law_378 : decode code 378 = .ok (.bipush 32, 2) := by decide +kernel
theorem dL_law_380 : decode code 380 = .ok (.lshl, 1) := by decide +kernel
theorem dL_law_381 : decode code 381 = .ok (.aload_n 0, 1) := by decide +kernel
theorem dL_law_382 : decode code 382 = .ok (.iload 4, 2) := by decide +kernel
theorem dL_law_384 : decode code 384 = .ok (.iconst 3, 1) := by decide +kernel
theorem dL_law_385 : decode code 385 = .ok (.iadd, 1) := by decide +kernel
theorem dL_law_386 : decode code 386 = .ok (.iaload, 1) := by decide +kernel
theorem dL_law_387 : decode code 387 = .ok (.i2l, 1) := by decide +kernel
theorem dL_law_388 : decode code 388 = .ok (.ldc2_w 75, 3) := by decide +kernel
theorem dL_law_391 : decode code 391 = .ok (.land, 1) := by decide +kernel
theorem dL_law_392 : decode code 392 = .ok (.lor, 1) := by decide +kernel
theorem dL_law_393 : decode code 393 = .ok (.aload_n 0, 1) := by decide +kernel
theorem dL_law_394 : decode code 394 = .ok (.iload 4, 2) := by decide +kernel
theorem dL_law_396 : decode code 396 = .ok (.iconst 4, 1) := by decide +kernel
theorem dL_law_397 : decode code 397 = .ok (.iadd, 1) := by decide +kernel
theorem dL_law_398 : decode code 398 = .ok (.iaload, 1) := by decide +kernel
theorem dL_law_399 : decode code 399 = .ok (.i2l, 1) := by decide +kernel
theorem dL_law_400 : decode code 400 = .ok (.bipush 32, 2) := by decide +kernel
theorem dL_law_402 : decode code 402 = .ok (.lshl, 1) := by decide +kernel
theorem dL_law_403 : decode code 403 = .ok (.aload_n 0, 1) := by decide +kernel
theorem dL_law_404 : decode code 404 = .ok (.iload 4, 2) := by decide +kernel
theorem dL_law_406 : decode code 406 = .ok (.iconst 5, 1) := by decide +kernel
theorem dL_law_407 : decode code 407 = .ok (.iadd, 1) := by decide +kernel
theorem dL_law_408 : decode code 408 = .ok (.iaload, 1) := by decide +kernel
theorem dL_law_409 : decode code 409 = .ok (.i2l, 1) := by decide +kernel
theorem dL_law_410 : decode code 410 = .ok (.ldc2_w 75, 3) := by decide +kernel
theorem dL_law_413 : decode code 413 = .ok (.land, 1) := by decide +kernel
theorem dL_law_414 : decode code 414 = .ok (.lor, 1) := by decide +kernel
theorem dL_law_415 : decode code 415 = .ok (.aload_n 0, 1) := by decide +kernel
theorem dL_law_416 : decode code 416 = .ok (.iload 4, 2) := by decide +kernel
theorem dL_law_418 : decode code 418 = .ok (.bipush 6, 2) := by decide +kernel
theorem dL_law_420 : decode code 420 = .ok (.iadd, 1) := by decide +kernel
theorem dL_law_421 : decode code 421 = .ok (.iaload, 1) := by decide +kernel
theorem dL_law_422 : decode code 422 = .ok (.invokevirtual 88, 3) := by decide +kernel
theorem dL_law_425 : decode code 425 = .ok (.istore 6, 2) := by decide +kernel
theorem dL_law_427 : decode code 427 = .ok (.aload_n 2, 1) := by decide +kernel
theorem dL_law_428 : decode code 428 = .ok (.invokevirtual 81, 3) := by decide +kernel
theorem dL_law_431 : decode code 431 = .ok (.iload 5, 2) := by decide +kernel
theorem dL_law_433 : decode code 433 = .ok (.if_icmp .eq (5), 3) := by decide +kernel
theorem dL_law_438 : decode code 438 = .ok (.iload 5, 2) := by decide +kernel
theorem dL_law_440 : decode code 440 = .ok (.ifCond .ne (22), 3) := by decide +kernel
theorem dL_law_462 : decode code 462 = .ok (.goto (1243), 3) := by decide +kernel
theorem dL_law_465 : decode code 465 = .ok (.aload_n 1, 1) := by decide +kernel
theorem dL_law_466 : decode code 466 = .ok (.aload_n 0, 1) := by decide +kernel
theorem dL_law_467 : decode code 467 = .ok (.iload 4, 2) := by decide +kernel
theorem dL_law_469 : decode code 469 = .ok (.iconst 1, 1) := by decide +kernel
theorem dL_law_470 : decode code 470 = .ok (.iadd, 1) := by decide +kernel
theorem dL_law_471 : decode code 471 = .ok (.iaload, 1) := by decide +kernel
theorem dL_law_472 : decode code 472 = .ok (.aload_n 0, 1) := by decide +kernel
theorem dL_law_473 : decode code 473 = .ok (.iload 4, 2) := by decide +kernel
theorem dL_law_475 : decode code 475 = .ok (.iconst 2, 1) := by decide +kernel
theorem dL_law_476 : decode code 476 = .ok (.iadd, 1) := by decide +kernel
theorem dL_law_477 : decode code 477 = .ok (.iaload, 1) := by decide +kernel
theorem dL_law_478 : decode code 478 = .ok (.ifCond .eq (7), 3) := by decide +kernel
theorem dL_law_481 : decode code 481 = .ok (.iconst 1, 1) := by decide +kernel
theorem dL_law_482 : decode code 482 = .ok (.goto (4), 3) := by decide +kernel
theorem dL_law_485 : decode code 485 = .ok (.iconst 0, 1) := by decide +kernel
theorem dL_law_486 : decode code 486 = .ok (.aload_n 3, 1) := by decide +kernel
theorem dL_law_487 : decode code 487 = .ok (.invokestatic 89, 3) := by decide +kernel
theorem dL_law_490 : decode code 490 = .ok (.istore 5, 2) := by decide +kernel
theorem dL_law_492 : decode code 492 = .ok (.aload_n 2, 1) := by decide +kernel
theorem dL_law_493 : decode code 493 = .ok (.aload_n 0, 1) := by decide +kernel
theorem dL_law_494 : decode code 494 = .ok (.iload 4, 2) := by decide +kernel
theorem dL_law_496 : decode code 496 = .ok (.iconst 1, 1) := by decide +kernel
theorem dL_law_497 : decode code 497 = .ok (.iadd, 1) := by decide +kernel
theorem dL_law_498 : decode code 498 = .ok (.iaload, 1) := by decide +kernel
theorem dL_law_499 : decode code 499 = .ok (.aload_n 0, 1) := by decide +kernel
theorem dL_law_500 : decode code 500 = .ok (.iload 4, 2) := by decide +kernel
theorem dL_law_502 : decode code 502 = .ok (.iconst 2, 1) := by decide +kernel
theorem dL_law_503 : decode code 503 = .ok (.iadd, 1) := by decide +kernel
theorem dL_law_504 : decode code 504 = .ok (.iaload, 1) := by decide +kernel
theorem dL_law_505 : decode code 505 = .ok (.ifCond .eq (7), 3) := by decide +kernel
theorem dL_law_508 : decode code 508 = .ok (.iconst 1, 1) := by decide +kernel
theorem dL_law_509 : decode code 509 = .ok (.goto (4), 3) := by decide +kernel
theorem dL_law_512 : decode code 512 = .ok (.iconst 0, 1) := by decide +kernel
theorem dL_law_513 : decode code 513 = .ok (.invokevirtual 92, 3) := by decide +kernel
theorem dL_law_516 : decode code 516 = .ok (.istore 6, 2) := by decide +kernel
theorem dL_law_518 : decode code 518 = .ok (.aload_n 2, 1) := by decide +kernel
theorem dL_law_519 : decode code 519 = .ok (.invokevirtual 81, 3) := by decide +kernel
theorem dL_law_522 : decode code 522 = .ok (.iload 5, 2) := by decide +kernel
theorem dL_law_524 : decode code 524 = .ok (.if_icmp .eq (5), 3) := by decide +kernel
theorem dL_law_529 : decode code 529 = .ok (.iload 5, 2) := by decide +kernel
theorem dL_law_531 : decode code 531 = .ok (.ifCond .ne (22), 3) := by decide +kernel
theorem dL_law_553 : decode code 553 = .ok (.goto (1152), 3) := by decide +kernel
theorem dL_law_556 : decode code 556 = .ok (.aload_n 1, 1) := by decide +kernel
theorem dL_law_557 : decode code 557 = .ok (.invokevirtual 93, 3) := by decide +kernel
theorem dL_law_560 : decode code 560 = .ok (.aload_n 2, 1) := by decide +kernel
theorem dL_law_561 : decode code 561 = .ok (.invokevirtual 96, 3) := by decide +kernel
theorem dL_law_564 : decode code 564 = .ok (.if_icmp .eq (1141), 3) := by decide +kernel
theorem dL_law_569 : decode code 569 = .ok (.aload_n 1, 1) := by decide +kernel
theorem dL_law_570 : decode code 570 = .ok (.aload_n 0, 1) := by decide +kernel
theorem dL_law_571 : decode code 571 = .ok (.iload 4, 2) := by decide +kernel
end
section
theorem dL_law_573 : decode code 573 = .ok (.iconst 1, 1) := by decide +kernel
theorem dL_law_574 : decode code 574 = .ok (.iadd, 1) := by decide +kernel
theorem dL_law_575 : decode code 575 = .ok (.iaload, 1) := by decide +kernel
theorem dL_law_576 : decode code 576 = .ok (.aload_n 0, 1) := by decide +kernel
theorem dL_law_577 : decode code 577 = .ok (.iload 4, 2) := by decide +kernel
theorem dL_law_579 : decode code 579 = .ok (.iconst 2, 1) := by decide +kernel
theorem dL_law_580 : decode code 580 = .ok (.iadd, 1) := by decide +kernel
theorem dL_law_581 : decode code 581 = .ok (.iaload, 1) := by decide +kernel
theorem dL_law_582 : decode code 582 = .ok (.aload_n 0, 1) := by decide +kernel
theorem dL_law_583 : decode code 583 = .ok (.iload 4, 2) := by decide +kernel
theorem dL_law_585 : decode code 585 = .ok (.iconst 3, 1) := by decide +kernel
theorem dL_law_586 : decode code 586 = .ok (.iadd, 1) := by decide +kernel
theorem dL_law_587 : decode code 587 = .ok (.iaload, 1) := by decide +kernel
theorem dL_law_588 : decode code 588 = .ok (.i2l, 1) := by decide +kernel
theorem dL_law_589 : decode code 589 = .ok (.bipush 32, 2) := by decide +kernel
theorem dL_law_591 : decode code 591 = .ok (.lshl, 1) := by decide +kernel
theorem dL_law_592 : decode code 592 = .ok (.aload_n 0, 1) := by decide +kernel
theorem dL_law_593 : decode code 593 = .ok (.iload 4, 2) := by decide +kernel
theorem dL_law_595 : decode code 595 = .ok (.iconst 4, 1) := by decide +kernel
theorem dL_law_596 : decode code 596 = .ok (.iadd, 1) := by decide +kernel
theorem dL_law_597 : decode code 597 = .ok (.iaload, 1) := by decide +kernel
theorem dL_law_598 : decode code 598 = .ok (.i2l, 1) := by decide +kernel
theorem dL_law_599 : decode code 599 = .ok (.ldc2_w 75, 3) := by decide +kernel
theorem dL_law_602 : decode code 602 = .ok (.land, 1) := by decide +kernel
theorem dL_law_603 : decode code 603 = .ok (.lor, 1) := by decide +kernel
theorem dL_law_604 : decode code 604 = .ok (.aload_n 0, 1) := by decide +kernel
theorem dL_law_605 : decode code 605 = .ok (.iload 4, 2) := by decide +kernel
theorem dL_law_607 : decode code 607 = .ok (.iconst 5, 1) := by decide +kernel
theorem dL_law_608 : decode code 608 = .ok (.iadd, 1) := by decide +kernel
theorem dL_law_609 : decode code 609 = .ok (.iaload, 1) := by decide +kernel
theorem dL_law_610 : decode code 610 = .ok (.i2l, 1) := by decide +kernel
theorem dL_law_611 : decode code 611 = .ok (.bipush 32, 2) := by decide +kernel
theorem dL_law_613 : decode code 613 = .ok (.lshl, 1) := by decide +kernel
theorem dL_law_614 : decode code 614 = .ok (.aload_n 0, 1) := by decide +kernel
theorem dL_law_615 : decode code 615 = .ok (.iload 4, 2) := by decide +kernel
theorem dL_law_617 : decode code 617 = .ok (.bipush 6, 2) := by decide +kernel
theorem dL_law_619 : decode code 619 = .ok (.iadd, 1) := by decide +kernel
theorem dL_law_620 : decode code 620 = .ok (.iaload, 1) := by decide +kernel
theorem dL_law_621 : decode code 621 = .ok (.i2l, 1) := by decide +kernel
theorem dL_law_622 : decode code 622 = .ok (.ldc2_w 75, 3) := by decide +kernel
theorem dL_law_625 : decode code 625 = .ok (.land, 1) := by decide +kernel
theorem dL_law_626 : decode code 626 = .ok (.lor, 1) := by decide +kernel
theorem dL_law_627 : decode code 627 = .ok (.aload_n 3, 1) := by decide +kernel
theorem dL_law_628 : decode code 628 = .ok (.invokestatic 97, 3) := by decide +kernel
theorem dL_law_631 : decode code 631 = .ok (.istore 5, 2) := by decide +kernel
theorem dL_law_633 : decode code 633 = .ok (.aload_n 2, 1) := by decide +kernel
theorem dL_law_634 : decode code 634 = .ok (.aload_n 0, 1) := by decide +kernel
theorem dL_law_635 : decode code 635 = .ok (.iload 4, 2) := by decide +kernel
theorem dL_law_637 : decode code 637 = .ok (.iconst 1, 1) := by decide +kernel
theorem dL_law_638 : decode code 638 = .ok (.iadd, 1) := by decide +kernel
theorem dL_law_639 : decode code 639 = .ok (.iaload, 1) := by decide +kernel
theorem dL_law_640 : decode code 640 = .ok (.aload_n 0, 1) := by decide +kernel
theorem dL_law_641 : decode code 641 = .ok (.iload 4, 2) := by decide +kernel
theorem dL_law_643 : decode code 643 = .ok (.iconst 2, 1) := by decide +kernel
theorem dL_law_644 : decode code 644 = .ok (.iadd, 1) := by decide +kernel
theorem dL_law_645 : decode code 645 = .ok (.iaload, 1) := by decide +kernel
theorem dL_law_646 : decode code 646 = .ok (.aload_n 0, 1) := by decide +kernel
theorem dL_law_647 : decode code 647 = .ok (.iload 4, 2) := by decide +kernel
theorem dL_law_649 : decode code 649 = .ok (.iconst 3, 1) := by decide +kernel
theorem dL_law_650 : decode code 650 = .ok (.iadd, 1) := by decide +kernel
theorem dL_law_651 : decode code 651 = .ok (.iaload, 1) := by decide +kernel
theorem dL_law_652 : decode code 652 = .ok (.i2l, 1) := by decide +kernel
theorem dL_law_653 : decode code 653 = .ok (.bipush 32, 2) := by decide +kernel
theorem dL_law_655 : decode code 655 = .ok (.lshl, 1) := by decide +kernel
theorem dL_law_656 : decode code 656 = .ok (.aload_n 0, 1) := by decide +kernel
theorem dL_law_657 : decode code 657 = .ok (.iload 4, 2) := by decide +kernel
theorem dL_law_659 : decode code 659 = .ok (.iconst 4, 1) := by decide +kernel
theorem dL_law_660 : decode code 660 = .ok (.iadd, 1) := by decide +kernel
theorem dL_law_661 : decode code 661 = .ok (.iaload, 1) := by decide +kernel
theorem dL_law_662 : decode code 662 = .ok (.i2l, 1) := by decide +kernel
theorem dL_law_663 : decode code 663 = .ok (.ldc2_w 75, 3) := by decide +kernel
theorem dL_law_666 : decode code 666 = .ok (.land, 1) := by decide +kernel
theorem dL_law_667 : decode code 667 = .ok (.lor, 1) := by decide +kernel
theorem dL_law_668 : decode code 668 = .ok (.aload_n 0, 1) := by decide +kernel
theorem dL_law_669 : decode code 669 = .ok (.iload 4, 2) := by decide +kernel
theorem dL_law_671 : decode code 671 = .ok (.iconst 5, 1) := by decide +kernel
theorem dL_law_672 : decode code 672 = .ok (.iadd, 1) := by decide +kernel
theorem dL_law_673 : decode code 673 = .ok (.iaload, 1) := by decide +kernel
theorem dL_law_674 : decode code 674 = .ok (.i2l, 1) := by decide +kernel
theorem dL_law_675 : decode code 675 = .ok (.bipush 32, 2) := by decide +kernel
theorem dL_law_677 : decode code 677 = .ok (.lshl, 1) := by decide +kernel
theorem dL_law_678 : decode code 678 = .ok (.aload_n 0, 1) := by decide +kernel
theorem dL_law_679 : decode code 679 = .ok (.iload 4, 2) := by decide +kernel
theorem dL_law_681 : decode code 681 = .ok (.bipush 6, 2) := by decide +kernel
theorem dL_law_683 : decode code 683 = .ok (.iadd, 1) := by decide +kernel
theorem dL_law_684 : decode code 684 = .ok (.iaload, 1) := by decide +kernel
theorem dL_law_685 : decode code 685 = .ok (.i2l, 1) := by decide +kernel
theorem dL_law_686 : decode code 686 = .ok (.ldc2_w 75, 3) := by decide +kernel
theorem dL_law_689 : decode code 689 = .ok (.land, 1) := by decide +kernel
theorem dL_law_690 : decode code 690 = .ok (.lor, 1) := by decide +kernel
theorem dL_law_691 : decode code 691 = .ok (.invokevirtual 100, 3) := by decide +kernel
theorem dL_law_694 : decode code 694 = .ok (.istore 6, 2) := by decide +kernel
theorem dL_law_696 : decode code 696 = .ok (.aload_n 2, 1) := by decide +kernel
theorem dL_law_697 : decode code 697 = .ok (.invokevirtual 81, 3) := by decide +kernel
theorem dL_law_700 : decode code 700 = .ok (.iload 5, 2) := by decide +kernel
theorem dL_law_702 : decode code 702 = .ok (.if_icmp .eq (5), 3) := by decide +kernel
theorem dL_law_707 : decode code 707 = .ok (.iload 5, 2) := by decide +kernel
theorem dL_law_709 : decode code 709 = .ok (.ifCond .ne (22), 3) := by decide +kernel
theorem dL_law_731 : decode code 731 = .ok (.goto (974), 3) := by decide +kernel
theorem dL_law_734 : decode code 734 = .ok (.aload_n 1, 1) := by decide +kernel
end
section
theorem dL_law_735 : decode code 735 = .ok (.aload_n 0, 1) := by decide +kernel
theorem dL_law_736 : decode code 736 = .ok (.iload 4, 2) := by decide +kernel
theorem dL_law_738 : decode code 738 = .ok (.iconst 1, 1) := by decide +kernel
theorem dL_law_739 : decode code 739 = .ok (.iadd, 1) := by decide +kernel
theorem dL_law_740 : decode code 740 = .ok (.iaload, 1) := by decide +kernel
theorem dL_law_741 : decode code 741 = .ok (.aload_n 0, 1) := by decide +kernel
theorem dL_law_742 : decode code 742 = .ok (.iload 4, 2) := by decide +kernel
theorem dL_law_744 : decode code 744 = .ok (.iconst 2, 1) := by decide +kernel
theorem dL_law_745 : decode code 745 = .ok (.iadd, 1) := by decide +kernel
theorem dL_law_746 : decode code 746 = .ok (.iaload, 1) := by decide +kernel
theorem dL_law_747 : decode code 747 = .ok (.i2l, 1) := by decide +kernel
theorem dL_law_748 : decode code 748 = .ok (.bipush 32, 2) := by decide +kernel
theorem dL_law_750 : decode code 750 = .ok (.lshl, 1) := by decide +kernel
theorem dL_law_751 : decode code 751 = .ok (.aload_n 0, 1) := by decide +kernel
theorem dL_law_752 : decode code 752 = .ok (.iload 4, 2) := by decide +kernel
theorem dL_law_754 : decode code 754 = .ok (.iconst 3, 1) := by decide +kernel
theorem dL_law_755 : decode code 755 = .ok (.iadd, 1) := by decide +kernel
theorem dL_law_756 : decode code 756 = .ok (.iaload, 1) := by decide +kernel
theorem dL_law_757 : decode code 757 = .ok (.i2l, 1) := by decide +kernel
theorem dL_law_758 : decode code 758 = .ok (.ldc2_w 75, 3) := by decide +kernel
theorem dL_law_761 : decode code 761 = .ok (.land, 1) := by decide +kernel
theorem dL_law_762 : decode code 762 = .ok (.lor, 1) := by decide +kernel
theorem dL_law_763 : decode code 763 = .ok (.aload_n 0, 1) := by decide +kernel
theorem dL_law_764 : decode code 764 = .ok (.iload 4, 2) := by decide +kernel
theorem dL_law_766 : decode code 766 = .ok (.iconst 4, 1) := by decide +kernel
theorem dL_law_767 : decode code 767 = .ok (.iadd, 1) := by decide +kernel
theorem dL_law_768 : decode code 768 = .ok (.iaload, 1) := by decide +kernel
theorem dL_law_769 : decode code 769 = .ok (.i2l, 1) := by decide +kernel
theorem dL_law_770 : decode code 770 = .ok (.bipush 32, 2) := by decide +kernel
theorem dL_law_772 : decode code 772 = .ok (.lshl, 1) := by decide +kernel
theorem dL_law_773 : decode code 773 = .ok (.aload_n 0, 1) := by decide +kernel
theorem dL_law_774 : decode code 774 = .ok (.iload 4, 2) := by decide +kernel
theorem dL_law_776 : decode code 776 = .ok (.iconst 5, 1) := by decide +kernel
theorem dL_law_777 : decode code 777 = .ok (.iadd, 1) := by decide +kernel
theorem dL_law_778 : decode code 778 = .ok (.iaload, 1) := by decide +kernel
theorem dL_law_779 : decode code 779 = .ok (.i2l, 1) := by decide +kernel
theorem dL_law_780 : decode code 780 = .ok (.ldc2_w 75, 3) := by decide +kernel
theorem dL_law_783 : decode code 783 = .ok (.land, 1) := by decide +kernel
theorem dL_law_784 : decode code 784 = .ok (.lor, 1) := by decide +kernel
theorem dL_law_785 : decode code 785 = .ok (.aload_n 3, 1) := by decide +kernel
theorem dL_law_786 : decode code 786 = .ok (.invokestatic 101, 3) := by decide +kernel
theorem dL_law_789 : decode code 789 = .ok (.istore 5, 2) := by decide +kernel
theorem dL_law_791 : decode code 791 = .ok (.aload_n 2, 1) := by decide +kernel
theorem dL_law_792 : decode code 792 = .ok (.aload_n 0, 1) := by decide +kernel
theorem dL_law_793 : decode code 793 = .ok (.iload 4, 2) := by decide +kernel
theorem dL_law_795 : decode code 795 = .ok (.iconst 1, 1) := by decide +kernel
theorem dL_law_796 : decode code 796 = .ok (.iadd, 1) := by decide +kernel
theorem dL_law_797 : decode code 797 = .ok (.iaload, 1) := by decide +kernel
theorem dL_law_798 : decode code 798 = .ok (.aload_n 0, 1) := by decide +kernel
theorem dL_law_799 : decode code 799 = .ok (.iload 4, 2) := by decide +kernel
theorem dL_law_801 : decode code 801 = .ok (.iconst 2, 1) := by decide +kernel
theorem dL_law_802 : decode code 802 = .ok (.iadd, 1) := by decide +kernel
theorem dL_law_803 : decode code 803 = .ok (.iaload, 1) := by decide +kernel
theorem dL_law_804 : decode code 804 = .ok (.i2l, 1) := by decide +kernel
theorem dL_law_805 : decode code 805 = .ok (.bipush 32, 2) := by decide +kernel
theorem dL_law_807 : decode code 807 = .ok (.lshl, 1) := by decide +kernel
theorem dL_law_808 : decode code 808 = .ok (.aload_n 0, 1) := by decide +kernel
theorem dL_law_809 : decode code 809 = .ok (.iload 4, 2) := by decide +kernel
theorem dL_law_811 : decode code 811 = .ok (.iconst 3, 1) := by decide +kernel
theorem dL_law_812 : decode code 812 = .ok (.iadd, 1) := by decide +kernel
theorem dL_law_813 : decode code 813 = .ok (.iaload, 1) := by decide +kernel
theorem dL_law_814 : decode code 814 = .ok (.i2l, 1) := by decide +kernel
theorem dL_law_815 : decode code 815 = .ok (.ldc2_w 75, 3) := by decide +kernel
theorem dL_law_818 : decode code 818 = .ok (.land, 1) := by decide +kernel
theorem dL_law_819 : decode code 819 = .ok (.lor, 1) := by decide +kernel
theorem dL_law_820 : decode code 820 = .ok (.aload_n 0, 1) := by decide +kernel
theorem dL_law_821 : decode code 821 = .ok (.iload 4, 2) := by decide +kernel
theorem dL_law_823 : decode code 823 = .ok (.iconst 4, 1) := by decide +kernel
theorem dL_law_824 : decode code 824 = .ok (.iadd, 1) := by decide +kernel
theorem dL_law_825 : decode code 825 = .ok (.iaload, 1) := by decide +kernel
theorem dL_law_826 : decode code 826 = .ok (.i2l, 1) := by decide +kernel
theorem dL_law_827 : decode code 827 = .ok (.bipush 32, 2) := by decide +kernel
theorem dL_law_829 : decode code 829 = .ok (.lshl, 1) := by decide +kernel
theorem dL_law_830 : decode code 830 = .ok (.aload_n 0, 1) := by decide +kernel
theorem dL_law_831 : decode code 831 = .ok (.iload 4, 2) := by decide +kernel
theorem dL_law_833 : decode code 833 = .ok (.iconst 5, 1) := by decide +kernel
theorem dL_law_834 : decode code 834 = .ok (.iadd, 1) := by decide +kernel
theorem dL_law_835 : decode code 835 = .ok (.iaload, 1) := by decide +kernel
theorem dL_law_836 : decode code 836 = .ok (.i2l, 1) := by decide +kernel
theorem dL_law_837 : decode code 837 = .ok (.ldc2_w 75, 3) := by decide +kernel
theorem dL_law_840 : decode code 840 = .ok (.land, 1) := by decide +kernel
theorem dL_law_841 : decode code 841 = .ok (.lor, 1) := by decide +kernel
theorem dL_law_842 : decode code 842 = .ok (.invokevirtual 104, 3) := by decide +kernel
theorem dL_law_845 : decode code 845 = .ok (.istore 6, 2) := by decide +kernel
theorem dL_law_847 : decode code 847 = .ok (.aload_n 2, 1) := by decide +kernel
theorem dL_law_848 : decode code 848 = .ok (.invokevirtual 81, 3) := by decide +kernel
theorem dL_law_851 : decode code 851 = .ok (.iload 5, 2) := by decide +kernel
theorem dL_law_853 : decode code 853 = .ok (.if_icmp .eq (5), 3) := by decide +kernel
theorem dL_law_858 : decode code 858 = .ok (.iload 5, 2) := by decide +kernel
theorem dL_law_860 : decode code 860 = .ok (.ifCond .ne (15), 3) := by decide +kernel
theorem dL_law_875 : decode code 875 = .ok (.goto (830), 3) := by decide +kernel
theorem dL_law_878 : decode code 878 = .ok (.aload_n 1, 1) := by decide +kernel
theorem dL_law_879 : decode code 879 = .ok (.aload_n 0, 1) := by decide +kernel
theorem dL_law_880 : decode code 880 = .ok (.iload 4, 2) := by decide +kernel
theorem dL_law_882 : decode code 882 = .ok (.iconst 1, 1) := by decide +kernel
theorem dL_law_883 : decode code 883 = .ok (.iadd, 1) := by decide +kernel
theorem dL_law_884 : decode code 884 = .ok (.iaload, 1) := by decide +kernel
theorem dL_law_885 : decode code 885 = .ok (.aload_n 0, 1) := by decide +kernel
theorem dL_law_886 : decode code 886 = .ok (.iload 4, 2) := by decide +kernel
theorem dL_law_888 : decode code 888 = .ok (.iconst 2, 1) := by decide +kernel
end
section
theorem dL_law_889 : decode code 889 = .ok (.iadd, 1) := by decide +kernel
theorem dL_law_890 : decode code 890 = .ok (.iaload, 1) := by decide +kernel
theorem dL_law_891 : decode code 891 = .ok (.aload_n 3, 1) := by decide +kernel
theorem dL_law_892 : decode code 892 = .ok (.invokestatic 105, 3) := by decide +kernel
theorem dL_law_895 : decode code 895 = .ok (.istore 5, 2) := by decide +kernel
theorem dL_law_897 : decode code 897 = .ok (.aload_n 2, 1) := by decide +kernel
theorem dL_law_898 : decode code 898 = .ok (.aload_n 0, 1) := by decide +kernel
theorem dL_law_899 : decode code 899 = .ok (.iload 4, 2) := by decide +kernel
theorem dL_law_901 : decode code 901 = .ok (.iconst 1, 1) := by decide +kernel
theorem dL_law_902 : decode code 902 = .ok (.iadd, 1) := by decide +kernel
theorem dL_law_903 : decode code 903 = .ok (.iaload, 1) := by decide +kernel
theorem dL_law_904 : decode code 904 = .ok (.aload_n 0, 1) := by decide +kernel
theorem dL_law_905 : decode code 905 = .ok (.iload 4, 2) := by decide +kernel
theorem dL_law_907 : decode code 907 = .ok (.iconst 2, 1) := by decide +kernel
theorem dL_law_908 : decode code 908 = .ok (.iadd, 1) := by decide +kernel
theorem dL_law_909 : decode code 909 = .ok (.iaload, 1) := by decide +kernel
theorem dL_law_910 : decode code 910 = .ok (.invokevirtual 108, 3) := by decide +kernel
theorem dL_law_913 : decode code 913 = .ok (.lstore 6, 2) := by decide +kernel
theorem dL_law_915 : decode code 915 = .ok (.aload_n 2, 1) := by decide +kernel
theorem dL_law_916 : decode code 916 = .ok (.invokevirtual 81, 3) := by decide +kernel
theorem dL_law_919 : decode code 919 = .ok (.iload 5, 2) := by decide +kernel
theorem dL_law_921 : decode code 921 = .ok (.if_icmp .eq (5), 3) := by decide +kernel
theorem dL_law_926 : decode code 926 = .ok (.iload 5, 2) := by decide +kernel
theorem dL_law_928 : decode code 928 = .ok (.ifCond .ne (14), 3) := by decide +kernel
theorem dL_law_942 : decode code 942 = .ok (.goto (763), 3) := by decide +kernel
theorem dL_law_945 : decode code 945 = .ok (.aload_n 1, 1) := by decide +kernel
theorem dL_law_946 : decode code 946 = .ok (.aload_n 0, 1) := by decide +kernel
theorem dL_law_947 : decode code 947 = .ok (.iload 4, 2) := by decide +kernel
theorem dL_law_949 : decode code 949 = .ok (.iconst 1, 1) := by decide +kernel
theorem dL_law_950 : decode code 950 = .ok (.iadd, 1) := by decide +kernel
theorem dL_law_951 : decode code 951 = .ok (.iaload, 1) := by decide +kernel
theorem dL_law_952 : decode code 952 = .ok (.i2l, 1) := by decide +kernel
theorem dL_law_953 : decode code 953 = .ok (.bipush 32, 2) := by decide +kernel
theorem dL_law_955 : decode code 955 = .ok (.lshl, 1) := by decide +kernel
theorem dL_law_956 : decode code 956 = .ok (.aload_n 0, 1) := by decide +kernel
theorem dL_law_957 : decode code 957 = .ok (.iload 4, 2) := by decide +kernel
theorem dL_law_959 : decode code 959 = .ok (.iconst 2, 1) := by decide +kernel
theorem dL_law_960 : decode code 960 = .ok (.iadd, 1) := by decide +kernel
theorem dL_law_961 : decode code 961 = .ok (.iaload, 1) := by decide +kernel
theorem dL_law_962 : decode code 962 = .ok (.i2l, 1) := by decide +kernel
theorem dL_law_963 : decode code 963 = .ok (.ldc2_w 75, 3) := by decide +kernel
theorem dL_law_966 : decode code 966 = .ok (.land, 1) := by decide +kernel
theorem dL_law_967 : decode code 967 = .ok (.lor, 1) := by decide +kernel
theorem dL_law_968 : decode code 968 = .ok (.aload_n 3, 1) := by decide +kernel
theorem dL_law_969 : decode code 969 = .ok (.invokestatic 109, 3) := by decide +kernel
theorem dL_law_972 : decode code 972 = .ok (.istore 5, 2) := by decide +kernel
theorem dL_law_974 : decode code 974 = .ok (.aload_n 2, 1) := by decide +kernel
theorem dL_law_975 : decode code 975 = .ok (.aload_n 0, 1) := by decide +kernel
theorem dL_law_976 : decode code 976 = .ok (.iload 4, 2) := by decide +kernel
theorem dL_law_978 : decode code 978 = .ok (.iconst 1, 1) := by decide +kernel
theorem dL_law_979 : decode code 979 = .ok (.iadd, 1) := by decide +kernel
theorem dL_law_980 : decode code 980 = .ok (.iaload, 1) := by decide +kernel
theorem dL_law_981 : decode code 981 = .ok (.i2l, 1) := by decide +kernel
theorem dL_law_982 : decode code 982 = .ok (.bipush 32, 2) := by decide +kernel
theorem dL_law_984 : decode code 984 = .ok (.lshl, 1) := by decide +kernel
theorem dL_law_985 : decode code 985 = .ok (.aload_n 0, 1) := by decide +kernel
theorem dL_law_986 : decode code 986 = .ok (.iload 4, 2) := by decide +kernel
theorem dL_law_988 : decode code 988 = .ok (.iconst 2, 1) := by decide +kernel
theorem dL_law_989 : decode code 989 = .ok (.iadd, 1) := by decide +kernel
theorem dL_law_990 : decode code 990 = .ok (.iaload, 1) := by decide +kernel
theorem dL_law_991 : decode code 991 = .ok (.i2l, 1) := by decide +kernel
theorem dL_law_992 : decode code 992 = .ok (.ldc2_w 75, 3) := by decide +kernel
theorem dL_law_995 : decode code 995 = .ok (.land, 1) := by decide +kernel
theorem dL_law_996 : decode code 996 = .ok (.lor, 1) := by decide +kernel
theorem dL_law_997 : decode code 997 = .ok (.invokevirtual 112, 3) := by decide +kernel
theorem dL_law_1000 : decode code 1000 = .ok (.istore 6, 2) := by decide +kernel
theorem dL_law_1002 : decode code 1002 = .ok (.aload_n 2, 1) := by decide +kernel
theorem dL_law_1003 : decode code 1003 = .ok (.invokevirtual 81, 3) := by decide +kernel
theorem dL_law_1006 : decode code 1006 = .ok (.iload 5, 2) := by decide +kernel
theorem dL_law_1008 : decode code 1008 = .ok (.if_icmp .eq (5), 3) := by decide +kernel
theorem dL_law_1013 : decode code 1013 = .ok (.iload 5, 2) := by decide +kernel
theorem dL_law_1015 : decode code 1015 = .ok (.ifCond .ne (15), 3) := by decide +kernel
theorem dL_law_1018 : decode code 1018 = .ok (.aload_n 3, 1) := by decide +kernel
theorem dL_law_1019 : decode code 1019 = .ok (.iconst 0, 1) := by decide +kernel
theorem dL_law_1020 : decode code 1020 = .ok (.laload, 1) := by decide +kernel
theorem dL_law_1021 : decode code 1021 = .ok (.iload 6, 2) := by decide +kernel
theorem dL_law_1023 : decode code 1023 = .ok (.i2l, 1) := by decide +kernel
theorem dL_law_1024 : decode code 1024 = .ok (.lcmp, 1) := by decide +kernel
theorem dL_law_1025 : decode code 1025 = .ok (.ifCond .eq (5), 3) := by decide +kernel
theorem dL_law_1030 : decode code 1030 = .ok (.goto (675), 3) := by decide +kernel
theorem dL_law_1033 : decode code 1033 = .ok (.aload_n 1, 1) := by decide +kernel
theorem dL_law_1034 : decode code 1034 = .ok (.invokevirtual 113, 3) := by decide +kernel
theorem dL_law_1037 : decode code 1037 = .ok (.aload_n 2, 1) := by decide +kernel
theorem dL_law_1038 : decode code 1038 = .ok (.invokevirtual 117, 3) := by decide +kernel
theorem dL_law_1041 : decode code 1041 = .ok (.lcmp, 1) := by decide +kernel
theorem dL_law_1042 : decode code 1042 = .ok (.ifCond .eq (663), 3) := by decide +kernel
theorem dL_law_1047 : decode code 1047 = .ok (.aload_n 1, 1) := by decide +kernel
theorem dL_law_1048 : decode code 1048 = .ok (.invokevirtual 118, 3) := by decide +kernel
theorem dL_law_1051 : decode code 1051 = .ok (.aload_n 2, 1) := by decide +kernel
theorem dL_law_1052 : decode code 1052 = .ok (.invokevirtual 121, 3) := by decide +kernel
theorem dL_law_1055 : decode code 1055 = .ok (.lcmp, 1) := by decide +kernel
theorem dL_law_1056 : decode code 1056 = .ok (.ifCond .eq (649), 3) := by decide +kernel
theorem dL_law_1061 : decode code 1061 = .ok (.aload_n 1, 1) := by decide +kernel
theorem dL_law_1062 : decode code 1062 = .ok (.aload_n 0, 1) := by decide +kernel
theorem dL_law_1063 : decode code 1063 = .ok (.iload 4, 2) := by decide +kernel
theorem dL_law_1065 : decode code 1065 = .ok (.iconst 1, 1) := by decide +kernel
theorem dL_law_1066 : decode code 1066 = .ok (.iadd, 1) := by decide +kernel
theorem dL_law_1067 : decode code 1067 = .ok (.iaload, 1) := by decide +kernel
theorem dL_law_1068 : decode code 1068 = .ok (.aload_n 0, 1) := by decide +kernel
theorem dL_law_1069 : decode code 1069 = .ok (.iload 4, 2) := by decide +kernel
end
section
theorem dL_law_1071 : decode code 1071 = .ok (.iconst 2, 1) := by decide +kernel
theorem dL_law_1072 : decode code 1072 = .ok (.iadd, 1) := by decide +kernel
theorem dL_law_1073 : decode code 1073 = .ok (.iaload, 1) := by decide +kernel
theorem dL_law_1074 : decode code 1074 = .ok (.aload_n 0, 1) := by decide +kernel
theorem dL_law_1075 : decode code 1075 = .ok (.iload 4, 2) := by decide +kernel
theorem dL_law_1077 : decode code 1077 = .ok (.iconst 3, 1) := by decide +kernel
theorem dL_law_1078 : decode code 1078 = .ok (.iadd, 1) := by decide +kernel
theorem dL_law_1079 : decode code 1079 = .ok (.iaload, 1) := by decide +kernel
theorem dL_law_1080 : decode code 1080 = .ok (.i2l, 1) := by decide +kernel
theorem dL_law_1081 : decode code 1081 = .ok (.bipush 32, 2) := by decide +kernel
theorem dL_law_1083 : decode code 1083 = .ok (.lshl, 1) := by decide +kernel
theorem dL_law_1084 : decode code 1084 = .ok (.aload_n 0, 1) := by decide +kernel
theorem dL_law_1085 : decode code 1085 = .ok (.iload 4, 2) := by decide +kernel
theorem dL_law_1087 : decode code 1087 = .ok (.iconst 4, 1) := by decide +kernel
theorem dL_law_1088 : decode code 1088 = .ok (.iadd, 1) := by decide +kernel
theorem dL_law_1089 : decode code 1089 = .ok (.iaload, 1) := by decide +kernel
theorem dL_law_1090 : decode code 1090 = .ok (.i2l, 1) := by decide +kernel
theorem dL_law_1091 : decode code 1091 = .ok (.ldc2_w 75, 3) := by decide +kernel
theorem dL_law_1094 : decode code 1094 = .ok (.land, 1) := by decide +kernel
theorem dL_law_1095 : decode code 1095 = .ok (.lor, 1) := by decide +kernel
theorem dL_law_1096 : decode code 1096 = .ok (.aload_n 3, 1) := by decide +kernel
theorem dL_law_1097 : decode code 1097 = .ok (.invokestatic 122, 3) := by decide +kernel
theorem dL_law_1100 : decode code 1100 = .ok (.istore 5, 2) := by decide +kernel
theorem dL_law_1102 : decode code 1102 = .ok (.aload_n 2, 1) := by decide +kernel
theorem dL_law_1103 : decode code 1103 = .ok (.aload_n 0, 1) := by decide +kernel
theorem dL_law_1104 : decode code 1104 = .ok (.iload 4, 2) := by decide +kernel
theorem dL_law_1106 : decode code 1106 = .ok (.iconst 1, 1) := by decide +kernel
theorem dL_law_1107 : decode code 1107 = .ok (.iadd, 1) := by decide +kernel
theorem dL_law_1108 : decode code 1108 = .ok (.iaload, 1) := by decide +kernel
theorem dL_law_1109 : decode code 1109 = .ok (.aload_n 0, 1) := by decide +kernel
theorem dL_law_1110 : decode code 1110 = .ok (.iload 4, 2) := by decide +kernel
theorem dL_law_1112 : decode code 1112 = .ok (.iconst 2, 1) := by decide +kernel
theorem dL_law_1113 : decode code 1113 = .ok (.iadd, 1) := by decide +kernel
theorem dL_law_1114 : decode code 1114 = .ok (.iaload, 1) := by decide +kernel
theorem dL_law_1115 : decode code 1115 = .ok (.aload_n 0, 1) := by decide +kernel
theorem dL_law_1116 : decode code 1116 = .ok (.iload 4, 2) := by decide +kernel
theorem dL_law_1118 : decode code 1118 = .ok (.iconst 3, 1) := by decide +kernel
theorem dL_law_1119 : decode code 1119 = .ok (.iadd, 1) := by decide +kernel
theorem dL_law_1120 : decode code 1120 = .ok (.iaload, 1) := by decide +kernel
theorem dL_law_1121 : decode code 1121 = .ok (.i2l, 1) := by decide +kernel
theorem dL_law_1122 : decode code 1122 = .ok (.bipush 32, 2) := by decide +kernel
theorem dL_law_1124 : decode code 1124 = .ok (.lshl, 1) := by decide +kernel
theorem dL_law_1125 : decode code 1125 = .ok (.aload_n 0, 1) := by decide +kernel
theorem dL_law_1126 : decode code 1126 = .ok (.iload 4, 2) := by decide +kernel
theorem dL_law_1128 : decode code 1128 = .ok (.iconst 4, 1) := by decide +kernel
theorem dL_law_1129 : decode code 1129 = .ok (.iadd, 1) := by decide +kernel
theorem dL_law_1130 : decode code 1130 = .ok (.iaload, 1) := by decide +kernel
theorem dL_law_1131 : decode code 1131 = .ok (.i2l, 1) := by decide +kernel
theorem dL_law_1132 : decode code 1132 = .ok (.ldc2_w 75, 3) := by decide +kernel
theorem dL_law_1135 : decode code 1135 = .ok (.land, 1) := by decide +kernel
theorem dL_law_1136 : decode code 1136 = .ok (.lor, 1) := by decide +kernel
theorem dL_law_1137 : decode code 1137 = .ok (.invokevirtual 125, 3) := by decide +kernel
theorem dL_law_1140 : decode code 1140 = .ok (.istore 6, 2) := by decide +kernel
theorem dL_law_1142 : decode code 1142 = .ok (.aload_n 2, 1) := by decide +kernel
theorem dL_law_1143 : decode code 1143 = .ok (.invokevirtual 81, 3) := by decide +kernel
theorem dL_law_1146 : decode code 1146 = .ok (.iload 5, 2) := by decide +kernel
theorem dL_law_1148 : decode code 1148 = .ok (.if_icmp .eq (5), 3) := by decide +kernel
theorem dL_law_1153 : decode code 1153 = .ok (.iload 5, 2) := by decide +kernel
theorem dL_law_1155 : decode code 1155 = .ok (.ifCond .ne (22), 3) := by decide +kernel
theorem dL_law_1177 : decode code 1177 = .ok (.goto (528), 3) := by decide +kernel
theorem dL_law_1180 : decode code 1180 = .ok (.aload_n 1, 1) := by decide +kernel
theorem dL_law_1181 : decode code 1181 = .ok (.aload_n 0, 1) := by decide +kernel
theorem dL_law_1182 : decode code 1182 = .ok (.iload 4, 2) := by decide +kernel
theorem dL_law_1184 : decode code 1184 = .ok (.iconst 1, 1) := by decide +kernel
theorem dL_law_1185 : decode code 1185 = .ok (.iadd, 1) := by decide +kernel
theorem dL_law_1186 : decode code 1186 = .ok (.iaload, 1) := by decide +kernel
theorem dL_law_1187 : decode code 1187 = .ok (.aload_n 0, 1) := by decide +kernel
theorem dL_law_1188 : decode code 1188 = .ok (.iload 4, 2) := by decide +kernel
theorem dL_law_1190 : decode code 1190 = .ok (.iconst 2, 1) := by decide +kernel
theorem dL_law_1191 : decode code 1191 = .ok (.iadd, 1) := by decide +kernel
theorem dL_law_1192 : decode code 1192 = .ok (.iaload, 1) := by decide +kernel
theorem dL_law_1193 : decode code 1193 = .ok (.aload_n 3, 1) := by decide +kernel
theorem dL_law_1194 : decode code 1194 = .ok (.invokestatic 126, 3) := by decide +kernel
theorem dL_law_1197 : decode code 1197 = .ok (.istore 5, 2) := by decide +kernel
theorem dL_law_1199 : decode code 1199 = .ok (.aload_n 2, 1) := by decide +kernel
theorem dL_law_1200 : decode code 1200 = .ok (.aload_n 0, 1) := by decide +kernel
theorem dL_law_1201 : decode code 1201 = .ok (.iload 4, 2) := by decide +kernel
theorem dL_law_1203 : decode code 1203 = .ok (.iconst 1, 1) := by decide +kernel
theorem dL_law_1204 : decode code 1204 = .ok (.iadd, 1) := by decide +kernel
theorem dL_law_1205 : decode code 1205 = .ok (.iaload, 1) := by decide +kernel
theorem dL_law_1206 : decode code 1206 = .ok (.aload_n 0, 1) := by decide +kernel
theorem dL_law_1207 : decode code 1207 = .ok (.iload 4, 2) := by decide +kernel
theorem dL_law_1209 : decode code 1209 = .ok (.iconst 2, 1) := by decide +kernel
theorem dL_law_1210 : decode code 1210 = .ok (.iadd, 1) := by decide +kernel
theorem dL_law_1211 : decode code 1211 = .ok (.iaload, 1) := by decide +kernel
theorem dL_law_1212 : decode code 1212 = .ok (.invokevirtual 128, 3) := by decide +kernel
theorem dL_law_1215 : decode code 1215 = .ok (.istore 6, 2) := by decide +kernel
theorem dL_law_1217 : decode code 1217 = .ok (.aload_n 2, 1) := by decide +kernel
theorem dL_law_1218 : decode code 1218 = .ok (.invokevirtual 81, 3) := by decide +kernel
theorem dL_law_1221 : decode code 1221 = .ok (.iload 5, 2) := by decide +kernel
theorem dL_law_1223 : decode code 1223 = .ok (.if_icmp .eq (5), 3) := by decide +kernel
theorem dL_law_1228 : decode code 1228 = .ok (.iload 5, 2) := by decide +kernel
theorem dL_law_1230 : decode code 1230 = .ok (.ifCond .ne (15), 3) := by decide +kernel
theorem dL_law_1245 : decode code 1245 = .ok (.goto (460), 3) := by decide +kernel
theorem dL_law_1248 : decode code 1248 = .ok (.aload_n 1, 1) := by decide +kernel
theorem dL_law_1249 : decode code 1249 = .ok (.aload_n 0, 1) := by decide +kernel
theorem dL_law_1250 : decode code 1250 = .ok (.iload 4, 2) := by decide +kernel
theorem dL_law_1252 : decode code 1252 = .ok (.iconst 1, 1) := by decide +kernel
theorem dL_law_1253 : decode code 1253 = .ok (.iadd, 1) := by decide +kernel
theorem dL_law_1254 : decode code 1254 = .ok (.iaload, 1) := by decide +kernel
end
section
theorem dL_law_1255 : decode code 1255 = .ok (.aload_n 0, 1) := by decide +kernel
theorem dL_law_1256 : decode code 1256 = .ok (.iload 4, 2) := by decide +kernel
theorem dL_law_1258 : decode code 1258 = .ok (.iconst 2, 1) := by decide +kernel
theorem dL_law_1259 : decode code 1259 = .ok (.iadd, 1) := by decide +kernel
theorem dL_law_1260 : decode code 1260 = .ok (.iaload, 1) := by decide +kernel
theorem dL_law_1261 : decode code 1261 = .ok (.i2l, 1) := by decide +kernel
theorem dL_law_1262 : decode code 1262 = .ok (.bipush 32, 2) := by decide +kernel
theorem dL_law_1264 : decode code 1264 = .ok (.lshl, 1) := by decide +kernel
theorem dL_law_1265 : decode code 1265 = .ok (.aload_n 0, 1) := by decide +kernel
theorem dL_law_1266 : decode code 1266 = .ok (.iload 4, 2) := by decide +kernel
theorem dL_law_1268 : decode code 1268 = .ok (.iconst 3, 1) := by decide +kernel
theorem dL_law_1269 : decode code 1269 = .ok (.iadd, 1) := by decide +kernel
theorem dL_law_1270 : decode code 1270 = .ok (.iaload, 1) := by decide +kernel
theorem dL_law_1271 : decode code 1271 = .ok (.i2l, 1) := by decide +kernel
theorem dL_law_1272 : decode code 1272 = .ok (.ldc2_w 75, 3) := by decide +kernel
theorem dL_law_1275 : decode code 1275 = .ok (.land, 1) := by decide +kernel
theorem dL_law_1276 : decode code 1276 = .ok (.lor, 1) := by decide +kernel
theorem dL_law_1277 : decode code 1277 = .ok (.aload_n 3, 1) := by decide +kernel
theorem dL_law_1278 : decode code 1278 = .ok (.invokestatic 129, 3) := by decide +kernel
theorem dL_law_1281 : decode code 1281 = .ok (.istore 5, 2) := by decide +kernel
theorem dL_law_1283 : decode code 1283 = .ok (.aload_n 2, 1) := by decide +kernel
theorem dL_law_1284 : decode code 1284 = .ok (.aload_n 0, 1) := by decide +kernel
theorem dL_law_1285 : decode code 1285 = .ok (.iload 4, 2) := by decide +kernel
theorem dL_law_1287 : decode code 1287 = .ok (.iconst 1, 1) := by decide +kernel
theorem dL_law_1288 : decode code 1288 = .ok (.iadd, 1) := by decide +kernel
theorem dL_law_1289 : decode code 1289 = .ok (.iaload, 1) := by decide +kernel
theorem dL_law_1290 : decode code 1290 = .ok (.aload_n 0, 1) := by decide +kernel
theorem dL_law_1291 : decode code 1291 = .ok (.iload 4, 2) := by decide +kernel
theorem dL_law_1293 : decode code 1293 = .ok (.iconst 2, 1) := by decide +kernel
theorem dL_law_1294 : decode code 1294 = .ok (.iadd, 1) := by decide +kernel
theorem dL_law_1295 : decode code 1295 = .ok (.iaload, 1) := by decide +kernel
theorem dL_law_1296 : decode code 1296 = .ok (.i2l, 1) := by decide +kernel
theorem dL_law_1297 : decode code 1297 = .ok (.bipush 32, 2) := by decide +kernel
theorem dL_law_1299 : decode code 1299 = .ok (.lshl, 1) := by decide +kernel
theorem dL_law_1300 : decode code 1300 = .ok (.aload_n 0, 1) := by decide +kernel
theorem dL_law_1301 : decode code 1301 = .ok (.iload 4, 2) := by decide +kernel
theorem dL_law_1303 : decode code 1303 = .ok (.iconst 3, 1) := by decide +kernel
theorem dL_law_1304 : decode code 1304 = .ok (.iadd, 1) := by decide +kernel
theorem dL_law_1305 : decode code 1305 = .ok (.iaload, 1) := by decide +kernel
theorem dL_law_1306 : decode code 1306 = .ok (.i2l, 1) := by decide +kernel
theorem dL_law_1307 : decode code 1307 = .ok (.ldc2_w 75, 3) := by decide +kernel
theorem dL_law_1310 : decode code 1310 = .ok (.land, 1) := by decide +kernel
theorem dL_law_1311 : decode code 1311 = .ok (.lor, 1) := by decide +kernel
theorem dL_law_1312 : decode code 1312 = .ok (.invokevirtual 132, 3) := by decide +kernel
theorem dL_law_1315 : decode code 1315 = .ok (.istore 6, 2) := by decide +kernel
theorem dL_law_1317 : decode code 1317 = .ok (.aload_n 2, 1) := by decide +kernel
theorem dL_law_1318 : decode code 1318 = .ok (.invokevirtual 81, 3) := by decide +kernel
theorem dL_law_1321 : decode code 1321 = .ok (.iload 5, 2) := by decide +kernel
theorem dL_law_1323 : decode code 1323 = .ok (.if_icmp .eq (5), 3) := by decide +kernel
theorem dL_law_1328 : decode code 1328 = .ok (.iload 5, 2) := by decide +kernel
theorem dL_law_1330 : decode code 1330 = .ok (.ifCond .ne (22), 3) := by decide +kernel
theorem dL_law_1352 : decode code 1352 = .ok (.goto (353), 3) := by decide +kernel
theorem dL_law_1355 : decode code 1355 = .ok (.aload_n 1, 1) := by decide +kernel
theorem dL_law_1356 : decode code 1356 = .ok (.aload_n 0, 1) := by decide +kernel
theorem dL_law_1357 : decode code 1357 = .ok (.iload 4, 2) := by decide +kernel
theorem dL_law_1359 : decode code 1359 = .ok (.iconst 1, 1) := by decide +kernel
theorem dL_law_1360 : decode code 1360 = .ok (.iadd, 1) := by decide +kernel
theorem dL_law_1361 : decode code 1361 = .ok (.iaload, 1) := by decide +kernel
theorem dL_law_1362 : decode code 1362 = .ok (.i2l, 1) := by decide +kernel
theorem dL_law_1363 : decode code 1363 = .ok (.bipush 32, 2) := by decide +kernel
theorem dL_law_1365 : decode code 1365 = .ok (.lshl, 1) := by decide +kernel
theorem dL_law_1366 : decode code 1366 = .ok (.aload_n 0, 1) := by decide +kernel
theorem dL_law_1367 : decode code 1367 = .ok (.iload 4, 2) := by decide +kernel
theorem dL_law_1369 : decode code 1369 = .ok (.iconst 2, 1) := by decide +kernel
theorem dL_law_1370 : decode code 1370 = .ok (.iadd, 1) := by decide +kernel
theorem dL_law_1371 : decode code 1371 = .ok (.iaload, 1) := by decide +kernel
theorem dL_law_1372 : decode code 1372 = .ok (.i2l, 1) := by decide +kernel
theorem dL_law_1373 : decode code 1373 = .ok (.ldc2_w 75, 3) := by decide +kernel
theorem dL_law_1376 : decode code 1376 = .ok (.land, 1) := by decide +kernel
theorem dL_law_1377 : decode code 1377 = .ok (.lor, 1) := by decide +kernel
theorem dL_law_1378 : decode code 1378 = .ok (.aload_n 0, 1) := by decide +kernel
theorem dL_law_1379 : decode code 1379 = .ok (.iload 4, 2) := by decide +kernel
theorem dL_law_1381 : decode code 1381 = .ok (.iconst 3, 1) := by decide +kernel
theorem dL_law_1382 : decode code 1382 = .ok (.iadd, 1) := by decide +kernel
theorem dL_law_1383 : decode code 1383 = .ok (.iaload, 1) := by decide +kernel
theorem dL_law_1384 : decode code 1384 = .ok (.i2l, 1) := by decide +kernel
theorem dL_law_1385 : decode code 1385 = .ok (.bipush 32, 2) := by decide +kernel
theorem dL_law_1387 : decode code 1387 = .ok (.lshl, 1) := by decide +kernel
theorem dL_law_1388 : decode code 1388 = .ok (.aload_n 0, 1) := by decide +kernel
theorem dL_law_1389 : decode code 1389 = .ok (.iload 4, 2) := by decide +kernel
theorem dL_law_1391 : decode code 1391 = .ok (.iconst 4, 1) := by decide +kernel
theorem dL_law_1392 : decode code 1392 = .ok (.iadd, 1) := by decide +kernel
theorem dL_law_1393 : decode code 1393 = .ok (.iaload, 1) := by decide +kernel
theorem dL_law_1394 : decode code 1394 = .ok (.i2l, 1) := by decide +kernel
theorem dL_law_1395 : decode code 1395 = .ok (.ldc2_w 75, 3) := by decide +kernel
theorem dL_law_1398 : decode code 1398 = .ok (.land, 1) := by decide +kernel
theorem dL_law_1399 : decode code 1399 = .ok (.lor, 1) := by decide +kernel
theorem dL_law_1400 : decode code 1400 = .ok (.aload_n 0, 1) := by decide +kernel
theorem dL_law_1401 : decode code 1401 = .ok (.iload 4, 2) := by decide +kernel
theorem dL_law_1403 : decode code 1403 = .ok (.iconst 5, 1) := by decide +kernel
theorem dL_law_1404 : decode code 1404 = .ok (.iadd, 1) := by decide +kernel
theorem dL_law_1405 : decode code 1405 = .ok (.iaload, 1) := by decide +kernel
theorem dL_law_1406 : decode code 1406 = .ok (.i2l, 1) := by decide +kernel
theorem dL_law_1407 : decode code 1407 = .ok (.bipush 32, 2) := by decide +kernel
theorem dL_law_1409 : decode code 1409 = .ok (.lshl, 1) := by decide +kernel
theorem dL_law_1410 : decode code 1410 = .ok (.aload_n 0, 1) := by decide +kernel
theorem dL_law_1411 : decode code 1411 = .ok (.iload 4, 2) := by decide +kernel
theorem dL_law_1413 : decode code 1413 = .ok (.bipush 6, 2) := by decide +kernel
theorem dL_law_1415 : decode code 1415 = .ok (.iadd, 1) := by decide +kernel
theorem dL_law_1416 : decode code 1416 = .ok (.iaload, 1) := by decide +kernel
end
section
theorem dL_law_1417 : decode code 1417 = .ok (.i2l, 1) := by decide +kernel
theorem dL_law_1418 : decode code 1418 = .ok (.ldc2_w 75, 3) := by decide +kernel
theorem dL_law_1421 : decode code 1421 = .ok (.land, 1) := by decide +kernel
theorem dL_law_1422 : decode code 1422 = .ok (.lor, 1) := by decide +kernel
theorem dL_law_1423 : decode code 1423 = .ok (.aload_n 0, 1) := by decide +kernel
theorem dL_law_1424 : decode code 1424 = .ok (.iload 4, 2) := by decide +kernel
theorem dL_law_1426 : decode code 1426 = .ok (.bipush 7, 2) := by decide +kernel
theorem dL_law_1428 : decode code 1428 = .ok (.iadd, 1) := by decide +kernel
theorem dL_law_1429 : decode code 1429 = .ok (.iaload, 1) := by decide +kernel
theorem dL_law_1430 : decode code 1430 = .ok (.i2l, 1) := by decide +kernel
theorem dL_law_1431 : decode code 1431 = .ok (.bipush 32, 2) := by decide +kernel
theorem dL_law_1433 : decode code 1433 = .ok (.lshl, 1) := by decide +kernel
theorem dL_law_1434 : decode code 1434 = .ok (.aload_n 0, 1) := by decide +kernel
theorem dL_law_1435 : decode code 1435 = .ok (.iload 4, 2) := by decide +kernel
theorem dL_law_1437 : decode code 1437 = .ok (.bipush 8, 2) := by decide +kernel
theorem dL_law_1439 : decode code 1439 = .ok (.iadd, 1) := by decide +kernel
theorem dL_law_1440 : decode code 1440 = .ok (.iaload, 1) := by decide +kernel
theorem dL_law_1441 : decode code 1441 = .ok (.i2l, 1) := by decide +kernel
theorem dL_law_1442 : decode code 1442 = .ok (.ldc2_w 75, 3) := by decide +kernel
theorem dL_law_1445 : decode code 1445 = .ok (.land, 1) := by decide +kernel
theorem dL_law_1446 : decode code 1446 = .ok (.lor, 1) := by decide +kernel
theorem dL_law_1447 : decode code 1447 = .ok (.aload_n 0, 1) := by decide +kernel
theorem dL_law_1448 : decode code 1448 = .ok (.iload 4, 2) := by decide +kernel
theorem dL_law_1450 : decode code 1450 = .ok (.bipush 9, 2) := by decide +kernel
theorem dL_law_1452 : decode code 1452 = .ok (.iadd, 1) := by decide +kernel
theorem dL_law_1453 : decode code 1453 = .ok (.iaload, 1) := by decide +kernel
theorem dL_law_1454 : decode code 1454 = .ok (.i2l, 1) := by decide +kernel
theorem dL_law_1455 : decode code 1455 = .ok (.bipush 32, 2) := by decide +kernel
theorem dL_law_1457 : decode code 1457 = .ok (.lshl, 1) := by decide +kernel
theorem dL_law_1458 : decode code 1458 = .ok (.aload_n 0, 1) := by decide +kernel
theorem dL_law_1459 : decode code 1459 = .ok (.iload 4, 2) := by decide +kernel
theorem dL_law_1461 : decode code 1461 = .ok (.bipush 10, 2) := by decide +kernel
theorem dL_law_1463 : decode code 1463 = .ok (.iadd, 1) := by decide +kernel
theorem dL_law_1464 : decode code 1464 = .ok (.iaload, 1) := by decide +kernel
theorem dL_law_1465 : decode code 1465 = .ok (.i2l, 1) := by decide +kernel
theorem dL_law_1466 : decode code 1466 = .ok (.ldc2_w 75, 3) := by decide +kernel
theorem dL_law_1469 : decode code 1469 = .ok (.land, 1) := by decide +kernel
theorem dL_law_1470 : decode code 1470 = .ok (.lor, 1) := by decide +kernel
theorem dL_law_1471 : decode code 1471 = .ok (.aload_n 3, 1) := by decide +kernel
theorem dL_law_1472 : decode code 1472 = .ok (.invokestatic 133, 3) := by decide +kernel
theorem dL_law_1475 : decode code 1475 = .ok (.istore 5, 2) := by decide +kernel
theorem dL_law_1477 : decode code 1477 = .ok (.aload_n 2, 1) := by decide +kernel
theorem dL_law_1478 : decode code 1478 = .ok (.aload_n 0, 1) := by decide +kernel
theorem dL_law_1479 : decode code 1479 = .ok (.iload 4, 2) := by decide +kernel
theorem dL_law_1481 : decode code 1481 = .ok (.iconst 1, 1) := by decide +kernel
theorem dL_law_1482 : decode code 1482 = .ok (.iadd, 1) := by decide +kernel
theorem dL_law_1483 : decode code 1483 = .ok (.iaload, 1) := by decide +kernel
theorem dL_law_1484 : decode code 1484 = .ok (.i2l, 1) := by decide +kernel
theorem dL_law_1485 : decode code 1485 = .ok (.bipush 32, 2) := by decide +kernel
theorem dL_law_1487 : decode code 1487 = .ok (.lshl, 1) := by decide +kernel
theorem dL_law_1488 : decode code 1488 = .ok (.aload_n 0, 1) := by decide +kernel
theorem dL_law_1489 : decode code 1489 = .ok (.iload 4, 2) := by decide +kernel
theorem dL_law_1491 : decode code 1491 = .ok (.iconst 2, 1) := by decide +kernel
theorem dL_law_1492 : decode code 1492 = .ok (.iadd, 1) := by decide +kernel
theorem dL_law_1493 : decode code 1493 = .ok (.iaload, 1) := by decide +kernel
theorem dL_law_1494 : decode code 1494 = .ok (.i2l, 1) := by decide +kernel
theorem dL_law_1495 : decode code 1495 = .ok (.ldc2_w 75, 3) := by decide +kernel
theorem dL_law_1498 : decode code 1498 = .ok (.land, 1) := by decide +kernel
theorem dL_law_1499 : decode code 1499 = .ok (.lor, 1) := by decide +kernel
theorem dL_law_1500 : decode code 1500 = .ok (.aload_n 0, 1) := by decide +kernel
theorem dL_law_1501 : decode code 1501 = .ok (.iload 4, 2) := by decide +kernel
theorem dL_law_1503 : decode code 1503 = .ok (.iconst 3, 1) := by decide +kernel
theorem dL_law_1504 : decode code 1504 = .ok (.iadd, 1) := by decide +kernel
theorem dL_law_1505 : decode code 1505 = .ok (.iaload, 1) := by decide +kernel
theorem dL_law_1506 : decode code 1506 = .ok (.i2l, 1) := by decide +kernel
theorem dL_law_1507 : decode code 1507 = .ok (.bipush 32, 2) := by decide +kernel
theorem dL_law_1509 : decode code 1509 = .ok (.lshl, 1) := by decide +kernel
theorem dL_law_1510 : decode code 1510 = .ok (.aload_n 0, 1) := by decide +kernel
theorem dL_law_1511 : decode code 1511 = .ok (.iload 4, 2) := by decide +kernel
theorem dL_law_1513 : decode code 1513 = .ok (.iconst 4, 1) := by decide +kernel
theorem dL_law_1514 : decode code 1514 = .ok (.iadd, 1) := by decide +kernel
theorem dL_law_1515 : decode code 1515 = .ok (.iaload, 1) := by decide +kernel
theorem dL_law_1516 : decode code 1516 = .ok (.i2l, 1) := by decide +kernel
theorem dL_law_1517 : decode code 1517 = .ok (.ldc2_w 75, 3) := by decide +kernel
theorem dL_law_1520 : decode code 1520 = .ok (.land, 1) := by decide +kernel
theorem dL_law_1521 : decode code 1521 = .ok (.lor, 1) := by decide +kernel
theorem dL_law_1522 : decode code 1522 = .ok (.aload_n 0, 1) := by decide +kernel
theorem dL_law_1523 : decode code 1523 = .ok (.iload 4, 2) := by decide +kernel
theorem dL_law_1525 : decode code 1525 = .ok (.iconst 5, 1) := by decide +kernel
theorem dL_law_1526 : decode code 1526 = .ok (.iadd, 1) := by decide +kernel
theorem dL_law_1527 : decode code 1527 = .ok (.iaload, 1) := by decide +kernel
theorem dL_law_1528 : decode code 1528 = .ok (.i2l, 1) := by decide +kernel
theorem dL_law_1529 : decode code 1529 = .ok (.bipush 32, 2) := by decide +kernel
theorem dL_law_1531 : decode code 1531 = .ok (.lshl, 1) := by decide +kernel
theorem dL_law_1532 : decode code 1532 = .ok (.aload_n 0, 1) := by decide +kernel
theorem dL_law_1533 : decode code 1533 = .ok (.iload 4, 2) := by decide +kernel
theorem dL_law_1535 : decode code 1535 = .ok (.bipush 6, 2) := by decide +kernel
theorem dL_law_1537 : decode code 1537 = .ok (.iadd, 1) := by decide +kernel
theorem dL_law_1538 : decode code 1538 = .ok (.iaload, 1) := by decide +kernel
theorem dL_law_1539 : decode code 1539 = .ok (.i2l, 1) := by decide +kernel
theorem dL_law_1540 : decode code 1540 = .ok (.ldc2_w 75, 3) := by decide +kernel
theorem dL_law_1543 : decode code 1543 = .ok (.land, 1) := by decide +kernel
theorem dL_law_1544 : decode code 1544 = .ok (.lor, 1) := by decide +kernel
theorem dL_law_1545 : decode code 1545 = .ok (.aload_n 0, 1) := by decide +kernel
theorem dL_law_1546 : decode code 1546 = .ok (.iload 4, 2) := by decide +kernel
theorem dL_law_1548 : decode code 1548 = .ok (.bipush 7, 2) := by decide +kernel
theorem dL_law_1550 : decode code 1550 = .ok (.iadd, 1) := by decide +kernel
theorem dL_law_1551 : decode code 1551 = .ok (.iaload, 1) := by decide +kernel
theorem dL_law_1552 : decode code 1552 = .ok (.i2l, 1) := by decide +kernel
theorem dL_law_1553 : decode code 1553 = .ok (.bipush 32, 2) := by decide +kernel
end
section
theorem dL_law_1555 : decode code 1555 = .ok (.lshl, 1) := by decide +kernel
theorem dL_law_1556 : decode code 1556 = .ok (.aload_n 0, 1) := by decide +kernel
theorem dL_law_1557 : decode code 1557 = .ok (.iload 4, 2) := by decide +kernel
theorem dL_law_1559 : decode code 1559 = .ok (.bipush 8, 2) := by decide +kernel
theorem dL_law_1561 : decode code 1561 = .ok (.iadd, 1) := by decide +kernel
theorem dL_law_1562 : decode code 1562 = .ok (.iaload, 1) := by decide +kernel
theorem dL_law_1563 : decode code 1563 = .ok (.i2l, 1) := by decide +kernel
theorem dL_law_1564 : decode code 1564 = .ok (.ldc2_w 75, 3) := by decide +kernel
theorem dL_law_1567 : decode code 1567 = .ok (.land, 1) := by decide +kernel
theorem dL_law_1568 : decode code 1568 = .ok (.lor, 1) := by decide +kernel
theorem dL_law_1569 : decode code 1569 = .ok (.aload_n 0, 1) := by decide +kernel
theorem dL_law_1570 : decode code 1570 = .ok (.iload 4, 2) := by decide +kernel
theorem dL_law_1572 : decode code 1572 = .ok (.bipush 9, 2) := by decide +kernel
theorem dL_law_1574 : decode code 1574 = .ok (.iadd, 1) := by decide +kernel
theorem dL_law_1575 : decode code 1575 = .ok (.iaload, 1) := by decide +kernel
theorem dL_law_1576 : decode code 1576 = .ok (.i2l, 1) := by decide +kernel
theorem dL_law_1577 : decode code 1577 = .ok (.bipush 32, 2) := by decide +kernel
theorem dL_law_1579 : decode code 1579 = .ok (.lshl, 1) := by decide +kernel
theorem dL_law_1580 : decode code 1580 = .ok (.aload_n 0, 1) := by decide +kernel
theorem dL_law_1581 : decode code 1581 = .ok (.iload 4, 2) := by decide +kernel
theorem dL_law_1583 : decode code 1583 = .ok (.bipush 10, 2) := by decide +kernel
theorem dL_law_1585 : decode code 1585 = .ok (.iadd, 1) := by decide +kernel
theorem dL_law_1586 : decode code 1586 = .ok (.iaload, 1) := by decide +kernel
theorem dL_law_1587 : decode code 1587 = .ok (.i2l, 1) := by decide +kernel
theorem dL_law_1588 : decode code 1588 = .ok (.ldc2_w 75, 3) := by decide +kernel
theorem dL_law_1591 : decode code 1591 = .ok (.land, 1) := by decide +kernel
theorem dL_law_1592 : decode code 1592 = .ok (.lor, 1) := by decide +kernel
theorem dL_law_1593 : decode code 1593 = .ok (.invokevirtual 136, 3) := by decide +kernel
theorem dL_law_1596 : decode code 1596 = .ok (.istore 6, 2) := by decide +kernel
theorem dL_law_1598 : decode code 1598 = .ok (.aload_n 2, 1) := by decide +kernel
theorem dL_law_1599 : decode code 1599 = .ok (.invokevirtual 81, 3) := by decide +kernel
theorem dL_law_1602 : decode code 1602 = .ok (.iload 5, 2) := by decide +kernel
theorem dL_law_1604 : decode code 1604 = .ok (.if_icmp .eq (5), 3) := by decide +kernel
theorem dL_law_1609 : decode code 1609 = .ok (.iload 5, 2) := by decide +kernel
theorem dL_law_1611 : decode code 1611 = .ok (.ifCond .ne (22), 3) := by decide +kernel
theorem dL_law_1614 : decode code 1614 = .ok (.aload_n 3, 1) := by decide +kernel
theorem dL_law_1615 : decode code 1615 = .ok (.iconst 0, 1) := by decide +kernel
theorem dL_law_1616 : decode code 1616 = .ok (.laload, 1) := by decide +kernel
theorem dL_law_1617 : decode code 1617 = .ok (.iload 6, 2) := by decide +kernel
theorem dL_law_1619 : decode code 1619 = .ok (.ifCond .eq (7), 3) := by decide +kernel
theorem dL_law_1622 : decode code 1622 = .ok (.lconst 1, 1) := by decide +kernel
theorem dL_law_1623 : decode code 1623 = .ok (.goto (4), 3) := by decide +kernel
theorem dL_law_1626 : decode code 1626 = .ok (.lconst 0, 1) := by decide +kernel
theorem dL_law_1627 : decode code 1627 = .ok (.lcmp, 1) := by decide +kernel
theorem dL_law_1628 : decode code 1628 = .ok (.ifCond .eq (5), 3) := by decide +kernel
theorem dL_law_1633 : decode code 1633 = .ok (.goto (72), 3) := by decide +kernel
theorem dL_law_1636 : decode code 1636 = .ok (.aload_n 1, 1) := by decide +kernel
theorem dL_law_1637 : decode code 1637 = .ok (.invokevirtual 137, 3) := by decide +kernel
theorem dL_law_1640 : decode code 1640 = .ok (.aload_n 2, 1) := by decide +kernel
theorem dL_law_1641 : decode code 1641 = .ok (.invokevirtual 141, 3) := by decide +kernel
theorem dL_law_1644 : decode code 1644 = .ok (.if_icmp .eq (61), 3) := by decide +kernel
theorem dL_law_1649 : decode code 1649 = .ok (.aload_n 1, 1) := by decide +kernel
theorem dL_law_1650 : decode code 1650 = .ok (.aload_n 0, 1) := by decide +kernel
theorem dL_law_1651 : decode code 1651 = .ok (.iload 4, 2) := by decide +kernel
theorem dL_law_1653 : decode code 1653 = .ok (.iconst 1, 1) := by decide +kernel
theorem dL_law_1654 : decode code 1654 = .ok (.iadd, 1) := by decide +kernel
theorem dL_law_1655 : decode code 1655 = .ok (.iaload, 1) := by decide +kernel
theorem dL_law_1656 : decode code 1656 = .ok (.aload_n 3, 1) := by decide +kernel
theorem dL_law_1657 : decode code 1657 = .ok (.invokestatic 142, 3) := by decide +kernel
theorem dL_law_1660 : decode code 1660 = .ok (.istore 5, 2) := by decide +kernel
theorem dL_law_1662 : decode code 1662 = .ok (.aload_n 2, 1) := by decide +kernel
theorem dL_law_1663 : decode code 1663 = .ok (.aload_n 0, 1) := by decide +kernel
theorem dL_law_1664 : decode code 1664 = .ok (.iload 4, 2) := by decide +kernel
theorem dL_law_1666 : decode code 1666 = .ok (.iconst 1, 1) := by decide +kernel
theorem dL_law_1667 : decode code 1667 = .ok (.iadd, 1) := by decide +kernel
theorem dL_law_1668 : decode code 1668 = .ok (.iaload, 1) := by decide +kernel
theorem dL_law_1669 : decode code 1669 = .ok (.invokevirtual 145, 3) := by decide +kernel
theorem dL_law_1672 : decode code 1672 = .ok (.istore 6, 2) := by decide +kernel
theorem dL_law_1674 : decode code 1674 = .ok (.aload_n 2, 1) := by decide +kernel
theorem dL_law_1675 : decode code 1675 = .ok (.invokevirtual 81, 3) := by decide +kernel
theorem dL_law_1678 : decode code 1678 = .ok (.iload 5, 2) := by decide +kernel
theorem dL_law_1680 : decode code 1680 = .ok (.if_icmp .eq (5), 3) := by decide +kernel
theorem dL_law_1685 : decode code 1685 = .ok (.iload 5, 2) := by decide +kernel
theorem dL_law_1687 : decode code 1687 = .ok (.ifCond .ne (15), 3) := by decide +kernel
theorem dL_law_1702 : decode code 1702 = .ok (.goto (3), 3) := by decide +kernel
theorem dL_law_1705 : decode code 1705 = .ok (.iinc 4 11, 3) := by decide +kernel
theorem dL_law_1708 : decode code 1708 = .ok (.goto (-1649), 3) := by decide +kernel
theorem dL_law_1711 : decode code 1711 = .ok (.iconst 1, 1) := by decide +kernel
theorem dL_law_1712 : decode code 1712 = .ok (.ireturn, 1) := by decide +kernel
end
section
-- what a thrower of BoardMoves needs of the tables and of the heap
def bxUp : List String := ["java/lang/RuntimeException", "java/lang/Exception"]
def xW : List Cond := Bundle.ownAtoms RX4 79 "java/lang/IllegalArgumentException" bxUp ++ Bundle.ownAtoms RX4 147 "java/lang/IndexOutOfBoundsException" bxUp
theorem bx_in_79 : ∀ w ∈ Bundle.ownAtoms RX4 79 "java/lang/IllegalArgumentException" bxUp, w ∈ xW := fun w h => List.mem_append_left _ h
theorem bx_in_147 : ∀ w ∈ Bundle.ownAtoms RX4 147 "java/lang/IndexOutOfBoundsException" bxUp, w ∈ xW := fun w h => List.mem_append_right _ h
theorem xW_ok : bx_ok xW = true := by decide +kernel
def xS : List (Nat × String) := [(77, "a part is 1 .. 65,536 wide and high, on side 0 or 1"), (90, "a turn is 0 .. 3"), (145, "no such net"), (154, "a pin lies in its part"), (166, "the part is not placed"), (191, "what is 0 .. 6"), (195, "steps are 0 .. 2,000"), (205, "a gap is not below 0"), (218, "a height is 0 .. 65,536"), (223, "a height is not below 0"), (238, "no such part")]
def bx_Tp (D : va_G) (cl : List vw_C) (tys : List (ClassId × FieldType)) (ws : va_W) (av : List Value) : Array Value → State → Prop := fun v U => v = av.toArray ∧ va_P D cl ws U.heap ∧ va_K D cl tys U ∧ bx_X xW U ∧ bx_S RX4 xS U
def bx_Hp (D : va_G) (cl : List vw_C) (tys : List (ClassId × FieldType)) (ws : va_W) (av : List Value) (sz : Nat) : Array Value → State → Prop := fun v U => v = av.toArray ∧ U.heap.size = sz ∧ va_P D cl ws U.heap ∧ va_K D cl tys U ∧ va_D (fun _ => True) ws ∧ bx_X xW U ∧ bx_S RX4 xS U
theorem bx_Tp.blind {D : va_G} {cl : List vw_C} {tys : List (ClassId × FieldType)} {ws : va_W} {av : List Value} : FrameBlind (bx_Tp D cl tys ws av) := by
  intro a U g mk q
  obtain ⟨q0, qP, qK, qX, qZ⟩ := q
  have hW : U.WarmedH (U.calling g mk a).vm := State.WarmedH.refl U
  exact ⟨q0, qP, va_K.moved (u := U) (U := U.calling g mk a) (Vm.Alike.refl U.vm) qK, bx_X.mv xW_ok hW (fun _ _ => rfl) qX, bx_S.mv hW qZ⟩
theorem bx_Hp.blind {D : va_G} {cl : List vw_C} {tys : List (ClassId × FieldType)} {ws : va_W} {av : List Value} {sz : Nat} : FrameBlind (bx_Hp D cl tys ws av sz) := by
  intro a U g mk q
  obtain ⟨q0, q1, qP, qK, qD, qX, qZ⟩ := q
  have hW : U.WarmedH (U.calling g mk a).vm := State.WarmedH.refl U
  exact ⟨q0, q1, qP, va_K.moved (u := U) (U := U.calling g mk a) (Vm.Alike.refl U.vm) qK, qD, bx_X.mv xW_ok hW (fun _ _ => rfl) qX, bx_S.mv hW qZ⟩
section BXC
variable {p : Program} {l : Launch} {e : Env} {R : Room} {s : State} {m : MethodId} {args : Array Value} {below : List Frame} {meth : Method} {c : Code} {H : Heap} {locs : List Loc} {cells slots : Nat} {Q : State → Prop}
variable {cc bytes : ByteArray} {pc nL maxL n index : Nat} {ret : Option FieldType} {ls : Array Slot} {st0 As rest : List Value} {D : va_G} {cl : List vw_C} {A : Nat → Prop} {b : Nat} {tys : List (ClassId × FieldType)} {ws ws' : va_W} {H0 : Heap} {Ts wd wd' : List Cond} {rm : Room} {own C : String} {T : u_T} {N : Nat} {y : MethodName} {fs : List Value}
theorem bx_tcallV {E : String} (S : CallFix p m c cc nL s args Ts own) (hM : bx_T l y wd rm (bx_Tp D cl tys ws (.ref b :: As)) E) (cw : CallW R s args own C index y bytes maxL ret wd rm 1 6 n) (hK : va_K D cl tys s) (hP : va_P D cl ws s.heap) (hX : bx_X xW s) (hZ : bx_S RX4 xS s) (q0 ci : Nat) (hc : cl[ci]? = some (C, T, N)) (he : ws[q0]? = some (b, .inr (ci, fs)))
    (hn : As.length = n) (hsize : ls.size = nL) (hstack : st0 = As.reverse ++ .ref b :: rest) (hW : (rest.map fun v => v.category).sum ≤ 8) (hdg : decode cc pc = .ok (.invokevirtual index, 3)) (hcs : cells + 1 ≤ R.cells ∧ slots + 6 ≤ R.slots) : bx_Run p l e R s m args below meth c s.heap locs cells slots (F0 m pc ls st0) rest E :=
  bx_runV S hM cw ⟨bx_Tp.blind, va_recv hK hP hc he, fun U hU hW => ⟨rfl, by rw [hU]; exact hP, va_K.moved hW.alike hK, bx_X.mv xW_ok hW (fun q _ => by rw [hU]) hX, bx_S.mv hW hZ⟩⟩ hn hsize hstack hW hdg hcs
theorem bx_hcallS {r : Option Value} {hs : List (Nat × Nat × Nat × Nat)} (S : CallFix p m c cc nL s args Ts own) (hM : Met l y wd rm (bx_Hp D cl tys ws As H.size) (bm_Wq D cl tys ws' r (va_A ws H.size)) 1 6 (va_A ws H.size)) (hrc : rm.cells = 1) (hrs : rm.slots = 6) (hfr : rm.frames + 1 ≤ R.frames) (hlo : 8 + (maxL + 11) + rm.locals ≤ R.locals)
    (hg : GoodIn Ts (Cond.methodLink own index y :: Cond.static y :: Cond.initialized y.cls :: wd)) (hd : (y.cls ≠ "java/lang/invoke/MethodHandle" ∧ y.cls ≠ "java/lang/invoke/VarHandle") ∧ (parseMethodDescriptor y.desc).map (fun d => d.parameters.length) = some n) (hw : wd = Cond.codeWith y bytes maxL ret hs :: wd')
    (hK : va_K D cl tys s) (hP : va_P D cl ws H) (hD : va_D A ws) (hS : va_S A s.heap H locs) (hA : ∀ q : Nat, s.heap.size ≤ q → A q) (hX : bx_X xW s) (hZ : bx_S RX4 xS s) (hAn : ∀ q : Nat, q < s.heap.size → ¬ A q)
    (hn : As.length = n) (hsize : ls.size = nL) (hstack : st0 = As.reverse ++ rest) (hW : (rest.map fun v => v.category).sum ≤ 8) (hdg : decode cc pc = .ok (.invokestatic index, 3)) (hcs : cells + 1 ≤ R.cells ∧ slots + 6 ≤ R.slots)
    (kk : ∀ (H1 : Heap) (locs1 : List Loc), va_P D cl ws' H1 → va_D A ws' → va_S A s.heap H1 locs1 → W p l e R s m args below meth c H1 locs1 (cells + 1) (slots + 6) Q (F0 m (pc + 3) ls (r.toList ++ rest))) : W p l e R s m args below meth c H locs cells slots Q (F0 m pc ls st0) := by
  have hts := S.2.2.2.2
  have hpay := pay_in hts hg
  have hr := bx_runSH (g := F0 m pc ls st0) (e := e) (below := below) (meth := meth) (locs := locs) (cells := cells) (slots := slots) (As := As) (rest := rest) (hs := hs) (bytes := bytes) (maxL := maxL) (ret := ret) S hM hrc hrs hfr hlo (fun w hw => hpay w (List.mem_cons_of_mem _ (List.mem_cons_of_mem _ (List.mem_cons_of_mem _ hw)))) (by rw [hw]; exact List.mem_cons_self)
    (fun a' U hU => hpay (Cond.initialized y.cls) (by simp) a' U hU) (hpay (Cond.static y) (by simp) args s (State.WarmedH.refl s)) (hpay (Cond.methodLink own index y) (by simp) args s (State.WarmedH.refl s)) hd.1 hd.2
    ⟨bx_Hp.blind, fun U hU hW => ⟨rfl, by rw [hU], by rw [hU]; exact hP, va_K.moved hW.alike hK, hD.weaken (fun _ _ _ _ => trivial), bx_X.mv xW_ok hW (fun q hq => by rw [hU]; exact hS.2.1 q hq (hAn q hq)) hX, bx_S.mv hW hZ⟩⟩ rfl hn hsize hstack (lv_room hW) hdg hcs
  have hF : ∀ q, va_A ws H.size q → A q := by
    intro q h
    rcases h with ⟨k, e9, h⟩ | h
    · exact hD.2 k (q, e9) h
    · exact hA q (Nat.le_trans hS.1 h)
  intro T hT X
  obtain ⟨v, st₀, t, T', L, h0, X', hL, e1, e2, ⟨⟨hv, hP', hK', hD'⟩, hz, hk⟩, st⟩ := hr T hT X
  cases hv
  rw [h0] at hz hk
  obtain ⟨t2, a1, b1⟩ := kk T'.heap (locs ++ L) (by rw [e1]; exact hP') (hD'.weaken (fun _ _ _ h => hF _ h))
    ⟨Nat.le_trans hS.1 (by rw [e1]; exact hz), fun q h1 h2 => by rw [e1, hk q (Nat.lt_of_lt_of_le h1 hS.1) (fun z => h2 (hF q z))]; exact hS.2.1 q h1 h2, fun q hq => by
      rcases List.mem_append.mp hq with h | h
      · exact hS.2.2 q h
      · exact hF _ (hL q h)⟩ T' rfl X'
  exact ⟨t2, st t2 a1, b1⟩
end BXC
theorem gdVL {b : Cond} {own C : String} {idx : Nat} {y : MethodName} (h0 : b ∈ bT) (h1 : Cond.methodLink own idx y ∈ bT) (h2 : Cond.instanceMethod y ∈ bT) (h3 : Cond.selects C y y ∈ bT) (h4 : Cond.initialized C ∈ bT) : GoodIn lw_tbl (wsV own idx C y (b :: bT)) := by
  intro w hw
  have hm : w ∈ bT := by
    simp only [wsV, List.cons_append, List.nil_append, List.mem_cons] at hw
    rcases hw with rfl | rfl | rfl | rfl | rfl | h <;> assumption
  exact ⟨(List.mem_filter.mp hm).1, good_of_word (bT_good hm)⟩
theorem gdSL {b : Cond} {own : String} {idx : Nat} {y : MethodName} (h0 : b ∈ bT) (h1 : Cond.methodLink own idx y ∈ bT) (h2 : Cond.static y ∈ bT) (h4 : Cond.initialized own ∈ bT) : GoodIn lw_tbl (wsS own idx y (b :: bT)) := by
  intro w hw
  have hm : w ∈ bT := by
    simp only [wsS, List.cons_append, List.nil_append, List.mem_cons] at hw
    rcases hw with rfl | rfl | rfl | rfl | h <;> assumption
  exact ⟨(List.mem_filter.mp hm).1, good_of_word (bT_good hm)⟩
theorem gdI {a b : Cond} (h0 : b ∈ bT) : GoodIn (a :: bT) (b :: bT) := by
  intro w hw
  have hm : w ∈ bT := by
    rcases List.mem_cons.mp hw with rfl | h <;> assumption
  exact ⟨List.mem_cons_of_mem _ hm, good_of_word (bT_good hm)⟩
theorem gdIL {b : Cond} (h0 : b ∈ bT) : GoodIn lw_tbl (b :: bT) := by
  intro w hw
  have hm : w ∈ bT := by
    rcases List.mem_cons.mp hw with rfl | h <;> assumption
  exact ⟨(List.mem_filter.mp hm).1, good_of_word (bT_good hm)⟩
theorem gdH {a b d e9 : Cond} (h : a ∈ bT ∧ b ∈ bT ∧ d ∈ bT ∧ e9 ∈ bT) : GoodIn lw_tbl (a :: b :: d :: e9 :: bT) := by
  intro w hw
  have hm : w ∈ bT := by
    simp only [List.mem_cons] at hw
    obtain ⟨h1, h2, h3, h4⟩ := h
    rcases hw with rfl | rfl | rfl | rfl | h <;> assumption
  exact ⟨(List.mem_filter.mp hm).1, good_of_word (bT_good hm)⟩
theorem bx_sd {x : Int32} (h0 : ¬ x < 0) (h1 : x ≤ 1) : x = 0 ∨ x = 1 := by
  rw [Int32.lt_iff_toInt_lt] at h0
  rw [Int32.le_iff_toInt_le] at h1
  have e0 : (0 : Int32).toInt = 0 := by decide
  have e1 : (1 : Int32).toInt = 1 := by decide
  rcases (show x.toInt = 0 ∨ x.toInt = 1 by omega) with h | h
  · exact Or.inl (Int32.toInt_inj.mp (h.trans e0.symm))
  · exact Or.inr (Int32.toInt_inj.mp (h.trans e1.symm))
def q_len (x : Int64) : Bool := !decide (x < 1) && !decide (65536 < x)
def q_pv (a b : Int64) (c : Int32) : Bool := q_len a && q_len b && (decide (c = 0) || decide (c = 1))
def q_rn (x : Int64) : Bool := !decide (x < 0) && !decide (2000 < x)
def q_tr (x0 y0 x1 y1 : Int64) : Bool := !decide (x0 < x1) || !decide (y0 < y1)
end
section
theorem bm_sld {p : Program} {l : Launch} {e : Env} {R : Room} {s : State} {m : MethodId} {args : Array Value} {below : List Frame} {meth : Method} {c : Code} {H : Heap} {locs : List Loc} {cells slots : Nat} {Q : State → Prop} {cc : ByteArray} {pc : Nat} {ls : Array Slot} {rest : List Value} {A : Nat → Prop} {H0 : Heap} (hexec : p.tables.exec = Jvm.exec) (hb : c.code = cc) {b L : Nat} {xs : Nat → Int32} (hX : va_X b L xs s H0) (hbl : b < H0.size) (hbA : ¬ A b) (hS : va_S A H0 H locs) {j : Nat} (hj : j < L) (hL : L < 2 ^ 31) (hdg : decode cc pc = .ok (.iaload, 1))
    (kk : W p l e R s m args below meth c H locs cells slots Q (F0 m (pc + 1) ls (.int (xs j) :: rest))) : W p l e R s m args below meth c H locs cells slots Q (F0 m pc ls (.int (nI j) :: .ref b :: rest)) := by
  refine va_sld hexec hb hX hbl hbA hS (vp_in_nI hj hL) hdg ?_
  rw [nI_clamp (Nat.lt_trans hj hL)]
  exact kk
def bx_cv (L : Nat) (xs : Nat → Int32) (k : Nat) : Int32 := if k < L then xs k else 0
def bx_Lp (b L : Nat) (xs : Nat → Int32) (k : Nat) : Array Value → State → Prop := fun v U => v = ([.ref b, .int (nI k)] : List Value).toArray ∧ va_X b L xs U U.heap ∧ b < U.heap.size
theorem bx_Xat {b L : Nat} {xs : Nat → Int32} {s U : State} (h : va_X b L xs s s.heap) (hvm : s.vm.Alike U.vm) (hq : U.heap[b]? = s.heap[b]?) : va_X b L xs U U.heap := by
  obtain ⟨scr, h1, h2, h3, h4, h5⟩ := h
  exact ⟨scr, by rw [hq]; exact h1, State.isArrayOf_alike hvm h2, h3, h4, h5⟩
theorem bx_Lp.blind {b L : Nat} {xs : Nat → Int32} {k : Nat} : FrameBlind (bx_Lp b L xs k) := by
  intro a U g mk q
  obtain ⟨q0, q1, q2⟩ := q
  exact ⟨q0, bx_Xat (s := U) (U := U.calling g mk a) q1 (Vm.Alike.refl U.vm) rfl, q2⟩
set_option maxHeartbeats 4000000 in
set_option maxRecDepth 100000 in
theorem c_cell {l : Launch} {b L : Nat} {xs : Nat → Int32} {k : Nat} (hk : k < 3) (hL : L ≤ 14) : Met l yL_cell wsL_cell ({ frames := 0, cells := 0, slots := 0, locals := 0 }) (bx_Lp b L xs k) (k2_QcV (.int (bx_cv L xs k))) 0 0 (fun _ => False) := by
  refine Met.ofW (cc := cL_cell) (maxL := 2) (ret := (some .int)) (by decide) rfl ?_
  intro p e s m args below meth c s₁ B hml hv
  obtain ⟨ha, hXs, hbl⟩ := hv
  have hx := B.exec
  have hb := B.bytes
  have hr := B.returns
  have hlocks := B.notSynchronized
  have hS : va_S (fun q : Nat => s.heap.size ≤ q) s.heap s.heap [] := va_S.rf
  have hbA : ¬ (fun q : Nat => s.heap.size ≤ q) b := Nat.not_le.mpr hbl
  have hl := lv_entry ([.ref b, .int (nI k)]) (n := 2) (Nat.le_of_ble_eq_true rfl)
  refine W.eq (g2 := entryFrame m ([.ref b, .int (nI k)] : List Value).toArray 2) (by rw [ha]) ?_
  rw [lg_entry_eq]
  generalize (lg_sl ([.ref b, .int (nI k)]) ++ List.replicate (2 - (lg_sl ([.ref b, .int (nI k)])).length) Slot.unset).toArray = ls at hl ⊢
  have hl : lv_has ls 2 [(0, .ref b), (1, .int (nI k))] := hl
  refine lv_iload_n hx hb dL_cell_0 rfl (lv_at hl 1 rfl) ?_
  refine lv_aload_n hx hb dL_cell_1 rfl (lv_at hl 0 rfl) ?_
  refine va_slen hx hb hXs hbl hbA hS dL_cell_2 ?_
  refine bm_ni_ge (x := k) (y := L) (tgt := 12) hx hb (by omega) (by omega) dL_cell_3 (by decide) (fun c_1 => ?_) (fun c_1 => ?_)
  · refine lv_iconst (v := 0) hx hb dL_cell_12 (by decide) ?_
    exact bm_iretR (v := 0) hx hb hr (by simp [bx_cv, c_1]) dL_cell_13 hlocks
  · refine lv_aload_n hx hb dL_cell_6 rfl (lv_at hl 0 rfl) ?_
    refine lv_iload_n hx hb dL_cell_7 rfl (lv_at hl 1 rfl) ?_
    refine bm_sld hx hb hXs hbl hbA hS (j := k) c_1 (by omega) dL_cell_8 ?_
    refine lv_goto (tgt := 13) hx hb dL_cell_9 (by decide) ?_
    exact bm_iretR (v := xs k) hx hb hr (by simp [bx_cv, c_1]) dL_cell_13 hlocks
theorem bx_ccall {p : Program} {l : Launch} {e : Env} {R : Room} {s : State} {m : MethodId} {args : Array Value} {below : List Frame} {meth : Method} {c : Code} {H : Heap} {locs : List Loc} {cells slots : Nat} {Q : State → Prop} {cc bytes : ByteArray} {pc nL maxL index : Nat} {ret : Option FieldType} {ls : Array Slot} {rest : List Value} {A : Nat → Prop} {Ts : List Cond} {rm : Room} {own : String} {b L : Nat} {xs : Nat → Int32} {k : Nat}
    (S : CallFix p m c cc nL s args Ts own) (cw : CallB R s args own index yL_cell bytes maxL ret wsL_cell rm 0 0 2 ∧ (Cond.static yL_cell).before args s = true) (hM : Met l yL_cell wsL_cell rm (bx_Lp b L xs k) (k2_QcV (.int (bx_cv L xs k))) 0 0 (fun _ => False)) (hXs : va_X b L xs s s.heap) (hbl : b < s.heap.size) (hS : va_S A s.heap H locs) (hbA : ¬ A b)
    (hsize : ls.size = nL) (hW : (rest.map fun v => v.category).sum ≤ 8) (hdg : decode cc pc = .ok (.invokestatic index, 3)) (hcs : cells ≤ R.cells ∧ slots ≤ R.slots)
    (kk : W p l e R s m args below meth c H locs cells slots Q (F0 m (pc + 3) ls (.int (bx_cv L xs k) :: rest))) : W p l e R s m args below meth c H locs cells slots Q (F0 m pc ls (.int (nI k) :: .ref b :: rest)) :=
  W.callV (W.runS (g := F0 m pc ls (.int (nI k) :: .ref b :: rest)) (As := [.ref b, .int (nI k)]) (rest := rest) S hM cw ⟨bx_Lp.blind, fun U hU hW => ⟨rfl, bx_Xat hXs hW.alike (by rw [hU]; exact hS.2.1 b hbl hbA), by rw [hU]; exact Nat.lt_of_lt_of_le hbl hS.1⟩⟩ rfl rfl hsize rfl (lv_room hW) hdg hcs) kk
def bx_Bp (D : va_G) (cl : List vw_C) (tys : List (ClassId × FieldType)) (ws : va_W) (av : List Value) (sz : Nat) : Array Value → State → Prop := fun v U => v = av.toArray ∧ U.heap.size = sz ∧ va_P D cl ws U.heap ∧ va_K D cl tys U ∧ va_D (fun _ => True) ws ∧ va_Nw (.methodLinkNest RX4 11 yX1_init "BoardMoves") U
theorem bx_Bp.blind {D : va_G} {cl : List vw_C} {tys : List (ClassId × FieldType)} {ws : va_W} {av : List Value} {sz : Nat} : FrameBlind (bx_Bp D cl tys ws av sz) := by
  intro a U g mk q
  obtain ⟨q0, q1, qP, qK, qD, qN⟩ := q
  exact ⟨q0, q1, qP, va_K.moved (u := U) (U := U.calling g mk a) (Vm.Alike.refl U.vm) qK, qD, va_Nw.same rfl rfl qN⟩
end
section
set_option maxHeartbeats 4000000 in
set_option maxRecDepth 100000 in
theorem c_Parts {l : Launch} {D : va_G} {cJ cI cZ : ClassId} {h0 : Nat}  (sz : Nat) : Met l yX1_init wsX1_init ({ frames := 1, cells := 6, slots := 240, locals := 20 }) (bm_Wp D vwCl [(cJ, .long), (cI, .int), (cZ, .boolean)] [(h0, .inr (1, [.null, .null, .null, .null, .null, .null, .int 0]))] [.ref h0] sz) (va_Qv (fun _ : Unit => True) (fun _ t => ∃ (q_7 q_15 q_23 q_31 q_39 q_47 : Nat), va_P D vwCl [(h0, .inr (1, [.ref q_7, .ref q_15, .ref q_23, .ref q_31, .ref q_39, .ref q_47, .int (nI 0)])), (q_7, .inl (cJ, 40, .inr (.inl (fun _ => 0)))), (q_15, .inl (cJ, 40, .inr (.inl (fun _ => 0)))), (q_23, .inl (cI, 40, .inl (fun _ => nI 0))), (q_31, .inl (cJ, 40, .inr (.inl (fun _ => 0)))), (q_39, .inl (cZ, 40, .inl (fun _ => bm_b false))), (q_47, .inl (cI, 40, .inl (fun _ => nI 0)))] t.heap ∧ va_K D vwCl [(cJ, .long), (cI, .int), (cZ, .boolean)] t ∧ va_D (va_A [(h0, .inr (1, [.null, .null, .null, .null, .null, .null, .int 0]))] sz) [(h0, .inr (1, [.ref q_7, .ref q_15, .ref q_23, .ref q_31, .ref q_39, .ref q_47, .int (nI 0)])), (q_7, .inl (cJ, 40, .inr (.inl (fun _ => 0)))), (q_15, .inl (cJ, 40, .inr (.inl (fun _ => 0)))), (q_23, .inl (cI, 40, .inl (fun _ => nI 0))), (q_31, .inl (cJ, 40, .inr (.inl (fun _ => 0)))), (q_39, .inl (cZ, 40, .inl (fun _ => bm_b false))), (q_47, .inl (cI, 40, .inl (fun _ => nI 0)))]) (va_A [(h0, .inr (1, [.null, .null, .null, .null, .null, .null, .int 0]))] sz)) 6 240 (va_A [(h0, .inr (1, [.null, .null, .null, .null, .null, .null, .int 0]))] sz) := by
  refine Met.ofW (cc := cX1_init) (maxL := 1) (ret := none) (by decide) rfl ?_
  intro p e s m args below meth c s₁ B hml hv
  obtain ⟨ha, hsz, hP, hK, hD0⟩ := hv
  have hx := B.exec
  have hb := B.bytes
  have hr := B.returns
  have hts := atoms_spec (ws := wsX1_init) B.pre
  have hown : s.vm.findClass RX1 = some m.cls := findClass_of_methodNamed B.named
  have hlocks := B.notSynchronized
  have hin : meth.name = "<init>" := (name_of_methodNamed B.named B.method).1
  subst hsz
  have hD := hD0.self (sz := s.heap.size)
  generalize hAe : va_A [(h0, .inr (1, [.null, .null, .null, .null, .null, .null, .int 0]))] s.heap.size = A at hD ⊢
  have hA : ∀ q : Nat, s.heap.size ≤ q → A q := fun q h => by rw [← hAe]; exact Or.inr h
  have hS : va_S A s.heap s.heap [] := va_S.rf
  have hP : va_P D vwCl [(h0, .inr (1, [.null, .null, .null, .null, .null, .null, .int 0]))] s.heap := hP
  have hl := lv_entry ([.ref h0]) (n := 1) (Nat.le_of_ble_eq_true rfl)
  refine W.eq (g2 := entryFrame m ([.ref h0] : List Value).toArray 1) (by rw [ha]) ?_
  rw [lg_entry_eq]
  generalize (lg_sl ([.ref h0]) ++ List.replicate (1 - (lg_sl ([.ref h0])).length) Slot.unset).toArray = ls at hl ⊢
  have hl : lv_has ls 1 [(0, .ref h0)] := hl
  refine lv_aload_n hx hb dX1_init_0 rfl (lv_at hl 0 rfl) ?_
  refine W.objInit hx hb hown (hts (.methodLink RX1 3 objectInit) (by decide +kernel)) (hts (.instanceMethod objectInit) (by decide +kernel)) (hts (.code objectInit ⟨#[0xb1]⟩ 1 none) (by decide +kernel)) rfl (by rw [hml]; exact hl.1) rfl dX1_init_1 (Nat.le_of_ble_eq_true rfl) (Nat.le_of_ble_eq_true rfl) ?_
  refine W.eq (g2 := F0 m 4 ls []) rfl ?_
  refine lv_aload_n hx hb dX1_init_4 rfl (lv_at hl 0 rfl) ?_
  refine lv_bipush (v := nI 40) hx hb dX1_init_5 (by decide) ?_
  refine bm_newa (atype := .long) (ty := .long) (n := (nI 40)) (a0 := (40, .inr (.inl (fun _ => 0)))) hx hb rfl (hts (.arrayClass .long) (by decide +kernel)) hK hP hD hS hA 0 rfl rfl (by decide) (by decide) (by decide) (Nat.le_of_ble_eq_true rfl) (Nat.le_of_ble_eq_true rfl) dX1_init_7 (fun q_7 H hP hD hS => ?_)
  have hP : va_P D vwCl [(h0, .inr (1, [.null, .null, .null, .null, .null, .null, .int 0])), (q_7, .inl (cJ, 40, .inr (.inl (fun _ => 0))))] H := hP
  have hD : va_D A [(h0, .inr (1, [.null, .null, .null, .null, .null, .null, .int 0])), (q_7, .inl (cJ, 40, .inr (.inl (fun _ => 0))))] := hD
  refine va_putF (D := D) (ci := 1) (v := .ref q_7) (ty := (.array .long)) (C := RX1) (T := TX1) (N := 7) hx hb hts (inT inX1) tyX1 tyX1_ok nmX1 hown hK hP hD hS 0 rfl rfl 0 (by decide) (hts (.fieldLink RX1 9 "BoardMoves$Parts" "w" "[J") (by decide +kernel)) (fun _ h9 => h9) rfl hin rfl (by decide +kernel) rfl rfl (Nat.le_of_ble_eq_true rfl) dX1_init_9 (fun H locs hP hD hS => ?_)
  have hP : va_P D vwCl [(h0, .inr (1, [.ref q_7, .null, .null, .null, .null, .null, .int 0])), (q_7, .inl (cJ, 40, .inr (.inl (fun _ => 0))))] H := hP
  have hD : va_D A [(h0, .inr (1, [.ref q_7, .null, .null, .null, .null, .null, .int 0])), (q_7, .inl (cJ, 40, .inr (.inl (fun _ => 0))))] := hD
  refine lv_aload_n hx hb dX1_init_12 rfl (lv_at hl 0 rfl) ?_
  refine lv_bipush (v := nI 40) hx hb dX1_init_13 (by decide) ?_
  refine bm_newa (atype := .long) (ty := .long) (n := (nI 40)) (a0 := (40, .inr (.inl (fun _ => 0)))) hx hb rfl (hts (.arrayClass .long) (by decide +kernel)) hK hP hD hS hA 0 rfl rfl (by decide) (by decide) (by decide) (Nat.le_of_ble_eq_true rfl) (Nat.le_of_ble_eq_true rfl) dX1_init_15 (fun q_15 H hP hD hS => ?_)
  have hP : va_P D vwCl [(h0, .inr (1, [.ref q_7, .null, .null, .null, .null, .null, .int 0])), (q_7, .inl (cJ, 40, .inr (.inl (fun _ => 0)))), (q_15, .inl (cJ, 40, .inr (.inl (fun _ => 0))))] H := hP
  have hD : va_D A [(h0, .inr (1, [.ref q_7, .null, .null, .null, .null, .null, .int 0])), (q_7, .inl (cJ, 40, .inr (.inl (fun _ => 0)))), (q_15, .inl (cJ, 40, .inr (.inl (fun _ => 0))))] := hD
  refine va_putF (D := D) (ci := 1) (v := .ref q_15) (ty := (.array .long)) (C := RX1) (T := TX1) (N := 7) hx hb hts (inT inX1) tyX1 tyX1_ok nmX1 hown hK hP hD hS 0 rfl rfl 1 (by decide) (hts (.fieldLink RX1 15 "BoardMoves$Parts" "h" "[J") (by decide +kernel)) (fun _ h9 => h9) rfl hin rfl (by decide +kernel) rfl rfl (Nat.le_of_ble_eq_true rfl) dX1_init_17 (fun H locs hP hD hS => ?_)
  have hP : va_P D vwCl [(h0, .inr (1, [.ref q_7, .ref q_15, .null, .null, .null, .null, .int 0])), (q_7, .inl (cJ, 40, .inr (.inl (fun _ => 0)))), (q_15, .inl (cJ, 40, .inr (.inl (fun _ => 0))))] H := hP
  have hD : va_D A [(h0, .inr (1, [.ref q_7, .ref q_15, .null, .null, .null, .null, .int 0])), (q_7, .inl (cJ, 40, .inr (.inl (fun _ => 0)))), (q_15, .inl (cJ, 40, .inr (.inl (fun _ => 0))))] := hD
  refine lv_aload_n hx hb dX1_init_20 rfl (lv_at hl 0 rfl) ?_
  refine lv_bipush (v := nI 40) hx hb dX1_init_21 (by decide) ?_
  refine bm_newa (atype := .int) (ty := .int) (n := (nI 40)) (a0 := (40, .inl (fun _ => nI 0))) hx hb rfl (hts (.arrayClass .int) (by decide +kernel)) hK hP hD hS hA 1 rfl rfl (by decide) (by decide) (by decide) (Nat.le_of_ble_eq_true rfl) (Nat.le_of_ble_eq_true rfl) dX1_init_23 (fun q_23 H hP hD hS => ?_)
  have hP : va_P D vwCl [(h0, .inr (1, [.ref q_7, .ref q_15, .null, .null, .null, .null, .int 0])), (q_7, .inl (cJ, 40, .inr (.inl (fun _ => 0)))), (q_15, .inl (cJ, 40, .inr (.inl (fun _ => 0)))), (q_23, .inl (cI, 40, .inl (fun _ => nI 0)))] H := hP
  have hD : va_D A [(h0, .inr (1, [.ref q_7, .ref q_15, .null, .null, .null, .null, .int 0])), (q_7, .inl (cJ, 40, .inr (.inl (fun _ => 0)))), (q_15, .inl (cJ, 40, .inr (.inl (fun _ => 0)))), (q_23, .inl (cI, 40, .inl (fun _ => nI 0)))] := hD
  refine va_putF (D := D) (ci := 1) (v := .ref q_23) (ty := (.array .int)) (C := RX1) (T := TX1) (N := 7) hx hb hts (inT inX1) tyX1 tyX1_ok nmX1 hown hK hP hD hS 0 rfl rfl 2 (by decide) (hts (.fieldLink RX1 18 "BoardMoves$Parts" "side" "[I") (by decide +kernel)) (fun _ h9 => h9) rfl hin rfl (by decide +kernel) rfl rfl (Nat.le_of_ble_eq_true rfl) dX1_init_25 (fun H locs hP hD hS => ?_)
  have hP : va_P D vwCl [(h0, .inr (1, [.ref q_7, .ref q_15, .ref q_23, .null, .null, .null, .int 0])), (q_7, .inl (cJ, 40, .inr (.inl (fun _ => 0)))), (q_15, .inl (cJ, 40, .inr (.inl (fun _ => 0)))), (q_23, .inl (cI, 40, .inl (fun _ => nI 0)))] H := hP
  have hD : va_D A [(h0, .inr (1, [.ref q_7, .ref q_15, .ref q_23, .null, .null, .null, .int 0])), (q_7, .inl (cJ, 40, .inr (.inl (fun _ => 0)))), (q_15, .inl (cJ, 40, .inr (.inl (fun _ => 0)))), (q_23, .inl (cI, 40, .inl (fun _ => nI 0)))] := hD
  refine lv_aload_n hx hb dX1_init_28 rfl (lv_at hl 0 rfl) ?_
  refine lv_bipush (v := nI 40) hx hb dX1_init_29 (by decide) ?_
  refine bm_newa (atype := .long) (ty := .long) (n := (nI 40)) (a0 := (40, .inr (.inl (fun _ => 0)))) hx hb rfl (hts (.arrayClass .long) (by decide +kernel)) hK hP hD hS hA 0 rfl rfl (by decide) (by decide) (by decide) (Nat.le_of_ble_eq_true rfl) (Nat.le_of_ble_eq_true rfl) dX1_init_31 (fun q_31 H hP hD hS => ?_)
  have hP : va_P D vwCl [(h0, .inr (1, [.ref q_7, .ref q_15, .ref q_23, .null, .null, .null, .int 0])), (q_7, .inl (cJ, 40, .inr (.inl (fun _ => 0)))), (q_15, .inl (cJ, 40, .inr (.inl (fun _ => 0)))), (q_23, .inl (cI, 40, .inl (fun _ => nI 0))), (q_31, .inl (cJ, 40, .inr (.inl (fun _ => 0))))] H := hP
  have hD : va_D A [(h0, .inr (1, [.ref q_7, .ref q_15, .ref q_23, .null, .null, .null, .int 0])), (q_7, .inl (cJ, 40, .inr (.inl (fun _ => 0)))), (q_15, .inl (cJ, 40, .inr (.inl (fun _ => 0)))), (q_23, .inl (cI, 40, .inl (fun _ => nI 0))), (q_31, .inl (cJ, 40, .inr (.inl (fun _ => 0))))] := hD
  refine va_putF (D := D) (ci := 1) (v := .ref q_31) (ty := (.array .long)) (C := RX1) (T := TX1) (N := 7) hx hb hts (inT inX1) tyX1 tyX1_ok nmX1 hown hK hP hD hS 0 rfl rfl 3 (by decide) (hts (.fieldLink RX1 22 "BoardMoves$Parts" "tall" "[J") (by decide +kernel)) (fun _ h9 => h9) rfl hin rfl (by decide +kernel) rfl rfl (Nat.le_of_ble_eq_true rfl) dX1_init_33 (fun H locs hP hD hS => ?_)
  have hP : va_P D vwCl [(h0, .inr (1, [.ref q_7, .ref q_15, .ref q_23, .ref q_31, .null, .null, .int 0])), (q_7, .inl (cJ, 40, .inr (.inl (fun _ => 0)))), (q_15, .inl (cJ, 40, .inr (.inl (fun _ => 0)))), (q_23, .inl (cI, 40, .inl (fun _ => nI 0))), (q_31, .inl (cJ, 40, .inr (.inl (fun _ => 0))))] H := hP
  have hD : va_D A [(h0, .inr (1, [.ref q_7, .ref q_15, .ref q_23, .ref q_31, .null, .null, .int 0])), (q_7, .inl (cJ, 40, .inr (.inl (fun _ => 0)))), (q_15, .inl (cJ, 40, .inr (.inl (fun _ => 0)))), (q_23, .inl (cI, 40, .inl (fun _ => nI 0))), (q_31, .inl (cJ, 40, .inr (.inl (fun _ => 0))))] := hD
  refine lv_aload_n hx hb dX1_init_36 rfl (lv_at hl 0 rfl) ?_
  refine lv_bipush (v := nI 40) hx hb dX1_init_37 (by decide) ?_
  refine bm_newa (atype := .boolean) (ty := .boolean) (n := (nI 40)) (a0 := (40, .inl (fun _ => bm_b false))) hx hb rfl (hts (.arrayClass .boolean) (by decide +kernel)) hK hP hD hS hA 2 rfl rfl (by decide) (by decide) (by decide) (Nat.le_of_ble_eq_true rfl) (Nat.le_of_ble_eq_true rfl) dX1_init_39 (fun q_39 H hP hD hS => ?_)
  have hP : va_P D vwCl [(h0, .inr (1, [.ref q_7, .ref q_15, .ref q_23, .ref q_31, .null, .null, .int 0])), (q_7, .inl (cJ, 40, .inr (.inl (fun _ => 0)))), (q_15, .inl (cJ, 40, .inr (.inl (fun _ => 0)))), (q_23, .inl (cI, 40, .inl (fun _ => nI 0))), (q_31, .inl (cJ, 40, .inr (.inl (fun _ => 0)))), (q_39, .inl (cZ, 40, .inl (fun _ => bm_b false)))] H := hP
  have hD : va_D A [(h0, .inr (1, [.ref q_7, .ref q_15, .ref q_23, .ref q_31, .null, .null, .int 0])), (q_7, .inl (cJ, 40, .inr (.inl (fun _ => 0)))), (q_15, .inl (cJ, 40, .inr (.inl (fun _ => 0)))), (q_23, .inl (cI, 40, .inl (fun _ => nI 0))), (q_31, .inl (cJ, 40, .inr (.inl (fun _ => 0)))), (q_39, .inl (cZ, 40, .inl (fun _ => bm_b false)))] := hD
  refine va_putF (D := D) (ci := 1) (v := .ref q_39) (ty := (.array .boolean)) (C := RX1) (T := TX1) (N := 7) hx hb hts (inT inX1) tyX1 tyX1_ok nmX1 hown hK hP hD hS 0 rfl rfl 4 (by decide) (hts (.fieldLink RX1 25 "BoardMoves$Parts" "locked" "[Z") (by decide +kernel)) (fun _ h9 => h9) rfl hin rfl (by decide +kernel) rfl rfl (Nat.le_of_ble_eq_true rfl) dX1_init_41 (fun H locs hP hD hS => ?_)
  have hP : va_P D vwCl [(h0, .inr (1, [.ref q_7, .ref q_15, .ref q_23, .ref q_31, .ref q_39, .null, .int 0])), (q_7, .inl (cJ, 40, .inr (.inl (fun _ => 0)))), (q_15, .inl (cJ, 40, .inr (.inl (fun _ => 0)))), (q_23, .inl (cI, 40, .inl (fun _ => nI 0))), (q_31, .inl (cJ, 40, .inr (.inl (fun _ => 0)))), (q_39, .inl (cZ, 40, .inl (fun _ => bm_b false)))] H := hP
  have hD : va_D A [(h0, .inr (1, [.ref q_7, .ref q_15, .ref q_23, .ref q_31, .ref q_39, .null, .int 0])), (q_7, .inl (cJ, 40, .inr (.inl (fun _ => 0)))), (q_15, .inl (cJ, 40, .inr (.inl (fun _ => 0)))), (q_23, .inl (cI, 40, .inl (fun _ => nI 0))), (q_31, .inl (cJ, 40, .inr (.inl (fun _ => 0)))), (q_39, .inl (cZ, 40, .inl (fun _ => bm_b false)))] := hD
  refine lv_aload_n hx hb dX1_init_44 rfl (lv_at hl 0 rfl) ?_
  refine lv_bipush (v := nI 40) hx hb dX1_init_45 (by decide) ?_
  refine bm_newa (atype := .int) (ty := .int) (n := (nI 40)) (a0 := (40, .inl (fun _ => nI 0))) hx hb rfl (hts (.arrayClass .int) (by decide +kernel)) hK hP hD hS hA 1 rfl rfl (by decide) (by decide) (by decide) (Nat.le_of_ble_eq_true rfl) (Nat.le_of_ble_eq_true rfl) dX1_init_47 (fun q_47 H hP hD hS => ?_)
  have hP : va_P D vwCl [(h0, .inr (1, [.ref q_7, .ref q_15, .ref q_23, .ref q_31, .ref q_39, .null, .int 0])), (q_7, .inl (cJ, 40, .inr (.inl (fun _ => 0)))), (q_15, .inl (cJ, 40, .inr (.inl (fun _ => 0)))), (q_23, .inl (cI, 40, .inl (fun _ => nI 0))), (q_31, .inl (cJ, 40, .inr (.inl (fun _ => 0)))), (q_39, .inl (cZ, 40, .inl (fun _ => bm_b false))), (q_47, .inl (cI, 40, .inl (fun _ => nI 0)))] H := hP
  have hD : va_D A [(h0, .inr (1, [.ref q_7, .ref q_15, .ref q_23, .ref q_31, .ref q_39, .null, .int 0])), (q_7, .inl (cJ, 40, .inr (.inl (fun _ => 0)))), (q_15, .inl (cJ, 40, .inr (.inl (fun _ => 0)))), (q_23, .inl (cI, 40, .inl (fun _ => nI 0))), (q_31, .inl (cJ, 40, .inr (.inl (fun _ => 0)))), (q_39, .inl (cZ, 40, .inl (fun _ => bm_b false))), (q_47, .inl (cI, 40, .inl (fun _ => nI 0)))] := hD
  refine va_putF (D := D) (ci := 1) (v := .ref q_47) (ty := (.array .int)) (C := RX1) (T := TX1) (N := 7) hx hb hts (inT inX1) tyX1 tyX1_ok nmX1 hown hK hP hD hS 0 rfl rfl 5 (by decide) (hts (.fieldLink RX1 29 "BoardMoves$Parts" "lowest" "[I") (by decide +kernel)) (fun _ h9 => h9) rfl hin rfl (by decide +kernel) rfl rfl (Nat.le_of_ble_eq_true rfl) dX1_init_49 (fun H locs hP hD hS => ?_)
  have hP : va_P D vwCl [(h0, .inr (1, [.ref q_7, .ref q_15, .ref q_23, .ref q_31, .ref q_39, .ref q_47, .int 0])), (q_7, .inl (cJ, 40, .inr (.inl (fun _ => 0)))), (q_15, .inl (cJ, 40, .inr (.inl (fun _ => 0)))), (q_23, .inl (cI, 40, .inl (fun _ => nI 0))), (q_31, .inl (cJ, 40, .inr (.inl (fun _ => 0)))), (q_39, .inl (cZ, 40, .inl (fun _ => bm_b false))), (q_47, .inl (cI, 40, .inl (fun _ => nI 0)))] H := hP
  have hD : va_D A [(h0, .inr (1, [.ref q_7, .ref q_15, .ref q_23, .ref q_31, .ref q_39, .ref q_47, .int 0])), (q_7, .inl (cJ, 40, .inr (.inl (fun _ => 0)))), (q_15, .inl (cJ, 40, .inr (.inl (fun _ => 0)))), (q_23, .inl (cI, 40, .inl (fun _ => nI 0))), (q_31, .inl (cJ, 40, .inr (.inl (fun _ => 0)))), (q_39, .inl (cZ, 40, .inl (fun _ => bm_b false))), (q_47, .inl (cI, 40, .inl (fun _ => nI 0)))] := hD
  refine lv_aload_n hx hb dX1_init_52 rfl (lv_at hl 0 rfl) ?_
  refine lv_iconst (v := nI 0) hx hb dX1_init_53 (by decide) ?_
  refine va_put (D := D) (ci := 1) (v := .int (nI 0)) (ty := .int) (C := RX1) (T := TX1) (N := 7) hx hb hts (inT inX1) tyX1 tyX1_ok nmX1 hown hK hP hD hS 0 rfl rfl 6 (by decide) (hts (.fieldLink RX1 32 "BoardMoves$Parts" "count" "I") (by decide +kernel)) (fun _ h9 => h9) rfl (by decide +kernel) rfl rfl (Nat.le_of_ble_eq_true rfl) dX1_init_54 (fun H locs hP hD hS => ?_)
  have hP : va_P D vwCl [(h0, .inr (1, [.ref q_7, .ref q_15, .ref q_23, .ref q_31, .ref q_39, .ref q_47, .int (nI 0)])), (q_7, .inl (cJ, 40, .inr (.inl (fun _ => 0)))), (q_15, .inl (cJ, 40, .inr (.inl (fun _ => 0)))), (q_23, .inl (cI, 40, .inl (fun _ => nI 0))), (q_31, .inl (cJ, 40, .inr (.inl (fun _ => 0)))), (q_39, .inl (cZ, 40, .inl (fun _ => bm_b false))), (q_47, .inl (cI, 40, .inl (fun _ => nI 0)))] H := hP
  have hD : va_D A [(h0, .inr (1, [.ref q_7, .ref q_15, .ref q_23, .ref q_31, .ref q_39, .ref q_47, .int (nI 0)])), (q_7, .inl (cJ, 40, .inr (.inl (fun _ => 0)))), (q_15, .inl (cJ, 40, .inr (.inl (fun _ => 0)))), (q_23, .inl (cI, 40, .inl (fun _ => nI 0))), (q_31, .inl (cJ, 40, .inr (.inl (fun _ => 0)))), (q_39, .inl (cZ, 40, .inl (fun _ => bm_b false))), (q_47, .inl (cI, 40, .inl (fun _ => nI 0)))] := hD
  refine W.widen (k := 6) (n := 240) (Nat.le_of_ble_eq_true rfl) (Nat.le_of_ble_eq_true rfl) ?_
  exact W.vret hx hb hr (fun t ht hW => ⟨⟨(), rfl, trivial, q_7, q_15, q_23, q_31, q_39, q_47, by rw [ht]; exact hP, va_K.moved hW.alike hK, hD⟩, hS.F ht⟩) hS.2.2 dX1_init_57

set_option maxHeartbeats 4000000 in
set_option maxRecDepth 100000 in
theorem c_Limits {l : Launch} {D : va_G} {cJ cI cZ : ClassId} {h0 : Nat} {z1 : Nat} (sz : Nat) : Met l yX0_init wsX0_init ({ frames := 1, cells := 8, slots := 110, locals := 20 }) (bm_Wp D vwCl [(cJ, .long), (cI, .int), (cZ, .boolean)] [(h0, .inr (0, [.null, .null, .null, .null, .null, .null, .null, .null, .null, .int 0, .int 0]))] [.ref h0, .ref z1] sz) (va_Qv (fun _ : Unit => True) (fun _ t => ∃ (q_7 q_15 q_23 q_31 q_39 q_47 q_55 q_63 : Nat), va_P D vwCl [(h0, .inr (0, [.ref z1, .ref q_7, .ref q_15, .ref q_23, .ref q_31, .ref q_39, .ref q_47, .ref q_55, .ref q_63, .int (nI 0), .int (nI 0)])), (q_7, .inl (cJ, 10, .inr (.inl (fun _ => 0)))), (q_15, .inl (cJ, 10, .inr (.inl (fun _ => 0)))), (q_23, .inl (cJ, 10, .inr (.inl (fun _ => 0)))), (q_31, .inl (cJ, 10, .inr (.inl (fun _ => 0)))), (q_39, .inl (cJ, 10, .inr (.inl (fun _ => 0)))), (q_47, .inl (cI, 20, .inl (fun _ => nI 0))), (q_55, .inl (cI, 20, .inl (fun _ => nI 0))), (q_63, .inl (cJ, 20, .inr (.inl (fun _ => 0))))] t.heap ∧ va_K D vwCl [(cJ, .long), (cI, .int), (cZ, .boolean)] t ∧ va_D (va_A [(h0, .inr (0, [.null, .null, .null, .null, .null, .null, .null, .null, .null, .int 0, .int 0]))] sz) [(h0, .inr (0, [.ref z1, .ref q_7, .ref q_15, .ref q_23, .ref q_31, .ref q_39, .ref q_47, .ref q_55, .ref q_63, .int (nI 0), .int (nI 0)])), (q_7, .inl (cJ, 10, .inr (.inl (fun _ => 0)))), (q_15, .inl (cJ, 10, .inr (.inl (fun _ => 0)))), (q_23, .inl (cJ, 10, .inr (.inl (fun _ => 0)))), (q_31, .inl (cJ, 10, .inr (.inl (fun _ => 0)))), (q_39, .inl (cJ, 10, .inr (.inl (fun _ => 0)))), (q_47, .inl (cI, 20, .inl (fun _ => nI 0))), (q_55, .inl (cI, 20, .inl (fun _ => nI 0))), (q_63, .inl (cJ, 20, .inr (.inl (fun _ => 0))))]) (va_A [(h0, .inr (0, [.null, .null, .null, .null, .null, .null, .null, .null, .null, .int 0, .int 0]))] sz)) 8 110 (va_A [(h0, .inr (0, [.null, .null, .null, .null, .null, .null, .null, .null, .null, .int 0, .int 0]))] sz) := by
  refine Met.ofW (cc := cX0_init) (maxL := 2) (ret := none) (by decide) rfl ?_
  intro p e s m args below meth c s₁ B hml hv
  obtain ⟨ha, hsz, hP, hK, hD0⟩ := hv
  have hx := B.exec
  have hb := B.bytes
  have hr := B.returns
  have hts := atoms_spec (ws := wsX0_init) B.pre
  have hown : s.vm.findClass RX0 = some m.cls := findClass_of_methodNamed B.named
  have hlocks := B.notSynchronized
  have hin : meth.name = "<init>" := (name_of_methodNamed B.named B.method).1
  subst hsz
  have hD := hD0.self (sz := s.heap.size)
  generalize hAe : va_A [(h0, .inr (0, [.null, .null, .null, .null, .null, .null, .null, .null, .null, .int 0, .int 0]))] s.heap.size = A at hD ⊢
  have hA : ∀ q : Nat, s.heap.size ≤ q → A q := fun q h => by rw [← hAe]; exact Or.inr h
  have hS : va_S A s.heap s.heap [] := va_S.rf
  have hP : va_P D vwCl [(h0, .inr (0, [.null, .null, .null, .null, .null, .null, .null, .null, .null, .int 0, .int 0]))] s.heap := hP
  have hl := lv_entry ([.ref h0, .ref z1]) (n := 2) (Nat.le_of_ble_eq_true rfl)
  refine W.eq (g2 := entryFrame m ([.ref h0, .ref z1] : List Value).toArray 2) (by rw [ha]) ?_
  rw [lg_entry_eq]
  generalize (lg_sl ([.ref h0, .ref z1]) ++ List.replicate (2 - (lg_sl ([.ref h0, .ref z1])).length) Slot.unset).toArray = ls at hl ⊢
  have hl : lv_has ls 2 [(0, .ref h0), (1, .ref z1)] := hl
  refine lv_aload_n hx hb dX0_init_0 rfl (lv_at hl 0 rfl) ?_
  refine W.objInit hx hb hown (hts (.methodLink RX0 3 objectInit) (by decide +kernel)) (hts (.instanceMethod objectInit) (by decide +kernel)) (hts (.code objectInit ⟨#[0xb1]⟩ 1 none) (by decide +kernel)) rfl (by rw [hml]; exact hl.1) rfl dX0_init_1 (Nat.le_of_ble_eq_true rfl) (Nat.le_of_ble_eq_true rfl) ?_
  refine W.eq (g2 := F0 m 4 ls []) rfl ?_
  refine lv_aload_n hx hb dX0_init_4 rfl (lv_at hl 0 rfl) ?_
  refine lv_bipush (v := nI 10) hx hb dX0_init_5 (by decide) ?_
  refine bm_newa (atype := .long) (ty := .long) (n := (nI 10)) (a0 := (10, .inr (.inl (fun _ => 0)))) hx hb rfl (hts (.arrayClass .long) (by decide +kernel)) hK hP hD hS hA 0 rfl rfl (by decide) (by decide) (by decide) (Nat.le_of_ble_eq_true rfl) (Nat.le_of_ble_eq_true rfl) dX0_init_7 (fun q_7 H hP hD hS => ?_)
  have hP : va_P D vwCl [(h0, .inr (0, [.null, .null, .null, .null, .null, .null, .null, .null, .null, .int 0, .int 0])), (q_7, .inl (cJ, 10, .inr (.inl (fun _ => 0))))] H := hP
  have hD : va_D A [(h0, .inr (0, [.null, .null, .null, .null, .null, .null, .null, .null, .null, .int 0, .int 0])), (q_7, .inl (cJ, 10, .inr (.inl (fun _ => 0))))] := hD
  refine va_putF (D := D) (ci := 0) (v := .ref q_7) (ty := (.array .long)) (C := RX0) (T := TX0) (N := 11) hx hb hts (inT inX0) tyX0 tyX0_ok nmX0 hown hK hP hD hS 0 rfl rfl 1 (by decide) (hts (.fieldLink RX0 9 "BoardMoves$Limits" "x0" "[J") (by decide +kernel)) (fun _ h9 => h9) rfl hin rfl (by decide +kernel) rfl rfl (Nat.le_of_ble_eq_true rfl) dX0_init_9 (fun H locs hP hD hS => ?_)
  have hP : va_P D vwCl [(h0, .inr (0, [.null, .ref q_7, .null, .null, .null, .null, .null, .null, .null, .int 0, .int 0])), (q_7, .inl (cJ, 10, .inr (.inl (fun _ => 0))))] H := hP
  have hD : va_D A [(h0, .inr (0, [.null, .ref q_7, .null, .null, .null, .null, .null, .null, .null, .int 0, .int 0])), (q_7, .inl (cJ, 10, .inr (.inl (fun _ => 0))))] := hD
  refine lv_aload_n hx hb dX0_init_12 rfl (lv_at hl 0 rfl) ?_
  refine lv_bipush (v := nI 10) hx hb dX0_init_13 (by decide) ?_
  refine bm_newa (atype := .long) (ty := .long) (n := (nI 10)) (a0 := (10, .inr (.inl (fun _ => 0)))) hx hb rfl (hts (.arrayClass .long) (by decide +kernel)) hK hP hD hS hA 0 rfl rfl (by decide) (by decide) (by decide) (Nat.le_of_ble_eq_true rfl) (Nat.le_of_ble_eq_true rfl) dX0_init_15 (fun q_15 H hP hD hS => ?_)
  have hP : va_P D vwCl [(h0, .inr (0, [.null, .ref q_7, .null, .null, .null, .null, .null, .null, .null, .int 0, .int 0])), (q_7, .inl (cJ, 10, .inr (.inl (fun _ => 0)))), (q_15, .inl (cJ, 10, .inr (.inl (fun _ => 0))))] H := hP
  have hD : va_D A [(h0, .inr (0, [.null, .ref q_7, .null, .null, .null, .null, .null, .null, .null, .int 0, .int 0])), (q_7, .inl (cJ, 10, .inr (.inl (fun _ => 0)))), (q_15, .inl (cJ, 10, .inr (.inl (fun _ => 0))))] := hD
  refine va_putF (D := D) (ci := 0) (v := .ref q_15) (ty := (.array .long)) (C := RX0) (T := TX0) (N := 11) hx hb hts (inT inX0) tyX0 tyX0_ok nmX0 hown hK hP hD hS 0 rfl rfl 2 (by decide) (hts (.fieldLink RX0 15 "BoardMoves$Limits" "y0" "[J") (by decide +kernel)) (fun _ h9 => h9) rfl hin rfl (by decide +kernel) rfl rfl (Nat.le_of_ble_eq_true rfl) dX0_init_17 (fun H locs hP hD hS => ?_)
  have hP : va_P D vwCl [(h0, .inr (0, [.null, .ref q_7, .ref q_15, .null, .null, .null, .null, .null, .null, .int 0, .int 0])), (q_7, .inl (cJ, 10, .inr (.inl (fun _ => 0)))), (q_15, .inl (cJ, 10, .inr (.inl (fun _ => 0))))] H := hP
  have hD : va_D A [(h0, .inr (0, [.null, .ref q_7, .ref q_15, .null, .null, .null, .null, .null, .null, .int 0, .int 0])), (q_7, .inl (cJ, 10, .inr (.inl (fun _ => 0)))), (q_15, .inl (cJ, 10, .inr (.inl (fun _ => 0))))] := hD
  refine lv_aload_n hx hb dX0_init_20 rfl (lv_at hl 0 rfl) ?_
  refine lv_bipush (v := nI 10) hx hb dX0_init_21 (by decide) ?_
  refine bm_newa (atype := .long) (ty := .long) (n := (nI 10)) (a0 := (10, .inr (.inl (fun _ => 0)))) hx hb rfl (hts (.arrayClass .long) (by decide +kernel)) hK hP hD hS hA 0 rfl rfl (by decide) (by decide) (by decide) (Nat.le_of_ble_eq_true rfl) (Nat.le_of_ble_eq_true rfl) dX0_init_23 (fun q_23 H hP hD hS => ?_)
  have hP : va_P D vwCl [(h0, .inr (0, [.null, .ref q_7, .ref q_15, .null, .null, .null, .null, .null, .null, .int 0, .int 0])), (q_7, .inl (cJ, 10, .inr (.inl (fun _ => 0)))), (q_15, .inl (cJ, 10, .inr (.inl (fun _ => 0)))), (q_23, .inl (cJ, 10, .inr (.inl (fun _ => 0))))] H := hP
  have hD : va_D A [(h0, .inr (0, [.null, .ref q_7, .ref q_15, .null, .null, .null, .null, .null, .null, .int 0, .int 0])), (q_7, .inl (cJ, 10, .inr (.inl (fun _ => 0)))), (q_15, .inl (cJ, 10, .inr (.inl (fun _ => 0)))), (q_23, .inl (cJ, 10, .inr (.inl (fun _ => 0))))] := hD
  refine va_putF (D := D) (ci := 0) (v := .ref q_23) (ty := (.array .long)) (C := RX0) (T := TX0) (N := 11) hx hb hts (inT inX0) tyX0 tyX0_ok nmX0 hown hK hP hD hS 0 rfl rfl 3 (by decide) (hts (.fieldLink RX0 18 "BoardMoves$Limits" "x1" "[J") (by decide +kernel)) (fun _ h9 => h9) rfl hin rfl (by decide +kernel) rfl rfl (Nat.le_of_ble_eq_true rfl) dX0_init_25 (fun H locs hP hD hS => ?_)
  have hP : va_P D vwCl [(h0, .inr (0, [.null, .ref q_7, .ref q_15, .ref q_23, .null, .null, .null, .null, .null, .int 0, .int 0])), (q_7, .inl (cJ, 10, .inr (.inl (fun _ => 0)))), (q_15, .inl (cJ, 10, .inr (.inl (fun _ => 0)))), (q_23, .inl (cJ, 10, .inr (.inl (fun _ => 0))))] H := hP
  have hD : va_D A [(h0, .inr (0, [.null, .ref q_7, .ref q_15, .ref q_23, .null, .null, .null, .null, .null, .int 0, .int 0])), (q_7, .inl (cJ, 10, .inr (.inl (fun _ => 0)))), (q_15, .inl (cJ, 10, .inr (.inl (fun _ => 0)))), (q_23, .inl (cJ, 10, .inr (.inl (fun _ => 0))))] := hD
  refine lv_aload_n hx hb dX0_init_28 rfl (lv_at hl 0 rfl) ?_
  refine lv_bipush (v := nI 10) hx hb dX0_init_29 (by decide) ?_
  refine bm_newa (atype := .long) (ty := .long) (n := (nI 10)) (a0 := (10, .inr (.inl (fun _ => 0)))) hx hb rfl (hts (.arrayClass .long) (by decide +kernel)) hK hP hD hS hA 0 rfl rfl (by decide) (by decide) (by decide) (Nat.le_of_ble_eq_true rfl) (Nat.le_of_ble_eq_true rfl) dX0_init_31 (fun q_31 H hP hD hS => ?_)
  have hP : va_P D vwCl [(h0, .inr (0, [.null, .ref q_7, .ref q_15, .ref q_23, .null, .null, .null, .null, .null, .int 0, .int 0])), (q_7, .inl (cJ, 10, .inr (.inl (fun _ => 0)))), (q_15, .inl (cJ, 10, .inr (.inl (fun _ => 0)))), (q_23, .inl (cJ, 10, .inr (.inl (fun _ => 0)))), (q_31, .inl (cJ, 10, .inr (.inl (fun _ => 0))))] H := hP
  have hD : va_D A [(h0, .inr (0, [.null, .ref q_7, .ref q_15, .ref q_23, .null, .null, .null, .null, .null, .int 0, .int 0])), (q_7, .inl (cJ, 10, .inr (.inl (fun _ => 0)))), (q_15, .inl (cJ, 10, .inr (.inl (fun _ => 0)))), (q_23, .inl (cJ, 10, .inr (.inl (fun _ => 0)))), (q_31, .inl (cJ, 10, .inr (.inl (fun _ => 0))))] := hD
  refine va_putF (D := D) (ci := 0) (v := .ref q_31) (ty := (.array .long)) (C := RX0) (T := TX0) (N := 11) hx hb hts (inT inX0) tyX0 tyX0_ok nmX0 hown hK hP hD hS 0 rfl rfl 4 (by decide) (hts (.fieldLink RX0 21 "BoardMoves$Limits" "y1" "[J") (by decide +kernel)) (fun _ h9 => h9) rfl hin rfl (by decide +kernel) rfl rfl (Nat.le_of_ble_eq_true rfl) dX0_init_33 (fun H locs hP hD hS => ?_)
  have hP : va_P D vwCl [(h0, .inr (0, [.null, .ref q_7, .ref q_15, .ref q_23, .ref q_31, .null, .null, .null, .null, .int 0, .int 0])), (q_7, .inl (cJ, 10, .inr (.inl (fun _ => 0)))), (q_15, .inl (cJ, 10, .inr (.inl (fun _ => 0)))), (q_23, .inl (cJ, 10, .inr (.inl (fun _ => 0)))), (q_31, .inl (cJ, 10, .inr (.inl (fun _ => 0))))] H := hP
  have hD : va_D A [(h0, .inr (0, [.null, .ref q_7, .ref q_15, .ref q_23, .ref q_31, .null, .null, .null, .null, .int 0, .int 0])), (q_7, .inl (cJ, 10, .inr (.inl (fun _ => 0)))), (q_15, .inl (cJ, 10, .inr (.inl (fun _ => 0)))), (q_23, .inl (cJ, 10, .inr (.inl (fun _ => 0)))), (q_31, .inl (cJ, 10, .inr (.inl (fun _ => 0))))] := hD
  refine lv_aload_n hx hb dX0_init_36 rfl (lv_at hl 0 rfl) ?_
  refine lv_bipush (v := nI 10) hx hb dX0_init_37 (by decide) ?_
  refine bm_newa (atype := .long) (ty := .long) (n := (nI 10)) (a0 := (10, .inr (.inl (fun _ => 0)))) hx hb rfl (hts (.arrayClass .long) (by decide +kernel)) hK hP hD hS hA 0 rfl rfl (by decide) (by decide) (by decide) (Nat.le_of_ble_eq_true rfl) (Nat.le_of_ble_eq_true rfl) dX0_init_39 (fun q_39 H hP hD hS => ?_)
  have hP : va_P D vwCl [(h0, .inr (0, [.null, .ref q_7, .ref q_15, .ref q_23, .ref q_31, .null, .null, .null, .null, .int 0, .int 0])), (q_7, .inl (cJ, 10, .inr (.inl (fun _ => 0)))), (q_15, .inl (cJ, 10, .inr (.inl (fun _ => 0)))), (q_23, .inl (cJ, 10, .inr (.inl (fun _ => 0)))), (q_31, .inl (cJ, 10, .inr (.inl (fun _ => 0)))), (q_39, .inl (cJ, 10, .inr (.inl (fun _ => 0))))] H := hP
  have hD : va_D A [(h0, .inr (0, [.null, .ref q_7, .ref q_15, .ref q_23, .ref q_31, .null, .null, .null, .null, .int 0, .int 0])), (q_7, .inl (cJ, 10, .inr (.inl (fun _ => 0)))), (q_15, .inl (cJ, 10, .inr (.inl (fun _ => 0)))), (q_23, .inl (cJ, 10, .inr (.inl (fun _ => 0)))), (q_31, .inl (cJ, 10, .inr (.inl (fun _ => 0)))), (q_39, .inl (cJ, 10, .inr (.inl (fun _ => 0))))] := hD
  refine va_putF (D := D) (ci := 0) (v := .ref q_39) (ty := (.array .long)) (C := RX0) (T := TX0) (N := 11) hx hb hts (inT inX0) tyX0 tyX0_ok nmX0 hown hK hP hD hS 0 rfl rfl 5 (by decide) (hts (.fieldLink RX0 24 "BoardMoves$Limits" "tallest" "[J") (by decide +kernel)) (fun _ h9 => h9) rfl hin rfl (by decide +kernel) rfl rfl (Nat.le_of_ble_eq_true rfl) dX0_init_41 (fun H locs hP hD hS => ?_)
  have hP : va_P D vwCl [(h0, .inr (0, [.null, .ref q_7, .ref q_15, .ref q_23, .ref q_31, .ref q_39, .null, .null, .null, .int 0, .int 0])), (q_7, .inl (cJ, 10, .inr (.inl (fun _ => 0)))), (q_15, .inl (cJ, 10, .inr (.inl (fun _ => 0)))), (q_23, .inl (cJ, 10, .inr (.inl (fun _ => 0)))), (q_31, .inl (cJ, 10, .inr (.inl (fun _ => 0)))), (q_39, .inl (cJ, 10, .inr (.inl (fun _ => 0))))] H := hP
  have hD : va_D A [(h0, .inr (0, [.null, .ref q_7, .ref q_15, .ref q_23, .ref q_31, .ref q_39, .null, .null, .null, .int 0, .int 0])), (q_7, .inl (cJ, 10, .inr (.inl (fun _ => 0)))), (q_15, .inl (cJ, 10, .inr (.inl (fun _ => 0)))), (q_23, .inl (cJ, 10, .inr (.inl (fun _ => 0)))), (q_31, .inl (cJ, 10, .inr (.inl (fun _ => 0)))), (q_39, .inl (cJ, 10, .inr (.inl (fun _ => 0))))] := hD
  refine lv_aload_n hx hb dX0_init_44 rfl (lv_at hl 0 rfl) ?_
  refine lv_bipush (v := nI 20) hx hb dX0_init_45 (by decide) ?_
  refine bm_newa (atype := .int) (ty := .int) (n := (nI 20)) (a0 := (20, .inl (fun _ => nI 0))) hx hb rfl (hts (.arrayClass .int) (by decide +kernel)) hK hP hD hS hA 1 rfl rfl (by decide) (by decide) (by decide) (Nat.le_of_ble_eq_true rfl) (Nat.le_of_ble_eq_true rfl) dX0_init_47 (fun q_47 H hP hD hS => ?_)
  have hP : va_P D vwCl [(h0, .inr (0, [.null, .ref q_7, .ref q_15, .ref q_23, .ref q_31, .ref q_39, .null, .null, .null, .int 0, .int 0])), (q_7, .inl (cJ, 10, .inr (.inl (fun _ => 0)))), (q_15, .inl (cJ, 10, .inr (.inl (fun _ => 0)))), (q_23, .inl (cJ, 10, .inr (.inl (fun _ => 0)))), (q_31, .inl (cJ, 10, .inr (.inl (fun _ => 0)))), (q_39, .inl (cJ, 10, .inr (.inl (fun _ => 0)))), (q_47, .inl (cI, 20, .inl (fun _ => nI 0)))] H := hP
  have hD : va_D A [(h0, .inr (0, [.null, .ref q_7, .ref q_15, .ref q_23, .ref q_31, .ref q_39, .null, .null, .null, .int 0, .int 0])), (q_7, .inl (cJ, 10, .inr (.inl (fun _ => 0)))), (q_15, .inl (cJ, 10, .inr (.inl (fun _ => 0)))), (q_23, .inl (cJ, 10, .inr (.inl (fun _ => 0)))), (q_31, .inl (cJ, 10, .inr (.inl (fun _ => 0)))), (q_39, .inl (cJ, 10, .inr (.inl (fun _ => 0)))), (q_47, .inl (cI, 20, .inl (fun _ => nI 0)))] := hD
  refine va_putF (D := D) (ci := 0) (v := .ref q_47) (ty := (.array .int)) (C := RX0) (T := TX0) (N := 11) hx hb hts (inT inX0) tyX0 tyX0_ok nmX0 hown hK hP hD hS 0 rfl rfl 6 (by decide) (hts (.fieldLink RX0 27 "BoardMoves$Limits" "one" "[I") (by decide +kernel)) (fun _ h9 => h9) rfl hin rfl (by decide +kernel) rfl rfl (Nat.le_of_ble_eq_true rfl) dX0_init_49 (fun H locs hP hD hS => ?_)
  have hP : va_P D vwCl [(h0, .inr (0, [.null, .ref q_7, .ref q_15, .ref q_23, .ref q_31, .ref q_39, .ref q_47, .null, .null, .int 0, .int 0])), (q_7, .inl (cJ, 10, .inr (.inl (fun _ => 0)))), (q_15, .inl (cJ, 10, .inr (.inl (fun _ => 0)))), (q_23, .inl (cJ, 10, .inr (.inl (fun _ => 0)))), (q_31, .inl (cJ, 10, .inr (.inl (fun _ => 0)))), (q_39, .inl (cJ, 10, .inr (.inl (fun _ => 0)))), (q_47, .inl (cI, 20, .inl (fun _ => nI 0)))] H := hP
  have hD : va_D A [(h0, .inr (0, [.null, .ref q_7, .ref q_15, .ref q_23, .ref q_31, .ref q_39, .ref q_47, .null, .null, .int 0, .int 0])), (q_7, .inl (cJ, 10, .inr (.inl (fun _ => 0)))), (q_15, .inl (cJ, 10, .inr (.inl (fun _ => 0)))), (q_23, .inl (cJ, 10, .inr (.inl (fun _ => 0)))), (q_31, .inl (cJ, 10, .inr (.inl (fun _ => 0)))), (q_39, .inl (cJ, 10, .inr (.inl (fun _ => 0)))), (q_47, .inl (cI, 20, .inl (fun _ => nI 0)))] := hD
  refine lv_aload_n hx hb dX0_init_52 rfl (lv_at hl 0 rfl) ?_
  refine lv_bipush (v := nI 20) hx hb dX0_init_53 (by decide) ?_
  refine bm_newa (atype := .int) (ty := .int) (n := (nI 20)) (a0 := (20, .inl (fun _ => nI 0))) hx hb rfl (hts (.arrayClass .int) (by decide +kernel)) hK hP hD hS hA 1 rfl rfl (by decide) (by decide) (by decide) (Nat.le_of_ble_eq_true rfl) (Nat.le_of_ble_eq_true rfl) dX0_init_55 (fun q_55 H hP hD hS => ?_)
  have hP : va_P D vwCl [(h0, .inr (0, [.null, .ref q_7, .ref q_15, .ref q_23, .ref q_31, .ref q_39, .ref q_47, .null, .null, .int 0, .int 0])), (q_7, .inl (cJ, 10, .inr (.inl (fun _ => 0)))), (q_15, .inl (cJ, 10, .inr (.inl (fun _ => 0)))), (q_23, .inl (cJ, 10, .inr (.inl (fun _ => 0)))), (q_31, .inl (cJ, 10, .inr (.inl (fun _ => 0)))), (q_39, .inl (cJ, 10, .inr (.inl (fun _ => 0)))), (q_47, .inl (cI, 20, .inl (fun _ => nI 0))), (q_55, .inl (cI, 20, .inl (fun _ => nI 0)))] H := hP
  have hD : va_D A [(h0, .inr (0, [.null, .ref q_7, .ref q_15, .ref q_23, .ref q_31, .ref q_39, .ref q_47, .null, .null, .int 0, .int 0])), (q_7, .inl (cJ, 10, .inr (.inl (fun _ => 0)))), (q_15, .inl (cJ, 10, .inr (.inl (fun _ => 0)))), (q_23, .inl (cJ, 10, .inr (.inl (fun _ => 0)))), (q_31, .inl (cJ, 10, .inr (.inl (fun _ => 0)))), (q_39, .inl (cJ, 10, .inr (.inl (fun _ => 0)))), (q_47, .inl (cI, 20, .inl (fun _ => nI 0))), (q_55, .inl (cI, 20, .inl (fun _ => nI 0)))] := hD
  refine va_putF (D := D) (ci := 0) (v := .ref q_55) (ty := (.array .int)) (C := RX0) (T := TX0) (N := 11) hx hb hts (inT inX0) tyX0 tyX0_ok nmX0 hown hK hP hD hS 0 rfl rfl 7 (by decide) (hts (.fieldLink RX0 31 "BoardMoves$Limits" "other" "[I") (by decide +kernel)) (fun _ h9 => h9) rfl hin rfl (by decide +kernel) rfl rfl (Nat.le_of_ble_eq_true rfl) dX0_init_57 (fun H locs hP hD hS => ?_)
  have hP : va_P D vwCl [(h0, .inr (0, [.null, .ref q_7, .ref q_15, .ref q_23, .ref q_31, .ref q_39, .ref q_47, .ref q_55, .null, .int 0, .int 0])), (q_7, .inl (cJ, 10, .inr (.inl (fun _ => 0)))), (q_15, .inl (cJ, 10, .inr (.inl (fun _ => 0)))), (q_23, .inl (cJ, 10, .inr (.inl (fun _ => 0)))), (q_31, .inl (cJ, 10, .inr (.inl (fun _ => 0)))), (q_39, .inl (cJ, 10, .inr (.inl (fun _ => 0)))), (q_47, .inl (cI, 20, .inl (fun _ => nI 0))), (q_55, .inl (cI, 20, .inl (fun _ => nI 0)))] H := hP
  have hD : va_D A [(h0, .inr (0, [.null, .ref q_7, .ref q_15, .ref q_23, .ref q_31, .ref q_39, .ref q_47, .ref q_55, .null, .int 0, .int 0])), (q_7, .inl (cJ, 10, .inr (.inl (fun _ => 0)))), (q_15, .inl (cJ, 10, .inr (.inl (fun _ => 0)))), (q_23, .inl (cJ, 10, .inr (.inl (fun _ => 0)))), (q_31, .inl (cJ, 10, .inr (.inl (fun _ => 0)))), (q_39, .inl (cJ, 10, .inr (.inl (fun _ => 0)))), (q_47, .inl (cI, 20, .inl (fun _ => nI 0))), (q_55, .inl (cI, 20, .inl (fun _ => nI 0)))] := hD
  refine lv_aload_n hx hb dX0_init_60 rfl (lv_at hl 0 rfl) ?_
  refine lv_bipush (v := nI 20) hx hb dX0_init_61 (by decide) ?_
  refine bm_newa (atype := .long) (ty := .long) (n := (nI 20)) (a0 := (20, .inr (.inl (fun _ => 0)))) hx hb rfl (hts (.arrayClass .long) (by decide +kernel)) hK hP hD hS hA 0 rfl rfl (by decide) (by decide) (by decide) (Nat.le_of_ble_eq_true rfl) (Nat.le_of_ble_eq_true rfl) dX0_init_63 (fun q_63 H hP hD hS => ?_)
  have hP : va_P D vwCl [(h0, .inr (0, [.null, .ref q_7, .ref q_15, .ref q_23, .ref q_31, .ref q_39, .ref q_47, .ref q_55, .null, .int 0, .int 0])), (q_7, .inl (cJ, 10, .inr (.inl (fun _ => 0)))), (q_15, .inl (cJ, 10, .inr (.inl (fun _ => 0)))), (q_23, .inl (cJ, 10, .inr (.inl (fun _ => 0)))), (q_31, .inl (cJ, 10, .inr (.inl (fun _ => 0)))), (q_39, .inl (cJ, 10, .inr (.inl (fun _ => 0)))), (q_47, .inl (cI, 20, .inl (fun _ => nI 0))), (q_55, .inl (cI, 20, .inl (fun _ => nI 0))), (q_63, .inl (cJ, 20, .inr (.inl (fun _ => 0))))] H := hP
  have hD : va_D A [(h0, .inr (0, [.null, .ref q_7, .ref q_15, .ref q_23, .ref q_31, .ref q_39, .ref q_47, .ref q_55, .null, .int 0, .int 0])), (q_7, .inl (cJ, 10, .inr (.inl (fun _ => 0)))), (q_15, .inl (cJ, 10, .inr (.inl (fun _ => 0)))), (q_23, .inl (cJ, 10, .inr (.inl (fun _ => 0)))), (q_31, .inl (cJ, 10, .inr (.inl (fun _ => 0)))), (q_39, .inl (cJ, 10, .inr (.inl (fun _ => 0)))), (q_47, .inl (cI, 20, .inl (fun _ => nI 0))), (q_55, .inl (cI, 20, .inl (fun _ => nI 0))), (q_63, .inl (cJ, 20, .inr (.inl (fun _ => 0))))] := hD
  refine va_putF (D := D) (ci := 0) (v := .ref q_63) (ty := (.array .long)) (C := RX0) (T := TX0) (N := 11) hx hb hts (inT inX0) tyX0 tyX0_ok nmX0 hown hK hP hD hS 0 rfl rfl 8 (by decide) (hts (.fieldLink RX0 34 "BoardMoves$Limits" "most" "[J") (by decide +kernel)) (fun _ h9 => h9) rfl hin rfl (by decide +kernel) rfl rfl (Nat.le_of_ble_eq_true rfl) dX0_init_65 (fun H locs hP hD hS => ?_)
  have hP : va_P D vwCl [(h0, .inr (0, [.null, .ref q_7, .ref q_15, .ref q_23, .ref q_31, .ref q_39, .ref q_47, .ref q_55, .ref q_63, .int 0, .int 0])), (q_7, .inl (cJ, 10, .inr (.inl (fun _ => 0)))), (q_15, .inl (cJ, 10, .inr (.inl (fun _ => 0)))), (q_23, .inl (cJ, 10, .inr (.inl (fun _ => 0)))), (q_31, .inl (cJ, 10, .inr (.inl (fun _ => 0)))), (q_39, .inl (cJ, 10, .inr (.inl (fun _ => 0)))), (q_47, .inl (cI, 20, .inl (fun _ => nI 0))), (q_55, .inl (cI, 20, .inl (fun _ => nI 0))), (q_63, .inl (cJ, 20, .inr (.inl (fun _ => 0))))] H := hP
  have hD : va_D A [(h0, .inr (0, [.null, .ref q_7, .ref q_15, .ref q_23, .ref q_31, .ref q_39, .ref q_47, .ref q_55, .ref q_63, .int 0, .int 0])), (q_7, .inl (cJ, 10, .inr (.inl (fun _ => 0)))), (q_15, .inl (cJ, 10, .inr (.inl (fun _ => 0)))), (q_23, .inl (cJ, 10, .inr (.inl (fun _ => 0)))), (q_31, .inl (cJ, 10, .inr (.inl (fun _ => 0)))), (q_39, .inl (cJ, 10, .inr (.inl (fun _ => 0)))), (q_47, .inl (cI, 20, .inl (fun _ => nI 0))), (q_55, .inl (cI, 20, .inl (fun _ => nI 0))), (q_63, .inl (cJ, 20, .inr (.inl (fun _ => 0))))] := hD
  refine lv_aload_n hx hb dX0_init_68 rfl (lv_at hl 0 rfl) ?_
  refine lv_iconst (v := nI 0) hx hb dX0_init_69 (by decide) ?_
  refine va_put (D := D) (ci := 0) (v := .int (nI 0)) (ty := .int) (C := RX0) (T := TX0) (N := 11) hx hb hts (inT inX0) tyX0 tyX0_ok nmX0 hown hK hP hD hS 0 rfl rfl 9 (by decide) (hts (.fieldLink RX0 37 "BoardMoves$Limits" "keepOuts" "I") (by decide +kernel)) (fun _ h9 => h9) rfl (by decide +kernel) rfl rfl (Nat.le_of_ble_eq_true rfl) dX0_init_70 (fun H locs hP hD hS => ?_)
  have hP : va_P D vwCl [(h0, .inr (0, [.null, .ref q_7, .ref q_15, .ref q_23, .ref q_31, .ref q_39, .ref q_47, .ref q_55, .ref q_63, .int (nI 0), .int 0])), (q_7, .inl (cJ, 10, .inr (.inl (fun _ => 0)))), (q_15, .inl (cJ, 10, .inr (.inl (fun _ => 0)))), (q_23, .inl (cJ, 10, .inr (.inl (fun _ => 0)))), (q_31, .inl (cJ, 10, .inr (.inl (fun _ => 0)))), (q_39, .inl (cJ, 10, .inr (.inl (fun _ => 0)))), (q_47, .inl (cI, 20, .inl (fun _ => nI 0))), (q_55, .inl (cI, 20, .inl (fun _ => nI 0))), (q_63, .inl (cJ, 20, .inr (.inl (fun _ => 0))))] H := hP
  have hD : va_D A [(h0, .inr (0, [.null, .ref q_7, .ref q_15, .ref q_23, .ref q_31, .ref q_39, .ref q_47, .ref q_55, .ref q_63, .int (nI 0), .int 0])), (q_7, .inl (cJ, 10, .inr (.inl (fun _ => 0)))), (q_15, .inl (cJ, 10, .inr (.inl (fun _ => 0)))), (q_23, .inl (cJ, 10, .inr (.inl (fun _ => 0)))), (q_31, .inl (cJ, 10, .inr (.inl (fun _ => 0)))), (q_39, .inl (cJ, 10, .inr (.inl (fun _ => 0)))), (q_47, .inl (cI, 20, .inl (fun _ => nI 0))), (q_55, .inl (cI, 20, .inl (fun _ => nI 0))), (q_63, .inl (cJ, 20, .inr (.inl (fun _ => 0))))] := hD
  refine lv_aload_n hx hb dX0_init_73 rfl (lv_at hl 0 rfl) ?_
  refine lv_iconst (v := nI 0) hx hb dX0_init_74 (by decide) ?_
  refine va_put (D := D) (ci := 0) (v := .int (nI 0)) (ty := .int) (C := RX0) (T := TX0) (N := 11) hx hb hts (inT inX0) tyX0 tyX0_ok nmX0 hown hK hP hD hS 0 rfl rfl 10 (by decide) (hts (.fieldLink RX0 41 "BoardMoves$Limits" "nears" "I") (by decide +kernel)) (fun _ h9 => h9) rfl (by decide +kernel) rfl rfl (Nat.le_of_ble_eq_true rfl) dX0_init_75 (fun H locs hP hD hS => ?_)
  have hP : va_P D vwCl [(h0, .inr (0, [.null, .ref q_7, .ref q_15, .ref q_23, .ref q_31, .ref q_39, .ref q_47, .ref q_55, .ref q_63, .int (nI 0), .int (nI 0)])), (q_7, .inl (cJ, 10, .inr (.inl (fun _ => 0)))), (q_15, .inl (cJ, 10, .inr (.inl (fun _ => 0)))), (q_23, .inl (cJ, 10, .inr (.inl (fun _ => 0)))), (q_31, .inl (cJ, 10, .inr (.inl (fun _ => 0)))), (q_39, .inl (cJ, 10, .inr (.inl (fun _ => 0)))), (q_47, .inl (cI, 20, .inl (fun _ => nI 0))), (q_55, .inl (cI, 20, .inl (fun _ => nI 0))), (q_63, .inl (cJ, 20, .inr (.inl (fun _ => 0))))] H := hP
  have hD : va_D A [(h0, .inr (0, [.null, .ref q_7, .ref q_15, .ref q_23, .ref q_31, .ref q_39, .ref q_47, .ref q_55, .ref q_63, .int (nI 0), .int (nI 0)])), (q_7, .inl (cJ, 10, .inr (.inl (fun _ => 0)))), (q_15, .inl (cJ, 10, .inr (.inl (fun _ => 0)))), (q_23, .inl (cJ, 10, .inr (.inl (fun _ => 0)))), (q_31, .inl (cJ, 10, .inr (.inl (fun _ => 0)))), (q_39, .inl (cJ, 10, .inr (.inl (fun _ => 0)))), (q_47, .inl (cI, 20, .inl (fun _ => nI 0))), (q_55, .inl (cI, 20, .inl (fun _ => nI 0))), (q_63, .inl (cJ, 20, .inr (.inl (fun _ => 0))))] := hD
  refine lv_aload_n hx hb dX0_init_78 rfl (lv_at hl 0 rfl) ?_
  refine lv_aload_n hx hb dX0_init_79 rfl (lv_at hl 1 rfl) ?_
  refine va_putF (D := D) (ci := 0) (v := .ref z1) (ty := (.object "BoardMoves$Parts")) (C := RX0) (T := TX0) (N := 11) hx hb hts (inT inX0) tyX0 tyX0_ok nmX0 hown hK hP hD hS 0 rfl rfl 0 (by decide) (hts (.fieldLink RX0 44 "BoardMoves$Limits" "parts" "LBoardMoves$Parts;") (by decide +kernel)) (fun _ h9 => h9) rfl hin rfl (by decide +kernel) rfl rfl (Nat.le_of_ble_eq_true rfl) dX0_init_80 (fun H locs hP hD hS => ?_)
  have hP : va_P D vwCl [(h0, .inr (0, [.ref z1, .ref q_7, .ref q_15, .ref q_23, .ref q_31, .ref q_39, .ref q_47, .ref q_55, .ref q_63, .int (nI 0), .int (nI 0)])), (q_7, .inl (cJ, 10, .inr (.inl (fun _ => 0)))), (q_15, .inl (cJ, 10, .inr (.inl (fun _ => 0)))), (q_23, .inl (cJ, 10, .inr (.inl (fun _ => 0)))), (q_31, .inl (cJ, 10, .inr (.inl (fun _ => 0)))), (q_39, .inl (cJ, 10, .inr (.inl (fun _ => 0)))), (q_47, .inl (cI, 20, .inl (fun _ => nI 0))), (q_55, .inl (cI, 20, .inl (fun _ => nI 0))), (q_63, .inl (cJ, 20, .inr (.inl (fun _ => 0))))] H := hP
  have hD : va_D A [(h0, .inr (0, [.ref z1, .ref q_7, .ref q_15, .ref q_23, .ref q_31, .ref q_39, .ref q_47, .ref q_55, .ref q_63, .int (nI 0), .int (nI 0)])), (q_7, .inl (cJ, 10, .inr (.inl (fun _ => 0)))), (q_15, .inl (cJ, 10, .inr (.inl (fun _ => 0)))), (q_23, .inl (cJ, 10, .inr (.inl (fun _ => 0)))), (q_31, .inl (cJ, 10, .inr (.inl (fun _ => 0)))), (q_39, .inl (cJ, 10, .inr (.inl (fun _ => 0)))), (q_47, .inl (cI, 20, .inl (fun _ => nI 0))), (q_55, .inl (cI, 20, .inl (fun _ => nI 0))), (q_63, .inl (cJ, 20, .inr (.inl (fun _ => 0))))] := hD
  refine W.widen (k := 8) (n := 110) (Nat.le_of_ble_eq_true rfl) (Nat.le_of_ble_eq_true rfl) ?_
  exact W.vret hx hb hr (fun t ht hW => ⟨⟨(), rfl, trivial, q_7, q_15, q_23, q_31, q_39, q_47, q_55, q_63, by rw [ht]; exact hP, va_K.moved hW.alike hK, hD⟩, hS.F ht⟩) hS.2.2 dX0_init_83

set_option maxHeartbeats 4000000 in
set_option maxRecDepth 100000 in
theorem c_Wiring {l : Launch} {D : va_G} {cJ cI cZ : ClassId} {h0 : Nat} {z1 : Nat} (sz : Nat) : Met l yX3_init wsX3_init ({ frames := 1, cells := 9, slots := 680, locals := 20 }) (bm_Wp D vwCl [(cJ, .long), (cI, .int), (cZ, .boolean)] [(h0, .inr (3, [.null, .null, .null, .null, .null, .null, .null, .null, .null, .null, .int 0, .int 0]))] [.ref h0, .ref z1] sz) (va_Qv (fun _ : Unit => True) (fun _ t => ∃ (q_7 q_15 q_23 q_31 q_39 q_47 q_55 q_63 q_71 : Nat), va_P D vwCl [(h0, .inr (3, [.ref z1, .ref q_7, .ref q_15, .ref q_23, .ref q_31, .ref q_39, .ref q_47, .ref q_55, .ref q_63, .ref q_71, .int (nI 0), .int (nI 0)])), (q_7, .inl (cI, 120, .inl (fun _ => nI 0))), (q_15, .inl (cI, 120, .inl (fun _ => nI 0))), (q_23, .inl (cJ, 120, .inr (.inl (fun _ => 0)))), (q_31, .inl (cJ, 120, .inr (.inl (fun _ => 0)))), (q_39, .inl (cZ, 40, .inl (fun _ => bm_b false))), (q_47, .inl (cJ, 40, .inr (.inl (fun _ => 0)))), (q_55, .inl (cJ, 40, .inr (.inl (fun _ => 0)))), (q_63, .inl (cJ, 40, .inr (.inl (fun _ => 0)))), (q_71, .inl (cJ, 40, .inr (.inl (fun _ => 0))))] t.heap ∧ va_K D vwCl [(cJ, .long), (cI, .int), (cZ, .boolean)] t ∧ va_D (va_A [(h0, .inr (3, [.null, .null, .null, .null, .null, .null, .null, .null, .null, .null, .int 0, .int 0]))] sz) [(h0, .inr (3, [.ref z1, .ref q_7, .ref q_15, .ref q_23, .ref q_31, .ref q_39, .ref q_47, .ref q_55, .ref q_63, .ref q_71, .int (nI 0), .int (nI 0)])), (q_7, .inl (cI, 120, .inl (fun _ => nI 0))), (q_15, .inl (cI, 120, .inl (fun _ => nI 0))), (q_23, .inl (cJ, 120, .inr (.inl (fun _ => 0)))), (q_31, .inl (cJ, 120, .inr (.inl (fun _ => 0)))), (q_39, .inl (cZ, 40, .inl (fun _ => bm_b false))), (q_47, .inl (cJ, 40, .inr (.inl (fun _ => 0)))), (q_55, .inl (cJ, 40, .inr (.inl (fun _ => 0)))), (q_63, .inl (cJ, 40, .inr (.inl (fun _ => 0)))), (q_71, .inl (cJ, 40, .inr (.inl (fun _ => 0))))]) (va_A [(h0, .inr (3, [.null, .null, .null, .null, .null, .null, .null, .null, .null, .null, .int 0, .int 0]))] sz)) 9 680 (va_A [(h0, .inr (3, [.null, .null, .null, .null, .null, .null, .null, .null, .null, .null, .int 0, .int 0]))] sz) := by
  refine Met.ofW (cc := cX3_init) (maxL := 2) (ret := none) (by decide) rfl ?_
  intro p e s m args below meth c s₁ B hml hv
  obtain ⟨ha, hsz, hP, hK, hD0⟩ := hv
  have hx := B.exec
  have hb := B.bytes
  have hr := B.returns
  have hts := atoms_spec (ws := wsX3_init) B.pre
  have hown : s.vm.findClass RX3 = some m.cls := findClass_of_methodNamed B.named
  have hlocks := B.notSynchronized
  have hin : meth.name = "<init>" := (name_of_methodNamed B.named B.method).1
  subst hsz
  have hD := hD0.self (sz := s.heap.size)
  generalize hAe : va_A [(h0, .inr (3, [.null, .null, .null, .null, .null, .null, .null, .null, .null, .null, .int 0, .int 0]))] s.heap.size = A at hD ⊢
  have hA : ∀ q : Nat, s.heap.size ≤ q → A q := fun q h => by rw [← hAe]; exact Or.inr h
  have hS : va_S A s.heap s.heap [] := va_S.rf
  have hP : va_P D vwCl [(h0, .inr (3, [.null, .null, .null, .null, .null, .null, .null, .null, .null, .null, .int 0, .int 0]))] s.heap := hP
  have hl := lv_entry ([.ref h0, .ref z1]) (n := 2) (Nat.le_of_ble_eq_true rfl)
  refine W.eq (g2 := entryFrame m ([.ref h0, .ref z1] : List Value).toArray 2) (by rw [ha]) ?_
  rw [lg_entry_eq]
  generalize (lg_sl ([.ref h0, .ref z1]) ++ List.replicate (2 - (lg_sl ([.ref h0, .ref z1])).length) Slot.unset).toArray = ls at hl ⊢
  have hl : lv_has ls 2 [(0, .ref h0), (1, .ref z1)] := hl
  refine lv_aload_n hx hb dX3_init_0 rfl (lv_at hl 0 rfl) ?_
  refine W.objInit hx hb hown (hts (.methodLink RX3 3 objectInit) (by decide +kernel)) (hts (.instanceMethod objectInit) (by decide +kernel)) (hts (.code objectInit ⟨#[0xb1]⟩ 1 none) (by decide +kernel)) rfl (by rw [hml]; exact hl.1) rfl dX3_init_1 (Nat.le_of_ble_eq_true rfl) (Nat.le_of_ble_eq_true rfl) ?_
  refine W.eq (g2 := F0 m 4 ls []) rfl ?_
  refine lv_aload_n hx hb dX3_init_4 rfl (lv_at hl 0 rfl) ?_
  refine lv_bipush (v := nI 120) hx hb dX3_init_5 (by decide) ?_
  refine bm_newa (atype := .int) (ty := .int) (n := (nI 120)) (a0 := (120, .inl (fun _ => nI 0))) hx hb rfl (hts (.arrayClass .int) (by decide +kernel)) hK hP hD hS hA 1 rfl rfl (by decide) (by decide) (by decide) (Nat.le_of_ble_eq_true rfl) (Nat.le_of_ble_eq_true rfl) dX3_init_7 (fun q_7 H hP hD hS => ?_)
  have hP : va_P D vwCl [(h0, .inr (3, [.null, .null, .null, .null, .null, .null, .null, .null, .null, .null, .int 0, .int 0])), (q_7, .inl (cI, 120, .inl (fun _ => nI 0)))] H := hP
  have hD : va_D A [(h0, .inr (3, [.null, .null, .null, .null, .null, .null, .null, .null, .null, .null, .int 0, .int 0])), (q_7, .inl (cI, 120, .inl (fun _ => nI 0)))] := hD
  refine va_putF (D := D) (ci := 3) (v := .ref q_7) (ty := (.array .int)) (C := RX3) (T := TX3) (N := 12) hx hb hts (inT inX3) tyX3 tyX3_ok nmX3 hown hK hP hD hS 0 rfl rfl 1 (by decide) (hts (.fieldLink RX3 9 "BoardMoves$Wiring" "netOf" "[I") (by decide +kernel)) (fun _ h9 => h9) rfl hin rfl (by decide +kernel) rfl rfl (Nat.le_of_ble_eq_true rfl) dX3_init_9 (fun H locs hP hD hS => ?_)
  have hP : va_P D vwCl [(h0, .inr (3, [.null, .ref q_7, .null, .null, .null, .null, .null, .null, .null, .null, .int 0, .int 0])), (q_7, .inl (cI, 120, .inl (fun _ => nI 0)))] H := hP
  have hD : va_D A [(h0, .inr (3, [.null, .ref q_7, .null, .null, .null, .null, .null, .null, .null, .null, .int 0, .int 0])), (q_7, .inl (cI, 120, .inl (fun _ => nI 0)))] := hD
  refine lv_aload_n hx hb dX3_init_12 rfl (lv_at hl 0 rfl) ?_
  refine lv_bipush (v := nI 120) hx hb dX3_init_13 (by decide) ?_
  refine bm_newa (atype := .int) (ty := .int) (n := (nI 120)) (a0 := (120, .inl (fun _ => nI 0))) hx hb rfl (hts (.arrayClass .int) (by decide +kernel)) hK hP hD hS hA 1 rfl rfl (by decide) (by decide) (by decide) (Nat.le_of_ble_eq_true rfl) (Nat.le_of_ble_eq_true rfl) dX3_init_15 (fun q_15 H hP hD hS => ?_)
  have hP : va_P D vwCl [(h0, .inr (3, [.null, .ref q_7, .null, .null, .null, .null, .null, .null, .null, .null, .int 0, .int 0])), (q_7, .inl (cI, 120, .inl (fun _ => nI 0))), (q_15, .inl (cI, 120, .inl (fun _ => nI 0)))] H := hP
  have hD : va_D A [(h0, .inr (3, [.null, .ref q_7, .null, .null, .null, .null, .null, .null, .null, .null, .int 0, .int 0])), (q_7, .inl (cI, 120, .inl (fun _ => nI 0))), (q_15, .inl (cI, 120, .inl (fun _ => nI 0)))] := hD
  refine va_putF (D := D) (ci := 3) (v := .ref q_15) (ty := (.array .int)) (C := RX3) (T := TX3) (N := 12) hx hb hts (inT inX3) tyX3 tyX3_ok nmX3 hown hK hP hD hS 0 rfl rfl 2 (by decide) (hts (.fieldLink RX3 15 "BoardMoves$Wiring" "partOf" "[I") (by decide +kernel)) (fun _ h9 => h9) rfl hin rfl (by decide +kernel) rfl rfl (Nat.le_of_ble_eq_true rfl) dX3_init_17 (fun H locs hP hD hS => ?_)
  have hP : va_P D vwCl [(h0, .inr (3, [.null, .ref q_7, .ref q_15, .null, .null, .null, .null, .null, .null, .null, .int 0, .int 0])), (q_7, .inl (cI, 120, .inl (fun _ => nI 0))), (q_15, .inl (cI, 120, .inl (fun _ => nI 0)))] H := hP
  have hD : va_D A [(h0, .inr (3, [.null, .ref q_7, .ref q_15, .null, .null, .null, .null, .null, .null, .null, .int 0, .int 0])), (q_7, .inl (cI, 120, .inl (fun _ => nI 0))), (q_15, .inl (cI, 120, .inl (fun _ => nI 0)))] := hD
  refine lv_aload_n hx hb dX3_init_20 rfl (lv_at hl 0 rfl) ?_
  refine lv_bipush (v := nI 120) hx hb dX3_init_21 (by decide) ?_
  refine bm_newa (atype := .long) (ty := .long) (n := (nI 120)) (a0 := (120, .inr (.inl (fun _ => 0)))) hx hb rfl (hts (.arrayClass .long) (by decide +kernel)) hK hP hD hS hA 0 rfl rfl (by decide) (by decide) (by decide) (Nat.le_of_ble_eq_true rfl) (Nat.le_of_ble_eq_true rfl) dX3_init_23 (fun q_23 H hP hD hS => ?_)
  have hP : va_P D vwCl [(h0, .inr (3, [.null, .ref q_7, .ref q_15, .null, .null, .null, .null, .null, .null, .null, .int 0, .int 0])), (q_7, .inl (cI, 120, .inl (fun _ => nI 0))), (q_15, .inl (cI, 120, .inl (fun _ => nI 0))), (q_23, .inl (cJ, 120, .inr (.inl (fun _ => 0))))] H := hP
  have hD : va_D A [(h0, .inr (3, [.null, .ref q_7, .ref q_15, .null, .null, .null, .null, .null, .null, .null, .int 0, .int 0])), (q_7, .inl (cI, 120, .inl (fun _ => nI 0))), (q_15, .inl (cI, 120, .inl (fun _ => nI 0))), (q_23, .inl (cJ, 120, .inr (.inl (fun _ => 0))))] := hD
  refine va_putF (D := D) (ci := 3) (v := .ref q_23) (ty := (.array .long)) (C := RX3) (T := TX3) (N := 12) hx hb hts (inT inX3) tyX3 tyX3_ok nmX3 hown hK hP hD hS 0 rfl rfl 3 (by decide) (hts (.fieldLink RX3 18 "BoardMoves$Wiring" "dx" "[J") (by decide +kernel)) (fun _ h9 => h9) rfl hin rfl (by decide +kernel) rfl rfl (Nat.le_of_ble_eq_true rfl) dX3_init_25 (fun H locs hP hD hS => ?_)
  have hP : va_P D vwCl [(h0, .inr (3, [.null, .ref q_7, .ref q_15, .ref q_23, .null, .null, .null, .null, .null, .null, .int 0, .int 0])), (q_7, .inl (cI, 120, .inl (fun _ => nI 0))), (q_15, .inl (cI, 120, .inl (fun _ => nI 0))), (q_23, .inl (cJ, 120, .inr (.inl (fun _ => 0))))] H := hP
  have hD : va_D A [(h0, .inr (3, [.null, .ref q_7, .ref q_15, .ref q_23, .null, .null, .null, .null, .null, .null, .int 0, .int 0])), (q_7, .inl (cI, 120, .inl (fun _ => nI 0))), (q_15, .inl (cI, 120, .inl (fun _ => nI 0))), (q_23, .inl (cJ, 120, .inr (.inl (fun _ => 0))))] := hD
  refine lv_aload_n hx hb dX3_init_28 rfl (lv_at hl 0 rfl) ?_
  refine lv_bipush (v := nI 120) hx hb dX3_init_29 (by decide) ?_
  refine bm_newa (atype := .long) (ty := .long) (n := (nI 120)) (a0 := (120, .inr (.inl (fun _ => 0)))) hx hb rfl (hts (.arrayClass .long) (by decide +kernel)) hK hP hD hS hA 0 rfl rfl (by decide) (by decide) (by decide) (Nat.le_of_ble_eq_true rfl) (Nat.le_of_ble_eq_true rfl) dX3_init_31 (fun q_31 H hP hD hS => ?_)
  have hP : va_P D vwCl [(h0, .inr (3, [.null, .ref q_7, .ref q_15, .ref q_23, .null, .null, .null, .null, .null, .null, .int 0, .int 0])), (q_7, .inl (cI, 120, .inl (fun _ => nI 0))), (q_15, .inl (cI, 120, .inl (fun _ => nI 0))), (q_23, .inl (cJ, 120, .inr (.inl (fun _ => 0)))), (q_31, .inl (cJ, 120, .inr (.inl (fun _ => 0))))] H := hP
  have hD : va_D A [(h0, .inr (3, [.null, .ref q_7, .ref q_15, .ref q_23, .null, .null, .null, .null, .null, .null, .int 0, .int 0])), (q_7, .inl (cI, 120, .inl (fun _ => nI 0))), (q_15, .inl (cI, 120, .inl (fun _ => nI 0))), (q_23, .inl (cJ, 120, .inr (.inl (fun _ => 0)))), (q_31, .inl (cJ, 120, .inr (.inl (fun _ => 0))))] := hD
  refine va_putF (D := D) (ci := 3) (v := .ref q_31) (ty := (.array .long)) (C := RX3) (T := TX3) (N := 12) hx hb hts (inT inX3) tyX3 tyX3_ok nmX3 hown hK hP hD hS 0 rfl rfl 4 (by decide) (hts (.fieldLink RX3 22 "BoardMoves$Wiring" "dy" "[J") (by decide +kernel)) (fun _ h9 => h9) rfl hin rfl (by decide +kernel) rfl rfl (Nat.le_of_ble_eq_true rfl) dX3_init_33 (fun H locs hP hD hS => ?_)
  have hP : va_P D vwCl [(h0, .inr (3, [.null, .ref q_7, .ref q_15, .ref q_23, .ref q_31, .null, .null, .null, .null, .null, .int 0, .int 0])), (q_7, .inl (cI, 120, .inl (fun _ => nI 0))), (q_15, .inl (cI, 120, .inl (fun _ => nI 0))), (q_23, .inl (cJ, 120, .inr (.inl (fun _ => 0)))), (q_31, .inl (cJ, 120, .inr (.inl (fun _ => 0))))] H := hP
  have hD : va_D A [(h0, .inr (3, [.null, .ref q_7, .ref q_15, .ref q_23, .ref q_31, .null, .null, .null, .null, .null, .int 0, .int 0])), (q_7, .inl (cI, 120, .inl (fun _ => nI 0))), (q_15, .inl (cI, 120, .inl (fun _ => nI 0))), (q_23, .inl (cJ, 120, .inr (.inl (fun _ => 0)))), (q_31, .inl (cJ, 120, .inr (.inl (fun _ => 0))))] := hD
  refine lv_aload_n hx hb dX3_init_36 rfl (lv_at hl 0 rfl) ?_
  refine lv_bipush (v := nI 40) hx hb dX3_init_37 (by decide) ?_
  refine bm_newa (atype := .boolean) (ty := .boolean) (n := (nI 40)) (a0 := (40, .inl (fun _ => bm_b false))) hx hb rfl (hts (.arrayClass .boolean) (by decide +kernel)) hK hP hD hS hA 2 rfl rfl (by decide) (by decide) (by decide) (Nat.le_of_ble_eq_true rfl) (Nat.le_of_ble_eq_true rfl) dX3_init_39 (fun q_39 H hP hD hS => ?_)
  have hP : va_P D vwCl [(h0, .inr (3, [.null, .ref q_7, .ref q_15, .ref q_23, .ref q_31, .null, .null, .null, .null, .null, .int 0, .int 0])), (q_7, .inl (cI, 120, .inl (fun _ => nI 0))), (q_15, .inl (cI, 120, .inl (fun _ => nI 0))), (q_23, .inl (cJ, 120, .inr (.inl (fun _ => 0)))), (q_31, .inl (cJ, 120, .inr (.inl (fun _ => 0)))), (q_39, .inl (cZ, 40, .inl (fun _ => bm_b false)))] H := hP
  have hD : va_D A [(h0, .inr (3, [.null, .ref q_7, .ref q_15, .ref q_23, .ref q_31, .null, .null, .null, .null, .null, .int 0, .int 0])), (q_7, .inl (cI, 120, .inl (fun _ => nI 0))), (q_15, .inl (cI, 120, .inl (fun _ => nI 0))), (q_23, .inl (cJ, 120, .inr (.inl (fun _ => 0)))), (q_31, .inl (cJ, 120, .inr (.inl (fun _ => 0)))), (q_39, .inl (cZ, 40, .inl (fun _ => bm_b false)))] := hD
  refine va_putF (D := D) (ci := 3) (v := .ref q_39) (ty := (.array .boolean)) (C := RX3) (T := TX3) (N := 12) hx hb hts (inT inX3) tyX3 tyX3_ok nmX3 hown hK hP hD hS 0 rfl rfl 5 (by decide) (hts (.fieldLink RX3 25 "BoardMoves$Wiring" "reached" "[Z") (by decide +kernel)) (fun _ h9 => h9) rfl hin rfl (by decide +kernel) rfl rfl (Nat.le_of_ble_eq_true rfl) dX3_init_41 (fun H locs hP hD hS => ?_)
  have hP : va_P D vwCl [(h0, .inr (3, [.null, .ref q_7, .ref q_15, .ref q_23, .ref q_31, .ref q_39, .null, .null, .null, .null, .int 0, .int 0])), (q_7, .inl (cI, 120, .inl (fun _ => nI 0))), (q_15, .inl (cI, 120, .inl (fun _ => nI 0))), (q_23, .inl (cJ, 120, .inr (.inl (fun _ => 0)))), (q_31, .inl (cJ, 120, .inr (.inl (fun _ => 0)))), (q_39, .inl (cZ, 40, .inl (fun _ => bm_b false)))] H := hP
  have hD : va_D A [(h0, .inr (3, [.null, .ref q_7, .ref q_15, .ref q_23, .ref q_31, .ref q_39, .null, .null, .null, .null, .int 0, .int 0])), (q_7, .inl (cI, 120, .inl (fun _ => nI 0))), (q_15, .inl (cI, 120, .inl (fun _ => nI 0))), (q_23, .inl (cJ, 120, .inr (.inl (fun _ => 0)))), (q_31, .inl (cJ, 120, .inr (.inl (fun _ => 0)))), (q_39, .inl (cZ, 40, .inl (fun _ => bm_b false)))] := hD
  refine lv_aload_n hx hb dX3_init_44 rfl (lv_at hl 0 rfl) ?_
  refine lv_bipush (v := nI 40) hx hb dX3_init_45 (by decide) ?_
  refine bm_newa (atype := .long) (ty := .long) (n := (nI 40)) (a0 := (40, .inr (.inl (fun _ => 0)))) hx hb rfl (hts (.arrayClass .long) (by decide +kernel)) hK hP hD hS hA 0 rfl rfl (by decide) (by decide) (by decide) (Nat.le_of_ble_eq_true rfl) (Nat.le_of_ble_eq_true rfl) dX3_init_47 (fun q_47 H hP hD hS => ?_)
  have hP : va_P D vwCl [(h0, .inr (3, [.null, .ref q_7, .ref q_15, .ref q_23, .ref q_31, .ref q_39, .null, .null, .null, .null, .int 0, .int 0])), (q_7, .inl (cI, 120, .inl (fun _ => nI 0))), (q_15, .inl (cI, 120, .inl (fun _ => nI 0))), (q_23, .inl (cJ, 120, .inr (.inl (fun _ => 0)))), (q_31, .inl (cJ, 120, .inr (.inl (fun _ => 0)))), (q_39, .inl (cZ, 40, .inl (fun _ => bm_b false))), (q_47, .inl (cJ, 40, .inr (.inl (fun _ => 0))))] H := hP
  have hD : va_D A [(h0, .inr (3, [.null, .ref q_7, .ref q_15, .ref q_23, .ref q_31, .ref q_39, .null, .null, .null, .null, .int 0, .int 0])), (q_7, .inl (cI, 120, .inl (fun _ => nI 0))), (q_15, .inl (cI, 120, .inl (fun _ => nI 0))), (q_23, .inl (cJ, 120, .inr (.inl (fun _ => 0)))), (q_31, .inl (cJ, 120, .inr (.inl (fun _ => 0)))), (q_39, .inl (cZ, 40, .inl (fun _ => bm_b false))), (q_47, .inl (cJ, 40, .inr (.inl (fun _ => 0))))] := hD
  refine va_putF (D := D) (ci := 3) (v := .ref q_47) (ty := (.array .long)) (C := RX3) (T := TX3) (N := 12) hx hb hts (inT inX3) tyX3 tyX3_ok nmX3 hown hK hP hD hS 0 rfl rfl 6 (by decide) (hts (.fieldLink RX3 29 "BoardMoves$Wiring" "lowX" "[J") (by decide +kernel)) (fun _ h9 => h9) rfl hin rfl (by decide +kernel) rfl rfl (Nat.le_of_ble_eq_true rfl) dX3_init_49 (fun H locs hP hD hS => ?_)
  have hP : va_P D vwCl [(h0, .inr (3, [.null, .ref q_7, .ref q_15, .ref q_23, .ref q_31, .ref q_39, .ref q_47, .null, .null, .null, .int 0, .int 0])), (q_7, .inl (cI, 120, .inl (fun _ => nI 0))), (q_15, .inl (cI, 120, .inl (fun _ => nI 0))), (q_23, .inl (cJ, 120, .inr (.inl (fun _ => 0)))), (q_31, .inl (cJ, 120, .inr (.inl (fun _ => 0)))), (q_39, .inl (cZ, 40, .inl (fun _ => bm_b false))), (q_47, .inl (cJ, 40, .inr (.inl (fun _ => 0))))] H := hP
  have hD : va_D A [(h0, .inr (3, [.null, .ref q_7, .ref q_15, .ref q_23, .ref q_31, .ref q_39, .ref q_47, .null, .null, .null, .int 0, .int 0])), (q_7, .inl (cI, 120, .inl (fun _ => nI 0))), (q_15, .inl (cI, 120, .inl (fun _ => nI 0))), (q_23, .inl (cJ, 120, .inr (.inl (fun _ => 0)))), (q_31, .inl (cJ, 120, .inr (.inl (fun _ => 0)))), (q_39, .inl (cZ, 40, .inl (fun _ => bm_b false))), (q_47, .inl (cJ, 40, .inr (.inl (fun _ => 0))))] := hD
  refine lv_aload_n hx hb dX3_init_52 rfl (lv_at hl 0 rfl) ?_
  refine lv_bipush (v := nI 40) hx hb dX3_init_53 (by decide) ?_
  refine bm_newa (atype := .long) (ty := .long) (n := (nI 40)) (a0 := (40, .inr (.inl (fun _ => 0)))) hx hb rfl (hts (.arrayClass .long) (by decide +kernel)) hK hP hD hS hA 0 rfl rfl (by decide) (by decide) (by decide) (Nat.le_of_ble_eq_true rfl) (Nat.le_of_ble_eq_true rfl) dX3_init_55 (fun q_55 H hP hD hS => ?_)
  have hP : va_P D vwCl [(h0, .inr (3, [.null, .ref q_7, .ref q_15, .ref q_23, .ref q_31, .ref q_39, .ref q_47, .null, .null, .null, .int 0, .int 0])), (q_7, .inl (cI, 120, .inl (fun _ => nI 0))), (q_15, .inl (cI, 120, .inl (fun _ => nI 0))), (q_23, .inl (cJ, 120, .inr (.inl (fun _ => 0)))), (q_31, .inl (cJ, 120, .inr (.inl (fun _ => 0)))), (q_39, .inl (cZ, 40, .inl (fun _ => bm_b false))), (q_47, .inl (cJ, 40, .inr (.inl (fun _ => 0)))), (q_55, .inl (cJ, 40, .inr (.inl (fun _ => 0))))] H := hP
  have hD : va_D A [(h0, .inr (3, [.null, .ref q_7, .ref q_15, .ref q_23, .ref q_31, .ref q_39, .ref q_47, .null, .null, .null, .int 0, .int 0])), (q_7, .inl (cI, 120, .inl (fun _ => nI 0))), (q_15, .inl (cI, 120, .inl (fun _ => nI 0))), (q_23, .inl (cJ, 120, .inr (.inl (fun _ => 0)))), (q_31, .inl (cJ, 120, .inr (.inl (fun _ => 0)))), (q_39, .inl (cZ, 40, .inl (fun _ => bm_b false))), (q_47, .inl (cJ, 40, .inr (.inl (fun _ => 0)))), (q_55, .inl (cJ, 40, .inr (.inl (fun _ => 0))))] := hD
  refine va_putF (D := D) (ci := 3) (v := .ref q_55) (ty := (.array .long)) (C := RX3) (T := TX3) (N := 12) hx hb hts (inT inX3) tyX3 tyX3_ok nmX3 hown hK hP hD hS 0 rfl rfl 7 (by decide) (hts (.fieldLink RX3 32 "BoardMoves$Wiring" "highX" "[J") (by decide +kernel)) (fun _ h9 => h9) rfl hin rfl (by decide +kernel) rfl rfl (Nat.le_of_ble_eq_true rfl) dX3_init_57 (fun H locs hP hD hS => ?_)
  have hP : va_P D vwCl [(h0, .inr (3, [.null, .ref q_7, .ref q_15, .ref q_23, .ref q_31, .ref q_39, .ref q_47, .ref q_55, .null, .null, .int 0, .int 0])), (q_7, .inl (cI, 120, .inl (fun _ => nI 0))), (q_15, .inl (cI, 120, .inl (fun _ => nI 0))), (q_23, .inl (cJ, 120, .inr (.inl (fun _ => 0)))), (q_31, .inl (cJ, 120, .inr (.inl (fun _ => 0)))), (q_39, .inl (cZ, 40, .inl (fun _ => bm_b false))), (q_47, .inl (cJ, 40, .inr (.inl (fun _ => 0)))), (q_55, .inl (cJ, 40, .inr (.inl (fun _ => 0))))] H := hP
  have hD : va_D A [(h0, .inr (3, [.null, .ref q_7, .ref q_15, .ref q_23, .ref q_31, .ref q_39, .ref q_47, .ref q_55, .null, .null, .int 0, .int 0])), (q_7, .inl (cI, 120, .inl (fun _ => nI 0))), (q_15, .inl (cI, 120, .inl (fun _ => nI 0))), (q_23, .inl (cJ, 120, .inr (.inl (fun _ => 0)))), (q_31, .inl (cJ, 120, .inr (.inl (fun _ => 0)))), (q_39, .inl (cZ, 40, .inl (fun _ => bm_b false))), (q_47, .inl (cJ, 40, .inr (.inl (fun _ => 0)))), (q_55, .inl (cJ, 40, .inr (.inl (fun _ => 0))))] := hD
  refine lv_aload_n hx hb dX3_init_60 rfl (lv_at hl 0 rfl) ?_
  refine lv_bipush (v := nI 40) hx hb dX3_init_61 (by decide) ?_
  refine bm_newa (atype := .long) (ty := .long) (n := (nI 40)) (a0 := (40, .inr (.inl (fun _ => 0)))) hx hb rfl (hts (.arrayClass .long) (by decide +kernel)) hK hP hD hS hA 0 rfl rfl (by decide) (by decide) (by decide) (Nat.le_of_ble_eq_true rfl) (Nat.le_of_ble_eq_true rfl) dX3_init_63 (fun q_63 H hP hD hS => ?_)
  have hP : va_P D vwCl [(h0, .inr (3, [.null, .ref q_7, .ref q_15, .ref q_23, .ref q_31, .ref q_39, .ref q_47, .ref q_55, .null, .null, .int 0, .int 0])), (q_7, .inl (cI, 120, .inl (fun _ => nI 0))), (q_15, .inl (cI, 120, .inl (fun _ => nI 0))), (q_23, .inl (cJ, 120, .inr (.inl (fun _ => 0)))), (q_31, .inl (cJ, 120, .inr (.inl (fun _ => 0)))), (q_39, .inl (cZ, 40, .inl (fun _ => bm_b false))), (q_47, .inl (cJ, 40, .inr (.inl (fun _ => 0)))), (q_55, .inl (cJ, 40, .inr (.inl (fun _ => 0)))), (q_63, .inl (cJ, 40, .inr (.inl (fun _ => 0))))] H := hP
  have hD : va_D A [(h0, .inr (3, [.null, .ref q_7, .ref q_15, .ref q_23, .ref q_31, .ref q_39, .ref q_47, .ref q_55, .null, .null, .int 0, .int 0])), (q_7, .inl (cI, 120, .inl (fun _ => nI 0))), (q_15, .inl (cI, 120, .inl (fun _ => nI 0))), (q_23, .inl (cJ, 120, .inr (.inl (fun _ => 0)))), (q_31, .inl (cJ, 120, .inr (.inl (fun _ => 0)))), (q_39, .inl (cZ, 40, .inl (fun _ => bm_b false))), (q_47, .inl (cJ, 40, .inr (.inl (fun _ => 0)))), (q_55, .inl (cJ, 40, .inr (.inl (fun _ => 0)))), (q_63, .inl (cJ, 40, .inr (.inl (fun _ => 0))))] := hD
  refine va_putF (D := D) (ci := 3) (v := .ref q_63) (ty := (.array .long)) (C := RX3) (T := TX3) (N := 12) hx hb hts (inT inX3) tyX3 tyX3_ok nmX3 hown hK hP hD hS 0 rfl rfl 8 (by decide) (hts (.fieldLink RX3 35 "BoardMoves$Wiring" "lowY" "[J") (by decide +kernel)) (fun _ h9 => h9) rfl hin rfl (by decide +kernel) rfl rfl (Nat.le_of_ble_eq_true rfl) dX3_init_65 (fun H locs hP hD hS => ?_)
  have hP : va_P D vwCl [(h0, .inr (3, [.null, .ref q_7, .ref q_15, .ref q_23, .ref q_31, .ref q_39, .ref q_47, .ref q_55, .ref q_63, .null, .int 0, .int 0])), (q_7, .inl (cI, 120, .inl (fun _ => nI 0))), (q_15, .inl (cI, 120, .inl (fun _ => nI 0))), (q_23, .inl (cJ, 120, .inr (.inl (fun _ => 0)))), (q_31, .inl (cJ, 120, .inr (.inl (fun _ => 0)))), (q_39, .inl (cZ, 40, .inl (fun _ => bm_b false))), (q_47, .inl (cJ, 40, .inr (.inl (fun _ => 0)))), (q_55, .inl (cJ, 40, .inr (.inl (fun _ => 0)))), (q_63, .inl (cJ, 40, .inr (.inl (fun _ => 0))))] H := hP
  have hD : va_D A [(h0, .inr (3, [.null, .ref q_7, .ref q_15, .ref q_23, .ref q_31, .ref q_39, .ref q_47, .ref q_55, .ref q_63, .null, .int 0, .int 0])), (q_7, .inl (cI, 120, .inl (fun _ => nI 0))), (q_15, .inl (cI, 120, .inl (fun _ => nI 0))), (q_23, .inl (cJ, 120, .inr (.inl (fun _ => 0)))), (q_31, .inl (cJ, 120, .inr (.inl (fun _ => 0)))), (q_39, .inl (cZ, 40, .inl (fun _ => bm_b false))), (q_47, .inl (cJ, 40, .inr (.inl (fun _ => 0)))), (q_55, .inl (cJ, 40, .inr (.inl (fun _ => 0)))), (q_63, .inl (cJ, 40, .inr (.inl (fun _ => 0))))] := hD
  refine lv_aload_n hx hb dX3_init_68 rfl (lv_at hl 0 rfl) ?_
  refine lv_bipush (v := nI 40) hx hb dX3_init_69 (by decide) ?_
  refine bm_newa (atype := .long) (ty := .long) (n := (nI 40)) (a0 := (40, .inr (.inl (fun _ => 0)))) hx hb rfl (hts (.arrayClass .long) (by decide +kernel)) hK hP hD hS hA 0 rfl rfl (by decide) (by decide) (by decide) (Nat.le_of_ble_eq_true rfl) (Nat.le_of_ble_eq_true rfl) dX3_init_71 (fun q_71 H hP hD hS => ?_)
  have hP : va_P D vwCl [(h0, .inr (3, [.null, .ref q_7, .ref q_15, .ref q_23, .ref q_31, .ref q_39, .ref q_47, .ref q_55, .ref q_63, .null, .int 0, .int 0])), (q_7, .inl (cI, 120, .inl (fun _ => nI 0))), (q_15, .inl (cI, 120, .inl (fun _ => nI 0))), (q_23, .inl (cJ, 120, .inr (.inl (fun _ => 0)))), (q_31, .inl (cJ, 120, .inr (.inl (fun _ => 0)))), (q_39, .inl (cZ, 40, .inl (fun _ => bm_b false))), (q_47, .inl (cJ, 40, .inr (.inl (fun _ => 0)))), (q_55, .inl (cJ, 40, .inr (.inl (fun _ => 0)))), (q_63, .inl (cJ, 40, .inr (.inl (fun _ => 0)))), (q_71, .inl (cJ, 40, .inr (.inl (fun _ => 0))))] H := hP
  have hD : va_D A [(h0, .inr (3, [.null, .ref q_7, .ref q_15, .ref q_23, .ref q_31, .ref q_39, .ref q_47, .ref q_55, .ref q_63, .null, .int 0, .int 0])), (q_7, .inl (cI, 120, .inl (fun _ => nI 0))), (q_15, .inl (cI, 120, .inl (fun _ => nI 0))), (q_23, .inl (cJ, 120, .inr (.inl (fun _ => 0)))), (q_31, .inl (cJ, 120, .inr (.inl (fun _ => 0)))), (q_39, .inl (cZ, 40, .inl (fun _ => bm_b false))), (q_47, .inl (cJ, 40, .inr (.inl (fun _ => 0)))), (q_55, .inl (cJ, 40, .inr (.inl (fun _ => 0)))), (q_63, .inl (cJ, 40, .inr (.inl (fun _ => 0)))), (q_71, .inl (cJ, 40, .inr (.inl (fun _ => 0))))] := hD
  refine va_putF (D := D) (ci := 3) (v := .ref q_71) (ty := (.array .long)) (C := RX3) (T := TX3) (N := 12) hx hb hts (inT inX3) tyX3 tyX3_ok nmX3 hown hK hP hD hS 0 rfl rfl 9 (by decide) (hts (.fieldLink RX3 38 "BoardMoves$Wiring" "highY" "[J") (by decide +kernel)) (fun _ h9 => h9) rfl hin rfl (by decide +kernel) rfl rfl (Nat.le_of_ble_eq_true rfl) dX3_init_73 (fun H locs hP hD hS => ?_)
  have hP : va_P D vwCl [(h0, .inr (3, [.null, .ref q_7, .ref q_15, .ref q_23, .ref q_31, .ref q_39, .ref q_47, .ref q_55, .ref q_63, .ref q_71, .int 0, .int 0])), (q_7, .inl (cI, 120, .inl (fun _ => nI 0))), (q_15, .inl (cI, 120, .inl (fun _ => nI 0))), (q_23, .inl (cJ, 120, .inr (.inl (fun _ => 0)))), (q_31, .inl (cJ, 120, .inr (.inl (fun _ => 0)))), (q_39, .inl (cZ, 40, .inl (fun _ => bm_b false))), (q_47, .inl (cJ, 40, .inr (.inl (fun _ => 0)))), (q_55, .inl (cJ, 40, .inr (.inl (fun _ => 0)))), (q_63, .inl (cJ, 40, .inr (.inl (fun _ => 0)))), (q_71, .inl (cJ, 40, .inr (.inl (fun _ => 0))))] H := hP
  have hD : va_D A [(h0, .inr (3, [.null, .ref q_7, .ref q_15, .ref q_23, .ref q_31, .ref q_39, .ref q_47, .ref q_55, .ref q_63, .ref q_71, .int 0, .int 0])), (q_7, .inl (cI, 120, .inl (fun _ => nI 0))), (q_15, .inl (cI, 120, .inl (fun _ => nI 0))), (q_23, .inl (cJ, 120, .inr (.inl (fun _ => 0)))), (q_31, .inl (cJ, 120, .inr (.inl (fun _ => 0)))), (q_39, .inl (cZ, 40, .inl (fun _ => bm_b false))), (q_47, .inl (cJ, 40, .inr (.inl (fun _ => 0)))), (q_55, .inl (cJ, 40, .inr (.inl (fun _ => 0)))), (q_63, .inl (cJ, 40, .inr (.inl (fun _ => 0)))), (q_71, .inl (cJ, 40, .inr (.inl (fun _ => 0))))] := hD
  refine lv_aload_n hx hb dX3_init_76 rfl (lv_at hl 0 rfl) ?_
  refine lv_iconst (v := nI 0) hx hb dX3_init_77 (by decide) ?_
  refine va_put (D := D) (ci := 3) (v := .int (nI 0)) (ty := .int) (C := RX3) (T := TX3) (N := 12) hx hb hts (inT inX3) tyX3 tyX3_ok nmX3 hown hK hP hD hS 0 rfl rfl 10 (by decide) (hts (.fieldLink RX3 41 "BoardMoves$Wiring" "nets" "I") (by decide +kernel)) (fun _ h9 => h9) rfl (by decide +kernel) rfl rfl (Nat.le_of_ble_eq_true rfl) dX3_init_78 (fun H locs hP hD hS => ?_)
  have hP : va_P D vwCl [(h0, .inr (3, [.null, .ref q_7, .ref q_15, .ref q_23, .ref q_31, .ref q_39, .ref q_47, .ref q_55, .ref q_63, .ref q_71, .int (nI 0), .int 0])), (q_7, .inl (cI, 120, .inl (fun _ => nI 0))), (q_15, .inl (cI, 120, .inl (fun _ => nI 0))), (q_23, .inl (cJ, 120, .inr (.inl (fun _ => 0)))), (q_31, .inl (cJ, 120, .inr (.inl (fun _ => 0)))), (q_39, .inl (cZ, 40, .inl (fun _ => bm_b false))), (q_47, .inl (cJ, 40, .inr (.inl (fun _ => 0)))), (q_55, .inl (cJ, 40, .inr (.inl (fun _ => 0)))), (q_63, .inl (cJ, 40, .inr (.inl (fun _ => 0)))), (q_71, .inl (cJ, 40, .inr (.inl (fun _ => 0))))] H := hP
  have hD : va_D A [(h0, .inr (3, [.null, .ref q_7, .ref q_15, .ref q_23, .ref q_31, .ref q_39, .ref q_47, .ref q_55, .ref q_63, .ref q_71, .int (nI 0), .int 0])), (q_7, .inl (cI, 120, .inl (fun _ => nI 0))), (q_15, .inl (cI, 120, .inl (fun _ => nI 0))), (q_23, .inl (cJ, 120, .inr (.inl (fun _ => 0)))), (q_31, .inl (cJ, 120, .inr (.inl (fun _ => 0)))), (q_39, .inl (cZ, 40, .inl (fun _ => bm_b false))), (q_47, .inl (cJ, 40, .inr (.inl (fun _ => 0)))), (q_55, .inl (cJ, 40, .inr (.inl (fun _ => 0)))), (q_63, .inl (cJ, 40, .inr (.inl (fun _ => 0)))), (q_71, .inl (cJ, 40, .inr (.inl (fun _ => 0))))] := hD
  refine lv_aload_n hx hb dX3_init_81 rfl (lv_at hl 0 rfl) ?_
  refine lv_iconst (v := nI 0) hx hb dX3_init_82 (by decide) ?_
  refine va_put (D := D) (ci := 3) (v := .int (nI 0)) (ty := .int) (C := RX3) (T := TX3) (N := 12) hx hb hts (inT inX3) tyX3 tyX3_ok nmX3 hown hK hP hD hS 0 rfl rfl 11 (by decide) (hts (.fieldLink RX3 45 "BoardMoves$Wiring" "pins" "I") (by decide +kernel)) (fun _ h9 => h9) rfl (by decide +kernel) rfl rfl (Nat.le_of_ble_eq_true rfl) dX3_init_83 (fun H locs hP hD hS => ?_)
  have hP : va_P D vwCl [(h0, .inr (3, [.null, .ref q_7, .ref q_15, .ref q_23, .ref q_31, .ref q_39, .ref q_47, .ref q_55, .ref q_63, .ref q_71, .int (nI 0), .int (nI 0)])), (q_7, .inl (cI, 120, .inl (fun _ => nI 0))), (q_15, .inl (cI, 120, .inl (fun _ => nI 0))), (q_23, .inl (cJ, 120, .inr (.inl (fun _ => 0)))), (q_31, .inl (cJ, 120, .inr (.inl (fun _ => 0)))), (q_39, .inl (cZ, 40, .inl (fun _ => bm_b false))), (q_47, .inl (cJ, 40, .inr (.inl (fun _ => 0)))), (q_55, .inl (cJ, 40, .inr (.inl (fun _ => 0)))), (q_63, .inl (cJ, 40, .inr (.inl (fun _ => 0)))), (q_71, .inl (cJ, 40, .inr (.inl (fun _ => 0))))] H := hP
  have hD : va_D A [(h0, .inr (3, [.null, .ref q_7, .ref q_15, .ref q_23, .ref q_31, .ref q_39, .ref q_47, .ref q_55, .ref q_63, .ref q_71, .int (nI 0), .int (nI 0)])), (q_7, .inl (cI, 120, .inl (fun _ => nI 0))), (q_15, .inl (cI, 120, .inl (fun _ => nI 0))), (q_23, .inl (cJ, 120, .inr (.inl (fun _ => 0)))), (q_31, .inl (cJ, 120, .inr (.inl (fun _ => 0)))), (q_39, .inl (cZ, 40, .inl (fun _ => bm_b false))), (q_47, .inl (cJ, 40, .inr (.inl (fun _ => 0)))), (q_55, .inl (cJ, 40, .inr (.inl (fun _ => 0)))), (q_63, .inl (cJ, 40, .inr (.inl (fun _ => 0)))), (q_71, .inl (cJ, 40, .inr (.inl (fun _ => 0))))] := hD
  refine lv_aload_n hx hb dX3_init_86 rfl (lv_at hl 0 rfl) ?_
  refine lv_aload_n hx hb dX3_init_87 rfl (lv_at hl 1 rfl) ?_
  refine va_putF (D := D) (ci := 3) (v := .ref z1) (ty := (.object "BoardMoves$Parts")) (C := RX3) (T := TX3) (N := 12) hx hb hts (inT inX3) tyX3 tyX3_ok nmX3 hown hK hP hD hS 0 rfl rfl 0 (by decide) (hts (.fieldLink RX3 48 "BoardMoves$Wiring" "parts" "LBoardMoves$Parts;") (by decide +kernel)) (fun _ h9 => h9) rfl hin rfl (by decide +kernel) rfl rfl (Nat.le_of_ble_eq_true rfl) dX3_init_88 (fun H locs hP hD hS => ?_)
  have hP : va_P D vwCl [(h0, .inr (3, [.ref z1, .ref q_7, .ref q_15, .ref q_23, .ref q_31, .ref q_39, .ref q_47, .ref q_55, .ref q_63, .ref q_71, .int (nI 0), .int (nI 0)])), (q_7, .inl (cI, 120, .inl (fun _ => nI 0))), (q_15, .inl (cI, 120, .inl (fun _ => nI 0))), (q_23, .inl (cJ, 120, .inr (.inl (fun _ => 0)))), (q_31, .inl (cJ, 120, .inr (.inl (fun _ => 0)))), (q_39, .inl (cZ, 40, .inl (fun _ => bm_b false))), (q_47, .inl (cJ, 40, .inr (.inl (fun _ => 0)))), (q_55, .inl (cJ, 40, .inr (.inl (fun _ => 0)))), (q_63, .inl (cJ, 40, .inr (.inl (fun _ => 0)))), (q_71, .inl (cJ, 40, .inr (.inl (fun _ => 0))))] H := hP
  have hD : va_D A [(h0, .inr (3, [.ref z1, .ref q_7, .ref q_15, .ref q_23, .ref q_31, .ref q_39, .ref q_47, .ref q_55, .ref q_63, .ref q_71, .int (nI 0), .int (nI 0)])), (q_7, .inl (cI, 120, .inl (fun _ => nI 0))), (q_15, .inl (cI, 120, .inl (fun _ => nI 0))), (q_23, .inl (cJ, 120, .inr (.inl (fun _ => 0)))), (q_31, .inl (cJ, 120, .inr (.inl (fun _ => 0)))), (q_39, .inl (cZ, 40, .inl (fun _ => bm_b false))), (q_47, .inl (cJ, 40, .inr (.inl (fun _ => 0)))), (q_55, .inl (cJ, 40, .inr (.inl (fun _ => 0)))), (q_63, .inl (cJ, 40, .inr (.inl (fun _ => 0)))), (q_71, .inl (cJ, 40, .inr (.inl (fun _ => 0))))] := hD
  refine W.widen (k := 9) (n := 680) (Nat.le_of_ble_eq_true rfl) (Nat.le_of_ble_eq_true rfl) ?_
  exact W.vret hx hb hr (fun t ht hW => ⟨⟨(), rfl, trivial, q_7, q_15, q_23, q_31, q_39, q_47, q_55, q_63, q_71, by rw [ht]; exact hP, va_K.moved hW.alike hK, hD⟩, hS.F ht⟩) hS.2.2 dX3_init_91

set_option maxHeartbeats 4000000 in
set_option maxRecDepth 100000 in
theorem c_Placement {l : Launch} {D : va_G} {cJ cI cZ : ClassId} {h0 : Nat} {z1 : Nat} (sz : Nat) : Met l yX2_init wsX2_init ({ frames := 1, cells := 4, slots := 160, locals := 20 }) (bm_Wp D vwCl [(cJ, .long), (cI, .int), (cZ, .boolean)] [(h0, .inr (2, [.null, .null, .null, .null, .null]))] [.ref h0, .ref z1] sz) (va_Qv (fun _ : Unit => True) (fun _ t => ∃ (q_7 q_15 q_23 q_31 : Nat), va_P D vwCl [(h0, .inr (2, [.ref z1, .ref q_7, .ref q_15, .ref q_23, .ref q_31])), (q_7, .inl (cJ, 40, .inr (.inl (fun _ => 0)))), (q_15, .inl (cJ, 40, .inr (.inl (fun _ => 0)))), (q_23, .inl (cI, 40, .inl (fun _ => nI 0))), (q_31, .inl (cZ, 40, .inl (fun _ => bm_b false)))] t.heap ∧ va_K D vwCl [(cJ, .long), (cI, .int), (cZ, .boolean)] t ∧ va_D (va_A [(h0, .inr (2, [.null, .null, .null, .null, .null]))] sz) [(h0, .inr (2, [.ref z1, .ref q_7, .ref q_15, .ref q_23, .ref q_31])), (q_7, .inl (cJ, 40, .inr (.inl (fun _ => 0)))), (q_15, .inl (cJ, 40, .inr (.inl (fun _ => 0)))), (q_23, .inl (cI, 40, .inl (fun _ => nI 0))), (q_31, .inl (cZ, 40, .inl (fun _ => bm_b false)))]) (va_A [(h0, .inr (2, [.null, .null, .null, .null, .null]))] sz)) 4 160 (va_A [(h0, .inr (2, [.null, .null, .null, .null, .null]))] sz) := by
  refine Met.ofW (cc := cX2_init) (maxL := 2) (ret := none) (by decide) rfl ?_
  intro p e s m args below meth c s₁ B hml hv
  obtain ⟨ha, hsz, hP, hK, hD0⟩ := hv
  have hx := B.exec
  have hb := B.bytes
  have hr := B.returns
  have hts := atoms_spec (ws := wsX2_init) B.pre
  have hown : s.vm.findClass RX2 = some m.cls := findClass_of_methodNamed B.named
  have hlocks := B.notSynchronized
  have hin : meth.name = "<init>" := (name_of_methodNamed B.named B.method).1
  subst hsz
  have hD := hD0.self (sz := s.heap.size)
  generalize hAe : va_A [(h0, .inr (2, [.null, .null, .null, .null, .null]))] s.heap.size = A at hD ⊢
  have hA : ∀ q : Nat, s.heap.size ≤ q → A q := fun q h => by rw [← hAe]; exact Or.inr h
  have hS : va_S A s.heap s.heap [] := va_S.rf
  have hP : va_P D vwCl [(h0, .inr (2, [.null, .null, .null, .null, .null]))] s.heap := hP
  have hl := lv_entry ([.ref h0, .ref z1]) (n := 2) (Nat.le_of_ble_eq_true rfl)
  refine W.eq (g2 := entryFrame m ([.ref h0, .ref z1] : List Value).toArray 2) (by rw [ha]) ?_
  rw [lg_entry_eq]
  generalize (lg_sl ([.ref h0, .ref z1]) ++ List.replicate (2 - (lg_sl ([.ref h0, .ref z1])).length) Slot.unset).toArray = ls at hl ⊢
  have hl : lv_has ls 2 [(0, .ref h0), (1, .ref z1)] := hl
  refine lv_aload_n hx hb dX2_init_0 rfl (lv_at hl 0 rfl) ?_
  refine W.objInit hx hb hown (hts (.methodLink RX2 3 objectInit) (by decide +kernel)) (hts (.instanceMethod objectInit) (by decide +kernel)) (hts (.code objectInit ⟨#[0xb1]⟩ 1 none) (by decide +kernel)) rfl (by rw [hml]; exact hl.1) rfl dX2_init_1 (Nat.le_of_ble_eq_true rfl) (Nat.le_of_ble_eq_true rfl) ?_
  refine W.eq (g2 := F0 m 4 ls []) rfl ?_
  refine lv_aload_n hx hb dX2_init_4 rfl (lv_at hl 0 rfl) ?_
  refine lv_bipush (v := nI 40) hx hb dX2_init_5 (by decide) ?_
  refine bm_newa (atype := .long) (ty := .long) (n := (nI 40)) (a0 := (40, .inr (.inl (fun _ => 0)))) hx hb rfl (hts (.arrayClass .long) (by decide +kernel)) hK hP hD hS hA 0 rfl rfl (by decide) (by decide) (by decide) (Nat.le_of_ble_eq_true rfl) (Nat.le_of_ble_eq_true rfl) dX2_init_7 (fun q_7 H hP hD hS => ?_)
  have hP : va_P D vwCl [(h0, .inr (2, [.null, .null, .null, .null, .null])), (q_7, .inl (cJ, 40, .inr (.inl (fun _ => 0))))] H := hP
  have hD : va_D A [(h0, .inr (2, [.null, .null, .null, .null, .null])), (q_7, .inl (cJ, 40, .inr (.inl (fun _ => 0))))] := hD
  refine va_putF (D := D) (ci := 2) (v := .ref q_7) (ty := (.array .long)) (C := RX2) (T := TX2) (N := 5) hx hb hts (inT inX2) tyX2 tyX2_ok nmX2 hown hK hP hD hS 0 rfl rfl 1 (by decide) (hts (.fieldLink RX2 9 "BoardMoves$Placement" "x" "[J") (by decide +kernel)) (fun _ h9 => h9) rfl hin rfl (by decide +kernel) rfl rfl (Nat.le_of_ble_eq_true rfl) dX2_init_9 (fun H locs hP hD hS => ?_)
  have hP : va_P D vwCl [(h0, .inr (2, [.null, .ref q_7, .null, .null, .null])), (q_7, .inl (cJ, 40, .inr (.inl (fun _ => 0))))] H := hP
  have hD : va_D A [(h0, .inr (2, [.null, .ref q_7, .null, .null, .null])), (q_7, .inl (cJ, 40, .inr (.inl (fun _ => 0))))] := hD
  refine lv_aload_n hx hb dX2_init_12 rfl (lv_at hl 0 rfl) ?_
  refine lv_bipush (v := nI 40) hx hb dX2_init_13 (by decide) ?_
  refine bm_newa (atype := .long) (ty := .long) (n := (nI 40)) (a0 := (40, .inr (.inl (fun _ => 0)))) hx hb rfl (hts (.arrayClass .long) (by decide +kernel)) hK hP hD hS hA 0 rfl rfl (by decide) (by decide) (by decide) (Nat.le_of_ble_eq_true rfl) (Nat.le_of_ble_eq_true rfl) dX2_init_15 (fun q_15 H hP hD hS => ?_)
  have hP : va_P D vwCl [(h0, .inr (2, [.null, .ref q_7, .null, .null, .null])), (q_7, .inl (cJ, 40, .inr (.inl (fun _ => 0)))), (q_15, .inl (cJ, 40, .inr (.inl (fun _ => 0))))] H := hP
  have hD : va_D A [(h0, .inr (2, [.null, .ref q_7, .null, .null, .null])), (q_7, .inl (cJ, 40, .inr (.inl (fun _ => 0)))), (q_15, .inl (cJ, 40, .inr (.inl (fun _ => 0))))] := hD
  refine va_putF (D := D) (ci := 2) (v := .ref q_15) (ty := (.array .long)) (C := RX2) (T := TX2) (N := 5) hx hb hts (inT inX2) tyX2 tyX2_ok nmX2 hown hK hP hD hS 0 rfl rfl 2 (by decide) (hts (.fieldLink RX2 15 "BoardMoves$Placement" "y" "[J") (by decide +kernel)) (fun _ h9 => h9) rfl hin rfl (by decide +kernel) rfl rfl (Nat.le_of_ble_eq_true rfl) dX2_init_17 (fun H locs hP hD hS => ?_)
  have hP : va_P D vwCl [(h0, .inr (2, [.null, .ref q_7, .ref q_15, .null, .null])), (q_7, .inl (cJ, 40, .inr (.inl (fun _ => 0)))), (q_15, .inl (cJ, 40, .inr (.inl (fun _ => 0))))] H := hP
  have hD : va_D A [(h0, .inr (2, [.null, .ref q_7, .ref q_15, .null, .null])), (q_7, .inl (cJ, 40, .inr (.inl (fun _ => 0)))), (q_15, .inl (cJ, 40, .inr (.inl (fun _ => 0))))] := hD
  refine lv_aload_n hx hb dX2_init_20 rfl (lv_at hl 0 rfl) ?_
  refine lv_bipush (v := nI 40) hx hb dX2_init_21 (by decide) ?_
  refine bm_newa (atype := .int) (ty := .int) (n := (nI 40)) (a0 := (40, .inl (fun _ => nI 0))) hx hb rfl (hts (.arrayClass .int) (by decide +kernel)) hK hP hD hS hA 1 rfl rfl (by decide) (by decide) (by decide) (Nat.le_of_ble_eq_true rfl) (Nat.le_of_ble_eq_true rfl) dX2_init_23 (fun q_23 H hP hD hS => ?_)
  have hP : va_P D vwCl [(h0, .inr (2, [.null, .ref q_7, .ref q_15, .null, .null])), (q_7, .inl (cJ, 40, .inr (.inl (fun _ => 0)))), (q_15, .inl (cJ, 40, .inr (.inl (fun _ => 0)))), (q_23, .inl (cI, 40, .inl (fun _ => nI 0)))] H := hP
  have hD : va_D A [(h0, .inr (2, [.null, .ref q_7, .ref q_15, .null, .null])), (q_7, .inl (cJ, 40, .inr (.inl (fun _ => 0)))), (q_15, .inl (cJ, 40, .inr (.inl (fun _ => 0)))), (q_23, .inl (cI, 40, .inl (fun _ => nI 0)))] := hD
  refine va_putF (D := D) (ci := 2) (v := .ref q_23) (ty := (.array .int)) (C := RX2) (T := TX2) (N := 5) hx hb hts (inT inX2) tyX2 tyX2_ok nmX2 hown hK hP hD hS 0 rfl rfl 3 (by decide) (hts (.fieldLink RX2 18 "BoardMoves$Placement" "turn" "[I") (by decide +kernel)) (fun _ h9 => h9) rfl hin rfl (by decide +kernel) rfl rfl (Nat.le_of_ble_eq_true rfl) dX2_init_25 (fun H locs hP hD hS => ?_)
  have hP : va_P D vwCl [(h0, .inr (2, [.null, .ref q_7, .ref q_15, .ref q_23, .null])), (q_7, .inl (cJ, 40, .inr (.inl (fun _ => 0)))), (q_15, .inl (cJ, 40, .inr (.inl (fun _ => 0)))), (q_23, .inl (cI, 40, .inl (fun _ => nI 0)))] H := hP
  have hD : va_D A [(h0, .inr (2, [.null, .ref q_7, .ref q_15, .ref q_23, .null])), (q_7, .inl (cJ, 40, .inr (.inl (fun _ => 0)))), (q_15, .inl (cJ, 40, .inr (.inl (fun _ => 0)))), (q_23, .inl (cI, 40, .inl (fun _ => nI 0)))] := hD
  refine lv_aload_n hx hb dX2_init_28 rfl (lv_at hl 0 rfl) ?_
  refine lv_bipush (v := nI 40) hx hb dX2_init_29 (by decide) ?_
  refine bm_newa (atype := .boolean) (ty := .boolean) (n := (nI 40)) (a0 := (40, .inl (fun _ => bm_b false))) hx hb rfl (hts (.arrayClass .boolean) (by decide +kernel)) hK hP hD hS hA 2 rfl rfl (by decide) (by decide) (by decide) (Nat.le_of_ble_eq_true rfl) (Nat.le_of_ble_eq_true rfl) dX2_init_31 (fun q_31 H hP hD hS => ?_)
  have hP : va_P D vwCl [(h0, .inr (2, [.null, .ref q_7, .ref q_15, .ref q_23, .null])), (q_7, .inl (cJ, 40, .inr (.inl (fun _ => 0)))), (q_15, .inl (cJ, 40, .inr (.inl (fun _ => 0)))), (q_23, .inl (cI, 40, .inl (fun _ => nI 0))), (q_31, .inl (cZ, 40, .inl (fun _ => bm_b false)))] H := hP
  have hD : va_D A [(h0, .inr (2, [.null, .ref q_7, .ref q_15, .ref q_23, .null])), (q_7, .inl (cJ, 40, .inr (.inl (fun _ => 0)))), (q_15, .inl (cJ, 40, .inr (.inl (fun _ => 0)))), (q_23, .inl (cI, 40, .inl (fun _ => nI 0))), (q_31, .inl (cZ, 40, .inl (fun _ => bm_b false)))] := hD
  refine va_putF (D := D) (ci := 2) (v := .ref q_31) (ty := (.array .boolean)) (C := RX2) (T := TX2) (N := 5) hx hb hts (inT inX2) tyX2 tyX2_ok nmX2 hown hK hP hD hS 0 rfl rfl 4 (by decide) (hts (.fieldLink RX2 22 "BoardMoves$Placement" "placed" "[Z") (by decide +kernel)) (fun _ h9 => h9) rfl hin rfl (by decide +kernel) rfl rfl (Nat.le_of_ble_eq_true rfl) dX2_init_33 (fun H locs hP hD hS => ?_)
  have hP : va_P D vwCl [(h0, .inr (2, [.null, .ref q_7, .ref q_15, .ref q_23, .ref q_31])), (q_7, .inl (cJ, 40, .inr (.inl (fun _ => 0)))), (q_15, .inl (cJ, 40, .inr (.inl (fun _ => 0)))), (q_23, .inl (cI, 40, .inl (fun _ => nI 0))), (q_31, .inl (cZ, 40, .inl (fun _ => bm_b false)))] H := hP
  have hD : va_D A [(h0, .inr (2, [.null, .ref q_7, .ref q_15, .ref q_23, .ref q_31])), (q_7, .inl (cJ, 40, .inr (.inl (fun _ => 0)))), (q_15, .inl (cJ, 40, .inr (.inl (fun _ => 0)))), (q_23, .inl (cI, 40, .inl (fun _ => nI 0))), (q_31, .inl (cZ, 40, .inl (fun _ => bm_b false)))] := hD
  refine lv_aload_n hx hb dX2_init_36 rfl (lv_at hl 0 rfl) ?_
  refine lv_aload_n hx hb dX2_init_37 rfl (lv_at hl 1 rfl) ?_
  refine va_putF (D := D) (ci := 2) (v := .ref z1) (ty := (.object "BoardMoves$Parts")) (C := RX2) (T := TX2) (N := 5) hx hb hts (inT inX2) tyX2 tyX2_ok nmX2 hown hK hP hD hS 0 rfl rfl 0 (by decide) (hts (.fieldLink RX2 26 "BoardMoves$Placement" "parts" "LBoardMoves$Parts;") (by decide +kernel)) (fun _ h9 => h9) rfl hin rfl (by decide +kernel) rfl rfl (Nat.le_of_ble_eq_true rfl) dX2_init_38 (fun H locs hP hD hS => ?_)
  have hP : va_P D vwCl [(h0, .inr (2, [.ref z1, .ref q_7, .ref q_15, .ref q_23, .ref q_31])), (q_7, .inl (cJ, 40, .inr (.inl (fun _ => 0)))), (q_15, .inl (cJ, 40, .inr (.inl (fun _ => 0)))), (q_23, .inl (cI, 40, .inl (fun _ => nI 0))), (q_31, .inl (cZ, 40, .inl (fun _ => bm_b false)))] H := hP
  have hD : va_D A [(h0, .inr (2, [.ref z1, .ref q_7, .ref q_15, .ref q_23, .ref q_31])), (q_7, .inl (cJ, 40, .inr (.inl (fun _ => 0)))), (q_15, .inl (cJ, 40, .inr (.inl (fun _ => 0)))), (q_23, .inl (cI, 40, .inl (fun _ => nI 0))), (q_31, .inl (cZ, 40, .inl (fun _ => bm_b false)))] := hD
  refine W.widen (k := 4) (n := 160) (Nat.le_of_ble_eq_true rfl) (Nat.le_of_ble_eq_true rfl) ?_
  exact W.vret hx hb hr (fun t ht hW => ⟨⟨(), rfl, trivial, q_7, q_15, q_23, q_31, by rw [ht]; exact hP, va_K.moved hW.alike hK, hD⟩, hS.F ht⟩) hS.2.2 dX2_init_41
end
section
set_option maxHeartbeats 4000000 in
set_option maxRecDepth 100000 in
theorem c_Board {l : Launch} {D : va_G} {cJ cI cZ : ClassId} {h0 : Nat} {zA : Int64} {zB : Int64} {zC : Int64} (sz : Nat) : Met l yX4_init wsX4_init ({ frames := 2, cells := 41, slots := 1555, locals := 41 }) (bx_Bp D vwCl [(cJ, .long), (cI, .int), (cZ, .boolean)] [(h0, .inr (4, [.long 0, .long 0, .null, .null, .null, .null, .null, .null, .long 0, .long 0]))] [.ref h0, .long zA, .long zB, .long zC] sz) (va_Qv (fun _ : Unit => True) (fun _ t => ∃ (q_5 q_7_9 q_15_9 q_23_9 q_31_9 q_39_9 q_47_9 q_16 q_7_24 q_15_24 q_23_24 q_31_24 q_39_24 q_47_24 q_55_24 q_63_24 q_31 q_7_39 q_15_39 q_23_39 q_31_39 q_39_39 q_47_39 q_55_39 q_63_39 q_71_39 q_46 q_7_54 q_15_54 q_23_54 q_31_54 q_61 q_7_69 q_15_69 q_23_69 q_31_69 q_76 q_7_84 q_15_84 q_23_84 q_31_84 : Nat) (zW zH zS : Int64), va_P D vwCl [(h0, .inr (4, [.long zW, .long zH, .ref q_5, .ref q_16, .ref q_31, .ref q_46, .ref q_61, .ref q_76, .long zS, .long 0])), (q_5, .inr (1, [.ref q_7_9, .ref q_15_9, .ref q_23_9, .ref q_31_9, .ref q_39_9, .ref q_47_9, .int (nI 0)])), (q_7_9, .inl (cJ, 40, .inr (.inl (fun _ => 0)))), (q_15_9, .inl (cJ, 40, .inr (.inl (fun _ => 0)))), (q_23_9, .inl (cI, 40, .inl (fun _ => nI 0))), (q_31_9, .inl (cJ, 40, .inr (.inl (fun _ => 0)))), (q_39_9, .inl (cZ, 40, .inl (fun _ => bm_b false))), (q_47_9, .inl (cI, 40, .inl (fun _ => nI 0))), (q_46, .inr (2, [.ref q_5, .ref q_7_54, .ref q_15_54, .ref q_23_54, .ref q_31_54])), (q_7_54, .inl (cJ, 40, .inr (.inl (fun _ => 0)))), (q_15_54, .inl (cJ, 40, .inr (.inl (fun _ => 0)))), (q_23_54, .inl (cI, 40, .inl (fun _ => nI 0))), (q_31_54, .inl (cZ, 40, .inl (fun _ => bm_b false))), (q_61, .inr (2, [.ref q_5, .ref q_7_69, .ref q_15_69, .ref q_23_69, .ref q_31_69])), (q_7_69, .inl (cJ, 40, .inr (.inl (fun _ => 0)))), (q_15_69, .inl (cJ, 40, .inr (.inl (fun _ => 0)))), (q_23_69, .inl (cI, 40, .inl (fun _ => nI 0))), (q_31_69, .inl (cZ, 40, .inl (fun _ => bm_b false))), (q_76, .inr (2, [.ref q_5, .ref q_7_84, .ref q_15_84, .ref q_23_84, .ref q_31_84])), (q_7_84, .inl (cJ, 40, .inr (.inl (fun _ => 0)))), (q_15_84, .inl (cJ, 40, .inr (.inl (fun _ => 0)))), (q_23_84, .inl (cI, 40, .inl (fun _ => nI 0))), (q_31_84, .inl (cZ, 40, .inl (fun _ => bm_b false))), (q_16, .inr (0, [.ref q_5, .ref q_7_24, .ref q_15_24, .ref q_23_24, .ref q_31_24, .ref q_39_24, .ref q_47_24, .ref q_55_24, .ref q_63_24, .int (nI 0), .int (nI 0)])), (q_7_24, .inl (cJ, 10, .inr (.inl (fun _ => 0)))), (q_15_24, .inl (cJ, 10, .inr (.inl (fun _ => 0)))), (q_23_24, .inl (cJ, 10, .inr (.inl (fun _ => 0)))), (q_31_24, .inl (cJ, 10, .inr (.inl (fun _ => 0)))), (q_39_24, .inl (cJ, 10, .inr (.inl (fun _ => 0)))), (q_47_24, .inl (cI, 20, .inl (fun _ => nI 0))), (q_55_24, .inl (cI, 20, .inl (fun _ => nI 0))), (q_63_24, .inl (cJ, 20, .inr (.inl (fun _ => 0)))), (q_31, .inr (3, [.ref q_5, .ref q_7_39, .ref q_15_39, .ref q_23_39, .ref q_31_39, .ref q_39_39, .ref q_47_39, .ref q_55_39, .ref q_63_39, .ref q_71_39, .int (nI 0), .int (nI 0)])), (q_7_39, .inl (cI, 120, .inl (fun _ => nI 0))), (q_15_39, .inl (cI, 120, .inl (fun _ => nI 0))), (q_23_39, .inl (cJ, 120, .inr (.inl (fun _ => 0)))), (q_31_39, .inl (cJ, 120, .inr (.inl (fun _ => 0)))), (q_39_39, .inl (cZ, 40, .inl (fun _ => bm_b false))), (q_47_39, .inl (cJ, 40, .inr (.inl (fun _ => 0)))), (q_55_39, .inl (cJ, 40, .inr (.inl (fun _ => 0)))), (q_63_39, .inl (cJ, 40, .inr (.inl (fun _ => 0)))), (q_71_39, .inl (cJ, 40, .inr (.inl (fun _ => 0))))] t.heap ∧ va_K D vwCl [(cJ, .long), (cI, .int), (cZ, .boolean)] t ∧ va_D (va_A [(h0, .inr (4, [.long 0, .long 0, .null, .null, .null, .null, .null, .null, .long 0, .long 0]))] sz) [(h0, .inr (4, [.long zW, .long zH, .ref q_5, .ref q_16, .ref q_31, .ref q_46, .ref q_61, .ref q_76, .long zS, .long 0])), (q_5, .inr (1, [.ref q_7_9, .ref q_15_9, .ref q_23_9, .ref q_31_9, .ref q_39_9, .ref q_47_9, .int (nI 0)])), (q_7_9, .inl (cJ, 40, .inr (.inl (fun _ => 0)))), (q_15_9, .inl (cJ, 40, .inr (.inl (fun _ => 0)))), (q_23_9, .inl (cI, 40, .inl (fun _ => nI 0))), (q_31_9, .inl (cJ, 40, .inr (.inl (fun _ => 0)))), (q_39_9, .inl (cZ, 40, .inl (fun _ => bm_b false))), (q_47_9, .inl (cI, 40, .inl (fun _ => nI 0))), (q_46, .inr (2, [.ref q_5, .ref q_7_54, .ref q_15_54, .ref q_23_54, .ref q_31_54])), (q_7_54, .inl (cJ, 40, .inr (.inl (fun _ => 0)))), (q_15_54, .inl (cJ, 40, .inr (.inl (fun _ => 0)))), (q_23_54, .inl (cI, 40, .inl (fun _ => nI 0))), (q_31_54, .inl (cZ, 40, .inl (fun _ => bm_b false))), (q_61, .inr (2, [.ref q_5, .ref q_7_69, .ref q_15_69, .ref q_23_69, .ref q_31_69])), (q_7_69, .inl (cJ, 40, .inr (.inl (fun _ => 0)))), (q_15_69, .inl (cJ, 40, .inr (.inl (fun _ => 0)))), (q_23_69, .inl (cI, 40, .inl (fun _ => nI 0))), (q_31_69, .inl (cZ, 40, .inl (fun _ => bm_b false))), (q_76, .inr (2, [.ref q_5, .ref q_7_84, .ref q_15_84, .ref q_23_84, .ref q_31_84])), (q_7_84, .inl (cJ, 40, .inr (.inl (fun _ => 0)))), (q_15_84, .inl (cJ, 40, .inr (.inl (fun _ => 0)))), (q_23_84, .inl (cI, 40, .inl (fun _ => nI 0))), (q_31_84, .inl (cZ, 40, .inl (fun _ => bm_b false))), (q_16, .inr (0, [.ref q_5, .ref q_7_24, .ref q_15_24, .ref q_23_24, .ref q_31_24, .ref q_39_24, .ref q_47_24, .ref q_55_24, .ref q_63_24, .int (nI 0), .int (nI 0)])), (q_7_24, .inl (cJ, 10, .inr (.inl (fun _ => 0)))), (q_15_24, .inl (cJ, 10, .inr (.inl (fun _ => 0)))), (q_23_24, .inl (cJ, 10, .inr (.inl (fun _ => 0)))), (q_31_24, .inl (cJ, 10, .inr (.inl (fun _ => 0)))), (q_39_24, .inl (cJ, 10, .inr (.inl (fun _ => 0)))), (q_47_24, .inl (cI, 20, .inl (fun _ => nI 0))), (q_55_24, .inl (cI, 20, .inl (fun _ => nI 0))), (q_63_24, .inl (cJ, 20, .inr (.inl (fun _ => 0)))), (q_31, .inr (3, [.ref q_5, .ref q_7_39, .ref q_15_39, .ref q_23_39, .ref q_31_39, .ref q_39_39, .ref q_47_39, .ref q_55_39, .ref q_63_39, .ref q_71_39, .int (nI 0), .int (nI 0)])), (q_7_39, .inl (cI, 120, .inl (fun _ => nI 0))), (q_15_39, .inl (cI, 120, .inl (fun _ => nI 0))), (q_23_39, .inl (cJ, 120, .inr (.inl (fun _ => 0)))), (q_31_39, .inl (cJ, 120, .inr (.inl (fun _ => 0)))), (q_39_39, .inl (cZ, 40, .inl (fun _ => bm_b false))), (q_47_39, .inl (cJ, 40, .inr (.inl (fun _ => 0)))), (q_55_39, .inl (cJ, 40, .inr (.inl (fun _ => 0)))), (q_63_39, .inl (cJ, 40, .inr (.inl (fun _ => 0)))), (q_71_39, .inl (cJ, 40, .inr (.inl (fun _ => 0))))]) (va_A [(h0, .inr (4, [.long 0, .long 0, .null, .null, .null, .null, .null, .null, .long 0, .long 0]))] sz)) 41 1555 (va_A [(h0, .inr (4, [.long 0, .long 0, .null, .null, .null, .null, .null, .null, .long 0, .long 0]))] sz) := by
  refine Met.ofW (cc := cX4_init) (maxL := 7) (ret := none) (by decide) rfl ?_
  intro p e s m args below meth c s₁ B hml hv
  obtain ⟨ha, hsz, hP, hK, hD0, hNw⟩ := hv
  have hx := B.exec
  have hb := B.bytes
  have hr := B.returns
  have hts := atoms_spec (ws := wsX4_init) B.pre
  have hown : s.vm.findClass RX4 = some m.cls := findClass_of_methodNamed B.named
  have hlocks := B.notSynchronized
  have hin : meth.name = "<init>" := (name_of_methodNamed B.named B.method).1
  subst hsz
  have hD := hD0.self (sz := s.heap.size)
  generalize hAe : va_A [(h0, .inr (4, [.long 0, .long 0, .null, .null, .null, .null, .null, .null, .long 0, .long 0]))] s.heap.size = A at hD ⊢
  have hA : ∀ q : Nat, s.heap.size ≤ q → A q := fun q h => by rw [← hAe]; exact Or.inr h
  have hS : va_S A s.heap s.heap [] := va_S.rf
  have hP : va_P D vwCl [(h0, .inr (4, [.long 0, .long 0, .null, .null, .null, .null, .null, .null, .long 0, .long 0]))] s.heap := hP
  have hl := lv_entry ([.ref h0, .long zA, .long zB, .long zC]) (n := 7) (Nat.le_of_ble_eq_true rfl)
  refine W.eq (g2 := entryFrame m ([.ref h0, .long zA, .long zB, .long zC] : List Value).toArray 7) (by rw [ha]) ?_
  rw [lg_entry_eq]
  generalize (lg_sl ([.ref h0, .long zA, .long zB, .long zC]) ++ List.replicate (7 - (lg_sl ([.ref h0, .long zA, .long zB, .long zC])).length) Slot.unset).toArray = ls at hl ⊢
  have hl : lv_has ls 7 [(0, .ref h0), (1, .long zA), (3, .long zB), (5, .long zC)] := hl
  refine lv_aload_n hx hb dX4_init_0 rfl (lv_at hl 0 rfl) ?_
  refine W.objInit hx hb hown (hts (.methodLink RX4 3 objectInit) (by decide +kernel)) (hts (.instanceMethod objectInit) (by decide +kernel)) (hts (.code objectInit ⟨#[0xb1]⟩ 1 none) (by decide +kernel)) rfl (by rw [hml]; exact hl.1) rfl dX4_init_1 (Nat.le_of_ble_eq_true rfl) (Nat.le_of_ble_eq_true rfl) ?_
  refine W.eq (g2 := F0 m 4 ls []) rfl ?_
  refine lv_aload_n hx hb dX4_init_4 rfl (lv_at hl 0 rfl) ?_
  refine va_new (ci := 1) (fs := [.null, .null, .null, .null, .null, .null, .int 0]) (C := RX1) (T := TX1) (N := 7) hx hb hts (inT inX1) tyX1 tyX1_ok hown (hts (.classLink RX4 9 RX1) (by decide +kernel)) (hts (.instantiable RX1 7) (by decide +kernel)) (hts (.initialized RX1) (by decide +kernel)) hK hP hD hS hA rfl (fun j hj => by rcases (show j = 0 ∨ j = 1 ∨ j = 2 ∨ j = 3 ∨ j = 4 ∨ j = 5 ∨ j = 6 by omega) with rfl | rfl | rfl | rfl | rfl | rfl | rfl <;> rfl) (Nat.le_of_ble_eq_true rfl) (Nat.le_of_ble_eq_true rfl) dX4_init_5 (fun q_5 H hP hD hS => ?_)
  have hP : va_P D vwCl [(h0, .inr (4, [.long 0, .long 0, .null, .null, .null, .null, .null, .null, .long 0, .long 0])), (q_5, .inr (1, [.null, .null, .null, .null, .null, .null, .int 0]))] H := hP
  have hD : va_D A [(h0, .inr (4, [.long 0, .long 0, .null, .null, .null, .null, .null, .null, .long 0, .long 0])), (q_5, .inr (1, [.null, .null, .null, .null, .null, .null, .int 0]))] := hD
  refine lv_dup hx hb dX4_init_8 rfl ?_
  have hPc := hP.sub (ws' := [(q_5, .inr (1, [.null, .null, .null, .null, .null, .null, .int 0]))]) [1] rfl
  have hDc := hD.sub (ws' := [(q_5, .inr (1, [.null, .null, .null, .null, .null, .null, .int 0]))]) [1] (by decide) rfl
  have hFc := va_free (wc := [(q_5, .inr (1, [.null, .null, .null, .null, .null, .null, .int 0]))]) hD hS hA [1] rfl
  refine va_callv (va_runIN (As := []) (rest := [.ref q_5, .ref h0]) ⟨hx, hb, hml, hown, hts⟩ (c_Parts (h0 := q_5) H.size) ⟨va_cnB (host := "BoardMoves") 0 hts (gdI (by decide +kernel)) rfl rfl rfl hNw (hts (.initialized RX1) (by decide +kernel)) (by decide +kernel) ⟨Nat.le_of_ble_eq_true rfl, Nat.le_of_ble_eq_true rfl⟩, rfl, hts (.instanceMethod yX1_init) (by decide +kernel)⟩ ⟨bm_Wp.blind, fun U hU hW => ⟨rfl, by rw [hU], by rw [hU]; exact hPc, va_K.moved hW.alike hK, hDc.weaken (fun _ _ _ _ => trivial)⟩⟩ rfl rfl hl.1 rfl (lv_room (Nat.le_of_ble_eq_true rfl)) dX4_init_9 ⟨Nat.le_of_ble_eq_true rfl, Nat.le_of_ble_eq_true rfl⟩) hS (fun q _ h => hFc q h) hFc (fun u t H1 locs ht hvm hw hB hz1 hk1 hS => ?_)
  obtain ⟨q_7_9, q_15_9, q_23_9, q_31_9, q_39_9, q_47_9, hP1, hK1, hD1⟩ := hB
  rw [ht] at hP1
  obtain ⟨hP, hD⟩ := va_join (wr := [(h0, .inr (4, [.long 0, .long 0, .null, .null, .null, .null, .null, .null, .long 0, .long 0]))]) (w1 := [(q_5, .inr (1, [.ref q_7_9, .ref q_15_9, .ref q_23_9, .ref q_31_9, .ref q_39_9, .ref q_47_9, .int (nI 0)])), (q_7_9, .inl (cJ, 40, .inr (.inl (fun _ => 0)))), (q_15_9, .inl (cJ, 40, .inr (.inl (fun _ => 0)))), (q_23_9, .inl (cI, 40, .inl (fun _ => nI 0))), (q_31_9, .inl (cJ, 40, .inr (.inl (fun _ => 0)))), (q_39_9, .inl (cZ, 40, .inl (fun _ => bm_b false))), (q_47_9, .inl (cI, 40, .inl (fun _ => nI 0)))]) hP hD [1] [0] rfl rfl (by decide) (by decide) hk1 hFc hP1 hD1
  generalize H1 = H at hP hS ⊢
  have hP : va_P D vwCl [(h0, .inr (4, [.long 0, .long 0, .null, .null, .null, .null, .null, .null, .long 0, .long 0])), (q_5, .inr (1, [.ref q_7_9, .ref q_15_9, .ref q_23_9, .ref q_31_9, .ref q_39_9, .ref q_47_9, .int (nI 0)])), (q_7_9, .inl (cJ, 40, .inr (.inl (fun _ => 0)))), (q_15_9, .inl (cJ, 40, .inr (.inl (fun _ => 0)))), (q_23_9, .inl (cI, 40, .inl (fun _ => nI 0))), (q_31_9, .inl (cJ, 40, .inr (.inl (fun _ => 0)))), (q_39_9, .inl (cZ, 40, .inl (fun _ => bm_b false))), (q_47_9, .inl (cI, 40, .inl (fun _ => nI 0)))] H := hP
  have hD : va_D A [(h0, .inr (4, [.long 0, .long 0, .null, .null, .null, .null, .null, .null, .long 0, .long 0])), (q_5, .inr (1, [.ref q_7_9, .ref q_15_9, .ref q_23_9, .ref q_31_9, .ref q_39_9, .ref q_47_9, .int (nI 0)])), (q_7_9, .inl (cJ, 40, .inr (.inl (fun _ => 0)))), (q_15_9, .inl (cJ, 40, .inr (.inl (fun _ => 0)))), (q_23_9, .inl (cI, 40, .inl (fun _ => nI 0))), (q_31_9, .inl (cJ, 40, .inr (.inl (fun _ => 0)))), (q_39_9, .inl (cZ, 40, .inl (fun _ => bm_b false))), (q_47_9, .inl (cI, 40, .inl (fun _ => nI 0)))] := hD
  refine va_putF (D := D) (ci := 4) (v := .ref q_5) (ty := (.object "BoardMoves$Parts")) (C := RX4) (T := TX4) (N := 10) hx hb hts (inT inX4) tyX4 tyX4_ok nmX4 hown hK hP hD hS 0 rfl rfl 2 (by decide) (hts (.fieldLink RX4 12 "BoardMoves" "parts" "LBoardMoves$Parts;") (by decide +kernel)) (fun _ h9 => h9) rfl hin rfl (by decide +kernel) rfl rfl (Nat.le_of_ble_eq_true rfl) dX4_init_12 (fun H locs hP hD hS => ?_)
  have hP : va_P D vwCl [(h0, .inr (4, [.long 0, .long 0, .ref q_5, .null, .null, .null, .null, .null, .long 0, .long 0])), (q_5, .inr (1, [.ref q_7_9, .ref q_15_9, .ref q_23_9, .ref q_31_9, .ref q_39_9, .ref q_47_9, .int (nI 0)])), (q_7_9, .inl (cJ, 40, .inr (.inl (fun _ => 0)))), (q_15_9, .inl (cJ, 40, .inr (.inl (fun _ => 0)))), (q_23_9, .inl (cI, 40, .inl (fun _ => nI 0))), (q_31_9, .inl (cJ, 40, .inr (.inl (fun _ => 0)))), (q_39_9, .inl (cZ, 40, .inl (fun _ => bm_b false))), (q_47_9, .inl (cI, 40, .inl (fun _ => nI 0)))] H := hP
  have hD : va_D A [(h0, .inr (4, [.long 0, .long 0, .ref q_5, .null, .null, .null, .null, .null, .long 0, .long 0])), (q_5, .inr (1, [.ref q_7_9, .ref q_15_9, .ref q_23_9, .ref q_31_9, .ref q_39_9, .ref q_47_9, .int (nI 0)])), (q_7_9, .inl (cJ, 40, .inr (.inl (fun _ => 0)))), (q_15_9, .inl (cJ, 40, .inr (.inl (fun _ => 0)))), (q_23_9, .inl (cI, 40, .inl (fun _ => nI 0))), (q_31_9, .inl (cJ, 40, .inr (.inl (fun _ => 0)))), (q_39_9, .inl (cZ, 40, .inl (fun _ => bm_b false))), (q_47_9, .inl (cI, 40, .inl (fun _ => nI 0)))] := hD
  refine lv_aload_n hx hb dX4_init_15 rfl (lv_at hl 0 rfl) ?_
  refine va_new (ci := 0) (fs := [.null, .null, .null, .null, .null, .null, .null, .null, .null, .int 0, .int 0]) (C := RX0) (T := TX0) (N := 11) hx hb hts (inT inX0) tyX0 tyX0_ok hown (hts (.classLink RX4 18 RX0) (by decide +kernel)) (hts (.instantiable RX0 11) (by decide +kernel)) (hts (.initialized RX0) (by decide +kernel)) hK hP hD hS hA rfl (fun j hj => by rcases (show j = 0 ∨ j = 1 ∨ j = 2 ∨ j = 3 ∨ j = 4 ∨ j = 5 ∨ j = 6 ∨ j = 7 ∨ j = 8 ∨ j = 9 ∨ j = 10 by omega) with rfl | rfl | rfl | rfl | rfl | rfl | rfl | rfl | rfl | rfl | rfl <;> rfl) (Nat.le_of_ble_eq_true rfl) (Nat.le_of_ble_eq_true rfl) dX4_init_16 (fun q_16 H hP hD hS => ?_)
  have hP : va_P D vwCl [(h0, .inr (4, [.long 0, .long 0, .ref q_5, .null, .null, .null, .null, .null, .long 0, .long 0])), (q_5, .inr (1, [.ref q_7_9, .ref q_15_9, .ref q_23_9, .ref q_31_9, .ref q_39_9, .ref q_47_9, .int (nI 0)])), (q_7_9, .inl (cJ, 40, .inr (.inl (fun _ => 0)))), (q_15_9, .inl (cJ, 40, .inr (.inl (fun _ => 0)))), (q_23_9, .inl (cI, 40, .inl (fun _ => nI 0))), (q_31_9, .inl (cJ, 40, .inr (.inl (fun _ => 0)))), (q_39_9, .inl (cZ, 40, .inl (fun _ => bm_b false))), (q_47_9, .inl (cI, 40, .inl (fun _ => nI 0))), (q_16, .inr (0, [.null, .null, .null, .null, .null, .null, .null, .null, .null, .int 0, .int 0]))] H := hP
  have hD : va_D A [(h0, .inr (4, [.long 0, .long 0, .ref q_5, .null, .null, .null, .null, .null, .long 0, .long 0])), (q_5, .inr (1, [.ref q_7_9, .ref q_15_9, .ref q_23_9, .ref q_31_9, .ref q_39_9, .ref q_47_9, .int (nI 0)])), (q_7_9, .inl (cJ, 40, .inr (.inl (fun _ => 0)))), (q_15_9, .inl (cJ, 40, .inr (.inl (fun _ => 0)))), (q_23_9, .inl (cI, 40, .inl (fun _ => nI 0))), (q_31_9, .inl (cJ, 40, .inr (.inl (fun _ => 0)))), (q_39_9, .inl (cZ, 40, .inl (fun _ => bm_b false))), (q_47_9, .inl (cI, 40, .inl (fun _ => nI 0))), (q_16, .inr (0, [.null, .null, .null, .null, .null, .null, .null, .null, .null, .int 0, .int 0]))] := hD
  refine lv_dup hx hb dX4_init_19 rfl ?_
  refine lv_aload_n hx hb dX4_init_20 rfl (lv_at hl 0 rfl) ?_
  refine va_get (D := D) (ci := 4) (v := .ref q_5) (C := RX4) (T := TX4) (N := 10) hx hb hts (inT inX4) hown hK hP 0 rfl rfl 2 (by decide) (hts (.fieldLink RX4 12 "BoardMoves" "parts" "LBoardMoves$Parts;") (by decide +kernel)) (fun _ h9 => h9) rfl dX4_init_21 ?_
  have hPc := hP.sub (ws' := [(q_16, .inr (0, [.null, .null, .null, .null, .null, .null, .null, .null, .null, .int 0, .int 0]))]) [8] rfl
  have hDc := hD.sub (ws' := [(q_16, .inr (0, [.null, .null, .null, .null, .null, .null, .null, .null, .null, .int 0, .int 0]))]) [8] (by decide) rfl
  have hFc := va_free (wc := [(q_16, .inr (0, [.null, .null, .null, .null, .null, .null, .null, .null, .null, .int 0, .int 0]))]) hD hS hA [8] rfl
  refine va_callv (va_runI (As := [.ref q_5]) (rest := [.ref q_16, .ref h0]) ⟨hx, hb, hml, hown, hts⟩ (c_Limits (h0 := q_16) (z1 := q_5) H.size) (cwI 1 hts (gdI (by decide +kernel)) rfl rfl rfl (hts (.initialized RX0) (by decide +kernel)) (hts (.methodLink RX4 20 yX0_init) (by decide +kernel)) (hts (.instanceMethod yX0_init) (by decide +kernel)) rfl (by decide +kernel) ⟨Nat.le_of_ble_eq_true rfl, Nat.le_of_ble_eq_true rfl⟩) ⟨bm_Wp.blind, fun U hU hW => ⟨rfl, by rw [hU], by rw [hU]; exact hPc, va_K.moved hW.alike hK, hDc.weaken (fun _ _ _ _ => trivial)⟩⟩ rfl rfl hl.1 rfl (lv_room (Nat.le_of_ble_eq_true rfl)) dX4_init_24 ⟨Nat.le_of_ble_eq_true rfl, Nat.le_of_ble_eq_true rfl⟩) hS (fun q _ h => hFc q h) hFc (fun u t H1 locs ht hvm hw hB hz1 hk1 hS => ?_)
  obtain ⟨q_7_24, q_15_24, q_23_24, q_31_24, q_39_24, q_47_24, q_55_24, q_63_24, hP1, hK1, hD1⟩ := hB
  rw [ht] at hP1
  obtain ⟨hP, hD⟩ := va_join (wr := [(h0, .inr (4, [.long 0, .long 0, .ref q_5, .null, .null, .null, .null, .null, .long 0, .long 0])), (q_5, .inr (1, [.ref q_7_9, .ref q_15_9, .ref q_23_9, .ref q_31_9, .ref q_39_9, .ref q_47_9, .int (nI 0)])), (q_7_9, .inl (cJ, 40, .inr (.inl (fun _ => 0)))), (q_15_9, .inl (cJ, 40, .inr (.inl (fun _ => 0)))), (q_23_9, .inl (cI, 40, .inl (fun _ => nI 0))), (q_31_9, .inl (cJ, 40, .inr (.inl (fun _ => 0)))), (q_39_9, .inl (cZ, 40, .inl (fun _ => bm_b false))), (q_47_9, .inl (cI, 40, .inl (fun _ => nI 0)))]) (w1 := [(q_16, .inr (0, [.ref q_5, .ref q_7_24, .ref q_15_24, .ref q_23_24, .ref q_31_24, .ref q_39_24, .ref q_47_24, .ref q_55_24, .ref q_63_24, .int (nI 0), .int (nI 0)])), (q_7_24, .inl (cJ, 10, .inr (.inl (fun _ => 0)))), (q_15_24, .inl (cJ, 10, .inr (.inl (fun _ => 0)))), (q_23_24, .inl (cJ, 10, .inr (.inl (fun _ => 0)))), (q_31_24, .inl (cJ, 10, .inr (.inl (fun _ => 0)))), (q_39_24, .inl (cJ, 10, .inr (.inl (fun _ => 0)))), (q_47_24, .inl (cI, 20, .inl (fun _ => nI 0))), (q_55_24, .inl (cI, 20, .inl (fun _ => nI 0))), (q_63_24, .inl (cJ, 20, .inr (.inl (fun _ => 0))))]) hP hD [8] [0, 1, 2, 3, 4, 5, 6, 7] rfl rfl (by decide) (by decide) hk1 hFc hP1 hD1
  generalize H1 = H at hP hS ⊢
  have hP : va_P D vwCl [(h0, .inr (4, [.long 0, .long 0, .ref q_5, .null, .null, .null, .null, .null, .long 0, .long 0])), (q_5, .inr (1, [.ref q_7_9, .ref q_15_9, .ref q_23_9, .ref q_31_9, .ref q_39_9, .ref q_47_9, .int (nI 0)])), (q_7_9, .inl (cJ, 40, .inr (.inl (fun _ => 0)))), (q_15_9, .inl (cJ, 40, .inr (.inl (fun _ => 0)))), (q_23_9, .inl (cI, 40, .inl (fun _ => nI 0))), (q_31_9, .inl (cJ, 40, .inr (.inl (fun _ => 0)))), (q_39_9, .inl (cZ, 40, .inl (fun _ => bm_b false))), (q_47_9, .inl (cI, 40, .inl (fun _ => nI 0))), (q_16, .inr (0, [.ref q_5, .ref q_7_24, .ref q_15_24, .ref q_23_24, .ref q_31_24, .ref q_39_24, .ref q_47_24, .ref q_55_24, .ref q_63_24, .int (nI 0), .int (nI 0)])), (q_7_24, .inl (cJ, 10, .inr (.inl (fun _ => 0)))), (q_15_24, .inl (cJ, 10, .inr (.inl (fun _ => 0)))), (q_23_24, .inl (cJ, 10, .inr (.inl (fun _ => 0)))), (q_31_24, .inl (cJ, 10, .inr (.inl (fun _ => 0)))), (q_39_24, .inl (cJ, 10, .inr (.inl (fun _ => 0)))), (q_47_24, .inl (cI, 20, .inl (fun _ => nI 0))), (q_55_24, .inl (cI, 20, .inl (fun _ => nI 0))), (q_63_24, .inl (cJ, 20, .inr (.inl (fun _ => 0))))] H := hP
  have hD : va_D A [(h0, .inr (4, [.long 0, .long 0, .ref q_5, .null, .null, .null, .null, .null, .long 0, .long 0])), (q_5, .inr (1, [.ref q_7_9, .ref q_15_9, .ref q_23_9, .ref q_31_9, .ref q_39_9, .ref q_47_9, .int (nI 0)])), (q_7_9, .inl (cJ, 40, .inr (.inl (fun _ => 0)))), (q_15_9, .inl (cJ, 40, .inr (.inl (fun _ => 0)))), (q_23_9, .inl (cI, 40, .inl (fun _ => nI 0))), (q_31_9, .inl (cJ, 40, .inr (.inl (fun _ => 0)))), (q_39_9, .inl (cZ, 40, .inl (fun _ => bm_b false))), (q_47_9, .inl (cI, 40, .inl (fun _ => nI 0))), (q_16, .inr (0, [.ref q_5, .ref q_7_24, .ref q_15_24, .ref q_23_24, .ref q_31_24, .ref q_39_24, .ref q_47_24, .ref q_55_24, .ref q_63_24, .int (nI 0), .int (nI 0)])), (q_7_24, .inl (cJ, 10, .inr (.inl (fun _ => 0)))), (q_15_24, .inl (cJ, 10, .inr (.inl (fun _ => 0)))), (q_23_24, .inl (cJ, 10, .inr (.inl (fun _ => 0)))), (q_31_24, .inl (cJ, 10, .inr (.inl (fun _ => 0)))), (q_39_24, .inl (cJ, 10, .inr (.inl (fun _ => 0)))), (q_47_24, .inl (cI, 20, .inl (fun _ => nI 0))), (q_55_24, .inl (cI, 20, .inl (fun _ => nI 0))), (q_63_24, .inl (cJ, 20, .inr (.inl (fun _ => 0))))] := hD
  refine va_putF (D := D) (ci := 4) (v := .ref q_16) (ty := (.object "BoardMoves$Limits")) (C := RX4) (T := TX4) (N := 10) hx hb hts (inT inX4) tyX4 tyX4_ok nmX4 hown hK hP hD hS 0 rfl rfl 3 (by decide) (hts (.fieldLink RX4 23 "BoardMoves" "limits" "LBoardMoves$Limits;") (by decide +kernel)) (fun _ h9 => h9) rfl hin rfl (by decide +kernel) rfl rfl (Nat.le_of_ble_eq_true rfl) dX4_init_27 (fun H locs hP hD hS => ?_)
  have hP : va_P D vwCl [(h0, .inr (4, [.long 0, .long 0, .ref q_5, .ref q_16, .null, .null, .null, .null, .long 0, .long 0])), (q_5, .inr (1, [.ref q_7_9, .ref q_15_9, .ref q_23_9, .ref q_31_9, .ref q_39_9, .ref q_47_9, .int (nI 0)])), (q_7_9, .inl (cJ, 40, .inr (.inl (fun _ => 0)))), (q_15_9, .inl (cJ, 40, .inr (.inl (fun _ => 0)))), (q_23_9, .inl (cI, 40, .inl (fun _ => nI 0))), (q_31_9, .inl (cJ, 40, .inr (.inl (fun _ => 0)))), (q_39_9, .inl (cZ, 40, .inl (fun _ => bm_b false))), (q_47_9, .inl (cI, 40, .inl (fun _ => nI 0))), (q_16, .inr (0, [.ref q_5, .ref q_7_24, .ref q_15_24, .ref q_23_24, .ref q_31_24, .ref q_39_24, .ref q_47_24, .ref q_55_24, .ref q_63_24, .int (nI 0), .int (nI 0)])), (q_7_24, .inl (cJ, 10, .inr (.inl (fun _ => 0)))), (q_15_24, .inl (cJ, 10, .inr (.inl (fun _ => 0)))), (q_23_24, .inl (cJ, 10, .inr (.inl (fun _ => 0)))), (q_31_24, .inl (cJ, 10, .inr (.inl (fun _ => 0)))), (q_39_24, .inl (cJ, 10, .inr (.inl (fun _ => 0)))), (q_47_24, .inl (cI, 20, .inl (fun _ => nI 0))), (q_55_24, .inl (cI, 20, .inl (fun _ => nI 0))), (q_63_24, .inl (cJ, 20, .inr (.inl (fun _ => 0))))] H := hP
  have hD : va_D A [(h0, .inr (4, [.long 0, .long 0, .ref q_5, .ref q_16, .null, .null, .null, .null, .long 0, .long 0])), (q_5, .inr (1, [.ref q_7_9, .ref q_15_9, .ref q_23_9, .ref q_31_9, .ref q_39_9, .ref q_47_9, .int (nI 0)])), (q_7_9, .inl (cJ, 40, .inr (.inl (fun _ => 0)))), (q_15_9, .inl (cJ, 40, .inr (.inl (fun _ => 0)))), (q_23_9, .inl (cI, 40, .inl (fun _ => nI 0))), (q_31_9, .inl (cJ, 40, .inr (.inl (fun _ => 0)))), (q_39_9, .inl (cZ, 40, .inl (fun _ => bm_b false))), (q_47_9, .inl (cI, 40, .inl (fun _ => nI 0))), (q_16, .inr (0, [.ref q_5, .ref q_7_24, .ref q_15_24, .ref q_23_24, .ref q_31_24, .ref q_39_24, .ref q_47_24, .ref q_55_24, .ref q_63_24, .int (nI 0), .int (nI 0)])), (q_7_24, .inl (cJ, 10, .inr (.inl (fun _ => 0)))), (q_15_24, .inl (cJ, 10, .inr (.inl (fun _ => 0)))), (q_23_24, .inl (cJ, 10, .inr (.inl (fun _ => 0)))), (q_31_24, .inl (cJ, 10, .inr (.inl (fun _ => 0)))), (q_39_24, .inl (cJ, 10, .inr (.inl (fun _ => 0)))), (q_47_24, .inl (cI, 20, .inl (fun _ => nI 0))), (q_55_24, .inl (cI, 20, .inl (fun _ => nI 0))), (q_63_24, .inl (cJ, 20, .inr (.inl (fun _ => 0))))] := hD
  refine lv_aload_n hx hb dX4_init_30 rfl (lv_at hl 0 rfl) ?_
  refine va_new (ci := 3) (fs := [.null, .null, .null, .null, .null, .null, .null, .null, .null, .null, .int 0, .int 0]) (C := RX3) (T := TX3) (N := 12) hx hb hts (inT inX3) tyX3 tyX3_ok hown (hts (.classLink RX4 27 RX3) (by decide +kernel)) (hts (.instantiable RX3 12) (by decide +kernel)) (hts (.initialized RX3) (by decide +kernel)) hK hP hD hS hA rfl (fun j hj => by rcases (show j = 0 ∨ j = 1 ∨ j = 2 ∨ j = 3 ∨ j = 4 ∨ j = 5 ∨ j = 6 ∨ j = 7 ∨ j = 8 ∨ j = 9 ∨ j = 10 ∨ j = 11 by omega) with rfl | rfl | rfl | rfl | rfl | rfl | rfl | rfl | rfl | rfl | rfl | rfl <;> rfl) (Nat.le_of_ble_eq_true rfl) (Nat.le_of_ble_eq_true rfl) dX4_init_31 (fun q_31 H hP hD hS => ?_)
  have hP : va_P D vwCl [(h0, .inr (4, [.long 0, .long 0, .ref q_5, .ref q_16, .null, .null, .null, .null, .long 0, .long 0])), (q_5, .inr (1, [.ref q_7_9, .ref q_15_9, .ref q_23_9, .ref q_31_9, .ref q_39_9, .ref q_47_9, .int (nI 0)])), (q_7_9, .inl (cJ, 40, .inr (.inl (fun _ => 0)))), (q_15_9, .inl (cJ, 40, .inr (.inl (fun _ => 0)))), (q_23_9, .inl (cI, 40, .inl (fun _ => nI 0))), (q_31_9, .inl (cJ, 40, .inr (.inl (fun _ => 0)))), (q_39_9, .inl (cZ, 40, .inl (fun _ => bm_b false))), (q_47_9, .inl (cI, 40, .inl (fun _ => nI 0))), (q_16, .inr (0, [.ref q_5, .ref q_7_24, .ref q_15_24, .ref q_23_24, .ref q_31_24, .ref q_39_24, .ref q_47_24, .ref q_55_24, .ref q_63_24, .int (nI 0), .int (nI 0)])), (q_7_24, .inl (cJ, 10, .inr (.inl (fun _ => 0)))), (q_15_24, .inl (cJ, 10, .inr (.inl (fun _ => 0)))), (q_23_24, .inl (cJ, 10, .inr (.inl (fun _ => 0)))), (q_31_24, .inl (cJ, 10, .inr (.inl (fun _ => 0)))), (q_39_24, .inl (cJ, 10, .inr (.inl (fun _ => 0)))), (q_47_24, .inl (cI, 20, .inl (fun _ => nI 0))), (q_55_24, .inl (cI, 20, .inl (fun _ => nI 0))), (q_63_24, .inl (cJ, 20, .inr (.inl (fun _ => 0)))), (q_31, .inr (3, [.null, .null, .null, .null, .null, .null, .null, .null, .null, .null, .int 0, .int 0]))] H := hP
  have hD : va_D A [(h0, .inr (4, [.long 0, .long 0, .ref q_5, .ref q_16, .null, .null, .null, .null, .long 0, .long 0])), (q_5, .inr (1, [.ref q_7_9, .ref q_15_9, .ref q_23_9, .ref q_31_9, .ref q_39_9, .ref q_47_9, .int (nI 0)])), (q_7_9, .inl (cJ, 40, .inr (.inl (fun _ => 0)))), (q_15_9, .inl (cJ, 40, .inr (.inl (fun _ => 0)))), (q_23_9, .inl (cI, 40, .inl (fun _ => nI 0))), (q_31_9, .inl (cJ, 40, .inr (.inl (fun _ => 0)))), (q_39_9, .inl (cZ, 40, .inl (fun _ => bm_b false))), (q_47_9, .inl (cI, 40, .inl (fun _ => nI 0))), (q_16, .inr (0, [.ref q_5, .ref q_7_24, .ref q_15_24, .ref q_23_24, .ref q_31_24, .ref q_39_24, .ref q_47_24, .ref q_55_24, .ref q_63_24, .int (nI 0), .int (nI 0)])), (q_7_24, .inl (cJ, 10, .inr (.inl (fun _ => 0)))), (q_15_24, .inl (cJ, 10, .inr (.inl (fun _ => 0)))), (q_23_24, .inl (cJ, 10, .inr (.inl (fun _ => 0)))), (q_31_24, .inl (cJ, 10, .inr (.inl (fun _ => 0)))), (q_39_24, .inl (cJ, 10, .inr (.inl (fun _ => 0)))), (q_47_24, .inl (cI, 20, .inl (fun _ => nI 0))), (q_55_24, .inl (cI, 20, .inl (fun _ => nI 0))), (q_63_24, .inl (cJ, 20, .inr (.inl (fun _ => 0)))), (q_31, .inr (3, [.null, .null, .null, .null, .null, .null, .null, .null, .null, .null, .int 0, .int 0]))] := hD
  refine lv_dup hx hb dX4_init_34 rfl ?_
  refine lv_aload_n hx hb dX4_init_35 rfl (lv_at hl 0 rfl) ?_
  refine va_get (D := D) (ci := 4) (v := .ref q_5) (C := RX4) (T := TX4) (N := 10) hx hb hts (inT inX4) hown hK hP 0 rfl rfl 2 (by decide) (hts (.fieldLink RX4 12 "BoardMoves" "parts" "LBoardMoves$Parts;") (by decide +kernel)) (fun _ h9 => h9) rfl dX4_init_36 ?_
  have hPc := hP.sub (ws' := [(q_31, .inr (3, [.null, .null, .null, .null, .null, .null, .null, .null, .null, .null, .int 0, .int 0]))]) [17] rfl
  have hDc := hD.sub (ws' := [(q_31, .inr (3, [.null, .null, .null, .null, .null, .null, .null, .null, .null, .null, .int 0, .int 0]))]) [17] (by decide) rfl
  have hFc := va_free (wc := [(q_31, .inr (3, [.null, .null, .null, .null, .null, .null, .null, .null, .null, .null, .int 0, .int 0]))]) hD hS hA [17] rfl
  refine va_callv (va_runI (As := [.ref q_5]) (rest := [.ref q_31, .ref h0]) ⟨hx, hb, hml, hown, hts⟩ (c_Wiring (h0 := q_31) (z1 := q_5) H.size) (cwI 1 hts (gdI (by decide +kernel)) rfl rfl rfl (hts (.initialized RX3) (by decide +kernel)) (hts (.methodLink RX4 29 yX3_init) (by decide +kernel)) (hts (.instanceMethod yX3_init) (by decide +kernel)) rfl (by decide +kernel) ⟨Nat.le_of_ble_eq_true rfl, Nat.le_of_ble_eq_true rfl⟩) ⟨bm_Wp.blind, fun U hU hW => ⟨rfl, by rw [hU], by rw [hU]; exact hPc, va_K.moved hW.alike hK, hDc.weaken (fun _ _ _ _ => trivial)⟩⟩ rfl rfl hl.1 rfl (lv_room (Nat.le_of_ble_eq_true rfl)) dX4_init_39 ⟨Nat.le_of_ble_eq_true rfl, Nat.le_of_ble_eq_true rfl⟩) hS (fun q _ h => hFc q h) hFc (fun u t H1 locs ht hvm hw hB hz1 hk1 hS => ?_)
  obtain ⟨q_7_39, q_15_39, q_23_39, q_31_39, q_39_39, q_47_39, q_55_39, q_63_39, q_71_39, hP1, hK1, hD1⟩ := hB
  rw [ht] at hP1
  obtain ⟨hP, hD⟩ := va_join (wr := [(h0, .inr (4, [.long 0, .long 0, .ref q_5, .ref q_16, .null, .null, .null, .null, .long 0, .long 0])), (q_5, .inr (1, [.ref q_7_9, .ref q_15_9, .ref q_23_9, .ref q_31_9, .ref q_39_9, .ref q_47_9, .int (nI 0)])), (q_7_9, .inl (cJ, 40, .inr (.inl (fun _ => 0)))), (q_15_9, .inl (cJ, 40, .inr (.inl (fun _ => 0)))), (q_23_9, .inl (cI, 40, .inl (fun _ => nI 0))), (q_31_9, .inl (cJ, 40, .inr (.inl (fun _ => 0)))), (q_39_9, .inl (cZ, 40, .inl (fun _ => bm_b false))), (q_47_9, .inl (cI, 40, .inl (fun _ => nI 0))), (q_16, .inr (0, [.ref q_5, .ref q_7_24, .ref q_15_24, .ref q_23_24, .ref q_31_24, .ref q_39_24, .ref q_47_24, .ref q_55_24, .ref q_63_24, .int (nI 0), .int (nI 0)])), (q_7_24, .inl (cJ, 10, .inr (.inl (fun _ => 0)))), (q_15_24, .inl (cJ, 10, .inr (.inl (fun _ => 0)))), (q_23_24, .inl (cJ, 10, .inr (.inl (fun _ => 0)))), (q_31_24, .inl (cJ, 10, .inr (.inl (fun _ => 0)))), (q_39_24, .inl (cJ, 10, .inr (.inl (fun _ => 0)))), (q_47_24, .inl (cI, 20, .inl (fun _ => nI 0))), (q_55_24, .inl (cI, 20, .inl (fun _ => nI 0))), (q_63_24, .inl (cJ, 20, .inr (.inl (fun _ => 0))))]) (w1 := [(q_31, .inr (3, [.ref q_5, .ref q_7_39, .ref q_15_39, .ref q_23_39, .ref q_31_39, .ref q_39_39, .ref q_47_39, .ref q_55_39, .ref q_63_39, .ref q_71_39, .int (nI 0), .int (nI 0)])), (q_7_39, .inl (cI, 120, .inl (fun _ => nI 0))), (q_15_39, .inl (cI, 120, .inl (fun _ => nI 0))), (q_23_39, .inl (cJ, 120, .inr (.inl (fun _ => 0)))), (q_31_39, .inl (cJ, 120, .inr (.inl (fun _ => 0)))), (q_39_39, .inl (cZ, 40, .inl (fun _ => bm_b false))), (q_47_39, .inl (cJ, 40, .inr (.inl (fun _ => 0)))), (q_55_39, .inl (cJ, 40, .inr (.inl (fun _ => 0)))), (q_63_39, .inl (cJ, 40, .inr (.inl (fun _ => 0)))), (q_71_39, .inl (cJ, 40, .inr (.inl (fun _ => 0))))]) hP hD [17] [0, 1, 2, 3, 4, 5, 6, 7, 8, 9, 10, 11, 12, 13, 14, 15, 16] rfl rfl (by decide) (by decide) hk1 hFc hP1 hD1
  generalize H1 = H at hP hS ⊢
  have hP : va_P D vwCl [(h0, .inr (4, [.long 0, .long 0, .ref q_5, .ref q_16, .null, .null, .null, .null, .long 0, .long 0])), (q_5, .inr (1, [.ref q_7_9, .ref q_15_9, .ref q_23_9, .ref q_31_9, .ref q_39_9, .ref q_47_9, .int (nI 0)])), (q_7_9, .inl (cJ, 40, .inr (.inl (fun _ => 0)))), (q_15_9, .inl (cJ, 40, .inr (.inl (fun _ => 0)))), (q_23_9, .inl (cI, 40, .inl (fun _ => nI 0))), (q_31_9, .inl (cJ, 40, .inr (.inl (fun _ => 0)))), (q_39_9, .inl (cZ, 40, .inl (fun _ => bm_b false))), (q_47_9, .inl (cI, 40, .inl (fun _ => nI 0))), (q_16, .inr (0, [.ref q_5, .ref q_7_24, .ref q_15_24, .ref q_23_24, .ref q_31_24, .ref q_39_24, .ref q_47_24, .ref q_55_24, .ref q_63_24, .int (nI 0), .int (nI 0)])), (q_7_24, .inl (cJ, 10, .inr (.inl (fun _ => 0)))), (q_15_24, .inl (cJ, 10, .inr (.inl (fun _ => 0)))), (q_23_24, .inl (cJ, 10, .inr (.inl (fun _ => 0)))), (q_31_24, .inl (cJ, 10, .inr (.inl (fun _ => 0)))), (q_39_24, .inl (cJ, 10, .inr (.inl (fun _ => 0)))), (q_47_24, .inl (cI, 20, .inl (fun _ => nI 0))), (q_55_24, .inl (cI, 20, .inl (fun _ => nI 0))), (q_63_24, .inl (cJ, 20, .inr (.inl (fun _ => 0)))), (q_31, .inr (3, [.ref q_5, .ref q_7_39, .ref q_15_39, .ref q_23_39, .ref q_31_39, .ref q_39_39, .ref q_47_39, .ref q_55_39, .ref q_63_39, .ref q_71_39, .int (nI 0), .int (nI 0)])), (q_7_39, .inl (cI, 120, .inl (fun _ => nI 0))), (q_15_39, .inl (cI, 120, .inl (fun _ => nI 0))), (q_23_39, .inl (cJ, 120, .inr (.inl (fun _ => 0)))), (q_31_39, .inl (cJ, 120, .inr (.inl (fun _ => 0)))), (q_39_39, .inl (cZ, 40, .inl (fun _ => bm_b false))), (q_47_39, .inl (cJ, 40, .inr (.inl (fun _ => 0)))), (q_55_39, .inl (cJ, 40, .inr (.inl (fun _ => 0)))), (q_63_39, .inl (cJ, 40, .inr (.inl (fun _ => 0)))), (q_71_39, .inl (cJ, 40, .inr (.inl (fun _ => 0))))] H := hP
  have hD : va_D A [(h0, .inr (4, [.long 0, .long 0, .ref q_5, .ref q_16, .null, .null, .null, .null, .long 0, .long 0])), (q_5, .inr (1, [.ref q_7_9, .ref q_15_9, .ref q_23_9, .ref q_31_9, .ref q_39_9, .ref q_47_9, .int (nI 0)])), (q_7_9, .inl (cJ, 40, .inr (.inl (fun _ => 0)))), (q_15_9, .inl (cJ, 40, .inr (.inl (fun _ => 0)))), (q_23_9, .inl (cI, 40, .inl (fun _ => nI 0))), (q_31_9, .inl (cJ, 40, .inr (.inl (fun _ => 0)))), (q_39_9, .inl (cZ, 40, .inl (fun _ => bm_b false))), (q_47_9, .inl (cI, 40, .inl (fun _ => nI 0))), (q_16, .inr (0, [.ref q_5, .ref q_7_24, .ref q_15_24, .ref q_23_24, .ref q_31_24, .ref q_39_24, .ref q_47_24, .ref q_55_24, .ref q_63_24, .int (nI 0), .int (nI 0)])), (q_7_24, .inl (cJ, 10, .inr (.inl (fun _ => 0)))), (q_15_24, .inl (cJ, 10, .inr (.inl (fun _ => 0)))), (q_23_24, .inl (cJ, 10, .inr (.inl (fun _ => 0)))), (q_31_24, .inl (cJ, 10, .inr (.inl (fun _ => 0)))), (q_39_24, .inl (cJ, 10, .inr (.inl (fun _ => 0)))), (q_47_24, .inl (cI, 20, .inl (fun _ => nI 0))), (q_55_24, .inl (cI, 20, .inl (fun _ => nI 0))), (q_63_24, .inl (cJ, 20, .inr (.inl (fun _ => 0)))), (q_31, .inr (3, [.ref q_5, .ref q_7_39, .ref q_15_39, .ref q_23_39, .ref q_31_39, .ref q_39_39, .ref q_47_39, .ref q_55_39, .ref q_63_39, .ref q_71_39, .int (nI 0), .int (nI 0)])), (q_7_39, .inl (cI, 120, .inl (fun _ => nI 0))), (q_15_39, .inl (cI, 120, .inl (fun _ => nI 0))), (q_23_39, .inl (cJ, 120, .inr (.inl (fun _ => 0)))), (q_31_39, .inl (cJ, 120, .inr (.inl (fun _ => 0)))), (q_39_39, .inl (cZ, 40, .inl (fun _ => bm_b false))), (q_47_39, .inl (cJ, 40, .inr (.inl (fun _ => 0)))), (q_55_39, .inl (cJ, 40, .inr (.inl (fun _ => 0)))), (q_63_39, .inl (cJ, 40, .inr (.inl (fun _ => 0)))), (q_71_39, .inl (cJ, 40, .inr (.inl (fun _ => 0))))] := hD
  refine va_putF (D := D) (ci := 4) (v := .ref q_31) (ty := (.object "BoardMoves$Wiring")) (C := RX4) (T := TX4) (N := 10) hx hb hts (inT inX4) tyX4 tyX4_ok nmX4 hown hK hP hD hS 0 rfl rfl 4 (by decide) (hts (.fieldLink RX4 30 "BoardMoves" "wiring" "LBoardMoves$Wiring;") (by decide +kernel)) (fun _ h9 => h9) rfl hin rfl (by decide +kernel) rfl rfl (Nat.le_of_ble_eq_true rfl) dX4_init_42 (fun H locs hP hD hS => ?_)
  have hP : va_P D vwCl [(h0, .inr (4, [.long 0, .long 0, .ref q_5, .ref q_16, .ref q_31, .null, .null, .null, .long 0, .long 0])), (q_5, .inr (1, [.ref q_7_9, .ref q_15_9, .ref q_23_9, .ref q_31_9, .ref q_39_9, .ref q_47_9, .int (nI 0)])), (q_7_9, .inl (cJ, 40, .inr (.inl (fun _ => 0)))), (q_15_9, .inl (cJ, 40, .inr (.inl (fun _ => 0)))), (q_23_9, .inl (cI, 40, .inl (fun _ => nI 0))), (q_31_9, .inl (cJ, 40, .inr (.inl (fun _ => 0)))), (q_39_9, .inl (cZ, 40, .inl (fun _ => bm_b false))), (q_47_9, .inl (cI, 40, .inl (fun _ => nI 0))), (q_16, .inr (0, [.ref q_5, .ref q_7_24, .ref q_15_24, .ref q_23_24, .ref q_31_24, .ref q_39_24, .ref q_47_24, .ref q_55_24, .ref q_63_24, .int (nI 0), .int (nI 0)])), (q_7_24, .inl (cJ, 10, .inr (.inl (fun _ => 0)))), (q_15_24, .inl (cJ, 10, .inr (.inl (fun _ => 0)))), (q_23_24, .inl (cJ, 10, .inr (.inl (fun _ => 0)))), (q_31_24, .inl (cJ, 10, .inr (.inl (fun _ => 0)))), (q_39_24, .inl (cJ, 10, .inr (.inl (fun _ => 0)))), (q_47_24, .inl (cI, 20, .inl (fun _ => nI 0))), (q_55_24, .inl (cI, 20, .inl (fun _ => nI 0))), (q_63_24, .inl (cJ, 20, .inr (.inl (fun _ => 0)))), (q_31, .inr (3, [.ref q_5, .ref q_7_39, .ref q_15_39, .ref q_23_39, .ref q_31_39, .ref q_39_39, .ref q_47_39, .ref q_55_39, .ref q_63_39, .ref q_71_39, .int (nI 0), .int (nI 0)])), (q_7_39, .inl (cI, 120, .inl (fun _ => nI 0))), (q_15_39, .inl (cI, 120, .inl (fun _ => nI 0))), (q_23_39, .inl (cJ, 120, .inr (.inl (fun _ => 0)))), (q_31_39, .inl (cJ, 120, .inr (.inl (fun _ => 0)))), (q_39_39, .inl (cZ, 40, .inl (fun _ => bm_b false))), (q_47_39, .inl (cJ, 40, .inr (.inl (fun _ => 0)))), (q_55_39, .inl (cJ, 40, .inr (.inl (fun _ => 0)))), (q_63_39, .inl (cJ, 40, .inr (.inl (fun _ => 0)))), (q_71_39, .inl (cJ, 40, .inr (.inl (fun _ => 0))))] H := hP
  have hD : va_D A [(h0, .inr (4, [.long 0, .long 0, .ref q_5, .ref q_16, .ref q_31, .null, .null, .null, .long 0, .long 0])), (q_5, .inr (1, [.ref q_7_9, .ref q_15_9, .ref q_23_9, .ref q_31_9, .ref q_39_9, .ref q_47_9, .int (nI 0)])), (q_7_9, .inl (cJ, 40, .inr (.inl (fun _ => 0)))), (q_15_9, .inl (cJ, 40, .inr (.inl (fun _ => 0)))), (q_23_9, .inl (cI, 40, .inl (fun _ => nI 0))), (q_31_9, .inl (cJ, 40, .inr (.inl (fun _ => 0)))), (q_39_9, .inl (cZ, 40, .inl (fun _ => bm_b false))), (q_47_9, .inl (cI, 40, .inl (fun _ => nI 0))), (q_16, .inr (0, [.ref q_5, .ref q_7_24, .ref q_15_24, .ref q_23_24, .ref q_31_24, .ref q_39_24, .ref q_47_24, .ref q_55_24, .ref q_63_24, .int (nI 0), .int (nI 0)])), (q_7_24, .inl (cJ, 10, .inr (.inl (fun _ => 0)))), (q_15_24, .inl (cJ, 10, .inr (.inl (fun _ => 0)))), (q_23_24, .inl (cJ, 10, .inr (.inl (fun _ => 0)))), (q_31_24, .inl (cJ, 10, .inr (.inl (fun _ => 0)))), (q_39_24, .inl (cJ, 10, .inr (.inl (fun _ => 0)))), (q_47_24, .inl (cI, 20, .inl (fun _ => nI 0))), (q_55_24, .inl (cI, 20, .inl (fun _ => nI 0))), (q_63_24, .inl (cJ, 20, .inr (.inl (fun _ => 0)))), (q_31, .inr (3, [.ref q_5, .ref q_7_39, .ref q_15_39, .ref q_23_39, .ref q_31_39, .ref q_39_39, .ref q_47_39, .ref q_55_39, .ref q_63_39, .ref q_71_39, .int (nI 0), .int (nI 0)])), (q_7_39, .inl (cI, 120, .inl (fun _ => nI 0))), (q_15_39, .inl (cI, 120, .inl (fun _ => nI 0))), (q_23_39, .inl (cJ, 120, .inr (.inl (fun _ => 0)))), (q_31_39, .inl (cJ, 120, .inr (.inl (fun _ => 0)))), (q_39_39, .inl (cZ, 40, .inl (fun _ => bm_b false))), (q_47_39, .inl (cJ, 40, .inr (.inl (fun _ => 0)))), (q_55_39, .inl (cJ, 40, .inr (.inl (fun _ => 0)))), (q_63_39, .inl (cJ, 40, .inr (.inl (fun _ => 0)))), (q_71_39, .inl (cJ, 40, .inr (.inl (fun _ => 0))))] := hD
  refine lv_aload_n hx hb dX4_init_45 rfl (lv_at hl 0 rfl) ?_
  refine va_new (ci := 2) (fs := [.null, .null, .null, .null, .null]) (C := RX2) (T := TX2) (N := 5) hx hb hts (inT inX2) tyX2 tyX2_ok hown (hts (.classLink RX4 34 RX2) (by decide +kernel)) (hts (.instantiable RX2 5) (by decide +kernel)) (hts (.initialized RX2) (by decide +kernel)) hK hP hD hS hA rfl (fun j hj => by rcases (show j = 0 ∨ j = 1 ∨ j = 2 ∨ j = 3 ∨ j = 4 by omega) with rfl | rfl | rfl | rfl | rfl <;> rfl) (Nat.le_of_ble_eq_true rfl) (Nat.le_of_ble_eq_true rfl) dX4_init_46 (fun q_46 H hP hD hS => ?_)
  have hP : va_P D vwCl [(h0, .inr (4, [.long 0, .long 0, .ref q_5, .ref q_16, .ref q_31, .null, .null, .null, .long 0, .long 0])), (q_5, .inr (1, [.ref q_7_9, .ref q_15_9, .ref q_23_9, .ref q_31_9, .ref q_39_9, .ref q_47_9, .int (nI 0)])), (q_7_9, .inl (cJ, 40, .inr (.inl (fun _ => 0)))), (q_15_9, .inl (cJ, 40, .inr (.inl (fun _ => 0)))), (q_23_9, .inl (cI, 40, .inl (fun _ => nI 0))), (q_31_9, .inl (cJ, 40, .inr (.inl (fun _ => 0)))), (q_39_9, .inl (cZ, 40, .inl (fun _ => bm_b false))), (q_47_9, .inl (cI, 40, .inl (fun _ => nI 0))), (q_16, .inr (0, [.ref q_5, .ref q_7_24, .ref q_15_24, .ref q_23_24, .ref q_31_24, .ref q_39_24, .ref q_47_24, .ref q_55_24, .ref q_63_24, .int (nI 0), .int (nI 0)])), (q_7_24, .inl (cJ, 10, .inr (.inl (fun _ => 0)))), (q_15_24, .inl (cJ, 10, .inr (.inl (fun _ => 0)))), (q_23_24, .inl (cJ, 10, .inr (.inl (fun _ => 0)))), (q_31_24, .inl (cJ, 10, .inr (.inl (fun _ => 0)))), (q_39_24, .inl (cJ, 10, .inr (.inl (fun _ => 0)))), (q_47_24, .inl (cI, 20, .inl (fun _ => nI 0))), (q_55_24, .inl (cI, 20, .inl (fun _ => nI 0))), (q_63_24, .inl (cJ, 20, .inr (.inl (fun _ => 0)))), (q_31, .inr (3, [.ref q_5, .ref q_7_39, .ref q_15_39, .ref q_23_39, .ref q_31_39, .ref q_39_39, .ref q_47_39, .ref q_55_39, .ref q_63_39, .ref q_71_39, .int (nI 0), .int (nI 0)])), (q_7_39, .inl (cI, 120, .inl (fun _ => nI 0))), (q_15_39, .inl (cI, 120, .inl (fun _ => nI 0))), (q_23_39, .inl (cJ, 120, .inr (.inl (fun _ => 0)))), (q_31_39, .inl (cJ, 120, .inr (.inl (fun _ => 0)))), (q_39_39, .inl (cZ, 40, .inl (fun _ => bm_b false))), (q_47_39, .inl (cJ, 40, .inr (.inl (fun _ => 0)))), (q_55_39, .inl (cJ, 40, .inr (.inl (fun _ => 0)))), (q_63_39, .inl (cJ, 40, .inr (.inl (fun _ => 0)))), (q_71_39, .inl (cJ, 40, .inr (.inl (fun _ => 0)))), (q_46, .inr (2, [.null, .null, .null, .null, .null]))] H := hP
  have hD : va_D A [(h0, .inr (4, [.long 0, .long 0, .ref q_5, .ref q_16, .ref q_31, .null, .null, .null, .long 0, .long 0])), (q_5, .inr (1, [.ref q_7_9, .ref q_15_9, .ref q_23_9, .ref q_31_9, .ref q_39_9, .ref q_47_9, .int (nI 0)])), (q_7_9, .inl (cJ, 40, .inr (.inl (fun _ => 0)))), (q_15_9, .inl (cJ, 40, .inr (.inl (fun _ => 0)))), (q_23_9, .inl (cI, 40, .inl (fun _ => nI 0))), (q_31_9, .inl (cJ, 40, .inr (.inl (fun _ => 0)))), (q_39_9, .inl (cZ, 40, .inl (fun _ => bm_b false))), (q_47_9, .inl (cI, 40, .inl (fun _ => nI 0))), (q_16, .inr (0, [.ref q_5, .ref q_7_24, .ref q_15_24, .ref q_23_24, .ref q_31_24, .ref q_39_24, .ref q_47_24, .ref q_55_24, .ref q_63_24, .int (nI 0), .int (nI 0)])), (q_7_24, .inl (cJ, 10, .inr (.inl (fun _ => 0)))), (q_15_24, .inl (cJ, 10, .inr (.inl (fun _ => 0)))), (q_23_24, .inl (cJ, 10, .inr (.inl (fun _ => 0)))), (q_31_24, .inl (cJ, 10, .inr (.inl (fun _ => 0)))), (q_39_24, .inl (cJ, 10, .inr (.inl (fun _ => 0)))), (q_47_24, .inl (cI, 20, .inl (fun _ => nI 0))), (q_55_24, .inl (cI, 20, .inl (fun _ => nI 0))), (q_63_24, .inl (cJ, 20, .inr (.inl (fun _ => 0)))), (q_31, .inr (3, [.ref q_5, .ref q_7_39, .ref q_15_39, .ref q_23_39, .ref q_31_39, .ref q_39_39, .ref q_47_39, .ref q_55_39, .ref q_63_39, .ref q_71_39, .int (nI 0), .int (nI 0)])), (q_7_39, .inl (cI, 120, .inl (fun _ => nI 0))), (q_15_39, .inl (cI, 120, .inl (fun _ => nI 0))), (q_23_39, .inl (cJ, 120, .inr (.inl (fun _ => 0)))), (q_31_39, .inl (cJ, 120, .inr (.inl (fun _ => 0)))), (q_39_39, .inl (cZ, 40, .inl (fun _ => bm_b false))), (q_47_39, .inl (cJ, 40, .inr (.inl (fun _ => 0)))), (q_55_39, .inl (cJ, 40, .inr (.inl (fun _ => 0)))), (q_63_39, .inl (cJ, 40, .inr (.inl (fun _ => 0)))), (q_71_39, .inl (cJ, 40, .inr (.inl (fun _ => 0)))), (q_46, .inr (2, [.null, .null, .null, .null, .null]))] := hD
  refine lv_dup hx hb dX4_init_49 rfl ?_
  refine lv_aload_n hx hb dX4_init_50 rfl (lv_at hl 0 rfl) ?_
  refine va_get (D := D) (ci := 4) (v := .ref q_5) (C := RX4) (T := TX4) (N := 10) hx hb hts (inT inX4) hown hK hP 0 rfl rfl 2 (by decide) (hts (.fieldLink RX4 12 "BoardMoves" "parts" "LBoardMoves$Parts;") (by decide +kernel)) (fun _ h9 => h9) rfl dX4_init_51 ?_
  have hPc := hP.sub (ws' := [(q_46, .inr (2, [.null, .null, .null, .null, .null]))]) [27] rfl
  have hDc := hD.sub (ws' := [(q_46, .inr (2, [.null, .null, .null, .null, .null]))]) [27] (by decide) rfl
  have hFc := va_free (wc := [(q_46, .inr (2, [.null, .null, .null, .null, .null]))]) hD hS hA [27] rfl
  refine va_callv (va_runI (As := [.ref q_5]) (rest := [.ref q_46, .ref h0]) ⟨hx, hb, hml, hown, hts⟩ (c_Placement (h0 := q_46) (z1 := q_5) H.size) (cwI 1 hts (gdI (by decide +kernel)) rfl rfl rfl (hts (.initialized RX2) (by decide +kernel)) (hts (.methodLink RX4 36 yX2_init) (by decide +kernel)) (hts (.instanceMethod yX2_init) (by decide +kernel)) rfl (by decide +kernel) ⟨Nat.le_of_ble_eq_true rfl, Nat.le_of_ble_eq_true rfl⟩) ⟨bm_Wp.blind, fun U hU hW => ⟨rfl, by rw [hU], by rw [hU]; exact hPc, va_K.moved hW.alike hK, hDc.weaken (fun _ _ _ _ => trivial)⟩⟩ rfl rfl hl.1 rfl (lv_room (Nat.le_of_ble_eq_true rfl)) dX4_init_54 ⟨Nat.le_of_ble_eq_true rfl, Nat.le_of_ble_eq_true rfl⟩) hS (fun q _ h => hFc q h) hFc (fun u t H1 locs ht hvm hw hB hz1 hk1 hS => ?_)
  obtain ⟨q_7_54, q_15_54, q_23_54, q_31_54, hP1, hK1, hD1⟩ := hB
  rw [ht] at hP1
  obtain ⟨hP, hD⟩ := va_join (wr := [(h0, .inr (4, [.long 0, .long 0, .ref q_5, .ref q_16, .ref q_31, .null, .null, .null, .long 0, .long 0])), (q_5, .inr (1, [.ref q_7_9, .ref q_15_9, .ref q_23_9, .ref q_31_9, .ref q_39_9, .ref q_47_9, .int (nI 0)])), (q_7_9, .inl (cJ, 40, .inr (.inl (fun _ => 0)))), (q_15_9, .inl (cJ, 40, .inr (.inl (fun _ => 0)))), (q_23_9, .inl (cI, 40, .inl (fun _ => nI 0))), (q_31_9, .inl (cJ, 40, .inr (.inl (fun _ => 0)))), (q_39_9, .inl (cZ, 40, .inl (fun _ => bm_b false))), (q_47_9, .inl (cI, 40, .inl (fun _ => nI 0))), (q_16, .inr (0, [.ref q_5, .ref q_7_24, .ref q_15_24, .ref q_23_24, .ref q_31_24, .ref q_39_24, .ref q_47_24, .ref q_55_24, .ref q_63_24, .int (nI 0), .int (nI 0)])), (q_7_24, .inl (cJ, 10, .inr (.inl (fun _ => 0)))), (q_15_24, .inl (cJ, 10, .inr (.inl (fun _ => 0)))), (q_23_24, .inl (cJ, 10, .inr (.inl (fun _ => 0)))), (q_31_24, .inl (cJ, 10, .inr (.inl (fun _ => 0)))), (q_39_24, .inl (cJ, 10, .inr (.inl (fun _ => 0)))), (q_47_24, .inl (cI, 20, .inl (fun _ => nI 0))), (q_55_24, .inl (cI, 20, .inl (fun _ => nI 0))), (q_63_24, .inl (cJ, 20, .inr (.inl (fun _ => 0)))), (q_31, .inr (3, [.ref q_5, .ref q_7_39, .ref q_15_39, .ref q_23_39, .ref q_31_39, .ref q_39_39, .ref q_47_39, .ref q_55_39, .ref q_63_39, .ref q_71_39, .int (nI 0), .int (nI 0)])), (q_7_39, .inl (cI, 120, .inl (fun _ => nI 0))), (q_15_39, .inl (cI, 120, .inl (fun _ => nI 0))), (q_23_39, .inl (cJ, 120, .inr (.inl (fun _ => 0)))), (q_31_39, .inl (cJ, 120, .inr (.inl (fun _ => 0)))), (q_39_39, .inl (cZ, 40, .inl (fun _ => bm_b false))), (q_47_39, .inl (cJ, 40, .inr (.inl (fun _ => 0)))), (q_55_39, .inl (cJ, 40, .inr (.inl (fun _ => 0)))), (q_63_39, .inl (cJ, 40, .inr (.inl (fun _ => 0)))), (q_71_39, .inl (cJ, 40, .inr (.inl (fun _ => 0))))]) (w1 := [(q_46, .inr (2, [.ref q_5, .ref q_7_54, .ref q_15_54, .ref q_23_54, .ref q_31_54])), (q_7_54, .inl (cJ, 40, .inr (.inl (fun _ => 0)))), (q_15_54, .inl (cJ, 40, .inr (.inl (fun _ => 0)))), (q_23_54, .inl (cI, 40, .inl (fun _ => nI 0))), (q_31_54, .inl (cZ, 40, .inl (fun _ => bm_b false)))]) hP hD [27] [0, 1, 2, 3, 4, 5, 6, 7, 8, 9, 10, 11, 12, 13, 14, 15, 16, 17, 18, 19, 20, 21, 22, 23, 24, 25, 26] rfl rfl (by decide) (by decide) hk1 hFc hP1 hD1
  generalize H1 = H at hP hS ⊢
  have hP : va_P D vwCl [(h0, .inr (4, [.long 0, .long 0, .ref q_5, .ref q_16, .ref q_31, .null, .null, .null, .long 0, .long 0])), (q_5, .inr (1, [.ref q_7_9, .ref q_15_9, .ref q_23_9, .ref q_31_9, .ref q_39_9, .ref q_47_9, .int (nI 0)])), (q_7_9, .inl (cJ, 40, .inr (.inl (fun _ => 0)))), (q_15_9, .inl (cJ, 40, .inr (.inl (fun _ => 0)))), (q_23_9, .inl (cI, 40, .inl (fun _ => nI 0))), (q_31_9, .inl (cJ, 40, .inr (.inl (fun _ => 0)))), (q_39_9, .inl (cZ, 40, .inl (fun _ => bm_b false))), (q_47_9, .inl (cI, 40, .inl (fun _ => nI 0))), (q_16, .inr (0, [.ref q_5, .ref q_7_24, .ref q_15_24, .ref q_23_24, .ref q_31_24, .ref q_39_24, .ref q_47_24, .ref q_55_24, .ref q_63_24, .int (nI 0), .int (nI 0)])), (q_7_24, .inl (cJ, 10, .inr (.inl (fun _ => 0)))), (q_15_24, .inl (cJ, 10, .inr (.inl (fun _ => 0)))), (q_23_24, .inl (cJ, 10, .inr (.inl (fun _ => 0)))), (q_31_24, .inl (cJ, 10, .inr (.inl (fun _ => 0)))), (q_39_24, .inl (cJ, 10, .inr (.inl (fun _ => 0)))), (q_47_24, .inl (cI, 20, .inl (fun _ => nI 0))), (q_55_24, .inl (cI, 20, .inl (fun _ => nI 0))), (q_63_24, .inl (cJ, 20, .inr (.inl (fun _ => 0)))), (q_31, .inr (3, [.ref q_5, .ref q_7_39, .ref q_15_39, .ref q_23_39, .ref q_31_39, .ref q_39_39, .ref q_47_39, .ref q_55_39, .ref q_63_39, .ref q_71_39, .int (nI 0), .int (nI 0)])), (q_7_39, .inl (cI, 120, .inl (fun _ => nI 0))), (q_15_39, .inl (cI, 120, .inl (fun _ => nI 0))), (q_23_39, .inl (cJ, 120, .inr (.inl (fun _ => 0)))), (q_31_39, .inl (cJ, 120, .inr (.inl (fun _ => 0)))), (q_39_39, .inl (cZ, 40, .inl (fun _ => bm_b false))), (q_47_39, .inl (cJ, 40, .inr (.inl (fun _ => 0)))), (q_55_39, .inl (cJ, 40, .inr (.inl (fun _ => 0)))), (q_63_39, .inl (cJ, 40, .inr (.inl (fun _ => 0)))), (q_71_39, .inl (cJ, 40, .inr (.inl (fun _ => 0)))), (q_46, .inr (2, [.ref q_5, .ref q_7_54, .ref q_15_54, .ref q_23_54, .ref q_31_54])), (q_7_54, .inl (cJ, 40, .inr (.inl (fun _ => 0)))), (q_15_54, .inl (cJ, 40, .inr (.inl (fun _ => 0)))), (q_23_54, .inl (cI, 40, .inl (fun _ => nI 0))), (q_31_54, .inl (cZ, 40, .inl (fun _ => bm_b false)))] H := hP
  have hD : va_D A [(h0, .inr (4, [.long 0, .long 0, .ref q_5, .ref q_16, .ref q_31, .null, .null, .null, .long 0, .long 0])), (q_5, .inr (1, [.ref q_7_9, .ref q_15_9, .ref q_23_9, .ref q_31_9, .ref q_39_9, .ref q_47_9, .int (nI 0)])), (q_7_9, .inl (cJ, 40, .inr (.inl (fun _ => 0)))), (q_15_9, .inl (cJ, 40, .inr (.inl (fun _ => 0)))), (q_23_9, .inl (cI, 40, .inl (fun _ => nI 0))), (q_31_9, .inl (cJ, 40, .inr (.inl (fun _ => 0)))), (q_39_9, .inl (cZ, 40, .inl (fun _ => bm_b false))), (q_47_9, .inl (cI, 40, .inl (fun _ => nI 0))), (q_16, .inr (0, [.ref q_5, .ref q_7_24, .ref q_15_24, .ref q_23_24, .ref q_31_24, .ref q_39_24, .ref q_47_24, .ref q_55_24, .ref q_63_24, .int (nI 0), .int (nI 0)])), (q_7_24, .inl (cJ, 10, .inr (.inl (fun _ => 0)))), (q_15_24, .inl (cJ, 10, .inr (.inl (fun _ => 0)))), (q_23_24, .inl (cJ, 10, .inr (.inl (fun _ => 0)))), (q_31_24, .inl (cJ, 10, .inr (.inl (fun _ => 0)))), (q_39_24, .inl (cJ, 10, .inr (.inl (fun _ => 0)))), (q_47_24, .inl (cI, 20, .inl (fun _ => nI 0))), (q_55_24, .inl (cI, 20, .inl (fun _ => nI 0))), (q_63_24, .inl (cJ, 20, .inr (.inl (fun _ => 0)))), (q_31, .inr (3, [.ref q_5, .ref q_7_39, .ref q_15_39, .ref q_23_39, .ref q_31_39, .ref q_39_39, .ref q_47_39, .ref q_55_39, .ref q_63_39, .ref q_71_39, .int (nI 0), .int (nI 0)])), (q_7_39, .inl (cI, 120, .inl (fun _ => nI 0))), (q_15_39, .inl (cI, 120, .inl (fun _ => nI 0))), (q_23_39, .inl (cJ, 120, .inr (.inl (fun _ => 0)))), (q_31_39, .inl (cJ, 120, .inr (.inl (fun _ => 0)))), (q_39_39, .inl (cZ, 40, .inl (fun _ => bm_b false))), (q_47_39, .inl (cJ, 40, .inr (.inl (fun _ => 0)))), (q_55_39, .inl (cJ, 40, .inr (.inl (fun _ => 0)))), (q_63_39, .inl (cJ, 40, .inr (.inl (fun _ => 0)))), (q_71_39, .inl (cJ, 40, .inr (.inl (fun _ => 0)))), (q_46, .inr (2, [.ref q_5, .ref q_7_54, .ref q_15_54, .ref q_23_54, .ref q_31_54])), (q_7_54, .inl (cJ, 40, .inr (.inl (fun _ => 0)))), (q_15_54, .inl (cJ, 40, .inr (.inl (fun _ => 0)))), (q_23_54, .inl (cI, 40, .inl (fun _ => nI 0))), (q_31_54, .inl (cZ, 40, .inl (fun _ => bm_b false)))] := hD
  refine va_putF (D := D) (ci := 4) (v := .ref q_46) (ty := (.object "BoardMoves$Placement")) (C := RX4) (T := TX4) (N := 10) hx hb hts (inT inX4) tyX4 tyX4_ok nmX4 hown hK hP hD hS 0 rfl rfl 5 (by decide) (hts (.fieldLink RX4 37 "BoardMoves" "now" "LBoardMoves$Placement;") (by decide +kernel)) (fun _ h9 => h9) rfl hin rfl (by decide +kernel) rfl rfl (Nat.le_of_ble_eq_true rfl) dX4_init_57 (fun H locs hP hD hS => ?_)
  have hP : va_P D vwCl [(h0, .inr (4, [.long 0, .long 0, .ref q_5, .ref q_16, .ref q_31, .ref q_46, .null, .null, .long 0, .long 0])), (q_5, .inr (1, [.ref q_7_9, .ref q_15_9, .ref q_23_9, .ref q_31_9, .ref q_39_9, .ref q_47_9, .int (nI 0)])), (q_7_9, .inl (cJ, 40, .inr (.inl (fun _ => 0)))), (q_15_9, .inl (cJ, 40, .inr (.inl (fun _ => 0)))), (q_23_9, .inl (cI, 40, .inl (fun _ => nI 0))), (q_31_9, .inl (cJ, 40, .inr (.inl (fun _ => 0)))), (q_39_9, .inl (cZ, 40, .inl (fun _ => bm_b false))), (q_47_9, .inl (cI, 40, .inl (fun _ => nI 0))), (q_16, .inr (0, [.ref q_5, .ref q_7_24, .ref q_15_24, .ref q_23_24, .ref q_31_24, .ref q_39_24, .ref q_47_24, .ref q_55_24, .ref q_63_24, .int (nI 0), .int (nI 0)])), (q_7_24, .inl (cJ, 10, .inr (.inl (fun _ => 0)))), (q_15_24, .inl (cJ, 10, .inr (.inl (fun _ => 0)))), (q_23_24, .inl (cJ, 10, .inr (.inl (fun _ => 0)))), (q_31_24, .inl (cJ, 10, .inr (.inl (fun _ => 0)))), (q_39_24, .inl (cJ, 10, .inr (.inl (fun _ => 0)))), (q_47_24, .inl (cI, 20, .inl (fun _ => nI 0))), (q_55_24, .inl (cI, 20, .inl (fun _ => nI 0))), (q_63_24, .inl (cJ, 20, .inr (.inl (fun _ => 0)))), (q_31, .inr (3, [.ref q_5, .ref q_7_39, .ref q_15_39, .ref q_23_39, .ref q_31_39, .ref q_39_39, .ref q_47_39, .ref q_55_39, .ref q_63_39, .ref q_71_39, .int (nI 0), .int (nI 0)])), (q_7_39, .inl (cI, 120, .inl (fun _ => nI 0))), (q_15_39, .inl (cI, 120, .inl (fun _ => nI 0))), (q_23_39, .inl (cJ, 120, .inr (.inl (fun _ => 0)))), (q_31_39, .inl (cJ, 120, .inr (.inl (fun _ => 0)))), (q_39_39, .inl (cZ, 40, .inl (fun _ => bm_b false))), (q_47_39, .inl (cJ, 40, .inr (.inl (fun _ => 0)))), (q_55_39, .inl (cJ, 40, .inr (.inl (fun _ => 0)))), (q_63_39, .inl (cJ, 40, .inr (.inl (fun _ => 0)))), (q_71_39, .inl (cJ, 40, .inr (.inl (fun _ => 0)))), (q_46, .inr (2, [.ref q_5, .ref q_7_54, .ref q_15_54, .ref q_23_54, .ref q_31_54])), (q_7_54, .inl (cJ, 40, .inr (.inl (fun _ => 0)))), (q_15_54, .inl (cJ, 40, .inr (.inl (fun _ => 0)))), (q_23_54, .inl (cI, 40, .inl (fun _ => nI 0))), (q_31_54, .inl (cZ, 40, .inl (fun _ => bm_b false)))] H := hP
  have hD : va_D A [(h0, .inr (4, [.long 0, .long 0, .ref q_5, .ref q_16, .ref q_31, .ref q_46, .null, .null, .long 0, .long 0])), (q_5, .inr (1, [.ref q_7_9, .ref q_15_9, .ref q_23_9, .ref q_31_9, .ref q_39_9, .ref q_47_9, .int (nI 0)])), (q_7_9, .inl (cJ, 40, .inr (.inl (fun _ => 0)))), (q_15_9, .inl (cJ, 40, .inr (.inl (fun _ => 0)))), (q_23_9, .inl (cI, 40, .inl (fun _ => nI 0))), (q_31_9, .inl (cJ, 40, .inr (.inl (fun _ => 0)))), (q_39_9, .inl (cZ, 40, .inl (fun _ => bm_b false))), (q_47_9, .inl (cI, 40, .inl (fun _ => nI 0))), (q_16, .inr (0, [.ref q_5, .ref q_7_24, .ref q_15_24, .ref q_23_24, .ref q_31_24, .ref q_39_24, .ref q_47_24, .ref q_55_24, .ref q_63_24, .int (nI 0), .int (nI 0)])), (q_7_24, .inl (cJ, 10, .inr (.inl (fun _ => 0)))), (q_15_24, .inl (cJ, 10, .inr (.inl (fun _ => 0)))), (q_23_24, .inl (cJ, 10, .inr (.inl (fun _ => 0)))), (q_31_24, .inl (cJ, 10, .inr (.inl (fun _ => 0)))), (q_39_24, .inl (cJ, 10, .inr (.inl (fun _ => 0)))), (q_47_24, .inl (cI, 20, .inl (fun _ => nI 0))), (q_55_24, .inl (cI, 20, .inl (fun _ => nI 0))), (q_63_24, .inl (cJ, 20, .inr (.inl (fun _ => 0)))), (q_31, .inr (3, [.ref q_5, .ref q_7_39, .ref q_15_39, .ref q_23_39, .ref q_31_39, .ref q_39_39, .ref q_47_39, .ref q_55_39, .ref q_63_39, .ref q_71_39, .int (nI 0), .int (nI 0)])), (q_7_39, .inl (cI, 120, .inl (fun _ => nI 0))), (q_15_39, .inl (cI, 120, .inl (fun _ => nI 0))), (q_23_39, .inl (cJ, 120, .inr (.inl (fun _ => 0)))), (q_31_39, .inl (cJ, 120, .inr (.inl (fun _ => 0)))), (q_39_39, .inl (cZ, 40, .inl (fun _ => bm_b false))), (q_47_39, .inl (cJ, 40, .inr (.inl (fun _ => 0)))), (q_55_39, .inl (cJ, 40, .inr (.inl (fun _ => 0)))), (q_63_39, .inl (cJ, 40, .inr (.inl (fun _ => 0)))), (q_71_39, .inl (cJ, 40, .inr (.inl (fun _ => 0)))), (q_46, .inr (2, [.ref q_5, .ref q_7_54, .ref q_15_54, .ref q_23_54, .ref q_31_54])), (q_7_54, .inl (cJ, 40, .inr (.inl (fun _ => 0)))), (q_15_54, .inl (cJ, 40, .inr (.inl (fun _ => 0)))), (q_23_54, .inl (cI, 40, .inl (fun _ => nI 0))), (q_31_54, .inl (cZ, 40, .inl (fun _ => bm_b false)))] := hD
  refine lv_aload_n hx hb dX4_init_60 rfl (lv_at hl 0 rfl) ?_
  refine va_new (ci := 2) (fs := [.null, .null, .null, .null, .null]) (C := RX2) (T := TX2) (N := 5) hx hb hts (inT inX2) tyX2 tyX2_ok hown (hts (.classLink RX4 34 RX2) (by decide +kernel)) (hts (.instantiable RX2 5) (by decide +kernel)) (hts (.initialized RX2) (by decide +kernel)) hK hP hD hS hA rfl (fun j hj => by rcases (show j = 0 ∨ j = 1 ∨ j = 2 ∨ j = 3 ∨ j = 4 by omega) with rfl | rfl | rfl | rfl | rfl <;> rfl) (Nat.le_of_ble_eq_true rfl) (Nat.le_of_ble_eq_true rfl) dX4_init_61 (fun q_61 H hP hD hS => ?_)
  have hP : va_P D vwCl [(h0, .inr (4, [.long 0, .long 0, .ref q_5, .ref q_16, .ref q_31, .ref q_46, .null, .null, .long 0, .long 0])), (q_5, .inr (1, [.ref q_7_9, .ref q_15_9, .ref q_23_9, .ref q_31_9, .ref q_39_9, .ref q_47_9, .int (nI 0)])), (q_7_9, .inl (cJ, 40, .inr (.inl (fun _ => 0)))), (q_15_9, .inl (cJ, 40, .inr (.inl (fun _ => 0)))), (q_23_9, .inl (cI, 40, .inl (fun _ => nI 0))), (q_31_9, .inl (cJ, 40, .inr (.inl (fun _ => 0)))), (q_39_9, .inl (cZ, 40, .inl (fun _ => bm_b false))), (q_47_9, .inl (cI, 40, .inl (fun _ => nI 0))), (q_16, .inr (0, [.ref q_5, .ref q_7_24, .ref q_15_24, .ref q_23_24, .ref q_31_24, .ref q_39_24, .ref q_47_24, .ref q_55_24, .ref q_63_24, .int (nI 0), .int (nI 0)])), (q_7_24, .inl (cJ, 10, .inr (.inl (fun _ => 0)))), (q_15_24, .inl (cJ, 10, .inr (.inl (fun _ => 0)))), (q_23_24, .inl (cJ, 10, .inr (.inl (fun _ => 0)))), (q_31_24, .inl (cJ, 10, .inr (.inl (fun _ => 0)))), (q_39_24, .inl (cJ, 10, .inr (.inl (fun _ => 0)))), (q_47_24, .inl (cI, 20, .inl (fun _ => nI 0))), (q_55_24, .inl (cI, 20, .inl (fun _ => nI 0))), (q_63_24, .inl (cJ, 20, .inr (.inl (fun _ => 0)))), (q_31, .inr (3, [.ref q_5, .ref q_7_39, .ref q_15_39, .ref q_23_39, .ref q_31_39, .ref q_39_39, .ref q_47_39, .ref q_55_39, .ref q_63_39, .ref q_71_39, .int (nI 0), .int (nI 0)])), (q_7_39, .inl (cI, 120, .inl (fun _ => nI 0))), (q_15_39, .inl (cI, 120, .inl (fun _ => nI 0))), (q_23_39, .inl (cJ, 120, .inr (.inl (fun _ => 0)))), (q_31_39, .inl (cJ, 120, .inr (.inl (fun _ => 0)))), (q_39_39, .inl (cZ, 40, .inl (fun _ => bm_b false))), (q_47_39, .inl (cJ, 40, .inr (.inl (fun _ => 0)))), (q_55_39, .inl (cJ, 40, .inr (.inl (fun _ => 0)))), (q_63_39, .inl (cJ, 40, .inr (.inl (fun _ => 0)))), (q_71_39, .inl (cJ, 40, .inr (.inl (fun _ => 0)))), (q_46, .inr (2, [.ref q_5, .ref q_7_54, .ref q_15_54, .ref q_23_54, .ref q_31_54])), (q_7_54, .inl (cJ, 40, .inr (.inl (fun _ => 0)))), (q_15_54, .inl (cJ, 40, .inr (.inl (fun _ => 0)))), (q_23_54, .inl (cI, 40, .inl (fun _ => nI 0))), (q_31_54, .inl (cZ, 40, .inl (fun _ => bm_b false))), (q_61, .inr (2, [.null, .null, .null, .null, .null]))] H := hP
  have hD : va_D A [(h0, .inr (4, [.long 0, .long 0, .ref q_5, .ref q_16, .ref q_31, .ref q_46, .null, .null, .long 0, .long 0])), (q_5, .inr (1, [.ref q_7_9, .ref q_15_9, .ref q_23_9, .ref q_31_9, .ref q_39_9, .ref q_47_9, .int (nI 0)])), (q_7_9, .inl (cJ, 40, .inr (.inl (fun _ => 0)))), (q_15_9, .inl (cJ, 40, .inr (.inl (fun _ => 0)))), (q_23_9, .inl (cI, 40, .inl (fun _ => nI 0))), (q_31_9, .inl (cJ, 40, .inr (.inl (fun _ => 0)))), (q_39_9, .inl (cZ, 40, .inl (fun _ => bm_b false))), (q_47_9, .inl (cI, 40, .inl (fun _ => nI 0))), (q_16, .inr (0, [.ref q_5, .ref q_7_24, .ref q_15_24, .ref q_23_24, .ref q_31_24, .ref q_39_24, .ref q_47_24, .ref q_55_24, .ref q_63_24, .int (nI 0), .int (nI 0)])), (q_7_24, .inl (cJ, 10, .inr (.inl (fun _ => 0)))), (q_15_24, .inl (cJ, 10, .inr (.inl (fun _ => 0)))), (q_23_24, .inl (cJ, 10, .inr (.inl (fun _ => 0)))), (q_31_24, .inl (cJ, 10, .inr (.inl (fun _ => 0)))), (q_39_24, .inl (cJ, 10, .inr (.inl (fun _ => 0)))), (q_47_24, .inl (cI, 20, .inl (fun _ => nI 0))), (q_55_24, .inl (cI, 20, .inl (fun _ => nI 0))), (q_63_24, .inl (cJ, 20, .inr (.inl (fun _ => 0)))), (q_31, .inr (3, [.ref q_5, .ref q_7_39, .ref q_15_39, .ref q_23_39, .ref q_31_39, .ref q_39_39, .ref q_47_39, .ref q_55_39, .ref q_63_39, .ref q_71_39, .int (nI 0), .int (nI 0)])), (q_7_39, .inl (cI, 120, .inl (fun _ => nI 0))), (q_15_39, .inl (cI, 120, .inl (fun _ => nI 0))), (q_23_39, .inl (cJ, 120, .inr (.inl (fun _ => 0)))), (q_31_39, .inl (cJ, 120, .inr (.inl (fun _ => 0)))), (q_39_39, .inl (cZ, 40, .inl (fun _ => bm_b false))), (q_47_39, .inl (cJ, 40, .inr (.inl (fun _ => 0)))), (q_55_39, .inl (cJ, 40, .inr (.inl (fun _ => 0)))), (q_63_39, .inl (cJ, 40, .inr (.inl (fun _ => 0)))), (q_71_39, .inl (cJ, 40, .inr (.inl (fun _ => 0)))), (q_46, .inr (2, [.ref q_5, .ref q_7_54, .ref q_15_54, .ref q_23_54, .ref q_31_54])), (q_7_54, .inl (cJ, 40, .inr (.inl (fun _ => 0)))), (q_15_54, .inl (cJ, 40, .inr (.inl (fun _ => 0)))), (q_23_54, .inl (cI, 40, .inl (fun _ => nI 0))), (q_31_54, .inl (cZ, 40, .inl (fun _ => bm_b false))), (q_61, .inr (2, [.null, .null, .null, .null, .null]))] := hD
  refine lv_dup hx hb dX4_init_64 rfl ?_
  refine lv_aload_n hx hb dX4_init_65 rfl (lv_at hl 0 rfl) ?_
  refine va_get (D := D) (ci := 4) (v := .ref q_5) (C := RX4) (T := TX4) (N := 10) hx hb hts (inT inX4) hown hK hP 0 rfl rfl 2 (by decide) (hts (.fieldLink RX4 12 "BoardMoves" "parts" "LBoardMoves$Parts;") (by decide +kernel)) (fun _ h9 => h9) rfl dX4_init_66 ?_
  have hPc := hP.sub (ws' := [(q_61, .inr (2, [.null, .null, .null, .null, .null]))]) [32] rfl
  have hDc := hD.sub (ws' := [(q_61, .inr (2, [.null, .null, .null, .null, .null]))]) [32] (by decide) rfl
  have hFc := va_free (wc := [(q_61, .inr (2, [.null, .null, .null, .null, .null]))]) hD hS hA [32] rfl
  refine va_callv (va_runI (As := [.ref q_5]) (rest := [.ref q_61, .ref h0]) ⟨hx, hb, hml, hown, hts⟩ (c_Placement (h0 := q_61) (z1 := q_5) H.size) (cwI 1 hts (gdI (by decide +kernel)) rfl rfl rfl (hts (.initialized RX2) (by decide +kernel)) (hts (.methodLink RX4 36 yX2_init) (by decide +kernel)) (hts (.instanceMethod yX2_init) (by decide +kernel)) rfl (by decide +kernel) ⟨Nat.le_of_ble_eq_true rfl, Nat.le_of_ble_eq_true rfl⟩) ⟨bm_Wp.blind, fun U hU hW => ⟨rfl, by rw [hU], by rw [hU]; exact hPc, va_K.moved hW.alike hK, hDc.weaken (fun _ _ _ _ => trivial)⟩⟩ rfl rfl hl.1 rfl (lv_room (Nat.le_of_ble_eq_true rfl)) dX4_init_69 ⟨Nat.le_of_ble_eq_true rfl, Nat.le_of_ble_eq_true rfl⟩) hS (fun q _ h => hFc q h) hFc (fun u t H1 locs ht hvm hw hB hz1 hk1 hS => ?_)
  obtain ⟨q_7_69, q_15_69, q_23_69, q_31_69, hP1, hK1, hD1⟩ := hB
  rw [ht] at hP1
  obtain ⟨hP, hD⟩ := va_join (wr := [(h0, .inr (4, [.long 0, .long 0, .ref q_5, .ref q_16, .ref q_31, .ref q_46, .null, .null, .long 0, .long 0])), (q_5, .inr (1, [.ref q_7_9, .ref q_15_9, .ref q_23_9, .ref q_31_9, .ref q_39_9, .ref q_47_9, .int (nI 0)])), (q_7_9, .inl (cJ, 40, .inr (.inl (fun _ => 0)))), (q_15_9, .inl (cJ, 40, .inr (.inl (fun _ => 0)))), (q_23_9, .inl (cI, 40, .inl (fun _ => nI 0))), (q_31_9, .inl (cJ, 40, .inr (.inl (fun _ => 0)))), (q_39_9, .inl (cZ, 40, .inl (fun _ => bm_b false))), (q_47_9, .inl (cI, 40, .inl (fun _ => nI 0))), (q_16, .inr (0, [.ref q_5, .ref q_7_24, .ref q_15_24, .ref q_23_24, .ref q_31_24, .ref q_39_24, .ref q_47_24, .ref q_55_24, .ref q_63_24, .int (nI 0), .int (nI 0)])), (q_7_24, .inl (cJ, 10, .inr (.inl (fun _ => 0)))), (q_15_24, .inl (cJ, 10, .inr (.inl (fun _ => 0)))), (q_23_24, .inl (cJ, 10, .inr (.inl (fun _ => 0)))), (q_31_24, .inl (cJ, 10, .inr (.inl (fun _ => 0)))), (q_39_24, .inl (cJ, 10, .inr (.inl (fun _ => 0)))), (q_47_24, .inl (cI, 20, .inl (fun _ => nI 0))), (q_55_24, .inl (cI, 20, .inl (fun _ => nI 0))), (q_63_24, .inl (cJ, 20, .inr (.inl (fun _ => 0)))), (q_31, .inr (3, [.ref q_5, .ref q_7_39, .ref q_15_39, .ref q_23_39, .ref q_31_39, .ref q_39_39, .ref q_47_39, .ref q_55_39, .ref q_63_39, .ref q_71_39, .int (nI 0), .int (nI 0)])), (q_7_39, .inl (cI, 120, .inl (fun _ => nI 0))), (q_15_39, .inl (cI, 120, .inl (fun _ => nI 0))), (q_23_39, .inl (cJ, 120, .inr (.inl (fun _ => 0)))), (q_31_39, .inl (cJ, 120, .inr (.inl (fun _ => 0)))), (q_39_39, .inl (cZ, 40, .inl (fun _ => bm_b false))), (q_47_39, .inl (cJ, 40, .inr (.inl (fun _ => 0)))), (q_55_39, .inl (cJ, 40, .inr (.inl (fun _ => 0)))), (q_63_39, .inl (cJ, 40, .inr (.inl (fun _ => 0)))), (q_71_39, .inl (cJ, 40, .inr (.inl (fun _ => 0)))), (q_46, .inr (2, [.ref q_5, .ref q_7_54, .ref q_15_54, .ref q_23_54, .ref q_31_54])), (q_7_54, .inl (cJ, 40, .inr (.inl (fun _ => 0)))), (q_15_54, .inl (cJ, 40, .inr (.inl (fun _ => 0)))), (q_23_54, .inl (cI, 40, .inl (fun _ => nI 0))), (q_31_54, .inl (cZ, 40, .inl (fun _ => bm_b false)))]) (w1 := [(q_61, .inr (2, [.ref q_5, .ref q_7_69, .ref q_15_69, .ref q_23_69, .ref q_31_69])), (q_7_69, .inl (cJ, 40, .inr (.inl (fun _ => 0)))), (q_15_69, .inl (cJ, 40, .inr (.inl (fun _ => 0)))), (q_23_69, .inl (cI, 40, .inl (fun _ => nI 0))), (q_31_69, .inl (cZ, 40, .inl (fun _ => bm_b false)))]) hP hD [32] [0, 1, 2, 3, 4, 5, 6, 7, 8, 9, 10, 11, 12, 13, 14, 15, 16, 17, 18, 19, 20, 21, 22, 23, 24, 25, 26, 27, 28, 29, 30, 31] rfl rfl (by decide) (by decide) hk1 hFc hP1 hD1
  generalize H1 = H at hP hS ⊢
  have hP : va_P D vwCl [(h0, .inr (4, [.long 0, .long 0, .ref q_5, .ref q_16, .ref q_31, .ref q_46, .null, .null, .long 0, .long 0])), (q_5, .inr (1, [.ref q_7_9, .ref q_15_9, .ref q_23_9, .ref q_31_9, .ref q_39_9, .ref q_47_9, .int (nI 0)])), (q_7_9, .inl (cJ, 40, .inr (.inl (fun _ => 0)))), (q_15_9, .inl (cJ, 40, .inr (.inl (fun _ => 0)))), (q_23_9, .inl (cI, 40, .inl (fun _ => nI 0))), (q_31_9, .inl (cJ, 40, .inr (.inl (fun _ => 0)))), (q_39_9, .inl (cZ, 40, .inl (fun _ => bm_b false))), (q_47_9, .inl (cI, 40, .inl (fun _ => nI 0))), (q_16, .inr (0, [.ref q_5, .ref q_7_24, .ref q_15_24, .ref q_23_24, .ref q_31_24, .ref q_39_24, .ref q_47_24, .ref q_55_24, .ref q_63_24, .int (nI 0), .int (nI 0)])), (q_7_24, .inl (cJ, 10, .inr (.inl (fun _ => 0)))), (q_15_24, .inl (cJ, 10, .inr (.inl (fun _ => 0)))), (q_23_24, .inl (cJ, 10, .inr (.inl (fun _ => 0)))), (q_31_24, .inl (cJ, 10, .inr (.inl (fun _ => 0)))), (q_39_24, .inl (cJ, 10, .inr (.inl (fun _ => 0)))), (q_47_24, .inl (cI, 20, .inl (fun _ => nI 0))), (q_55_24, .inl (cI, 20, .inl (fun _ => nI 0))), (q_63_24, .inl (cJ, 20, .inr (.inl (fun _ => 0)))), (q_31, .inr (3, [.ref q_5, .ref q_7_39, .ref q_15_39, .ref q_23_39, .ref q_31_39, .ref q_39_39, .ref q_47_39, .ref q_55_39, .ref q_63_39, .ref q_71_39, .int (nI 0), .int (nI 0)])), (q_7_39, .inl (cI, 120, .inl (fun _ => nI 0))), (q_15_39, .inl (cI, 120, .inl (fun _ => nI 0))), (q_23_39, .inl (cJ, 120, .inr (.inl (fun _ => 0)))), (q_31_39, .inl (cJ, 120, .inr (.inl (fun _ => 0)))), (q_39_39, .inl (cZ, 40, .inl (fun _ => bm_b false))), (q_47_39, .inl (cJ, 40, .inr (.inl (fun _ => 0)))), (q_55_39, .inl (cJ, 40, .inr (.inl (fun _ => 0)))), (q_63_39, .inl (cJ, 40, .inr (.inl (fun _ => 0)))), (q_71_39, .inl (cJ, 40, .inr (.inl (fun _ => 0)))), (q_46, .inr (2, [.ref q_5, .ref q_7_54, .ref q_15_54, .ref q_23_54, .ref q_31_54])), (q_7_54, .inl (cJ, 40, .inr (.inl (fun _ => 0)))), (q_15_54, .inl (cJ, 40, .inr (.inl (fun _ => 0)))), (q_23_54, .inl (cI, 40, .inl (fun _ => nI 0))), (q_31_54, .inl (cZ, 40, .inl (fun _ => bm_b false))), (q_61, .inr (2, [.ref q_5, .ref q_7_69, .ref q_15_69, .ref q_23_69, .ref q_31_69])), (q_7_69, .inl (cJ, 40, .inr (.inl (fun _ => 0)))), (q_15_69, .inl (cJ, 40, .inr (.inl (fun _ => 0)))), (q_23_69, .inl (cI, 40, .inl (fun _ => nI 0))), (q_31_69, .inl (cZ, 40, .inl (fun _ => bm_b false)))] H := hP
  have hD : va_D A [(h0, .inr (4, [.long 0, .long 0, .ref q_5, .ref q_16, .ref q_31, .ref q_46, .null, .null, .long 0, .long 0])), (q_5, .inr (1, [.ref q_7_9, .ref q_15_9, .ref q_23_9, .ref q_31_9, .ref q_39_9, .ref q_47_9, .int (nI 0)])), (q_7_9, .inl (cJ, 40, .inr (.inl (fun _ => 0)))), (q_15_9, .inl (cJ, 40, .inr (.inl (fun _ => 0)))), (q_23_9, .inl (cI, 40, .inl (fun _ => nI 0))), (q_31_9, .inl (cJ, 40, .inr (.inl (fun _ => 0)))), (q_39_9, .inl (cZ, 40, .inl (fun _ => bm_b false))), (q_47_9, .inl (cI, 40, .inl (fun _ => nI 0))), (q_16, .inr (0, [.ref q_5, .ref q_7_24, .ref q_15_24, .ref q_23_24, .ref q_31_24, .ref q_39_24, .ref q_47_24, .ref q_55_24, .ref q_63_24, .int (nI 0), .int (nI 0)])), (q_7_24, .inl (cJ, 10, .inr (.inl (fun _ => 0)))), (q_15_24, .inl (cJ, 10, .inr (.inl (fun _ => 0)))), (q_23_24, .inl (cJ, 10, .inr (.inl (fun _ => 0)))), (q_31_24, .inl (cJ, 10, .inr (.inl (fun _ => 0)))), (q_39_24, .inl (cJ, 10, .inr (.inl (fun _ => 0)))), (q_47_24, .inl (cI, 20, .inl (fun _ => nI 0))), (q_55_24, .inl (cI, 20, .inl (fun _ => nI 0))), (q_63_24, .inl (cJ, 20, .inr (.inl (fun _ => 0)))), (q_31, .inr (3, [.ref q_5, .ref q_7_39, .ref q_15_39, .ref q_23_39, .ref q_31_39, .ref q_39_39, .ref q_47_39, .ref q_55_39, .ref q_63_39, .ref q_71_39, .int (nI 0), .int (nI 0)])), (q_7_39, .inl (cI, 120, .inl (fun _ => nI 0))), (q_15_39, .inl (cI, 120, .inl (fun _ => nI 0))), (q_23_39, .inl (cJ, 120, .inr (.inl (fun _ => 0)))), (q_31_39, .inl (cJ, 120, .inr (.inl (fun _ => 0)))), (q_39_39, .inl (cZ, 40, .inl (fun _ => bm_b false))), (q_47_39, .inl (cJ, 40, .inr (.inl (fun _ => 0)))), (q_55_39, .inl (cJ, 40, .inr (.inl (fun _ => 0)))), (q_63_39, .inl (cJ, 40, .inr (.inl (fun _ => 0)))), (q_71_39, .inl (cJ, 40, .inr (.inl (fun _ => 0)))), (q_46, .inr (2, [.ref q_5, .ref q_7_54, .ref q_15_54, .ref q_23_54, .ref q_31_54])), (q_7_54, .inl (cJ, 40, .inr (.inl (fun _ => 0)))), (q_15_54, .inl (cJ, 40, .inr (.inl (fun _ => 0)))), (q_23_54, .inl (cI, 40, .inl (fun _ => nI 0))), (q_31_54, .inl (cZ, 40, .inl (fun _ => bm_b false))), (q_61, .inr (2, [.ref q_5, .ref q_7_69, .ref q_15_69, .ref q_23_69, .ref q_31_69])), (q_7_69, .inl (cJ, 40, .inr (.inl (fun _ => 0)))), (q_15_69, .inl (cJ, 40, .inr (.inl (fun _ => 0)))), (q_23_69, .inl (cI, 40, .inl (fun _ => nI 0))), (q_31_69, .inl (cZ, 40, .inl (fun _ => bm_b false)))] := hD
  refine va_putF (D := D) (ci := 4) (v := .ref q_61) (ty := (.object "BoardMoves$Placement")) (C := RX4) (T := TX4) (N := 10) hx hb hts (inT inX4) tyX4 tyX4_ok nmX4 hown hK hP hD hS 0 rfl rfl 6 (by decide) (hts (.fieldLink RX4 41 "BoardMoves" "before" "LBoardMoves$Placement;") (by decide +kernel)) (fun _ h9 => h9) rfl hin rfl (by decide +kernel) rfl rfl (Nat.le_of_ble_eq_true rfl) dX4_init_72 (fun H locs hP hD hS => ?_)
  have hP : va_P D vwCl [(h0, .inr (4, [.long 0, .long 0, .ref q_5, .ref q_16, .ref q_31, .ref q_46, .ref q_61, .null, .long 0, .long 0])), (q_5, .inr (1, [.ref q_7_9, .ref q_15_9, .ref q_23_9, .ref q_31_9, .ref q_39_9, .ref q_47_9, .int (nI 0)])), (q_7_9, .inl (cJ, 40, .inr (.inl (fun _ => 0)))), (q_15_9, .inl (cJ, 40, .inr (.inl (fun _ => 0)))), (q_23_9, .inl (cI, 40, .inl (fun _ => nI 0))), (q_31_9, .inl (cJ, 40, .inr (.inl (fun _ => 0)))), (q_39_9, .inl (cZ, 40, .inl (fun _ => bm_b false))), (q_47_9, .inl (cI, 40, .inl (fun _ => nI 0))), (q_16, .inr (0, [.ref q_5, .ref q_7_24, .ref q_15_24, .ref q_23_24, .ref q_31_24, .ref q_39_24, .ref q_47_24, .ref q_55_24, .ref q_63_24, .int (nI 0), .int (nI 0)])), (q_7_24, .inl (cJ, 10, .inr (.inl (fun _ => 0)))), (q_15_24, .inl (cJ, 10, .inr (.inl (fun _ => 0)))), (q_23_24, .inl (cJ, 10, .inr (.inl (fun _ => 0)))), (q_31_24, .inl (cJ, 10, .inr (.inl (fun _ => 0)))), (q_39_24, .inl (cJ, 10, .inr (.inl (fun _ => 0)))), (q_47_24, .inl (cI, 20, .inl (fun _ => nI 0))), (q_55_24, .inl (cI, 20, .inl (fun _ => nI 0))), (q_63_24, .inl (cJ, 20, .inr (.inl (fun _ => 0)))), (q_31, .inr (3, [.ref q_5, .ref q_7_39, .ref q_15_39, .ref q_23_39, .ref q_31_39, .ref q_39_39, .ref q_47_39, .ref q_55_39, .ref q_63_39, .ref q_71_39, .int (nI 0), .int (nI 0)])), (q_7_39, .inl (cI, 120, .inl (fun _ => nI 0))), (q_15_39, .inl (cI, 120, .inl (fun _ => nI 0))), (q_23_39, .inl (cJ, 120, .inr (.inl (fun _ => 0)))), (q_31_39, .inl (cJ, 120, .inr (.inl (fun _ => 0)))), (q_39_39, .inl (cZ, 40, .inl (fun _ => bm_b false))), (q_47_39, .inl (cJ, 40, .inr (.inl (fun _ => 0)))), (q_55_39, .inl (cJ, 40, .inr (.inl (fun _ => 0)))), (q_63_39, .inl (cJ, 40, .inr (.inl (fun _ => 0)))), (q_71_39, .inl (cJ, 40, .inr (.inl (fun _ => 0)))), (q_46, .inr (2, [.ref q_5, .ref q_7_54, .ref q_15_54, .ref q_23_54, .ref q_31_54])), (q_7_54, .inl (cJ, 40, .inr (.inl (fun _ => 0)))), (q_15_54, .inl (cJ, 40, .inr (.inl (fun _ => 0)))), (q_23_54, .inl (cI, 40, .inl (fun _ => nI 0))), (q_31_54, .inl (cZ, 40, .inl (fun _ => bm_b false))), (q_61, .inr (2, [.ref q_5, .ref q_7_69, .ref q_15_69, .ref q_23_69, .ref q_31_69])), (q_7_69, .inl (cJ, 40, .inr (.inl (fun _ => 0)))), (q_15_69, .inl (cJ, 40, .inr (.inl (fun _ => 0)))), (q_23_69, .inl (cI, 40, .inl (fun _ => nI 0))), (q_31_69, .inl (cZ, 40, .inl (fun _ => bm_b false)))] H := hP
  have hD : va_D A [(h0, .inr (4, [.long 0, .long 0, .ref q_5, .ref q_16, .ref q_31, .ref q_46, .ref q_61, .null, .long 0, .long 0])), (q_5, .inr (1, [.ref q_7_9, .ref q_15_9, .ref q_23_9, .ref q_31_9, .ref q_39_9, .ref q_47_9, .int (nI 0)])), (q_7_9, .inl (cJ, 40, .inr (.inl (fun _ => 0)))), (q_15_9, .inl (cJ, 40, .inr (.inl (fun _ => 0)))), (q_23_9, .inl (cI, 40, .inl (fun _ => nI 0))), (q_31_9, .inl (cJ, 40, .inr (.inl (fun _ => 0)))), (q_39_9, .inl (cZ, 40, .inl (fun _ => bm_b false))), (q_47_9, .inl (cI, 40, .inl (fun _ => nI 0))), (q_16, .inr (0, [.ref q_5, .ref q_7_24, .ref q_15_24, .ref q_23_24, .ref q_31_24, .ref q_39_24, .ref q_47_24, .ref q_55_24, .ref q_63_24, .int (nI 0), .int (nI 0)])), (q_7_24, .inl (cJ, 10, .inr (.inl (fun _ => 0)))), (q_15_24, .inl (cJ, 10, .inr (.inl (fun _ => 0)))), (q_23_24, .inl (cJ, 10, .inr (.inl (fun _ => 0)))), (q_31_24, .inl (cJ, 10, .inr (.inl (fun _ => 0)))), (q_39_24, .inl (cJ, 10, .inr (.inl (fun _ => 0)))), (q_47_24, .inl (cI, 20, .inl (fun _ => nI 0))), (q_55_24, .inl (cI, 20, .inl (fun _ => nI 0))), (q_63_24, .inl (cJ, 20, .inr (.inl (fun _ => 0)))), (q_31, .inr (3, [.ref q_5, .ref q_7_39, .ref q_15_39, .ref q_23_39, .ref q_31_39, .ref q_39_39, .ref q_47_39, .ref q_55_39, .ref q_63_39, .ref q_71_39, .int (nI 0), .int (nI 0)])), (q_7_39, .inl (cI, 120, .inl (fun _ => nI 0))), (q_15_39, .inl (cI, 120, .inl (fun _ => nI 0))), (q_23_39, .inl (cJ, 120, .inr (.inl (fun _ => 0)))), (q_31_39, .inl (cJ, 120, .inr (.inl (fun _ => 0)))), (q_39_39, .inl (cZ, 40, .inl (fun _ => bm_b false))), (q_47_39, .inl (cJ, 40, .inr (.inl (fun _ => 0)))), (q_55_39, .inl (cJ, 40, .inr (.inl (fun _ => 0)))), (q_63_39, .inl (cJ, 40, .inr (.inl (fun _ => 0)))), (q_71_39, .inl (cJ, 40, .inr (.inl (fun _ => 0)))), (q_46, .inr (2, [.ref q_5, .ref q_7_54, .ref q_15_54, .ref q_23_54, .ref q_31_54])), (q_7_54, .inl (cJ, 40, .inr (.inl (fun _ => 0)))), (q_15_54, .inl (cJ, 40, .inr (.inl (fun _ => 0)))), (q_23_54, .inl (cI, 40, .inl (fun _ => nI 0))), (q_31_54, .inl (cZ, 40, .inl (fun _ => bm_b false))), (q_61, .inr (2, [.ref q_5, .ref q_7_69, .ref q_15_69, .ref q_23_69, .ref q_31_69])), (q_7_69, .inl (cJ, 40, .inr (.inl (fun _ => 0)))), (q_15_69, .inl (cJ, 40, .inr (.inl (fun _ => 0)))), (q_23_69, .inl (cI, 40, .inl (fun _ => nI 0))), (q_31_69, .inl (cZ, 40, .inl (fun _ => bm_b false)))] := hD
  refine lv_aload_n hx hb dX4_init_75 rfl (lv_at hl 0 rfl) ?_
  refine va_new (ci := 2) (fs := [.null, .null, .null, .null, .null]) (C := RX2) (T := TX2) (N := 5) hx hb hts (inT inX2) tyX2 tyX2_ok hown (hts (.classLink RX4 34 RX2) (by decide +kernel)) (hts (.instantiable RX2 5) (by decide +kernel)) (hts (.initialized RX2) (by decide +kernel)) hK hP hD hS hA rfl (fun j hj => by rcases (show j = 0 ∨ j = 1 ∨ j = 2 ∨ j = 3 ∨ j = 4 by omega) with rfl | rfl | rfl | rfl | rfl <;> rfl) (Nat.le_of_ble_eq_true rfl) (Nat.le_of_ble_eq_true rfl) dX4_init_76 (fun q_76 H hP hD hS => ?_)
  have hP : va_P D vwCl [(h0, .inr (4, [.long 0, .long 0, .ref q_5, .ref q_16, .ref q_31, .ref q_46, .ref q_61, .null, .long 0, .long 0])), (q_5, .inr (1, [.ref q_7_9, .ref q_15_9, .ref q_23_9, .ref q_31_9, .ref q_39_9, .ref q_47_9, .int (nI 0)])), (q_7_9, .inl (cJ, 40, .inr (.inl (fun _ => 0)))), (q_15_9, .inl (cJ, 40, .inr (.inl (fun _ => 0)))), (q_23_9, .inl (cI, 40, .inl (fun _ => nI 0))), (q_31_9, .inl (cJ, 40, .inr (.inl (fun _ => 0)))), (q_39_9, .inl (cZ, 40, .inl (fun _ => bm_b false))), (q_47_9, .inl (cI, 40, .inl (fun _ => nI 0))), (q_16, .inr (0, [.ref q_5, .ref q_7_24, .ref q_15_24, .ref q_23_24, .ref q_31_24, .ref q_39_24, .ref q_47_24, .ref q_55_24, .ref q_63_24, .int (nI 0), .int (nI 0)])), (q_7_24, .inl (cJ, 10, .inr (.inl (fun _ => 0)))), (q_15_24, .inl (cJ, 10, .inr (.inl (fun _ => 0)))), (q_23_24, .inl (cJ, 10, .inr (.inl (fun _ => 0)))), (q_31_24, .inl (cJ, 10, .inr (.inl (fun _ => 0)))), (q_39_24, .inl (cJ, 10, .inr (.inl (fun _ => 0)))), (q_47_24, .inl (cI, 20, .inl (fun _ => nI 0))), (q_55_24, .inl (cI, 20, .inl (fun _ => nI 0))), (q_63_24, .inl (cJ, 20, .inr (.inl (fun _ => 0)))), (q_31, .inr (3, [.ref q_5, .ref q_7_39, .ref q_15_39, .ref q_23_39, .ref q_31_39, .ref q_39_39, .ref q_47_39, .ref q_55_39, .ref q_63_39, .ref q_71_39, .int (nI 0), .int (nI 0)])), (q_7_39, .inl (cI, 120, .inl (fun _ => nI 0))), (q_15_39, .inl (cI, 120, .inl (fun _ => nI 0))), (q_23_39, .inl (cJ, 120, .inr (.inl (fun _ => 0)))), (q_31_39, .inl (cJ, 120, .inr (.inl (fun _ => 0)))), (q_39_39, .inl (cZ, 40, .inl (fun _ => bm_b false))), (q_47_39, .inl (cJ, 40, .inr (.inl (fun _ => 0)))), (q_55_39, .inl (cJ, 40, .inr (.inl (fun _ => 0)))), (q_63_39, .inl (cJ, 40, .inr (.inl (fun _ => 0)))), (q_71_39, .inl (cJ, 40, .inr (.inl (fun _ => 0)))), (q_46, .inr (2, [.ref q_5, .ref q_7_54, .ref q_15_54, .ref q_23_54, .ref q_31_54])), (q_7_54, .inl (cJ, 40, .inr (.inl (fun _ => 0)))), (q_15_54, .inl (cJ, 40, .inr (.inl (fun _ => 0)))), (q_23_54, .inl (cI, 40, .inl (fun _ => nI 0))), (q_31_54, .inl (cZ, 40, .inl (fun _ => bm_b false))), (q_61, .inr (2, [.ref q_5, .ref q_7_69, .ref q_15_69, .ref q_23_69, .ref q_31_69])), (q_7_69, .inl (cJ, 40, .inr (.inl (fun _ => 0)))), (q_15_69, .inl (cJ, 40, .inr (.inl (fun _ => 0)))), (q_23_69, .inl (cI, 40, .inl (fun _ => nI 0))), (q_31_69, .inl (cZ, 40, .inl (fun _ => bm_b false))), (q_76, .inr (2, [.null, .null, .null, .null, .null]))] H := hP
  have hD : va_D A [(h0, .inr (4, [.long 0, .long 0, .ref q_5, .ref q_16, .ref q_31, .ref q_46, .ref q_61, .null, .long 0, .long 0])), (q_5, .inr (1, [.ref q_7_9, .ref q_15_9, .ref q_23_9, .ref q_31_9, .ref q_39_9, .ref q_47_9, .int (nI 0)])), (q_7_9, .inl (cJ, 40, .inr (.inl (fun _ => 0)))), (q_15_9, .inl (cJ, 40, .inr (.inl (fun _ => 0)))), (q_23_9, .inl (cI, 40, .inl (fun _ => nI 0))), (q_31_9, .inl (cJ, 40, .inr (.inl (fun _ => 0)))), (q_39_9, .inl (cZ, 40, .inl (fun _ => bm_b false))), (q_47_9, .inl (cI, 40, .inl (fun _ => nI 0))), (q_16, .inr (0, [.ref q_5, .ref q_7_24, .ref q_15_24, .ref q_23_24, .ref q_31_24, .ref q_39_24, .ref q_47_24, .ref q_55_24, .ref q_63_24, .int (nI 0), .int (nI 0)])), (q_7_24, .inl (cJ, 10, .inr (.inl (fun _ => 0)))), (q_15_24, .inl (cJ, 10, .inr (.inl (fun _ => 0)))), (q_23_24, .inl (cJ, 10, .inr (.inl (fun _ => 0)))), (q_31_24, .inl (cJ, 10, .inr (.inl (fun _ => 0)))), (q_39_24, .inl (cJ, 10, .inr (.inl (fun _ => 0)))), (q_47_24, .inl (cI, 20, .inl (fun _ => nI 0))), (q_55_24, .inl (cI, 20, .inl (fun _ => nI 0))), (q_63_24, .inl (cJ, 20, .inr (.inl (fun _ => 0)))), (q_31, .inr (3, [.ref q_5, .ref q_7_39, .ref q_15_39, .ref q_23_39, .ref q_31_39, .ref q_39_39, .ref q_47_39, .ref q_55_39, .ref q_63_39, .ref q_71_39, .int (nI 0), .int (nI 0)])), (q_7_39, .inl (cI, 120, .inl (fun _ => nI 0))), (q_15_39, .inl (cI, 120, .inl (fun _ => nI 0))), (q_23_39, .inl (cJ, 120, .inr (.inl (fun _ => 0)))), (q_31_39, .inl (cJ, 120, .inr (.inl (fun _ => 0)))), (q_39_39, .inl (cZ, 40, .inl (fun _ => bm_b false))), (q_47_39, .inl (cJ, 40, .inr (.inl (fun _ => 0)))), (q_55_39, .inl (cJ, 40, .inr (.inl (fun _ => 0)))), (q_63_39, .inl (cJ, 40, .inr (.inl (fun _ => 0)))), (q_71_39, .inl (cJ, 40, .inr (.inl (fun _ => 0)))), (q_46, .inr (2, [.ref q_5, .ref q_7_54, .ref q_15_54, .ref q_23_54, .ref q_31_54])), (q_7_54, .inl (cJ, 40, .inr (.inl (fun _ => 0)))), (q_15_54, .inl (cJ, 40, .inr (.inl (fun _ => 0)))), (q_23_54, .inl (cI, 40, .inl (fun _ => nI 0))), (q_31_54, .inl (cZ, 40, .inl (fun _ => bm_b false))), (q_61, .inr (2, [.ref q_5, .ref q_7_69, .ref q_15_69, .ref q_23_69, .ref q_31_69])), (q_7_69, .inl (cJ, 40, .inr (.inl (fun _ => 0)))), (q_15_69, .inl (cJ, 40, .inr (.inl (fun _ => 0)))), (q_23_69, .inl (cI, 40, .inl (fun _ => nI 0))), (q_31_69, .inl (cZ, 40, .inl (fun _ => bm_b false))), (q_76, .inr (2, [.null, .null, .null, .null, .null]))] := hD
  refine lv_dup hx hb dX4_init_79 rfl ?_
  refine lv_aload_n hx hb dX4_init_80 rfl (lv_at hl 0 rfl) ?_
  refine va_get (D := D) (ci := 4) (v := .ref q_5) (C := RX4) (T := TX4) (N := 10) hx hb hts (inT inX4) hown hK hP 0 rfl rfl 2 (by decide) (hts (.fieldLink RX4 12 "BoardMoves" "parts" "LBoardMoves$Parts;") (by decide +kernel)) (fun _ h9 => h9) rfl dX4_init_81 ?_
  have hPc := hP.sub (ws' := [(q_76, .inr (2, [.null, .null, .null, .null, .null]))]) [37] rfl
  have hDc := hD.sub (ws' := [(q_76, .inr (2, [.null, .null, .null, .null, .null]))]) [37] (by decide) rfl
  have hFc := va_free (wc := [(q_76, .inr (2, [.null, .null, .null, .null, .null]))]) hD hS hA [37] rfl
  refine va_callv (va_runI (As := [.ref q_5]) (rest := [.ref q_76, .ref h0]) ⟨hx, hb, hml, hown, hts⟩ (c_Placement (h0 := q_76) (z1 := q_5) H.size) (cwI 1 hts (gdI (by decide +kernel)) rfl rfl rfl (hts (.initialized RX2) (by decide +kernel)) (hts (.methodLink RX4 36 yX2_init) (by decide +kernel)) (hts (.instanceMethod yX2_init) (by decide +kernel)) rfl (by decide +kernel) ⟨Nat.le_of_ble_eq_true rfl, Nat.le_of_ble_eq_true rfl⟩) ⟨bm_Wp.blind, fun U hU hW => ⟨rfl, by rw [hU], by rw [hU]; exact hPc, va_K.moved hW.alike hK, hDc.weaken (fun _ _ _ _ => trivial)⟩⟩ rfl rfl hl.1 rfl (lv_room (Nat.le_of_ble_eq_true rfl)) dX4_init_84 ⟨Nat.le_of_ble_eq_true rfl, Nat.le_of_ble_eq_true rfl⟩) hS (fun q _ h => hFc q h) hFc (fun u t H1 locs ht hvm hw hB hz1 hk1 hS => ?_)
  obtain ⟨q_7_84, q_15_84, q_23_84, q_31_84, hP1, hK1, hD1⟩ := hB
  rw [ht] at hP1
  obtain ⟨hP, hD⟩ := va_join (wr := [(h0, .inr (4, [.long 0, .long 0, .ref q_5, .ref q_16, .ref q_31, .ref q_46, .ref q_61, .null, .long 0, .long 0])), (q_5, .inr (1, [.ref q_7_9, .ref q_15_9, .ref q_23_9, .ref q_31_9, .ref q_39_9, .ref q_47_9, .int (nI 0)])), (q_7_9, .inl (cJ, 40, .inr (.inl (fun _ => 0)))), (q_15_9, .inl (cJ, 40, .inr (.inl (fun _ => 0)))), (q_23_9, .inl (cI, 40, .inl (fun _ => nI 0))), (q_31_9, .inl (cJ, 40, .inr (.inl (fun _ => 0)))), (q_39_9, .inl (cZ, 40, .inl (fun _ => bm_b false))), (q_47_9, .inl (cI, 40, .inl (fun _ => nI 0))), (q_16, .inr (0, [.ref q_5, .ref q_7_24, .ref q_15_24, .ref q_23_24, .ref q_31_24, .ref q_39_24, .ref q_47_24, .ref q_55_24, .ref q_63_24, .int (nI 0), .int (nI 0)])), (q_7_24, .inl (cJ, 10, .inr (.inl (fun _ => 0)))), (q_15_24, .inl (cJ, 10, .inr (.inl (fun _ => 0)))), (q_23_24, .inl (cJ, 10, .inr (.inl (fun _ => 0)))), (q_31_24, .inl (cJ, 10, .inr (.inl (fun _ => 0)))), (q_39_24, .inl (cJ, 10, .inr (.inl (fun _ => 0)))), (q_47_24, .inl (cI, 20, .inl (fun _ => nI 0))), (q_55_24, .inl (cI, 20, .inl (fun _ => nI 0))), (q_63_24, .inl (cJ, 20, .inr (.inl (fun _ => 0)))), (q_31, .inr (3, [.ref q_5, .ref q_7_39, .ref q_15_39, .ref q_23_39, .ref q_31_39, .ref q_39_39, .ref q_47_39, .ref q_55_39, .ref q_63_39, .ref q_71_39, .int (nI 0), .int (nI 0)])), (q_7_39, .inl (cI, 120, .inl (fun _ => nI 0))), (q_15_39, .inl (cI, 120, .inl (fun _ => nI 0))), (q_23_39, .inl (cJ, 120, .inr (.inl (fun _ => 0)))), (q_31_39, .inl (cJ, 120, .inr (.inl (fun _ => 0)))), (q_39_39, .inl (cZ, 40, .inl (fun _ => bm_b false))), (q_47_39, .inl (cJ, 40, .inr (.inl (fun _ => 0)))), (q_55_39, .inl (cJ, 40, .inr (.inl (fun _ => 0)))), (q_63_39, .inl (cJ, 40, .inr (.inl (fun _ => 0)))), (q_71_39, .inl (cJ, 40, .inr (.inl (fun _ => 0)))), (q_46, .inr (2, [.ref q_5, .ref q_7_54, .ref q_15_54, .ref q_23_54, .ref q_31_54])), (q_7_54, .inl (cJ, 40, .inr (.inl (fun _ => 0)))), (q_15_54, .inl (cJ, 40, .inr (.inl (fun _ => 0)))), (q_23_54, .inl (cI, 40, .inl (fun _ => nI 0))), (q_31_54, .inl (cZ, 40, .inl (fun _ => bm_b false))), (q_61, .inr (2, [.ref q_5, .ref q_7_69, .ref q_15_69, .ref q_23_69, .ref q_31_69])), (q_7_69, .inl (cJ, 40, .inr (.inl (fun _ => 0)))), (q_15_69, .inl (cJ, 40, .inr (.inl (fun _ => 0)))), (q_23_69, .inl (cI, 40, .inl (fun _ => nI 0))), (q_31_69, .inl (cZ, 40, .inl (fun _ => bm_b false)))]) (w1 := [(q_76, .inr (2, [.ref q_5, .ref q_7_84, .ref q_15_84, .ref q_23_84, .ref q_31_84])), (q_7_84, .inl (cJ, 40, .inr (.inl (fun _ => 0)))), (q_15_84, .inl (cJ, 40, .inr (.inl (fun _ => 0)))), (q_23_84, .inl (cI, 40, .inl (fun _ => nI 0))), (q_31_84, .inl (cZ, 40, .inl (fun _ => bm_b false)))]) hP hD [37] [0, 1, 2, 3, 4, 5, 6, 7, 8, 9, 10, 11, 12, 13, 14, 15, 16, 17, 18, 19, 20, 21, 22, 23, 24, 25, 26, 27, 28, 29, 30, 31, 32, 33, 34, 35, 36] rfl rfl (by decide) (by decide) hk1 hFc hP1 hD1
  generalize H1 = H at hP hS ⊢
  have hP : va_P D vwCl [(h0, .inr (4, [.long 0, .long 0, .ref q_5, .ref q_16, .ref q_31, .ref q_46, .ref q_61, .null, .long 0, .long 0])), (q_5, .inr (1, [.ref q_7_9, .ref q_15_9, .ref q_23_9, .ref q_31_9, .ref q_39_9, .ref q_47_9, .int (nI 0)])), (q_7_9, .inl (cJ, 40, .inr (.inl (fun _ => 0)))), (q_15_9, .inl (cJ, 40, .inr (.inl (fun _ => 0)))), (q_23_9, .inl (cI, 40, .inl (fun _ => nI 0))), (q_31_9, .inl (cJ, 40, .inr (.inl (fun _ => 0)))), (q_39_9, .inl (cZ, 40, .inl (fun _ => bm_b false))), (q_47_9, .inl (cI, 40, .inl (fun _ => nI 0))), (q_16, .inr (0, [.ref q_5, .ref q_7_24, .ref q_15_24, .ref q_23_24, .ref q_31_24, .ref q_39_24, .ref q_47_24, .ref q_55_24, .ref q_63_24, .int (nI 0), .int (nI 0)])), (q_7_24, .inl (cJ, 10, .inr (.inl (fun _ => 0)))), (q_15_24, .inl (cJ, 10, .inr (.inl (fun _ => 0)))), (q_23_24, .inl (cJ, 10, .inr (.inl (fun _ => 0)))), (q_31_24, .inl (cJ, 10, .inr (.inl (fun _ => 0)))), (q_39_24, .inl (cJ, 10, .inr (.inl (fun _ => 0)))), (q_47_24, .inl (cI, 20, .inl (fun _ => nI 0))), (q_55_24, .inl (cI, 20, .inl (fun _ => nI 0))), (q_63_24, .inl (cJ, 20, .inr (.inl (fun _ => 0)))), (q_31, .inr (3, [.ref q_5, .ref q_7_39, .ref q_15_39, .ref q_23_39, .ref q_31_39, .ref q_39_39, .ref q_47_39, .ref q_55_39, .ref q_63_39, .ref q_71_39, .int (nI 0), .int (nI 0)])), (q_7_39, .inl (cI, 120, .inl (fun _ => nI 0))), (q_15_39, .inl (cI, 120, .inl (fun _ => nI 0))), (q_23_39, .inl (cJ, 120, .inr (.inl (fun _ => 0)))), (q_31_39, .inl (cJ, 120, .inr (.inl (fun _ => 0)))), (q_39_39, .inl (cZ, 40, .inl (fun _ => bm_b false))), (q_47_39, .inl (cJ, 40, .inr (.inl (fun _ => 0)))), (q_55_39, .inl (cJ, 40, .inr (.inl (fun _ => 0)))), (q_63_39, .inl (cJ, 40, .inr (.inl (fun _ => 0)))), (q_71_39, .inl (cJ, 40, .inr (.inl (fun _ => 0)))), (q_46, .inr (2, [.ref q_5, .ref q_7_54, .ref q_15_54, .ref q_23_54, .ref q_31_54])), (q_7_54, .inl (cJ, 40, .inr (.inl (fun _ => 0)))), (q_15_54, .inl (cJ, 40, .inr (.inl (fun _ => 0)))), (q_23_54, .inl (cI, 40, .inl (fun _ => nI 0))), (q_31_54, .inl (cZ, 40, .inl (fun _ => bm_b false))), (q_61, .inr (2, [.ref q_5, .ref q_7_69, .ref q_15_69, .ref q_23_69, .ref q_31_69])), (q_7_69, .inl (cJ, 40, .inr (.inl (fun _ => 0)))), (q_15_69, .inl (cJ, 40, .inr (.inl (fun _ => 0)))), (q_23_69, .inl (cI, 40, .inl (fun _ => nI 0))), (q_31_69, .inl (cZ, 40, .inl (fun _ => bm_b false))), (q_76, .inr (2, [.ref q_5, .ref q_7_84, .ref q_15_84, .ref q_23_84, .ref q_31_84])), (q_7_84, .inl (cJ, 40, .inr (.inl (fun _ => 0)))), (q_15_84, .inl (cJ, 40, .inr (.inl (fun _ => 0)))), (q_23_84, .inl (cI, 40, .inl (fun _ => nI 0))), (q_31_84, .inl (cZ, 40, .inl (fun _ => bm_b false)))] H := hP
  have hD : va_D A [(h0, .inr (4, [.long 0, .long 0, .ref q_5, .ref q_16, .ref q_31, .ref q_46, .ref q_61, .null, .long 0, .long 0])), (q_5, .inr (1, [.ref q_7_9, .ref q_15_9, .ref q_23_9, .ref q_31_9, .ref q_39_9, .ref q_47_9, .int (nI 0)])), (q_7_9, .inl (cJ, 40, .inr (.inl (fun _ => 0)))), (q_15_9, .inl (cJ, 40, .inr (.inl (fun _ => 0)))), (q_23_9, .inl (cI, 40, .inl (fun _ => nI 0))), (q_31_9, .inl (cJ, 40, .inr (.inl (fun _ => 0)))), (q_39_9, .inl (cZ, 40, .inl (fun _ => bm_b false))), (q_47_9, .inl (cI, 40, .inl (fun _ => nI 0))), (q_16, .inr (0, [.ref q_5, .ref q_7_24, .ref q_15_24, .ref q_23_24, .ref q_31_24, .ref q_39_24, .ref q_47_24, .ref q_55_24, .ref q_63_24, .int (nI 0), .int (nI 0)])), (q_7_24, .inl (cJ, 10, .inr (.inl (fun _ => 0)))), (q_15_24, .inl (cJ, 10, .inr (.inl (fun _ => 0)))), (q_23_24, .inl (cJ, 10, .inr (.inl (fun _ => 0)))), (q_31_24, .inl (cJ, 10, .inr (.inl (fun _ => 0)))), (q_39_24, .inl (cJ, 10, .inr (.inl (fun _ => 0)))), (q_47_24, .inl (cI, 20, .inl (fun _ => nI 0))), (q_55_24, .inl (cI, 20, .inl (fun _ => nI 0))), (q_63_24, .inl (cJ, 20, .inr (.inl (fun _ => 0)))), (q_31, .inr (3, [.ref q_5, .ref q_7_39, .ref q_15_39, .ref q_23_39, .ref q_31_39, .ref q_39_39, .ref q_47_39, .ref q_55_39, .ref q_63_39, .ref q_71_39, .int (nI 0), .int (nI 0)])), (q_7_39, .inl (cI, 120, .inl (fun _ => nI 0))), (q_15_39, .inl (cI, 120, .inl (fun _ => nI 0))), (q_23_39, .inl (cJ, 120, .inr (.inl (fun _ => 0)))), (q_31_39, .inl (cJ, 120, .inr (.inl (fun _ => 0)))), (q_39_39, .inl (cZ, 40, .inl (fun _ => bm_b false))), (q_47_39, .inl (cJ, 40, .inr (.inl (fun _ => 0)))), (q_55_39, .inl (cJ, 40, .inr (.inl (fun _ => 0)))), (q_63_39, .inl (cJ, 40, .inr (.inl (fun _ => 0)))), (q_71_39, .inl (cJ, 40, .inr (.inl (fun _ => 0)))), (q_46, .inr (2, [.ref q_5, .ref q_7_54, .ref q_15_54, .ref q_23_54, .ref q_31_54])), (q_7_54, .inl (cJ, 40, .inr (.inl (fun _ => 0)))), (q_15_54, .inl (cJ, 40, .inr (.inl (fun _ => 0)))), (q_23_54, .inl (cI, 40, .inl (fun _ => nI 0))), (q_31_54, .inl (cZ, 40, .inl (fun _ => bm_b false))), (q_61, .inr (2, [.ref q_5, .ref q_7_69, .ref q_15_69, .ref q_23_69, .ref q_31_69])), (q_7_69, .inl (cJ, 40, .inr (.inl (fun _ => 0)))), (q_15_69, .inl (cJ, 40, .inr (.inl (fun _ => 0)))), (q_23_69, .inl (cI, 40, .inl (fun _ => nI 0))), (q_31_69, .inl (cZ, 40, .inl (fun _ => bm_b false))), (q_76, .inr (2, [.ref q_5, .ref q_7_84, .ref q_15_84, .ref q_23_84, .ref q_31_84])), (q_7_84, .inl (cJ, 40, .inr (.inl (fun _ => 0)))), (q_15_84, .inl (cJ, 40, .inr (.inl (fun _ => 0)))), (q_23_84, .inl (cI, 40, .inl (fun _ => nI 0))), (q_31_84, .inl (cZ, 40, .inl (fun _ => bm_b false)))] := hD
  refine va_putF (D := D) (ci := 4) (v := .ref q_76) (ty := (.object "BoardMoves$Placement")) (C := RX4) (T := TX4) (N := 10) hx hb hts (inT inX4) tyX4 tyX4_ok nmX4 hown hK hP hD hS 0 rfl rfl 7 (by decide) (hts (.fieldLink RX4 44 "BoardMoves" "best" "LBoardMoves$Placement;") (by decide +kernel)) (fun _ h9 => h9) rfl hin rfl (by decide +kernel) rfl rfl (Nat.le_of_ble_eq_true rfl) dX4_init_87 (fun H locs hP hD hS => ?_)
  have hP : va_P D vwCl [(h0, .inr (4, [.long 0, .long 0, .ref q_5, .ref q_16, .ref q_31, .ref q_46, .ref q_61, .ref q_76, .long 0, .long 0])), (q_5, .inr (1, [.ref q_7_9, .ref q_15_9, .ref q_23_9, .ref q_31_9, .ref q_39_9, .ref q_47_9, .int (nI 0)])), (q_7_9, .inl (cJ, 40, .inr (.inl (fun _ => 0)))), (q_15_9, .inl (cJ, 40, .inr (.inl (fun _ => 0)))), (q_23_9, .inl (cI, 40, .inl (fun _ => nI 0))), (q_31_9, .inl (cJ, 40, .inr (.inl (fun _ => 0)))), (q_39_9, .inl (cZ, 40, .inl (fun _ => bm_b false))), (q_47_9, .inl (cI, 40, .inl (fun _ => nI 0))), (q_16, .inr (0, [.ref q_5, .ref q_7_24, .ref q_15_24, .ref q_23_24, .ref q_31_24, .ref q_39_24, .ref q_47_24, .ref q_55_24, .ref q_63_24, .int (nI 0), .int (nI 0)])), (q_7_24, .inl (cJ, 10, .inr (.inl (fun _ => 0)))), (q_15_24, .inl (cJ, 10, .inr (.inl (fun _ => 0)))), (q_23_24, .inl (cJ, 10, .inr (.inl (fun _ => 0)))), (q_31_24, .inl (cJ, 10, .inr (.inl (fun _ => 0)))), (q_39_24, .inl (cJ, 10, .inr (.inl (fun _ => 0)))), (q_47_24, .inl (cI, 20, .inl (fun _ => nI 0))), (q_55_24, .inl (cI, 20, .inl (fun _ => nI 0))), (q_63_24, .inl (cJ, 20, .inr (.inl (fun _ => 0)))), (q_31, .inr (3, [.ref q_5, .ref q_7_39, .ref q_15_39, .ref q_23_39, .ref q_31_39, .ref q_39_39, .ref q_47_39, .ref q_55_39, .ref q_63_39, .ref q_71_39, .int (nI 0), .int (nI 0)])), (q_7_39, .inl (cI, 120, .inl (fun _ => nI 0))), (q_15_39, .inl (cI, 120, .inl (fun _ => nI 0))), (q_23_39, .inl (cJ, 120, .inr (.inl (fun _ => 0)))), (q_31_39, .inl (cJ, 120, .inr (.inl (fun _ => 0)))), (q_39_39, .inl (cZ, 40, .inl (fun _ => bm_b false))), (q_47_39, .inl (cJ, 40, .inr (.inl (fun _ => 0)))), (q_55_39, .inl (cJ, 40, .inr (.inl (fun _ => 0)))), (q_63_39, .inl (cJ, 40, .inr (.inl (fun _ => 0)))), (q_71_39, .inl (cJ, 40, .inr (.inl (fun _ => 0)))), (q_46, .inr (2, [.ref q_5, .ref q_7_54, .ref q_15_54, .ref q_23_54, .ref q_31_54])), (q_7_54, .inl (cJ, 40, .inr (.inl (fun _ => 0)))), (q_15_54, .inl (cJ, 40, .inr (.inl (fun _ => 0)))), (q_23_54, .inl (cI, 40, .inl (fun _ => nI 0))), (q_31_54, .inl (cZ, 40, .inl (fun _ => bm_b false))), (q_61, .inr (2, [.ref q_5, .ref q_7_69, .ref q_15_69, .ref q_23_69, .ref q_31_69])), (q_7_69, .inl (cJ, 40, .inr (.inl (fun _ => 0)))), (q_15_69, .inl (cJ, 40, .inr (.inl (fun _ => 0)))), (q_23_69, .inl (cI, 40, .inl (fun _ => nI 0))), (q_31_69, .inl (cZ, 40, .inl (fun _ => bm_b false))), (q_76, .inr (2, [.ref q_5, .ref q_7_84, .ref q_15_84, .ref q_23_84, .ref q_31_84])), (q_7_84, .inl (cJ, 40, .inr (.inl (fun _ => 0)))), (q_15_84, .inl (cJ, 40, .inr (.inl (fun _ => 0)))), (q_23_84, .inl (cI, 40, .inl (fun _ => nI 0))), (q_31_84, .inl (cZ, 40, .inl (fun _ => bm_b false)))] H := hP
  have hD : va_D A [(h0, .inr (4, [.long 0, .long 0, .ref q_5, .ref q_16, .ref q_31, .ref q_46, .ref q_61, .ref q_76, .long 0, .long 0])), (q_5, .inr (1, [.ref q_7_9, .ref q_15_9, .ref q_23_9, .ref q_31_9, .ref q_39_9, .ref q_47_9, .int (nI 0)])), (q_7_9, .inl (cJ, 40, .inr (.inl (fun _ => 0)))), (q_15_9, .inl (cJ, 40, .inr (.inl (fun _ => 0)))), (q_23_9, .inl (cI, 40, .inl (fun _ => nI 0))), (q_31_9, .inl (cJ, 40, .inr (.inl (fun _ => 0)))), (q_39_9, .inl (cZ, 40, .inl (fun _ => bm_b false))), (q_47_9, .inl (cI, 40, .inl (fun _ => nI 0))), (q_16, .inr (0, [.ref q_5, .ref q_7_24, .ref q_15_24, .ref q_23_24, .ref q_31_24, .ref q_39_24, .ref q_47_24, .ref q_55_24, .ref q_63_24, .int (nI 0), .int (nI 0)])), (q_7_24, .inl (cJ, 10, .inr (.inl (fun _ => 0)))), (q_15_24, .inl (cJ, 10, .inr (.inl (fun _ => 0)))), (q_23_24, .inl (cJ, 10, .inr (.inl (fun _ => 0)))), (q_31_24, .inl (cJ, 10, .inr (.inl (fun _ => 0)))), (q_39_24, .inl (cJ, 10, .inr (.inl (fun _ => 0)))), (q_47_24, .inl (cI, 20, .inl (fun _ => nI 0))), (q_55_24, .inl (cI, 20, .inl (fun _ => nI 0))), (q_63_24, .inl (cJ, 20, .inr (.inl (fun _ => 0)))), (q_31, .inr (3, [.ref q_5, .ref q_7_39, .ref q_15_39, .ref q_23_39, .ref q_31_39, .ref q_39_39, .ref q_47_39, .ref q_55_39, .ref q_63_39, .ref q_71_39, .int (nI 0), .int (nI 0)])), (q_7_39, .inl (cI, 120, .inl (fun _ => nI 0))), (q_15_39, .inl (cI, 120, .inl (fun _ => nI 0))), (q_23_39, .inl (cJ, 120, .inr (.inl (fun _ => 0)))), (q_31_39, .inl (cJ, 120, .inr (.inl (fun _ => 0)))), (q_39_39, .inl (cZ, 40, .inl (fun _ => bm_b false))), (q_47_39, .inl (cJ, 40, .inr (.inl (fun _ => 0)))), (q_55_39, .inl (cJ, 40, .inr (.inl (fun _ => 0)))), (q_63_39, .inl (cJ, 40, .inr (.inl (fun _ => 0)))), (q_71_39, .inl (cJ, 40, .inr (.inl (fun _ => 0)))), (q_46, .inr (2, [.ref q_5, .ref q_7_54, .ref q_15_54, .ref q_23_54, .ref q_31_54])), (q_7_54, .inl (cJ, 40, .inr (.inl (fun _ => 0)))), (q_15_54, .inl (cJ, 40, .inr (.inl (fun _ => 0)))), (q_23_54, .inl (cI, 40, .inl (fun _ => nI 0))), (q_31_54, .inl (cZ, 40, .inl (fun _ => bm_b false))), (q_61, .inr (2, [.ref q_5, .ref q_7_69, .ref q_15_69, .ref q_23_69, .ref q_31_69])), (q_7_69, .inl (cJ, 40, .inr (.inl (fun _ => 0)))), (q_15_69, .inl (cJ, 40, .inr (.inl (fun _ => 0)))), (q_23_69, .inl (cI, 40, .inl (fun _ => nI 0))), (q_31_69, .inl (cZ, 40, .inl (fun _ => bm_b false))), (q_76, .inr (2, [.ref q_5, .ref q_7_84, .ref q_15_84, .ref q_23_84, .ref q_31_84])), (q_7_84, .inl (cJ, 40, .inr (.inl (fun _ => 0)))), (q_15_84, .inl (cJ, 40, .inr (.inl (fun _ => 0)))), (q_23_84, .inl (cI, 40, .inl (fun _ => nI 0))), (q_31_84, .inl (cZ, 40, .inl (fun _ => bm_b false)))] := hD
  refine lv_aload_n hx hb dX4_init_90 rfl (lv_at hl 0 rfl) ?_
  refine lv_lconst (v := 0) hx hb dX4_init_91 (by decide) ?_
  refine va_put (D := D) (ci := 4) (v := .long 0) (ty := .long) (C := RX4) (T := TX4) (N := 10) hx hb hts (inT inX4) tyX4 tyX4_ok nmX4 hown hK hP hD hS 0 rfl rfl 9 (by decide) (hts (.fieldLink RX4 47 "BoardMoves" "keptWire" "J") (by decide +kernel)) (fun _ h9 => h9) rfl (by decide +kernel) rfl rfl (Nat.le_of_ble_eq_true rfl) dX4_init_92 (fun H locs hP hD hS => ?_)
  have hP : va_P D vwCl [(h0, .inr (4, [.long 0, .long 0, .ref q_5, .ref q_16, .ref q_31, .ref q_46, .ref q_61, .ref q_76, .long 0, .long 0])), (q_5, .inr (1, [.ref q_7_9, .ref q_15_9, .ref q_23_9, .ref q_31_9, .ref q_39_9, .ref q_47_9, .int (nI 0)])), (q_7_9, .inl (cJ, 40, .inr (.inl (fun _ => 0)))), (q_15_9, .inl (cJ, 40, .inr (.inl (fun _ => 0)))), (q_23_9, .inl (cI, 40, .inl (fun _ => nI 0))), (q_31_9, .inl (cJ, 40, .inr (.inl (fun _ => 0)))), (q_39_9, .inl (cZ, 40, .inl (fun _ => bm_b false))), (q_47_9, .inl (cI, 40, .inl (fun _ => nI 0))), (q_16, .inr (0, [.ref q_5, .ref q_7_24, .ref q_15_24, .ref q_23_24, .ref q_31_24, .ref q_39_24, .ref q_47_24, .ref q_55_24, .ref q_63_24, .int (nI 0), .int (nI 0)])), (q_7_24, .inl (cJ, 10, .inr (.inl (fun _ => 0)))), (q_15_24, .inl (cJ, 10, .inr (.inl (fun _ => 0)))), (q_23_24, .inl (cJ, 10, .inr (.inl (fun _ => 0)))), (q_31_24, .inl (cJ, 10, .inr (.inl (fun _ => 0)))), (q_39_24, .inl (cJ, 10, .inr (.inl (fun _ => 0)))), (q_47_24, .inl (cI, 20, .inl (fun _ => nI 0))), (q_55_24, .inl (cI, 20, .inl (fun _ => nI 0))), (q_63_24, .inl (cJ, 20, .inr (.inl (fun _ => 0)))), (q_31, .inr (3, [.ref q_5, .ref q_7_39, .ref q_15_39, .ref q_23_39, .ref q_31_39, .ref q_39_39, .ref q_47_39, .ref q_55_39, .ref q_63_39, .ref q_71_39, .int (nI 0), .int (nI 0)])), (q_7_39, .inl (cI, 120, .inl (fun _ => nI 0))), (q_15_39, .inl (cI, 120, .inl (fun _ => nI 0))), (q_23_39, .inl (cJ, 120, .inr (.inl (fun _ => 0)))), (q_31_39, .inl (cJ, 120, .inr (.inl (fun _ => 0)))), (q_39_39, .inl (cZ, 40, .inl (fun _ => bm_b false))), (q_47_39, .inl (cJ, 40, .inr (.inl (fun _ => 0)))), (q_55_39, .inl (cJ, 40, .inr (.inl (fun _ => 0)))), (q_63_39, .inl (cJ, 40, .inr (.inl (fun _ => 0)))), (q_71_39, .inl (cJ, 40, .inr (.inl (fun _ => 0)))), (q_46, .inr (2, [.ref q_5, .ref q_7_54, .ref q_15_54, .ref q_23_54, .ref q_31_54])), (q_7_54, .inl (cJ, 40, .inr (.inl (fun _ => 0)))), (q_15_54, .inl (cJ, 40, .inr (.inl (fun _ => 0)))), (q_23_54, .inl (cI, 40, .inl (fun _ => nI 0))), (q_31_54, .inl (cZ, 40, .inl (fun _ => bm_b false))), (q_61, .inr (2, [.ref q_5, .ref q_7_69, .ref q_15_69, .ref q_23_69, .ref q_31_69])), (q_7_69, .inl (cJ, 40, .inr (.inl (fun _ => 0)))), (q_15_69, .inl (cJ, 40, .inr (.inl (fun _ => 0)))), (q_23_69, .inl (cI, 40, .inl (fun _ => nI 0))), (q_31_69, .inl (cZ, 40, .inl (fun _ => bm_b false))), (q_76, .inr (2, [.ref q_5, .ref q_7_84, .ref q_15_84, .ref q_23_84, .ref q_31_84])), (q_7_84, .inl (cJ, 40, .inr (.inl (fun _ => 0)))), (q_15_84, .inl (cJ, 40, .inr (.inl (fun _ => 0)))), (q_23_84, .inl (cI, 40, .inl (fun _ => nI 0))), (q_31_84, .inl (cZ, 40, .inl (fun _ => bm_b false)))] H := hP
  have hD : va_D A [(h0, .inr (4, [.long 0, .long 0, .ref q_5, .ref q_16, .ref q_31, .ref q_46, .ref q_61, .ref q_76, .long 0, .long 0])), (q_5, .inr (1, [.ref q_7_9, .ref q_15_9, .ref q_23_9, .ref q_31_9, .ref q_39_9, .ref q_47_9, .int (nI 0)])), (q_7_9, .inl (cJ, 40, .inr (.inl (fun _ => 0)))), (q_15_9, .inl (cJ, 40, .inr (.inl (fun _ => 0)))), (q_23_9, .inl (cI, 40, .inl (fun _ => nI 0))), (q_31_9, .inl (cJ, 40, .inr (.inl (fun _ => 0)))), (q_39_9, .inl (cZ, 40, .inl (fun _ => bm_b false))), (q_47_9, .inl (cI, 40, .inl (fun _ => nI 0))), (q_16, .inr (0, [.ref q_5, .ref q_7_24, .ref q_15_24, .ref q_23_24, .ref q_31_24, .ref q_39_24, .ref q_47_24, .ref q_55_24, .ref q_63_24, .int (nI 0), .int (nI 0)])), (q_7_24, .inl (cJ, 10, .inr (.inl (fun _ => 0)))), (q_15_24, .inl (cJ, 10, .inr (.inl (fun _ => 0)))), (q_23_24, .inl (cJ, 10, .inr (.inl (fun _ => 0)))), (q_31_24, .inl (cJ, 10, .inr (.inl (fun _ => 0)))), (q_39_24, .inl (cJ, 10, .inr (.inl (fun _ => 0)))), (q_47_24, .inl (cI, 20, .inl (fun _ => nI 0))), (q_55_24, .inl (cI, 20, .inl (fun _ => nI 0))), (q_63_24, .inl (cJ, 20, .inr (.inl (fun _ => 0)))), (q_31, .inr (3, [.ref q_5, .ref q_7_39, .ref q_15_39, .ref q_23_39, .ref q_31_39, .ref q_39_39, .ref q_47_39, .ref q_55_39, .ref q_63_39, .ref q_71_39, .int (nI 0), .int (nI 0)])), (q_7_39, .inl (cI, 120, .inl (fun _ => nI 0))), (q_15_39, .inl (cI, 120, .inl (fun _ => nI 0))), (q_23_39, .inl (cJ, 120, .inr (.inl (fun _ => 0)))), (q_31_39, .inl (cJ, 120, .inr (.inl (fun _ => 0)))), (q_39_39, .inl (cZ, 40, .inl (fun _ => bm_b false))), (q_47_39, .inl (cJ, 40, .inr (.inl (fun _ => 0)))), (q_55_39, .inl (cJ, 40, .inr (.inl (fun _ => 0)))), (q_63_39, .inl (cJ, 40, .inr (.inl (fun _ => 0)))), (q_71_39, .inl (cJ, 40, .inr (.inl (fun _ => 0)))), (q_46, .inr (2, [.ref q_5, .ref q_7_54, .ref q_15_54, .ref q_23_54, .ref q_31_54])), (q_7_54, .inl (cJ, 40, .inr (.inl (fun _ => 0)))), (q_15_54, .inl (cJ, 40, .inr (.inl (fun _ => 0)))), (q_23_54, .inl (cI, 40, .inl (fun _ => nI 0))), (q_31_54, .inl (cZ, 40, .inl (fun _ => bm_b false))), (q_61, .inr (2, [.ref q_5, .ref q_7_69, .ref q_15_69, .ref q_23_69, .ref q_31_69])), (q_7_69, .inl (cJ, 40, .inr (.inl (fun _ => 0)))), (q_15_69, .inl (cJ, 40, .inr (.inl (fun _ => 0)))), (q_23_69, .inl (cI, 40, .inl (fun _ => nI 0))), (q_31_69, .inl (cZ, 40, .inl (fun _ => bm_b false))), (q_76, .inr (2, [.ref q_5, .ref q_7_84, .ref q_15_84, .ref q_23_84, .ref q_31_84])), (q_7_84, .inl (cJ, 40, .inr (.inl (fun _ => 0)))), (q_15_84, .inl (cJ, 40, .inr (.inl (fun _ => 0)))), (q_23_84, .inl (cI, 40, .inl (fun _ => nI 0))), (q_31_84, .inl (cZ, 40, .inl (fun _ => bm_b false)))] := hD
  refine lv_aload_n hx hb dX4_init_95 rfl (lv_at hl 0 rfl) ?_
  refine lv_lconst (v := 1) hx hb dX4_init_96 (by decide) ?_
  refine lv_ldc2 (v := 65536) hx hb hown (hts (.constantLong RX4 51 65536) (by decide +kernel)) dX4_init_97 ?_
  refine lv_lload_n hx hb dX4_init_100 rfl (lv_at hl 1 rfl) ?_
  refine bm_mminl (rest := [.long 1, .ref h0]) hx hb (hml.trans hl.1.symm) hown (hts (.methodLink RX4 53 Lib.MathLoose.min_long.x) (by decide +kernel)) (hts (.static Lib.MathLoose.min_long.x) (by decide +kernel)) (hts (.initialized "java/lang/Math") (by decide +kernel)) (hts (.code Lib.MathLoose.min_long.x Lib.MathLoose.min_long.code 4 (some .long)) (by decide +kernel)) (Nat.le_of_ble_eq_true rfl) (Nat.le_of_ble_eq_true rfl) (Nat.le_of_ble_eq_true rfl) (Nat.le_of_ble_eq_true rfl) dX4_init_101 ?_
  refine bm_mmaxl (rest := [.ref h0]) hx hb (hml.trans hl.1.symm) hown (hts (.methodLink RX4 59 Lib.MathLoose.max_long.x) (by decide +kernel)) (hts (.static Lib.MathLoose.max_long.x) (by decide +kernel)) (hts (.initialized "java/lang/Math") (by decide +kernel)) (hts (.code Lib.MathLoose.max_long.x Lib.MathLoose.max_long.code 4 (some .long)) (by decide +kernel)) (Nat.le_of_ble_eq_true rfl) (Nat.le_of_ble_eq_true rfl) (Nat.le_of_ble_eq_true rfl) (Nat.le_of_ble_eq_true rfl) dX4_init_104 ?_
  refine va_putF (D := D) (ci := 4) (v := .long (q_max 1 (q_min 65536 zA))) (ty := .long) (C := RX4) (T := TX4) (N := 10) hx hb hts (inT inX4) tyX4 tyX4_ok nmX4 hown hK hP hD hS 0 rfl rfl 0 (by decide) (hts (.fieldLink RX4 62 "BoardMoves" "boardWide" "J") (by decide +kernel)) (fun _ h9 => h9) rfl hin rfl (by decide +kernel) rfl rfl (Nat.le_of_ble_eq_true rfl) dX4_init_107 (fun H locs hP hD hS => ?_)
  have hP : va_P D vwCl [(h0, .inr (4, [.long (q_max 1 (q_min 65536 zA)), .long 0, .ref q_5, .ref q_16, .ref q_31, .ref q_46, .ref q_61, .ref q_76, .long 0, .long 0])), (q_5, .inr (1, [.ref q_7_9, .ref q_15_9, .ref q_23_9, .ref q_31_9, .ref q_39_9, .ref q_47_9, .int (nI 0)])), (q_7_9, .inl (cJ, 40, .inr (.inl (fun _ => 0)))), (q_15_9, .inl (cJ, 40, .inr (.inl (fun _ => 0)))), (q_23_9, .inl (cI, 40, .inl (fun _ => nI 0))), (q_31_9, .inl (cJ, 40, .inr (.inl (fun _ => 0)))), (q_39_9, .inl (cZ, 40, .inl (fun _ => bm_b false))), (q_47_9, .inl (cI, 40, .inl (fun _ => nI 0))), (q_16, .inr (0, [.ref q_5, .ref q_7_24, .ref q_15_24, .ref q_23_24, .ref q_31_24, .ref q_39_24, .ref q_47_24, .ref q_55_24, .ref q_63_24, .int (nI 0), .int (nI 0)])), (q_7_24, .inl (cJ, 10, .inr (.inl (fun _ => 0)))), (q_15_24, .inl (cJ, 10, .inr (.inl (fun _ => 0)))), (q_23_24, .inl (cJ, 10, .inr (.inl (fun _ => 0)))), (q_31_24, .inl (cJ, 10, .inr (.inl (fun _ => 0)))), (q_39_24, .inl (cJ, 10, .inr (.inl (fun _ => 0)))), (q_47_24, .inl (cI, 20, .inl (fun _ => nI 0))), (q_55_24, .inl (cI, 20, .inl (fun _ => nI 0))), (q_63_24, .inl (cJ, 20, .inr (.inl (fun _ => 0)))), (q_31, .inr (3, [.ref q_5, .ref q_7_39, .ref q_15_39, .ref q_23_39, .ref q_31_39, .ref q_39_39, .ref q_47_39, .ref q_55_39, .ref q_63_39, .ref q_71_39, .int (nI 0), .int (nI 0)])), (q_7_39, .inl (cI, 120, .inl (fun _ => nI 0))), (q_15_39, .inl (cI, 120, .inl (fun _ => nI 0))), (q_23_39, .inl (cJ, 120, .inr (.inl (fun _ => 0)))), (q_31_39, .inl (cJ, 120, .inr (.inl (fun _ => 0)))), (q_39_39, .inl (cZ, 40, .inl (fun _ => bm_b false))), (q_47_39, .inl (cJ, 40, .inr (.inl (fun _ => 0)))), (q_55_39, .inl (cJ, 40, .inr (.inl (fun _ => 0)))), (q_63_39, .inl (cJ, 40, .inr (.inl (fun _ => 0)))), (q_71_39, .inl (cJ, 40, .inr (.inl (fun _ => 0)))), (q_46, .inr (2, [.ref q_5, .ref q_7_54, .ref q_15_54, .ref q_23_54, .ref q_31_54])), (q_7_54, .inl (cJ, 40, .inr (.inl (fun _ => 0)))), (q_15_54, .inl (cJ, 40, .inr (.inl (fun _ => 0)))), (q_23_54, .inl (cI, 40, .inl (fun _ => nI 0))), (q_31_54, .inl (cZ, 40, .inl (fun _ => bm_b false))), (q_61, .inr (2, [.ref q_5, .ref q_7_69, .ref q_15_69, .ref q_23_69, .ref q_31_69])), (q_7_69, .inl (cJ, 40, .inr (.inl (fun _ => 0)))), (q_15_69, .inl (cJ, 40, .inr (.inl (fun _ => 0)))), (q_23_69, .inl (cI, 40, .inl (fun _ => nI 0))), (q_31_69, .inl (cZ, 40, .inl (fun _ => bm_b false))), (q_76, .inr (2, [.ref q_5, .ref q_7_84, .ref q_15_84, .ref q_23_84, .ref q_31_84])), (q_7_84, .inl (cJ, 40, .inr (.inl (fun _ => 0)))), (q_15_84, .inl (cJ, 40, .inr (.inl (fun _ => 0)))), (q_23_84, .inl (cI, 40, .inl (fun _ => nI 0))), (q_31_84, .inl (cZ, 40, .inl (fun _ => bm_b false)))] H := hP
  have hD : va_D A [(h0, .inr (4, [.long (q_max 1 (q_min 65536 zA)), .long 0, .ref q_5, .ref q_16, .ref q_31, .ref q_46, .ref q_61, .ref q_76, .long 0, .long 0])), (q_5, .inr (1, [.ref q_7_9, .ref q_15_9, .ref q_23_9, .ref q_31_9, .ref q_39_9, .ref q_47_9, .int (nI 0)])), (q_7_9, .inl (cJ, 40, .inr (.inl (fun _ => 0)))), (q_15_9, .inl (cJ, 40, .inr (.inl (fun _ => 0)))), (q_23_9, .inl (cI, 40, .inl (fun _ => nI 0))), (q_31_9, .inl (cJ, 40, .inr (.inl (fun _ => 0)))), (q_39_9, .inl (cZ, 40, .inl (fun _ => bm_b false))), (q_47_9, .inl (cI, 40, .inl (fun _ => nI 0))), (q_16, .inr (0, [.ref q_5, .ref q_7_24, .ref q_15_24, .ref q_23_24, .ref q_31_24, .ref q_39_24, .ref q_47_24, .ref q_55_24, .ref q_63_24, .int (nI 0), .int (nI 0)])), (q_7_24, .inl (cJ, 10, .inr (.inl (fun _ => 0)))), (q_15_24, .inl (cJ, 10, .inr (.inl (fun _ => 0)))), (q_23_24, .inl (cJ, 10, .inr (.inl (fun _ => 0)))), (q_31_24, .inl (cJ, 10, .inr (.inl (fun _ => 0)))), (q_39_24, .inl (cJ, 10, .inr (.inl (fun _ => 0)))), (q_47_24, .inl (cI, 20, .inl (fun _ => nI 0))), (q_55_24, .inl (cI, 20, .inl (fun _ => nI 0))), (q_63_24, .inl (cJ, 20, .inr (.inl (fun _ => 0)))), (q_31, .inr (3, [.ref q_5, .ref q_7_39, .ref q_15_39, .ref q_23_39, .ref q_31_39, .ref q_39_39, .ref q_47_39, .ref q_55_39, .ref q_63_39, .ref q_71_39, .int (nI 0), .int (nI 0)])), (q_7_39, .inl (cI, 120, .inl (fun _ => nI 0))), (q_15_39, .inl (cI, 120, .inl (fun _ => nI 0))), (q_23_39, .inl (cJ, 120, .inr (.inl (fun _ => 0)))), (q_31_39, .inl (cJ, 120, .inr (.inl (fun _ => 0)))), (q_39_39, .inl (cZ, 40, .inl (fun _ => bm_b false))), (q_47_39, .inl (cJ, 40, .inr (.inl (fun _ => 0)))), (q_55_39, .inl (cJ, 40, .inr (.inl (fun _ => 0)))), (q_63_39, .inl (cJ, 40, .inr (.inl (fun _ => 0)))), (q_71_39, .inl (cJ, 40, .inr (.inl (fun _ => 0)))), (q_46, .inr (2, [.ref q_5, .ref q_7_54, .ref q_15_54, .ref q_23_54, .ref q_31_54])), (q_7_54, .inl (cJ, 40, .inr (.inl (fun _ => 0)))), (q_15_54, .inl (cJ, 40, .inr (.inl (fun _ => 0)))), (q_23_54, .inl (cI, 40, .inl (fun _ => nI 0))), (q_31_54, .inl (cZ, 40, .inl (fun _ => bm_b false))), (q_61, .inr (2, [.ref q_5, .ref q_7_69, .ref q_15_69, .ref q_23_69, .ref q_31_69])), (q_7_69, .inl (cJ, 40, .inr (.inl (fun _ => 0)))), (q_15_69, .inl (cJ, 40, .inr (.inl (fun _ => 0)))), (q_23_69, .inl (cI, 40, .inl (fun _ => nI 0))), (q_31_69, .inl (cZ, 40, .inl (fun _ => bm_b false))), (q_76, .inr (2, [.ref q_5, .ref q_7_84, .ref q_15_84, .ref q_23_84, .ref q_31_84])), (q_7_84, .inl (cJ, 40, .inr (.inl (fun _ => 0)))), (q_15_84, .inl (cJ, 40, .inr (.inl (fun _ => 0)))), (q_23_84, .inl (cI, 40, .inl (fun _ => nI 0))), (q_31_84, .inl (cZ, 40, .inl (fun _ => bm_b false)))] := hD
  refine lv_aload_n hx hb dX4_init_110 rfl (lv_at hl 0 rfl) ?_
  refine lv_lconst (v := 1) hx hb dX4_init_111 (by decide) ?_
  refine lv_ldc2 (v := 65536) hx hb hown (hts (.constantLong RX4 51 65536) (by decide +kernel)) dX4_init_112 ?_
  refine lv_lload_n hx hb dX4_init_115 rfl (lv_at hl 2 rfl) ?_
  refine bm_mminl (rest := [.long 1, .ref h0]) hx hb (hml.trans hl.1.symm) hown (hts (.methodLink RX4 53 Lib.MathLoose.min_long.x) (by decide +kernel)) (hts (.static Lib.MathLoose.min_long.x) (by decide +kernel)) (hts (.initialized "java/lang/Math") (by decide +kernel)) (hts (.code Lib.MathLoose.min_long.x Lib.MathLoose.min_long.code 4 (some .long)) (by decide +kernel)) (Nat.le_of_ble_eq_true rfl) (Nat.le_of_ble_eq_true rfl) (Nat.le_of_ble_eq_true rfl) (Nat.le_of_ble_eq_true rfl) dX4_init_116 ?_
  refine bm_mmaxl (rest := [.ref h0]) hx hb (hml.trans hl.1.symm) hown (hts (.methodLink RX4 59 Lib.MathLoose.max_long.x) (by decide +kernel)) (hts (.static Lib.MathLoose.max_long.x) (by decide +kernel)) (hts (.initialized "java/lang/Math") (by decide +kernel)) (hts (.code Lib.MathLoose.max_long.x Lib.MathLoose.max_long.code 4 (some .long)) (by decide +kernel)) (Nat.le_of_ble_eq_true rfl) (Nat.le_of_ble_eq_true rfl) (Nat.le_of_ble_eq_true rfl) (Nat.le_of_ble_eq_true rfl) dX4_init_119 ?_
  refine va_putF (D := D) (ci := 4) (v := .long (q_max 1 (q_min 65536 zB))) (ty := .long) (C := RX4) (T := TX4) (N := 10) hx hb hts (inT inX4) tyX4 tyX4_ok nmX4 hown hK hP hD hS 0 rfl rfl 1 (by decide) (hts (.fieldLink RX4 65 "BoardMoves" "boardHigh" "J") (by decide +kernel)) (fun _ h9 => h9) rfl hin rfl (by decide +kernel) rfl rfl (Nat.le_of_ble_eq_true rfl) dX4_init_122 (fun H locs hP hD hS => ?_)
  have hP : va_P D vwCl [(h0, .inr (4, [.long (q_max 1 (q_min 65536 zA)), .long (q_max 1 (q_min 65536 zB)), .ref q_5, .ref q_16, .ref q_31, .ref q_46, .ref q_61, .ref q_76, .long 0, .long 0])), (q_5, .inr (1, [.ref q_7_9, .ref q_15_9, .ref q_23_9, .ref q_31_9, .ref q_39_9, .ref q_47_9, .int (nI 0)])), (q_7_9, .inl (cJ, 40, .inr (.inl (fun _ => 0)))), (q_15_9, .inl (cJ, 40, .inr (.inl (fun _ => 0)))), (q_23_9, .inl (cI, 40, .inl (fun _ => nI 0))), (q_31_9, .inl (cJ, 40, .inr (.inl (fun _ => 0)))), (q_39_9, .inl (cZ, 40, .inl (fun _ => bm_b false))), (q_47_9, .inl (cI, 40, .inl (fun _ => nI 0))), (q_16, .inr (0, [.ref q_5, .ref q_7_24, .ref q_15_24, .ref q_23_24, .ref q_31_24, .ref q_39_24, .ref q_47_24, .ref q_55_24, .ref q_63_24, .int (nI 0), .int (nI 0)])), (q_7_24, .inl (cJ, 10, .inr (.inl (fun _ => 0)))), (q_15_24, .inl (cJ, 10, .inr (.inl (fun _ => 0)))), (q_23_24, .inl (cJ, 10, .inr (.inl (fun _ => 0)))), (q_31_24, .inl (cJ, 10, .inr (.inl (fun _ => 0)))), (q_39_24, .inl (cJ, 10, .inr (.inl (fun _ => 0)))), (q_47_24, .inl (cI, 20, .inl (fun _ => nI 0))), (q_55_24, .inl (cI, 20, .inl (fun _ => nI 0))), (q_63_24, .inl (cJ, 20, .inr (.inl (fun _ => 0)))), (q_31, .inr (3, [.ref q_5, .ref q_7_39, .ref q_15_39, .ref q_23_39, .ref q_31_39, .ref q_39_39, .ref q_47_39, .ref q_55_39, .ref q_63_39, .ref q_71_39, .int (nI 0), .int (nI 0)])), (q_7_39, .inl (cI, 120, .inl (fun _ => nI 0))), (q_15_39, .inl (cI, 120, .inl (fun _ => nI 0))), (q_23_39, .inl (cJ, 120, .inr (.inl (fun _ => 0)))), (q_31_39, .inl (cJ, 120, .inr (.inl (fun _ => 0)))), (q_39_39, .inl (cZ, 40, .inl (fun _ => bm_b false))), (q_47_39, .inl (cJ, 40, .inr (.inl (fun _ => 0)))), (q_55_39, .inl (cJ, 40, .inr (.inl (fun _ => 0)))), (q_63_39, .inl (cJ, 40, .inr (.inl (fun _ => 0)))), (q_71_39, .inl (cJ, 40, .inr (.inl (fun _ => 0)))), (q_46, .inr (2, [.ref q_5, .ref q_7_54, .ref q_15_54, .ref q_23_54, .ref q_31_54])), (q_7_54, .inl (cJ, 40, .inr (.inl (fun _ => 0)))), (q_15_54, .inl (cJ, 40, .inr (.inl (fun _ => 0)))), (q_23_54, .inl (cI, 40, .inl (fun _ => nI 0))), (q_31_54, .inl (cZ, 40, .inl (fun _ => bm_b false))), (q_61, .inr (2, [.ref q_5, .ref q_7_69, .ref q_15_69, .ref q_23_69, .ref q_31_69])), (q_7_69, .inl (cJ, 40, .inr (.inl (fun _ => 0)))), (q_15_69, .inl (cJ, 40, .inr (.inl (fun _ => 0)))), (q_23_69, .inl (cI, 40, .inl (fun _ => nI 0))), (q_31_69, .inl (cZ, 40, .inl (fun _ => bm_b false))), (q_76, .inr (2, [.ref q_5, .ref q_7_84, .ref q_15_84, .ref q_23_84, .ref q_31_84])), (q_7_84, .inl (cJ, 40, .inr (.inl (fun _ => 0)))), (q_15_84, .inl (cJ, 40, .inr (.inl (fun _ => 0)))), (q_23_84, .inl (cI, 40, .inl (fun _ => nI 0))), (q_31_84, .inl (cZ, 40, .inl (fun _ => bm_b false)))] H := hP
  have hD : va_D A [(h0, .inr (4, [.long (q_max 1 (q_min 65536 zA)), .long (q_max 1 (q_min 65536 zB)), .ref q_5, .ref q_16, .ref q_31, .ref q_46, .ref q_61, .ref q_76, .long 0, .long 0])), (q_5, .inr (1, [.ref q_7_9, .ref q_15_9, .ref q_23_9, .ref q_31_9, .ref q_39_9, .ref q_47_9, .int (nI 0)])), (q_7_9, .inl (cJ, 40, .inr (.inl (fun _ => 0)))), (q_15_9, .inl (cJ, 40, .inr (.inl (fun _ => 0)))), (q_23_9, .inl (cI, 40, .inl (fun _ => nI 0))), (q_31_9, .inl (cJ, 40, .inr (.inl (fun _ => 0)))), (q_39_9, .inl (cZ, 40, .inl (fun _ => bm_b false))), (q_47_9, .inl (cI, 40, .inl (fun _ => nI 0))), (q_16, .inr (0, [.ref q_5, .ref q_7_24, .ref q_15_24, .ref q_23_24, .ref q_31_24, .ref q_39_24, .ref q_47_24, .ref q_55_24, .ref q_63_24, .int (nI 0), .int (nI 0)])), (q_7_24, .inl (cJ, 10, .inr (.inl (fun _ => 0)))), (q_15_24, .inl (cJ, 10, .inr (.inl (fun _ => 0)))), (q_23_24, .inl (cJ, 10, .inr (.inl (fun _ => 0)))), (q_31_24, .inl (cJ, 10, .inr (.inl (fun _ => 0)))), (q_39_24, .inl (cJ, 10, .inr (.inl (fun _ => 0)))), (q_47_24, .inl (cI, 20, .inl (fun _ => nI 0))), (q_55_24, .inl (cI, 20, .inl (fun _ => nI 0))), (q_63_24, .inl (cJ, 20, .inr (.inl (fun _ => 0)))), (q_31, .inr (3, [.ref q_5, .ref q_7_39, .ref q_15_39, .ref q_23_39, .ref q_31_39, .ref q_39_39, .ref q_47_39, .ref q_55_39, .ref q_63_39, .ref q_71_39, .int (nI 0), .int (nI 0)])), (q_7_39, .inl (cI, 120, .inl (fun _ => nI 0))), (q_15_39, .inl (cI, 120, .inl (fun _ => nI 0))), (q_23_39, .inl (cJ, 120, .inr (.inl (fun _ => 0)))), (q_31_39, .inl (cJ, 120, .inr (.inl (fun _ => 0)))), (q_39_39, .inl (cZ, 40, .inl (fun _ => bm_b false))), (q_47_39, .inl (cJ, 40, .inr (.inl (fun _ => 0)))), (q_55_39, .inl (cJ, 40, .inr (.inl (fun _ => 0)))), (q_63_39, .inl (cJ, 40, .inr (.inl (fun _ => 0)))), (q_71_39, .inl (cJ, 40, .inr (.inl (fun _ => 0)))), (q_46, .inr (2, [.ref q_5, .ref q_7_54, .ref q_15_54, .ref q_23_54, .ref q_31_54])), (q_7_54, .inl (cJ, 40, .inr (.inl (fun _ => 0)))), (q_15_54, .inl (cJ, 40, .inr (.inl (fun _ => 0)))), (q_23_54, .inl (cI, 40, .inl (fun _ => nI 0))), (q_31_54, .inl (cZ, 40, .inl (fun _ => bm_b false))), (q_61, .inr (2, [.ref q_5, .ref q_7_69, .ref q_15_69, .ref q_23_69, .ref q_31_69])), (q_7_69, .inl (cJ, 40, .inr (.inl (fun _ => 0)))), (q_15_69, .inl (cJ, 40, .inr (.inl (fun _ => 0)))), (q_23_69, .inl (cI, 40, .inl (fun _ => nI 0))), (q_31_69, .inl (cZ, 40, .inl (fun _ => bm_b false))), (q_76, .inr (2, [.ref q_5, .ref q_7_84, .ref q_15_84, .ref q_23_84, .ref q_31_84])), (q_7_84, .inl (cJ, 40, .inr (.inl (fun _ => 0)))), (q_15_84, .inl (cJ, 40, .inr (.inl (fun _ => 0)))), (q_23_84, .inl (cI, 40, .inl (fun _ => nI 0))), (q_31_84, .inl (cZ, 40, .inl (fun _ => bm_b false)))] := hD
  refine lv_aload_n hx hb dX4_init_125 rfl (lv_at hl 0 rfl) ?_
  refine lv_lload hx hb dX4_init_126 (lv_at hl 3 rfl) ?_
  refine va_put (D := D) (ci := 4) (v := .long zC) (ty := .long) (C := RX4) (T := TX4) (N := 10) hx hb hts (inT inX4) tyX4 tyX4_ok nmX4 hown hK hP hD hS 0 rfl rfl 8 (by decide) (hts (.fieldLink RX4 68 "BoardMoves" "drawn" "J") (by decide +kernel)) (fun _ h9 => h9) rfl (by decide +kernel) rfl rfl (Nat.le_of_ble_eq_true rfl) dX4_init_128 (fun H locs hP hD hS => ?_)
  have hP : va_P D vwCl [(h0, .inr (4, [.long (q_max 1 (q_min 65536 zA)), .long (q_max 1 (q_min 65536 zB)), .ref q_5, .ref q_16, .ref q_31, .ref q_46, .ref q_61, .ref q_76, .long zC, .long 0])), (q_5, .inr (1, [.ref q_7_9, .ref q_15_9, .ref q_23_9, .ref q_31_9, .ref q_39_9, .ref q_47_9, .int (nI 0)])), (q_7_9, .inl (cJ, 40, .inr (.inl (fun _ => 0)))), (q_15_9, .inl (cJ, 40, .inr (.inl (fun _ => 0)))), (q_23_9, .inl (cI, 40, .inl (fun _ => nI 0))), (q_31_9, .inl (cJ, 40, .inr (.inl (fun _ => 0)))), (q_39_9, .inl (cZ, 40, .inl (fun _ => bm_b false))), (q_47_9, .inl (cI, 40, .inl (fun _ => nI 0))), (q_16, .inr (0, [.ref q_5, .ref q_7_24, .ref q_15_24, .ref q_23_24, .ref q_31_24, .ref q_39_24, .ref q_47_24, .ref q_55_24, .ref q_63_24, .int (nI 0), .int (nI 0)])), (q_7_24, .inl (cJ, 10, .inr (.inl (fun _ => 0)))), (q_15_24, .inl (cJ, 10, .inr (.inl (fun _ => 0)))), (q_23_24, .inl (cJ, 10, .inr (.inl (fun _ => 0)))), (q_31_24, .inl (cJ, 10, .inr (.inl (fun _ => 0)))), (q_39_24, .inl (cJ, 10, .inr (.inl (fun _ => 0)))), (q_47_24, .inl (cI, 20, .inl (fun _ => nI 0))), (q_55_24, .inl (cI, 20, .inl (fun _ => nI 0))), (q_63_24, .inl (cJ, 20, .inr (.inl (fun _ => 0)))), (q_31, .inr (3, [.ref q_5, .ref q_7_39, .ref q_15_39, .ref q_23_39, .ref q_31_39, .ref q_39_39, .ref q_47_39, .ref q_55_39, .ref q_63_39, .ref q_71_39, .int (nI 0), .int (nI 0)])), (q_7_39, .inl (cI, 120, .inl (fun _ => nI 0))), (q_15_39, .inl (cI, 120, .inl (fun _ => nI 0))), (q_23_39, .inl (cJ, 120, .inr (.inl (fun _ => 0)))), (q_31_39, .inl (cJ, 120, .inr (.inl (fun _ => 0)))), (q_39_39, .inl (cZ, 40, .inl (fun _ => bm_b false))), (q_47_39, .inl (cJ, 40, .inr (.inl (fun _ => 0)))), (q_55_39, .inl (cJ, 40, .inr (.inl (fun _ => 0)))), (q_63_39, .inl (cJ, 40, .inr (.inl (fun _ => 0)))), (q_71_39, .inl (cJ, 40, .inr (.inl (fun _ => 0)))), (q_46, .inr (2, [.ref q_5, .ref q_7_54, .ref q_15_54, .ref q_23_54, .ref q_31_54])), (q_7_54, .inl (cJ, 40, .inr (.inl (fun _ => 0)))), (q_15_54, .inl (cJ, 40, .inr (.inl (fun _ => 0)))), (q_23_54, .inl (cI, 40, .inl (fun _ => nI 0))), (q_31_54, .inl (cZ, 40, .inl (fun _ => bm_b false))), (q_61, .inr (2, [.ref q_5, .ref q_7_69, .ref q_15_69, .ref q_23_69, .ref q_31_69])), (q_7_69, .inl (cJ, 40, .inr (.inl (fun _ => 0)))), (q_15_69, .inl (cJ, 40, .inr (.inl (fun _ => 0)))), (q_23_69, .inl (cI, 40, .inl (fun _ => nI 0))), (q_31_69, .inl (cZ, 40, .inl (fun _ => bm_b false))), (q_76, .inr (2, [.ref q_5, .ref q_7_84, .ref q_15_84, .ref q_23_84, .ref q_31_84])), (q_7_84, .inl (cJ, 40, .inr (.inl (fun _ => 0)))), (q_15_84, .inl (cJ, 40, .inr (.inl (fun _ => 0)))), (q_23_84, .inl (cI, 40, .inl (fun _ => nI 0))), (q_31_84, .inl (cZ, 40, .inl (fun _ => bm_b false)))] H := hP
  have hD : va_D A [(h0, .inr (4, [.long (q_max 1 (q_min 65536 zA)), .long (q_max 1 (q_min 65536 zB)), .ref q_5, .ref q_16, .ref q_31, .ref q_46, .ref q_61, .ref q_76, .long zC, .long 0])), (q_5, .inr (1, [.ref q_7_9, .ref q_15_9, .ref q_23_9, .ref q_31_9, .ref q_39_9, .ref q_47_9, .int (nI 0)])), (q_7_9, .inl (cJ, 40, .inr (.inl (fun _ => 0)))), (q_15_9, .inl (cJ, 40, .inr (.inl (fun _ => 0)))), (q_23_9, .inl (cI, 40, .inl (fun _ => nI 0))), (q_31_9, .inl (cJ, 40, .inr (.inl (fun _ => 0)))), (q_39_9, .inl (cZ, 40, .inl (fun _ => bm_b false))), (q_47_9, .inl (cI, 40, .inl (fun _ => nI 0))), (q_16, .inr (0, [.ref q_5, .ref q_7_24, .ref q_15_24, .ref q_23_24, .ref q_31_24, .ref q_39_24, .ref q_47_24, .ref q_55_24, .ref q_63_24, .int (nI 0), .int (nI 0)])), (q_7_24, .inl (cJ, 10, .inr (.inl (fun _ => 0)))), (q_15_24, .inl (cJ, 10, .inr (.inl (fun _ => 0)))), (q_23_24, .inl (cJ, 10, .inr (.inl (fun _ => 0)))), (q_31_24, .inl (cJ, 10, .inr (.inl (fun _ => 0)))), (q_39_24, .inl (cJ, 10, .inr (.inl (fun _ => 0)))), (q_47_24, .inl (cI, 20, .inl (fun _ => nI 0))), (q_55_24, .inl (cI, 20, .inl (fun _ => nI 0))), (q_63_24, .inl (cJ, 20, .inr (.inl (fun _ => 0)))), (q_31, .inr (3, [.ref q_5, .ref q_7_39, .ref q_15_39, .ref q_23_39, .ref q_31_39, .ref q_39_39, .ref q_47_39, .ref q_55_39, .ref q_63_39, .ref q_71_39, .int (nI 0), .int (nI 0)])), (q_7_39, .inl (cI, 120, .inl (fun _ => nI 0))), (q_15_39, .inl (cI, 120, .inl (fun _ => nI 0))), (q_23_39, .inl (cJ, 120, .inr (.inl (fun _ => 0)))), (q_31_39, .inl (cJ, 120, .inr (.inl (fun _ => 0)))), (q_39_39, .inl (cZ, 40, .inl (fun _ => bm_b false))), (q_47_39, .inl (cJ, 40, .inr (.inl (fun _ => 0)))), (q_55_39, .inl (cJ, 40, .inr (.inl (fun _ => 0)))), (q_63_39, .inl (cJ, 40, .inr (.inl (fun _ => 0)))), (q_71_39, .inl (cJ, 40, .inr (.inl (fun _ => 0)))), (q_46, .inr (2, [.ref q_5, .ref q_7_54, .ref q_15_54, .ref q_23_54, .ref q_31_54])), (q_7_54, .inl (cJ, 40, .inr (.inl (fun _ => 0)))), (q_15_54, .inl (cJ, 40, .inr (.inl (fun _ => 0)))), (q_23_54, .inl (cI, 40, .inl (fun _ => nI 0))), (q_31_54, .inl (cZ, 40, .inl (fun _ => bm_b false))), (q_61, .inr (2, [.ref q_5, .ref q_7_69, .ref q_15_69, .ref q_23_69, .ref q_31_69])), (q_7_69, .inl (cJ, 40, .inr (.inl (fun _ => 0)))), (q_15_69, .inl (cJ, 40, .inr (.inl (fun _ => 0)))), (q_23_69, .inl (cI, 40, .inl (fun _ => nI 0))), (q_31_69, .inl (cZ, 40, .inl (fun _ => bm_b false))), (q_76, .inr (2, [.ref q_5, .ref q_7_84, .ref q_15_84, .ref q_23_84, .ref q_31_84])), (q_7_84, .inl (cJ, 40, .inr (.inl (fun _ => 0)))), (q_15_84, .inl (cJ, 40, .inr (.inl (fun _ => 0)))), (q_23_84, .inl (cI, 40, .inl (fun _ => nI 0))), (q_31_84, .inl (cZ, 40, .inl (fun _ => bm_b false)))] := hD
  have hP := hP.sub (ws' := [(h0, .inr (4, [.long (q_max 1 (q_min 65536 zA)), .long (q_max 1 (q_min 65536 zB)), .ref q_5, .ref q_16, .ref q_31, .ref q_46, .ref q_61, .ref q_76, .long zC, .long 0])), (q_5, .inr (1, [.ref q_7_9, .ref q_15_9, .ref q_23_9, .ref q_31_9, .ref q_39_9, .ref q_47_9, .int (nI 0)])), (q_7_9, .inl (cJ, 40, .inr (.inl (fun _ => 0)))), (q_15_9, .inl (cJ, 40, .inr (.inl (fun _ => 0)))), (q_23_9, .inl (cI, 40, .inl (fun _ => nI 0))), (q_31_9, .inl (cJ, 40, .inr (.inl (fun _ => 0)))), (q_39_9, .inl (cZ, 40, .inl (fun _ => bm_b false))), (q_47_9, .inl (cI, 40, .inl (fun _ => nI 0))), (q_46, .inr (2, [.ref q_5, .ref q_7_54, .ref q_15_54, .ref q_23_54, .ref q_31_54])), (q_7_54, .inl (cJ, 40, .inr (.inl (fun _ => 0)))), (q_15_54, .inl (cJ, 40, .inr (.inl (fun _ => 0)))), (q_23_54, .inl (cI, 40, .inl (fun _ => nI 0))), (q_31_54, .inl (cZ, 40, .inl (fun _ => bm_b false))), (q_61, .inr (2, [.ref q_5, .ref q_7_69, .ref q_15_69, .ref q_23_69, .ref q_31_69])), (q_7_69, .inl (cJ, 40, .inr (.inl (fun _ => 0)))), (q_15_69, .inl (cJ, 40, .inr (.inl (fun _ => 0)))), (q_23_69, .inl (cI, 40, .inl (fun _ => nI 0))), (q_31_69, .inl (cZ, 40, .inl (fun _ => bm_b false))), (q_76, .inr (2, [.ref q_5, .ref q_7_84, .ref q_15_84, .ref q_23_84, .ref q_31_84])), (q_7_84, .inl (cJ, 40, .inr (.inl (fun _ => 0)))), (q_15_84, .inl (cJ, 40, .inr (.inl (fun _ => 0)))), (q_23_84, .inl (cI, 40, .inl (fun _ => nI 0))), (q_31_84, .inl (cZ, 40, .inl (fun _ => bm_b false))), (q_16, .inr (0, [.ref q_5, .ref q_7_24, .ref q_15_24, .ref q_23_24, .ref q_31_24, .ref q_39_24, .ref q_47_24, .ref q_55_24, .ref q_63_24, .int (nI 0), .int (nI 0)])), (q_7_24, .inl (cJ, 10, .inr (.inl (fun _ => 0)))), (q_15_24, .inl (cJ, 10, .inr (.inl (fun _ => 0)))), (q_23_24, .inl (cJ, 10, .inr (.inl (fun _ => 0)))), (q_31_24, .inl (cJ, 10, .inr (.inl (fun _ => 0)))), (q_39_24, .inl (cJ, 10, .inr (.inl (fun _ => 0)))), (q_47_24, .inl (cI, 20, .inl (fun _ => nI 0))), (q_55_24, .inl (cI, 20, .inl (fun _ => nI 0))), (q_63_24, .inl (cJ, 20, .inr (.inl (fun _ => 0)))), (q_31, .inr (3, [.ref q_5, .ref q_7_39, .ref q_15_39, .ref q_23_39, .ref q_31_39, .ref q_39_39, .ref q_47_39, .ref q_55_39, .ref q_63_39, .ref q_71_39, .int (nI 0), .int (nI 0)])), (q_7_39, .inl (cI, 120, .inl (fun _ => nI 0))), (q_15_39, .inl (cI, 120, .inl (fun _ => nI 0))), (q_23_39, .inl (cJ, 120, .inr (.inl (fun _ => 0)))), (q_31_39, .inl (cJ, 120, .inr (.inl (fun _ => 0)))), (q_39_39, .inl (cZ, 40, .inl (fun _ => bm_b false))), (q_47_39, .inl (cJ, 40, .inr (.inl (fun _ => 0)))), (q_55_39, .inl (cJ, 40, .inr (.inl (fun _ => 0)))), (q_63_39, .inl (cJ, 40, .inr (.inl (fun _ => 0)))), (q_71_39, .inl (cJ, 40, .inr (.inl (fun _ => 0))))]) [0, 1, 2, 3, 4, 5, 6, 7, 27, 28, 29, 30, 31, 32, 33, 34, 35, 36, 37, 38, 39, 40, 41, 8, 9, 10, 11, 12, 13, 14, 15, 16, 17, 18, 19, 20, 21, 22, 23, 24, 25, 26] rfl
  have hD := hD.sub (ws' := [(h0, .inr (4, [.long (q_max 1 (q_min 65536 zA)), .long (q_max 1 (q_min 65536 zB)), .ref q_5, .ref q_16, .ref q_31, .ref q_46, .ref q_61, .ref q_76, .long zC, .long 0])), (q_5, .inr (1, [.ref q_7_9, .ref q_15_9, .ref q_23_9, .ref q_31_9, .ref q_39_9, .ref q_47_9, .int (nI 0)])), (q_7_9, .inl (cJ, 40, .inr (.inl (fun _ => 0)))), (q_15_9, .inl (cJ, 40, .inr (.inl (fun _ => 0)))), (q_23_9, .inl (cI, 40, .inl (fun _ => nI 0))), (q_31_9, .inl (cJ, 40, .inr (.inl (fun _ => 0)))), (q_39_9, .inl (cZ, 40, .inl (fun _ => bm_b false))), (q_47_9, .inl (cI, 40, .inl (fun _ => nI 0))), (q_46, .inr (2, [.ref q_5, .ref q_7_54, .ref q_15_54, .ref q_23_54, .ref q_31_54])), (q_7_54, .inl (cJ, 40, .inr (.inl (fun _ => 0)))), (q_15_54, .inl (cJ, 40, .inr (.inl (fun _ => 0)))), (q_23_54, .inl (cI, 40, .inl (fun _ => nI 0))), (q_31_54, .inl (cZ, 40, .inl (fun _ => bm_b false))), (q_61, .inr (2, [.ref q_5, .ref q_7_69, .ref q_15_69, .ref q_23_69, .ref q_31_69])), (q_7_69, .inl (cJ, 40, .inr (.inl (fun _ => 0)))), (q_15_69, .inl (cJ, 40, .inr (.inl (fun _ => 0)))), (q_23_69, .inl (cI, 40, .inl (fun _ => nI 0))), (q_31_69, .inl (cZ, 40, .inl (fun _ => bm_b false))), (q_76, .inr (2, [.ref q_5, .ref q_7_84, .ref q_15_84, .ref q_23_84, .ref q_31_84])), (q_7_84, .inl (cJ, 40, .inr (.inl (fun _ => 0)))), (q_15_84, .inl (cJ, 40, .inr (.inl (fun _ => 0)))), (q_23_84, .inl (cI, 40, .inl (fun _ => nI 0))), (q_31_84, .inl (cZ, 40, .inl (fun _ => bm_b false))), (q_16, .inr (0, [.ref q_5, .ref q_7_24, .ref q_15_24, .ref q_23_24, .ref q_31_24, .ref q_39_24, .ref q_47_24, .ref q_55_24, .ref q_63_24, .int (nI 0), .int (nI 0)])), (q_7_24, .inl (cJ, 10, .inr (.inl (fun _ => 0)))), (q_15_24, .inl (cJ, 10, .inr (.inl (fun _ => 0)))), (q_23_24, .inl (cJ, 10, .inr (.inl (fun _ => 0)))), (q_31_24, .inl (cJ, 10, .inr (.inl (fun _ => 0)))), (q_39_24, .inl (cJ, 10, .inr (.inl (fun _ => 0)))), (q_47_24, .inl (cI, 20, .inl (fun _ => nI 0))), (q_55_24, .inl (cI, 20, .inl (fun _ => nI 0))), (q_63_24, .inl (cJ, 20, .inr (.inl (fun _ => 0)))), (q_31, .inr (3, [.ref q_5, .ref q_7_39, .ref q_15_39, .ref q_23_39, .ref q_31_39, .ref q_39_39, .ref q_47_39, .ref q_55_39, .ref q_63_39, .ref q_71_39, .int (nI 0), .int (nI 0)])), (q_7_39, .inl (cI, 120, .inl (fun _ => nI 0))), (q_15_39, .inl (cI, 120, .inl (fun _ => nI 0))), (q_23_39, .inl (cJ, 120, .inr (.inl (fun _ => 0)))), (q_31_39, .inl (cJ, 120, .inr (.inl (fun _ => 0)))), (q_39_39, .inl (cZ, 40, .inl (fun _ => bm_b false))), (q_47_39, .inl (cJ, 40, .inr (.inl (fun _ => 0)))), (q_55_39, .inl (cJ, 40, .inr (.inl (fun _ => 0)))), (q_63_39, .inl (cJ, 40, .inr (.inl (fun _ => 0)))), (q_71_39, .inl (cJ, 40, .inr (.inl (fun _ => 0))))]) [0, 1, 2, 3, 4, 5, 6, 7, 27, 28, 29, 30, 31, 32, 33, 34, 35, 36, 37, 38, 39, 40, 41, 8, 9, 10, 11, 12, 13, 14, 15, 16, 17, 18, 19, 20, 21, 22, 23, 24, 25, 26] (by decide) rfl
  refine W.widen (k := 41) (n := 1555) (Nat.le_of_ble_eq_true rfl) (Nat.le_of_ble_eq_true rfl) ?_
  exact W.vret hx hb hr (fun t ht hW => ⟨⟨(), rfl, trivial, q_5, q_7_9, q_15_9, q_23_9, q_31_9, q_39_9, q_47_9, q_16, q_7_24, q_15_24, q_23_24, q_31_24, q_39_24, q_47_24, q_55_24, q_63_24, q_31, q_7_39, q_15_39, q_23_39, q_31_39, q_39_39, q_47_39, q_55_39, q_63_39, q_71_39, q_46, q_7_54, q_15_54, q_23_54, q_31_54, q_61, q_7_69, q_15_69, q_23_69, q_31_69, q_76, q_7_84, q_15_84, q_23_84, q_31_84, (q_max 1 (q_min 65536 zA)), (q_max 1 (q_min 65536 zB)), zC, by rw [ht]; exact hP, va_K.moved hW.alike hK, hD⟩, hS.F ht⟩) hS.2.2 dX4_init_131
end
section
set_option maxHeartbeats 4000000 in
set_option maxRecDepth 100000 in
theorem c_Model {l : Launch} {D : va_G} {cJ cI cZ : ClassId} {h0 : Nat} {zA : Int64} {zB : Int64} {zC : Int64} (sz : Nat) : Met l yX5_init wsX5_init ({ frames := 1, cells := 19, slots := 1270, locals := 20 }) (bm_Wp D vwCl [(cJ, .long), (cI, .int), (cZ, .boolean)] [(h0, .inr (5, [.int 0, .long 0, .long 0, .int 0, .null, .null, .null, .null, .null, .null, .null, .null, .null, .null, .int 0, .null, .int 0, .null, .null, .null, .int 0, .int 0, .null, .null, .null, .null, .null, .long 0]))] [.ref h0, .long zA, .long zB, .long zC] sz) (va_Qv (fun _ : Unit => True) (fun _ t => ∃ (q_7 q_15 q_23 q_31 q_39 q_47 q_55 q_63 q_71 q_79 q_87 q_95 q_103 q_111 q_119 q_127 q_135 q_143 q_151 : Nat) (zW zH zS : Int64), va_P D vwCl [(h0, .inr (5, [.int 0, .long zW, .long zH, .int 0, .ref q_7, .ref q_15, .ref q_23, .ref q_31, .ref q_39, .ref q_47, .ref q_55, .ref q_63, .ref q_71, .ref q_79, .int 0, .ref q_87, .int 0, .ref q_95, .ref q_103, .ref q_111, .int 0, .int 0, .ref q_119, .ref q_127, .ref q_135, .ref q_143, .ref q_151, .long zS])), (q_7, .inl (cJ, 40, .inr (.inl (fun _ => 0)))), (q_15, .inl (cJ, 40, .inr (.inl (fun _ => 0)))), (q_23, .inl (cI, 40, .inl (fun _ => nI 0))), (q_31, .inl (cJ, 40, .inr (.inl (fun _ => 0)))), (q_39, .inl (cZ, 40, .inl (fun _ => bm_b false))), (q_47, .inl (cI, 40, .inl (fun _ => nI 0))), (q_55, .inl (cZ, 40, .inl (fun _ => bm_b false))), (q_63, .inl (cJ, 120, .inr (.inl (fun _ => 0)))), (q_71, .inl (cJ, 120, .inr (.inl (fun _ => 0)))), (q_79, .inl (cI, 120, .inl (fun _ => nI 0))), (q_87, .inl (cJ, 50, .inr (.inl (fun _ => 0)))), (q_95, .inl (cI, 20, .inl (fun _ => nI 0))), (q_103, .inl (cI, 20, .inl (fun _ => nI 0))), (q_111, .inl (cJ, 20, .inr (.inl (fun _ => 0)))), (q_119, .inl (cI, 120, .inl (fun _ => nI 0))), (q_127, .inl (cI, 120, .inl (fun _ => nI 0))), (q_135, .inl (cJ, 120, .inr (.inl (fun _ => 0)))), (q_143, .inl (cJ, 120, .inr (.inl (fun _ => 0)))), (q_151, .inl (cZ, 40, .inl (fun _ => bm_b false)))] t.heap ∧ va_K D vwCl [(cJ, .long), (cI, .int), (cZ, .boolean)] t ∧ va_D (va_A [(h0, .inr (5, [.int 0, .long 0, .long 0, .int 0, .null, .null, .null, .null, .null, .null, .null, .null, .null, .null, .int 0, .null, .int 0, .null, .null, .null, .int 0, .int 0, .null, .null, .null, .null, .null, .long 0]))] sz) [(h0, .inr (5, [.int 0, .long zW, .long zH, .int 0, .ref q_7, .ref q_15, .ref q_23, .ref q_31, .ref q_39, .ref q_47, .ref q_55, .ref q_63, .ref q_71, .ref q_79, .int 0, .ref q_87, .int 0, .ref q_95, .ref q_103, .ref q_111, .int 0, .int 0, .ref q_119, .ref q_127, .ref q_135, .ref q_143, .ref q_151, .long zS])), (q_7, .inl (cJ, 40, .inr (.inl (fun _ => 0)))), (q_15, .inl (cJ, 40, .inr (.inl (fun _ => 0)))), (q_23, .inl (cI, 40, .inl (fun _ => nI 0))), (q_31, .inl (cJ, 40, .inr (.inl (fun _ => 0)))), (q_39, .inl (cZ, 40, .inl (fun _ => bm_b false))), (q_47, .inl (cI, 40, .inl (fun _ => nI 0))), (q_55, .inl (cZ, 40, .inl (fun _ => bm_b false))), (q_63, .inl (cJ, 120, .inr (.inl (fun _ => 0)))), (q_71, .inl (cJ, 120, .inr (.inl (fun _ => 0)))), (q_79, .inl (cI, 120, .inl (fun _ => nI 0))), (q_87, .inl (cJ, 50, .inr (.inl (fun _ => 0)))), (q_95, .inl (cI, 20, .inl (fun _ => nI 0))), (q_103, .inl (cI, 20, .inl (fun _ => nI 0))), (q_111, .inl (cJ, 20, .inr (.inl (fun _ => 0)))), (q_119, .inl (cI, 120, .inl (fun _ => nI 0))), (q_127, .inl (cI, 120, .inl (fun _ => nI 0))), (q_135, .inl (cJ, 120, .inr (.inl (fun _ => 0)))), (q_143, .inl (cJ, 120, .inr (.inl (fun _ => 0)))), (q_151, .inl (cZ, 40, .inl (fun _ => bm_b false)))]) (va_A [(h0, .inr (5, [.int 0, .long 0, .long 0, .int 0, .null, .null, .null, .null, .null, .null, .null, .null, .null, .null, .int 0, .null, .int 0, .null, .null, .null, .int 0, .int 0, .null, .null, .null, .null, .null, .long 0]))] sz)) 19 1270 (va_A [(h0, .inr (5, [.int 0, .long 0, .long 0, .int 0, .null, .null, .null, .null, .null, .null, .null, .null, .null, .null, .int 0, .null, .int 0, .null, .null, .null, .int 0, .int 0, .null, .null, .null, .null, .null, .long 0]))] sz) := by
  refine Met.ofW (cc := cX5_init) (maxL := 7) (ret := none) (by decide) rfl ?_
  intro p e s m args below meth c s₁ B hml hv
  obtain ⟨ha, hsz, hP, hK, hD0⟩ := hv
  have hx := B.exec
  have hb := B.bytes
  have hr := B.returns
  have hts := atoms_spec (ws := wsX5_init) B.pre
  have hown : s.vm.findClass RX5 = some m.cls := findClass_of_methodNamed B.named
  have hlocks := B.notSynchronized
  have hin : meth.name = "<init>" := (name_of_methodNamed B.named B.method).1
  subst hsz
  have hD := hD0.self (sz := s.heap.size)
  generalize hAe : va_A [(h0, .inr (5, [.int 0, .long 0, .long 0, .int 0, .null, .null, .null, .null, .null, .null, .null, .null, .null, .null, .int 0, .null, .int 0, .null, .null, .null, .int 0, .int 0, .null, .null, .null, .null, .null, .long 0]))] s.heap.size = A at hD ⊢
  have hA : ∀ q : Nat, s.heap.size ≤ q → A q := fun q h => by rw [← hAe]; exact Or.inr h
  have hS : va_S A s.heap s.heap [] := va_S.rf
  have hP : va_P D vwCl [(h0, .inr (5, [.int 0, .long 0, .long 0, .int 0, .null, .null, .null, .null, .null, .null, .null, .null, .null, .null, .int 0, .null, .int 0, .null, .null, .null, .int 0, .int 0, .null, .null, .null, .null, .null, .long 0]))] s.heap := hP
  have hl := lv_entry ([.ref h0, .long zA, .long zB, .long zC]) (n := 7) (Nat.le_of_ble_eq_true rfl)
  refine W.eq (g2 := entryFrame m ([.ref h0, .long zA, .long zB, .long zC] : List Value).toArray 7) (by rw [ha]) ?_
  rw [lg_entry_eq]
  generalize (lg_sl ([.ref h0, .long zA, .long zB, .long zC]) ++ List.replicate (7 - (lg_sl ([.ref h0, .long zA, .long zB, .long zC])).length) Slot.unset).toArray = ls at hl ⊢
  have hl : lv_has ls 7 [(0, .ref h0), (1, .long zA), (3, .long zB), (5, .long zC)] := hl
  refine lv_aload_n hx hb dX5_init_0 rfl (lv_at hl 0 rfl) ?_
  refine W.objInit hx hb hown (hts (.methodLink RX5 1 objectInit) (by decide +kernel)) (hts (.instanceMethod objectInit) (by decide +kernel)) (hts (.code objectInit ⟨#[0xb1]⟩ 1 none) (by decide +kernel)) rfl (by rw [hml]; exact hl.1) rfl dX5_init_1 (Nat.le_of_ble_eq_true rfl) (Nat.le_of_ble_eq_true rfl) ?_
  refine W.eq (g2 := F0 m 4 ls []) rfl ?_
  refine lv_aload_n hx hb dX5_init_4 rfl (lv_at hl 0 rfl) ?_
  refine lv_bipush (v := nI 40) hx hb dX5_init_5 (by decide) ?_
  refine bm_newa (atype := .long) (ty := .long) (n := (nI 40)) (a0 := (40, .inr (.inl (fun _ => 0)))) hx hb rfl (hts (.arrayClass .long) (by decide +kernel)) hK hP hD hS hA 0 rfl rfl (by decide) (by decide) (by decide) (Nat.le_of_ble_eq_true rfl) (Nat.le_of_ble_eq_true rfl) dX5_init_7 (fun q_7 H hP hD hS => ?_)
  have hP : va_P D vwCl [(h0, .inr (5, [.int 0, .long 0, .long 0, .int 0, .null, .null, .null, .null, .null, .null, .null, .null, .null, .null, .int 0, .null, .int 0, .null, .null, .null, .int 0, .int 0, .null, .null, .null, .null, .null, .long 0])), (q_7, .inl (cJ, 40, .inr (.inl (fun _ => 0))))] H := hP
  have hD : va_D A [(h0, .inr (5, [.int 0, .long 0, .long 0, .int 0, .null, .null, .null, .null, .null, .null, .null, .null, .null, .null, .int 0, .null, .int 0, .null, .null, .null, .int 0, .int 0, .null, .null, .null, .null, .null, .long 0])), (q_7, .inl (cJ, 40, .inr (.inl (fun _ => 0))))] := hD
  refine va_putF (D := D) (ci := 5) (v := .ref q_7) (ty := (.array .long)) (C := RX5) (T := TX5) (N := 28) hx hb hts (inT inX5) tyX5 tyX5_ok nmX5 hown hK hP hD hS 0 rfl rfl 4 (by decide) (hts (.fieldLink RX5 7 "BoardMovesModel" "wide" "[J") (by decide +kernel)) (fun _ h9 => h9) rfl hin rfl (by decide +kernel) rfl rfl (Nat.le_of_ble_eq_true rfl) dX5_init_9 (fun H locs hP hD hS => ?_)
  have hP : va_P D vwCl [(h0, .inr (5, [.int 0, .long 0, .long 0, .int 0, .ref q_7, .null, .null, .null, .null, .null, .null, .null, .null, .null, .int 0, .null, .int 0, .null, .null, .null, .int 0, .int 0, .null, .null, .null, .null, .null, .long 0])), (q_7, .inl (cJ, 40, .inr (.inl (fun _ => 0))))] H := hP
  have hD : va_D A [(h0, .inr (5, [.int 0, .long 0, .long 0, .int 0, .ref q_7, .null, .null, .null, .null, .null, .null, .null, .null, .null, .int 0, .null, .int 0, .null, .null, .null, .int 0, .int 0, .null, .null, .null, .null, .null, .long 0])), (q_7, .inl (cJ, 40, .inr (.inl (fun _ => 0))))] := hD
  refine lv_aload_n hx hb dX5_init_12 rfl (lv_at hl 0 rfl) ?_
  refine lv_bipush (v := nI 40) hx hb dX5_init_13 (by decide) ?_
  refine bm_newa (atype := .long) (ty := .long) (n := (nI 40)) (a0 := (40, .inr (.inl (fun _ => 0)))) hx hb rfl (hts (.arrayClass .long) (by decide +kernel)) hK hP hD hS hA 0 rfl rfl (by decide) (by decide) (by decide) (Nat.le_of_ble_eq_true rfl) (Nat.le_of_ble_eq_true rfl) dX5_init_15 (fun q_15 H hP hD hS => ?_)
  have hP : va_P D vwCl [(h0, .inr (5, [.int 0, .long 0, .long 0, .int 0, .ref q_7, .null, .null, .null, .null, .null, .null, .null, .null, .null, .int 0, .null, .int 0, .null, .null, .null, .int 0, .int 0, .null, .null, .null, .null, .null, .long 0])), (q_7, .inl (cJ, 40, .inr (.inl (fun _ => 0)))), (q_15, .inl (cJ, 40, .inr (.inl (fun _ => 0))))] H := hP
  have hD : va_D A [(h0, .inr (5, [.int 0, .long 0, .long 0, .int 0, .ref q_7, .null, .null, .null, .null, .null, .null, .null, .null, .null, .int 0, .null, .int 0, .null, .null, .null, .int 0, .int 0, .null, .null, .null, .null, .null, .long 0])), (q_7, .inl (cJ, 40, .inr (.inl (fun _ => 0)))), (q_15, .inl (cJ, 40, .inr (.inl (fun _ => 0))))] := hD
  refine va_putF (D := D) (ci := 5) (v := .ref q_15) (ty := (.array .long)) (C := RX5) (T := TX5) (N := 28) hx hb hts (inT inX5) tyX5 tyX5_ok nmX5 hown hK hP hD hS 0 rfl rfl 5 (by decide) (hts (.fieldLink RX5 13 "BoardMovesModel" "high" "[J") (by decide +kernel)) (fun _ h9 => h9) rfl hin rfl (by decide +kernel) rfl rfl (Nat.le_of_ble_eq_true rfl) dX5_init_17 (fun H locs hP hD hS => ?_)
  have hP : va_P D vwCl [(h0, .inr (5, [.int 0, .long 0, .long 0, .int 0, .ref q_7, .ref q_15, .null, .null, .null, .null, .null, .null, .null, .null, .int 0, .null, .int 0, .null, .null, .null, .int 0, .int 0, .null, .null, .null, .null, .null, .long 0])), (q_7, .inl (cJ, 40, .inr (.inl (fun _ => 0)))), (q_15, .inl (cJ, 40, .inr (.inl (fun _ => 0))))] H := hP
  have hD : va_D A [(h0, .inr (5, [.int 0, .long 0, .long 0, .int 0, .ref q_7, .ref q_15, .null, .null, .null, .null, .null, .null, .null, .null, .int 0, .null, .int 0, .null, .null, .null, .int 0, .int 0, .null, .null, .null, .null, .null, .long 0])), (q_7, .inl (cJ, 40, .inr (.inl (fun _ => 0)))), (q_15, .inl (cJ, 40, .inr (.inl (fun _ => 0))))] := hD
  refine lv_aload_n hx hb dX5_init_20 rfl (lv_at hl 0 rfl) ?_
  refine lv_bipush (v := nI 40) hx hb dX5_init_21 (by decide) ?_
  refine bm_newa (atype := .int) (ty := .int) (n := (nI 40)) (a0 := (40, .inl (fun _ => nI 0))) hx hb rfl (hts (.arrayClass .int) (by decide +kernel)) hK hP hD hS hA 1 rfl rfl (by decide) (by decide) (by decide) (Nat.le_of_ble_eq_true rfl) (Nat.le_of_ble_eq_true rfl) dX5_init_23 (fun q_23 H hP hD hS => ?_)
  have hP : va_P D vwCl [(h0, .inr (5, [.int 0, .long 0, .long 0, .int 0, .ref q_7, .ref q_15, .null, .null, .null, .null, .null, .null, .null, .null, .int 0, .null, .int 0, .null, .null, .null, .int 0, .int 0, .null, .null, .null, .null, .null, .long 0])), (q_7, .inl (cJ, 40, .inr (.inl (fun _ => 0)))), (q_15, .inl (cJ, 40, .inr (.inl (fun _ => 0)))), (q_23, .inl (cI, 40, .inl (fun _ => nI 0)))] H := hP
  have hD : va_D A [(h0, .inr (5, [.int 0, .long 0, .long 0, .int 0, .ref q_7, .ref q_15, .null, .null, .null, .null, .null, .null, .null, .null, .int 0, .null, .int 0, .null, .null, .null, .int 0, .int 0, .null, .null, .null, .null, .null, .long 0])), (q_7, .inl (cJ, 40, .inr (.inl (fun _ => 0)))), (q_15, .inl (cJ, 40, .inr (.inl (fun _ => 0)))), (q_23, .inl (cI, 40, .inl (fun _ => nI 0)))] := hD
  refine va_putF (D := D) (ci := 5) (v := .ref q_23) (ty := (.array .int)) (C := RX5) (T := TX5) (N := 28) hx hb hts (inT inX5) tyX5 tyX5_ok nmX5 hown hK hP hD hS 0 rfl rfl 6 (by decide) (hts (.fieldLink RX5 16 "BoardMovesModel" "sides" "[I") (by decide +kernel)) (fun _ h9 => h9) rfl hin rfl (by decide +kernel) rfl rfl (Nat.le_of_ble_eq_true rfl) dX5_init_25 (fun H locs hP hD hS => ?_)
  have hP : va_P D vwCl [(h0, .inr (5, [.int 0, .long 0, .long 0, .int 0, .ref q_7, .ref q_15, .ref q_23, .null, .null, .null, .null, .null, .null, .null, .int 0, .null, .int 0, .null, .null, .null, .int 0, .int 0, .null, .null, .null, .null, .null, .long 0])), (q_7, .inl (cJ, 40, .inr (.inl (fun _ => 0)))), (q_15, .inl (cJ, 40, .inr (.inl (fun _ => 0)))), (q_23, .inl (cI, 40, .inl (fun _ => nI 0)))] H := hP
  have hD : va_D A [(h0, .inr (5, [.int 0, .long 0, .long 0, .int 0, .ref q_7, .ref q_15, .ref q_23, .null, .null, .null, .null, .null, .null, .null, .int 0, .null, .int 0, .null, .null, .null, .int 0, .int 0, .null, .null, .null, .null, .null, .long 0])), (q_7, .inl (cJ, 40, .inr (.inl (fun _ => 0)))), (q_15, .inl (cJ, 40, .inr (.inl (fun _ => 0)))), (q_23, .inl (cI, 40, .inl (fun _ => nI 0)))] := hD
  refine lv_aload_n hx hb dX5_init_28 rfl (lv_at hl 0 rfl) ?_
  refine lv_bipush (v := nI 40) hx hb dX5_init_29 (by decide) ?_
  refine bm_newa (atype := .long) (ty := .long) (n := (nI 40)) (a0 := (40, .inr (.inl (fun _ => 0)))) hx hb rfl (hts (.arrayClass .long) (by decide +kernel)) hK hP hD hS hA 0 rfl rfl (by decide) (by decide) (by decide) (Nat.le_of_ble_eq_true rfl) (Nat.le_of_ble_eq_true rfl) dX5_init_31 (fun q_31 H hP hD hS => ?_)
  have hP : va_P D vwCl [(h0, .inr (5, [.int 0, .long 0, .long 0, .int 0, .ref q_7, .ref q_15, .ref q_23, .null, .null, .null, .null, .null, .null, .null, .int 0, .null, .int 0, .null, .null, .null, .int 0, .int 0, .null, .null, .null, .null, .null, .long 0])), (q_7, .inl (cJ, 40, .inr (.inl (fun _ => 0)))), (q_15, .inl (cJ, 40, .inr (.inl (fun _ => 0)))), (q_23, .inl (cI, 40, .inl (fun _ => nI 0))), (q_31, .inl (cJ, 40, .inr (.inl (fun _ => 0))))] H := hP
  have hD : va_D A [(h0, .inr (5, [.int 0, .long 0, .long 0, .int 0, .ref q_7, .ref q_15, .ref q_23, .null, .null, .null, .null, .null, .null, .null, .int 0, .null, .int 0, .null, .null, .null, .int 0, .int 0, .null, .null, .null, .null, .null, .long 0])), (q_7, .inl (cJ, 40, .inr (.inl (fun _ => 0)))), (q_15, .inl (cJ, 40, .inr (.inl (fun _ => 0)))), (q_23, .inl (cI, 40, .inl (fun _ => nI 0))), (q_31, .inl (cJ, 40, .inr (.inl (fun _ => 0))))] := hD
  refine va_putF (D := D) (ci := 5) (v := .ref q_31) (ty := (.array .long)) (C := RX5) (T := TX5) (N := 28) hx hb hts (inT inX5) tyX5 tyX5_ok nmX5 hown hK hP hD hS 0 rfl rfl 7 (by decide) (hts (.fieldLink RX5 20 "BoardMovesModel" "heights" "[J") (by decide +kernel)) (fun _ h9 => h9) rfl hin rfl (by decide +kernel) rfl rfl (Nat.le_of_ble_eq_true rfl) dX5_init_33 (fun H locs hP hD hS => ?_)
  have hP : va_P D vwCl [(h0, .inr (5, [.int 0, .long 0, .long 0, .int 0, .ref q_7, .ref q_15, .ref q_23, .ref q_31, .null, .null, .null, .null, .null, .null, .int 0, .null, .int 0, .null, .null, .null, .int 0, .int 0, .null, .null, .null, .null, .null, .long 0])), (q_7, .inl (cJ, 40, .inr (.inl (fun _ => 0)))), (q_15, .inl (cJ, 40, .inr (.inl (fun _ => 0)))), (q_23, .inl (cI, 40, .inl (fun _ => nI 0))), (q_31, .inl (cJ, 40, .inr (.inl (fun _ => 0))))] H := hP
  have hD : va_D A [(h0, .inr (5, [.int 0, .long 0, .long 0, .int 0, .ref q_7, .ref q_15, .ref q_23, .ref q_31, .null, .null, .null, .null, .null, .null, .int 0, .null, .int 0, .null, .null, .null, .int 0, .int 0, .null, .null, .null, .null, .null, .long 0])), (q_7, .inl (cJ, 40, .inr (.inl (fun _ => 0)))), (q_15, .inl (cJ, 40, .inr (.inl (fun _ => 0)))), (q_23, .inl (cI, 40, .inl (fun _ => nI 0))), (q_31, .inl (cJ, 40, .inr (.inl (fun _ => 0))))] := hD
  refine lv_aload_n hx hb dX5_init_36 rfl (lv_at hl 0 rfl) ?_
  refine lv_bipush (v := nI 40) hx hb dX5_init_37 (by decide) ?_
  refine bm_newa (atype := .boolean) (ty := .boolean) (n := (nI 40)) (a0 := (40, .inl (fun _ => bm_b false))) hx hb rfl (hts (.arrayClass .boolean) (by decide +kernel)) hK hP hD hS hA 2 rfl rfl (by decide) (by decide) (by decide) (Nat.le_of_ble_eq_true rfl) (Nat.le_of_ble_eq_true rfl) dX5_init_39 (fun q_39 H hP hD hS => ?_)
  have hP : va_P D vwCl [(h0, .inr (5, [.int 0, .long 0, .long 0, .int 0, .ref q_7, .ref q_15, .ref q_23, .ref q_31, .null, .null, .null, .null, .null, .null, .int 0, .null, .int 0, .null, .null, .null, .int 0, .int 0, .null, .null, .null, .null, .null, .long 0])), (q_7, .inl (cJ, 40, .inr (.inl (fun _ => 0)))), (q_15, .inl (cJ, 40, .inr (.inl (fun _ => 0)))), (q_23, .inl (cI, 40, .inl (fun _ => nI 0))), (q_31, .inl (cJ, 40, .inr (.inl (fun _ => 0)))), (q_39, .inl (cZ, 40, .inl (fun _ => bm_b false)))] H := hP
  have hD : va_D A [(h0, .inr (5, [.int 0, .long 0, .long 0, .int 0, .ref q_7, .ref q_15, .ref q_23, .ref q_31, .null, .null, .null, .null, .null, .null, .int 0, .null, .int 0, .null, .null, .null, .int 0, .int 0, .null, .null, .null, .null, .null, .long 0])), (q_7, .inl (cJ, 40, .inr (.inl (fun _ => 0)))), (q_15, .inl (cJ, 40, .inr (.inl (fun _ => 0)))), (q_23, .inl (cI, 40, .inl (fun _ => nI 0))), (q_31, .inl (cJ, 40, .inr (.inl (fun _ => 0)))), (q_39, .inl (cZ, 40, .inl (fun _ => bm_b false)))] := hD
  refine va_putF (D := D) (ci := 5) (v := .ref q_39) (ty := (.array .boolean)) (C := RX5) (T := TX5) (N := 28) hx hb hts (inT inX5) tyX5 tyX5_ok nmX5 hown hK hP hD hS 0 rfl rfl 8 (by decide) (hts (.fieldLink RX5 23 "BoardMovesModel" "locked" "[Z") (by decide +kernel)) (fun _ h9 => h9) rfl hin rfl (by decide +kernel) rfl rfl (Nat.le_of_ble_eq_true rfl) dX5_init_41 (fun H locs hP hD hS => ?_)
  have hP : va_P D vwCl [(h0, .inr (5, [.int 0, .long 0, .long 0, .int 0, .ref q_7, .ref q_15, .ref q_23, .ref q_31, .ref q_39, .null, .null, .null, .null, .null, .int 0, .null, .int 0, .null, .null, .null, .int 0, .int 0, .null, .null, .null, .null, .null, .long 0])), (q_7, .inl (cJ, 40, .inr (.inl (fun _ => 0)))), (q_15, .inl (cJ, 40, .inr (.inl (fun _ => 0)))), (q_23, .inl (cI, 40, .inl (fun _ => nI 0))), (q_31, .inl (cJ, 40, .inr (.inl (fun _ => 0)))), (q_39, .inl (cZ, 40, .inl (fun _ => bm_b false)))] H := hP
  have hD : va_D A [(h0, .inr (5, [.int 0, .long 0, .long 0, .int 0, .ref q_7, .ref q_15, .ref q_23, .ref q_31, .ref q_39, .null, .null, .null, .null, .null, .int 0, .null, .int 0, .null, .null, .null, .int 0, .int 0, .null, .null, .null, .null, .null, .long 0])), (q_7, .inl (cJ, 40, .inr (.inl (fun _ => 0)))), (q_15, .inl (cJ, 40, .inr (.inl (fun _ => 0)))), (q_23, .inl (cI, 40, .inl (fun _ => nI 0))), (q_31, .inl (cJ, 40, .inr (.inl (fun _ => 0)))), (q_39, .inl (cZ, 40, .inl (fun _ => bm_b false)))] := hD
  refine lv_aload_n hx hb dX5_init_44 rfl (lv_at hl 0 rfl) ?_
  refine lv_bipush (v := nI 40) hx hb dX5_init_45 (by decide) ?_
  refine bm_newa (atype := .int) (ty := .int) (n := (nI 40)) (a0 := (40, .inl (fun _ => nI 0))) hx hb rfl (hts (.arrayClass .int) (by decide +kernel)) hK hP hD hS hA 1 rfl rfl (by decide) (by decide) (by decide) (Nat.le_of_ble_eq_true rfl) (Nat.le_of_ble_eq_true rfl) dX5_init_47 (fun q_47 H hP hD hS => ?_)
  have hP : va_P D vwCl [(h0, .inr (5, [.int 0, .long 0, .long 0, .int 0, .ref q_7, .ref q_15, .ref q_23, .ref q_31, .ref q_39, .null, .null, .null, .null, .null, .int 0, .null, .int 0, .null, .null, .null, .int 0, .int 0, .null, .null, .null, .null, .null, .long 0])), (q_7, .inl (cJ, 40, .inr (.inl (fun _ => 0)))), (q_15, .inl (cJ, 40, .inr (.inl (fun _ => 0)))), (q_23, .inl (cI, 40, .inl (fun _ => nI 0))), (q_31, .inl (cJ, 40, .inr (.inl (fun _ => 0)))), (q_39, .inl (cZ, 40, .inl (fun _ => bm_b false))), (q_47, .inl (cI, 40, .inl (fun _ => nI 0)))] H := hP
  have hD : va_D A [(h0, .inr (5, [.int 0, .long 0, .long 0, .int 0, .ref q_7, .ref q_15, .ref q_23, .ref q_31, .ref q_39, .null, .null, .null, .null, .null, .int 0, .null, .int 0, .null, .null, .null, .int 0, .int 0, .null, .null, .null, .null, .null, .long 0])), (q_7, .inl (cJ, 40, .inr (.inl (fun _ => 0)))), (q_15, .inl (cJ, 40, .inr (.inl (fun _ => 0)))), (q_23, .inl (cI, 40, .inl (fun _ => nI 0))), (q_31, .inl (cJ, 40, .inr (.inl (fun _ => 0)))), (q_39, .inl (cZ, 40, .inl (fun _ => bm_b false))), (q_47, .inl (cI, 40, .inl (fun _ => nI 0)))] := hD
  refine va_putF (D := D) (ci := 5) (v := .ref q_47) (ty := (.array .int)) (C := RX5) (T := TX5) (N := 28) hx hb hts (inT inX5) tyX5 tyX5_ok nmX5 hown hK hP hD hS 0 rfl rfl 9 (by decide) (hts (.fieldLink RX5 27 "BoardMovesModel" "groups" "[I") (by decide +kernel)) (fun _ h9 => h9) rfl hin rfl (by decide +kernel) rfl rfl (Nat.le_of_ble_eq_true rfl) dX5_init_49 (fun H locs hP hD hS => ?_)
  have hP : va_P D vwCl [(h0, .inr (5, [.int 0, .long 0, .long 0, .int 0, .ref q_7, .ref q_15, .ref q_23, .ref q_31, .ref q_39, .ref q_47, .null, .null, .null, .null, .int 0, .null, .int 0, .null, .null, .null, .int 0, .int 0, .null, .null, .null, .null, .null, .long 0])), (q_7, .inl (cJ, 40, .inr (.inl (fun _ => 0)))), (q_15, .inl (cJ, 40, .inr (.inl (fun _ => 0)))), (q_23, .inl (cI, 40, .inl (fun _ => nI 0))), (q_31, .inl (cJ, 40, .inr (.inl (fun _ => 0)))), (q_39, .inl (cZ, 40, .inl (fun _ => bm_b false))), (q_47, .inl (cI, 40, .inl (fun _ => nI 0)))] H := hP
  have hD : va_D A [(h0, .inr (5, [.int 0, .long 0, .long 0, .int 0, .ref q_7, .ref q_15, .ref q_23, .ref q_31, .ref q_39, .ref q_47, .null, .null, .null, .null, .int 0, .null, .int 0, .null, .null, .null, .int 0, .int 0, .null, .null, .null, .null, .null, .long 0])), (q_7, .inl (cJ, 40, .inr (.inl (fun _ => 0)))), (q_15, .inl (cJ, 40, .inr (.inl (fun _ => 0)))), (q_23, .inl (cI, 40, .inl (fun _ => nI 0))), (q_31, .inl (cJ, 40, .inr (.inl (fun _ => 0)))), (q_39, .inl (cZ, 40, .inl (fun _ => bm_b false))), (q_47, .inl (cI, 40, .inl (fun _ => nI 0)))] := hD
  refine lv_aload_n hx hb dX5_init_52 rfl (lv_at hl 0 rfl) ?_
  refine lv_bipush (v := nI 40) hx hb dX5_init_53 (by decide) ?_
  refine bm_newa (atype := .boolean) (ty := .boolean) (n := (nI 40)) (a0 := (40, .inl (fun _ => bm_b false))) hx hb rfl (hts (.arrayClass .boolean) (by decide +kernel)) hK hP hD hS hA 2 rfl rfl (by decide) (by decide) (by decide) (Nat.le_of_ble_eq_true rfl) (Nat.le_of_ble_eq_true rfl) dX5_init_55 (fun q_55 H hP hD hS => ?_)
  have hP : va_P D vwCl [(h0, .inr (5, [.int 0, .long 0, .long 0, .int 0, .ref q_7, .ref q_15, .ref q_23, .ref q_31, .ref q_39, .ref q_47, .null, .null, .null, .null, .int 0, .null, .int 0, .null, .null, .null, .int 0, .int 0, .null, .null, .null, .null, .null, .long 0])), (q_7, .inl (cJ, 40, .inr (.inl (fun _ => 0)))), (q_15, .inl (cJ, 40, .inr (.inl (fun _ => 0)))), (q_23, .inl (cI, 40, .inl (fun _ => nI 0))), (q_31, .inl (cJ, 40, .inr (.inl (fun _ => 0)))), (q_39, .inl (cZ, 40, .inl (fun _ => bm_b false))), (q_47, .inl (cI, 40, .inl (fun _ => nI 0))), (q_55, .inl (cZ, 40, .inl (fun _ => bm_b false)))] H := hP
  have hD : va_D A [(h0, .inr (5, [.int 0, .long 0, .long 0, .int 0, .ref q_7, .ref q_15, .ref q_23, .ref q_31, .ref q_39, .ref q_47, .null, .null, .null, .null, .int 0, .null, .int 0, .null, .null, .null, .int 0, .int 0, .null, .null, .null, .null, .null, .long 0])), (q_7, .inl (cJ, 40, .inr (.inl (fun _ => 0)))), (q_15, .inl (cJ, 40, .inr (.inl (fun _ => 0)))), (q_23, .inl (cI, 40, .inl (fun _ => nI 0))), (q_31, .inl (cJ, 40, .inr (.inl (fun _ => 0)))), (q_39, .inl (cZ, 40, .inl (fun _ => bm_b false))), (q_47, .inl (cI, 40, .inl (fun _ => nI 0))), (q_55, .inl (cZ, 40, .inl (fun _ => bm_b false)))] := hD
  refine va_putF (D := D) (ci := 5) (v := .ref q_55) (ty := (.array .boolean)) (C := RX5) (T := TX5) (N := 28) hx hb hts (inT inX5) tyX5 tyX5_ok nmX5 hown hK hP hD hS 0 rfl rfl 10 (by decide) (hts (.fieldLink RX5 30 "BoardMovesModel" "placed" "[Z") (by decide +kernel)) (fun _ h9 => h9) rfl hin rfl (by decide +kernel) rfl rfl (Nat.le_of_ble_eq_true rfl) dX5_init_57 (fun H locs hP hD hS => ?_)
  have hP : va_P D vwCl [(h0, .inr (5, [.int 0, .long 0, .long 0, .int 0, .ref q_7, .ref q_15, .ref q_23, .ref q_31, .ref q_39, .ref q_47, .ref q_55, .null, .null, .null, .int 0, .null, .int 0, .null, .null, .null, .int 0, .int 0, .null, .null, .null, .null, .null, .long 0])), (q_7, .inl (cJ, 40, .inr (.inl (fun _ => 0)))), (q_15, .inl (cJ, 40, .inr (.inl (fun _ => 0)))), (q_23, .inl (cI, 40, .inl (fun _ => nI 0))), (q_31, .inl (cJ, 40, .inr (.inl (fun _ => 0)))), (q_39, .inl (cZ, 40, .inl (fun _ => bm_b false))), (q_47, .inl (cI, 40, .inl (fun _ => nI 0))), (q_55, .inl (cZ, 40, .inl (fun _ => bm_b false)))] H := hP
  have hD : va_D A [(h0, .inr (5, [.int 0, .long 0, .long 0, .int 0, .ref q_7, .ref q_15, .ref q_23, .ref q_31, .ref q_39, .ref q_47, .ref q_55, .null, .null, .null, .int 0, .null, .int 0, .null, .null, .null, .int 0, .int 0, .null, .null, .null, .null, .null, .long 0])), (q_7, .inl (cJ, 40, .inr (.inl (fun _ => 0)))), (q_15, .inl (cJ, 40, .inr (.inl (fun _ => 0)))), (q_23, .inl (cI, 40, .inl (fun _ => nI 0))), (q_31, .inl (cJ, 40, .inr (.inl (fun _ => 0)))), (q_39, .inl (cZ, 40, .inl (fun _ => bm_b false))), (q_47, .inl (cI, 40, .inl (fun _ => nI 0))), (q_55, .inl (cZ, 40, .inl (fun _ => bm_b false)))] := hD
  refine lv_aload_n hx hb dX5_init_60 rfl (lv_at hl 0 rfl) ?_
  refine lv_bipush (v := nI 120) hx hb dX5_init_61 (by decide) ?_
  refine bm_newa (atype := .long) (ty := .long) (n := (nI 120)) (a0 := (120, .inr (.inl (fun _ => 0)))) hx hb rfl (hts (.arrayClass .long) (by decide +kernel)) hK hP hD hS hA 0 rfl rfl (by decide) (by decide) (by decide) (Nat.le_of_ble_eq_true rfl) (Nat.le_of_ble_eq_true rfl) dX5_init_63 (fun q_63 H hP hD hS => ?_)
  have hP : va_P D vwCl [(h0, .inr (5, [.int 0, .long 0, .long 0, .int 0, .ref q_7, .ref q_15, .ref q_23, .ref q_31, .ref q_39, .ref q_47, .ref q_55, .null, .null, .null, .int 0, .null, .int 0, .null, .null, .null, .int 0, .int 0, .null, .null, .null, .null, .null, .long 0])), (q_7, .inl (cJ, 40, .inr (.inl (fun _ => 0)))), (q_15, .inl (cJ, 40, .inr (.inl (fun _ => 0)))), (q_23, .inl (cI, 40, .inl (fun _ => nI 0))), (q_31, .inl (cJ, 40, .inr (.inl (fun _ => 0)))), (q_39, .inl (cZ, 40, .inl (fun _ => bm_b false))), (q_47, .inl (cI, 40, .inl (fun _ => nI 0))), (q_55, .inl (cZ, 40, .inl (fun _ => bm_b false))), (q_63, .inl (cJ, 120, .inr (.inl (fun _ => 0))))] H := hP
  have hD : va_D A [(h0, .inr (5, [.int 0, .long 0, .long 0, .int 0, .ref q_7, .ref q_15, .ref q_23, .ref q_31, .ref q_39, .ref q_47, .ref q_55, .null, .null, .null, .int 0, .null, .int 0, .null, .null, .null, .int 0, .int 0, .null, .null, .null, .null, .null, .long 0])), (q_7, .inl (cJ, 40, .inr (.inl (fun _ => 0)))), (q_15, .inl (cJ, 40, .inr (.inl (fun _ => 0)))), (q_23, .inl (cI, 40, .inl (fun _ => nI 0))), (q_31, .inl (cJ, 40, .inr (.inl (fun _ => 0)))), (q_39, .inl (cZ, 40, .inl (fun _ => bm_b false))), (q_47, .inl (cI, 40, .inl (fun _ => nI 0))), (q_55, .inl (cZ, 40, .inl (fun _ => bm_b false))), (q_63, .inl (cJ, 120, .inr (.inl (fun _ => 0))))] := hD
  refine va_putF (D := D) (ci := 5) (v := .ref q_63) (ty := (.array .long)) (C := RX5) (T := TX5) (N := 28) hx hb hts (inT inX5) tyX5 tyX5_ok nmX5 hown hK hP hD hS 0 rfl rfl 11 (by decide) (hts (.fieldLink RX5 33 "BoardMovesModel" "x" "[J") (by decide +kernel)) (fun _ h9 => h9) rfl hin rfl (by decide +kernel) rfl rfl (Nat.le_of_ble_eq_true rfl) dX5_init_65 (fun H locs hP hD hS => ?_)
  have hP : va_P D vwCl [(h0, .inr (5, [.int 0, .long 0, .long 0, .int 0, .ref q_7, .ref q_15, .ref q_23, .ref q_31, .ref q_39, .ref q_47, .ref q_55, .ref q_63, .null, .null, .int 0, .null, .int 0, .null, .null, .null, .int 0, .int 0, .null, .null, .null, .null, .null, .long 0])), (q_7, .inl (cJ, 40, .inr (.inl (fun _ => 0)))), (q_15, .inl (cJ, 40, .inr (.inl (fun _ => 0)))), (q_23, .inl (cI, 40, .inl (fun _ => nI 0))), (q_31, .inl (cJ, 40, .inr (.inl (fun _ => 0)))), (q_39, .inl (cZ, 40, .inl (fun _ => bm_b false))), (q_47, .inl (cI, 40, .inl (fun _ => nI 0))), (q_55, .inl (cZ, 40, .inl (fun _ => bm_b false))), (q_63, .inl (cJ, 120, .inr (.inl (fun _ => 0))))] H := hP
  have hD : va_D A [(h0, .inr (5, [.int 0, .long 0, .long 0, .int 0, .ref q_7, .ref q_15, .ref q_23, .ref q_31, .ref q_39, .ref q_47, .ref q_55, .ref q_63, .null, .null, .int 0, .null, .int 0, .null, .null, .null, .int 0, .int 0, .null, .null, .null, .null, .null, .long 0])), (q_7, .inl (cJ, 40, .inr (.inl (fun _ => 0)))), (q_15, .inl (cJ, 40, .inr (.inl (fun _ => 0)))), (q_23, .inl (cI, 40, .inl (fun _ => nI 0))), (q_31, .inl (cJ, 40, .inr (.inl (fun _ => 0)))), (q_39, .inl (cZ, 40, .inl (fun _ => bm_b false))), (q_47, .inl (cI, 40, .inl (fun _ => nI 0))), (q_55, .inl (cZ, 40, .inl (fun _ => bm_b false))), (q_63, .inl (cJ, 120, .inr (.inl (fun _ => 0))))] := hD
  refine lv_aload_n hx hb dX5_init_68 rfl (lv_at hl 0 rfl) ?_
  refine lv_bipush (v := nI 120) hx hb dX5_init_69 (by decide) ?_
  refine bm_newa (atype := .long) (ty := .long) (n := (nI 120)) (a0 := (120, .inr (.inl (fun _ => 0)))) hx hb rfl (hts (.arrayClass .long) (by decide +kernel)) hK hP hD hS hA 0 rfl rfl (by decide) (by decide) (by decide) (Nat.le_of_ble_eq_true rfl) (Nat.le_of_ble_eq_true rfl) dX5_init_71 (fun q_71 H hP hD hS => ?_)
  have hP : va_P D vwCl [(h0, .inr (5, [.int 0, .long 0, .long 0, .int 0, .ref q_7, .ref q_15, .ref q_23, .ref q_31, .ref q_39, .ref q_47, .ref q_55, .ref q_63, .null, .null, .int 0, .null, .int 0, .null, .null, .null, .int 0, .int 0, .null, .null, .null, .null, .null, .long 0])), (q_7, .inl (cJ, 40, .inr (.inl (fun _ => 0)))), (q_15, .inl (cJ, 40, .inr (.inl (fun _ => 0)))), (q_23, .inl (cI, 40, .inl (fun _ => nI 0))), (q_31, .inl (cJ, 40, .inr (.inl (fun _ => 0)))), (q_39, .inl (cZ, 40, .inl (fun _ => bm_b false))), (q_47, .inl (cI, 40, .inl (fun _ => nI 0))), (q_55, .inl (cZ, 40, .inl (fun _ => bm_b false))), (q_63, .inl (cJ, 120, .inr (.inl (fun _ => 0)))), (q_71, .inl (cJ, 120, .inr (.inl (fun _ => 0))))] H := hP
  have hD : va_D A [(h0, .inr (5, [.int 0, .long 0, .long 0, .int 0, .ref q_7, .ref q_15, .ref q_23, .ref q_31, .ref q_39, .ref q_47, .ref q_55, .ref q_63, .null, .null, .int 0, .null, .int 0, .null, .null, .null, .int 0, .int 0, .null, .null, .null, .null, .null, .long 0])), (q_7, .inl (cJ, 40, .inr (.inl (fun _ => 0)))), (q_15, .inl (cJ, 40, .inr (.inl (fun _ => 0)))), (q_23, .inl (cI, 40, .inl (fun _ => nI 0))), (q_31, .inl (cJ, 40, .inr (.inl (fun _ => 0)))), (q_39, .inl (cZ, 40, .inl (fun _ => bm_b false))), (q_47, .inl (cI, 40, .inl (fun _ => nI 0))), (q_55, .inl (cZ, 40, .inl (fun _ => bm_b false))), (q_63, .inl (cJ, 120, .inr (.inl (fun _ => 0)))), (q_71, .inl (cJ, 120, .inr (.inl (fun _ => 0))))] := hD
  refine va_putF (D := D) (ci := 5) (v := .ref q_71) (ty := (.array .long)) (C := RX5) (T := TX5) (N := 28) hx hb hts (inT inX5) tyX5 tyX5_ok nmX5 hown hK hP hD hS 0 rfl rfl 12 (by decide) (hts (.fieldLink RX5 36 "BoardMovesModel" "y" "[J") (by decide +kernel)) (fun _ h9 => h9) rfl hin rfl (by decide +kernel) rfl rfl (Nat.le_of_ble_eq_true rfl) dX5_init_73 (fun H locs hP hD hS => ?_)
  have hP : va_P D vwCl [(h0, .inr (5, [.int 0, .long 0, .long 0, .int 0, .ref q_7, .ref q_15, .ref q_23, .ref q_31, .ref q_39, .ref q_47, .ref q_55, .ref q_63, .ref q_71, .null, .int 0, .null, .int 0, .null, .null, .null, .int 0, .int 0, .null, .null, .null, .null, .null, .long 0])), (q_7, .inl (cJ, 40, .inr (.inl (fun _ => 0)))), (q_15, .inl (cJ, 40, .inr (.inl (fun _ => 0)))), (q_23, .inl (cI, 40, .inl (fun _ => nI 0))), (q_31, .inl (cJ, 40, .inr (.inl (fun _ => 0)))), (q_39, .inl (cZ, 40, .inl (fun _ => bm_b false))), (q_47, .inl (cI, 40, .inl (fun _ => nI 0))), (q_55, .inl (cZ, 40, .inl (fun _ => bm_b false))), (q_63, .inl (cJ, 120, .inr (.inl (fun _ => 0)))), (q_71, .inl (cJ, 120, .inr (.inl (fun _ => 0))))] H := hP
  have hD : va_D A [(h0, .inr (5, [.int 0, .long 0, .long 0, .int 0, .ref q_7, .ref q_15, .ref q_23, .ref q_31, .ref q_39, .ref q_47, .ref q_55, .ref q_63, .ref q_71, .null, .int 0, .null, .int 0, .null, .null, .null, .int 0, .int 0, .null, .null, .null, .null, .null, .long 0])), (q_7, .inl (cJ, 40, .inr (.inl (fun _ => 0)))), (q_15, .inl (cJ, 40, .inr (.inl (fun _ => 0)))), (q_23, .inl (cI, 40, .inl (fun _ => nI 0))), (q_31, .inl (cJ, 40, .inr (.inl (fun _ => 0)))), (q_39, .inl (cZ, 40, .inl (fun _ => bm_b false))), (q_47, .inl (cI, 40, .inl (fun _ => nI 0))), (q_55, .inl (cZ, 40, .inl (fun _ => bm_b false))), (q_63, .inl (cJ, 120, .inr (.inl (fun _ => 0)))), (q_71, .inl (cJ, 120, .inr (.inl (fun _ => 0))))] := hD
  refine lv_aload_n hx hb dX5_init_76 rfl (lv_at hl 0 rfl) ?_
  refine lv_bipush (v := nI 120) hx hb dX5_init_77 (by decide) ?_
  refine bm_newa (atype := .int) (ty := .int) (n := (nI 120)) (a0 := (120, .inl (fun _ => nI 0))) hx hb rfl (hts (.arrayClass .int) (by decide +kernel)) hK hP hD hS hA 1 rfl rfl (by decide) (by decide) (by decide) (Nat.le_of_ble_eq_true rfl) (Nat.le_of_ble_eq_true rfl) dX5_init_79 (fun q_79 H hP hD hS => ?_)
  have hP : va_P D vwCl [(h0, .inr (5, [.int 0, .long 0, .long 0, .int 0, .ref q_7, .ref q_15, .ref q_23, .ref q_31, .ref q_39, .ref q_47, .ref q_55, .ref q_63, .ref q_71, .null, .int 0, .null, .int 0, .null, .null, .null, .int 0, .int 0, .null, .null, .null, .null, .null, .long 0])), (q_7, .inl (cJ, 40, .inr (.inl (fun _ => 0)))), (q_15, .inl (cJ, 40, .inr (.inl (fun _ => 0)))), (q_23, .inl (cI, 40, .inl (fun _ => nI 0))), (q_31, .inl (cJ, 40, .inr (.inl (fun _ => 0)))), (q_39, .inl (cZ, 40, .inl (fun _ => bm_b false))), (q_47, .inl (cI, 40, .inl (fun _ => nI 0))), (q_55, .inl (cZ, 40, .inl (fun _ => bm_b false))), (q_63, .inl (cJ, 120, .inr (.inl (fun _ => 0)))), (q_71, .inl (cJ, 120, .inr (.inl (fun _ => 0)))), (q_79, .inl (cI, 120, .inl (fun _ => nI 0)))] H := hP
  have hD : va_D A [(h0, .inr (5, [.int 0, .long 0, .long 0, .int 0, .ref q_7, .ref q_15, .ref q_23, .ref q_31, .ref q_39, .ref q_47, .ref q_55, .ref q_63, .ref q_71, .null, .int 0, .null, .int 0, .null, .null, .null, .int 0, .int 0, .null, .null, .null, .null, .null, .long 0])), (q_7, .inl (cJ, 40, .inr (.inl (fun _ => 0)))), (q_15, .inl (cJ, 40, .inr (.inl (fun _ => 0)))), (q_23, .inl (cI, 40, .inl (fun _ => nI 0))), (q_31, .inl (cJ, 40, .inr (.inl (fun _ => 0)))), (q_39, .inl (cZ, 40, .inl (fun _ => bm_b false))), (q_47, .inl (cI, 40, .inl (fun _ => nI 0))), (q_55, .inl (cZ, 40, .inl (fun _ => bm_b false))), (q_63, .inl (cJ, 120, .inr (.inl (fun _ => 0)))), (q_71, .inl (cJ, 120, .inr (.inl (fun _ => 0)))), (q_79, .inl (cI, 120, .inl (fun _ => nI 0)))] := hD
  refine va_putF (D := D) (ci := 5) (v := .ref q_79) (ty := (.array .int)) (C := RX5) (T := TX5) (N := 28) hx hb hts (inT inX5) tyX5 tyX5_ok nmX5 hown hK hP hD hS 0 rfl rfl 13 (by decide) (hts (.fieldLink RX5 39 "BoardMovesModel" "turns" "[I") (by decide +kernel)) (fun _ h9 => h9) rfl hin rfl (by decide +kernel) rfl rfl (Nat.le_of_ble_eq_true rfl) dX5_init_81 (fun H locs hP hD hS => ?_)
  have hP : va_P D vwCl [(h0, .inr (5, [.int 0, .long 0, .long 0, .int 0, .ref q_7, .ref q_15, .ref q_23, .ref q_31, .ref q_39, .ref q_47, .ref q_55, .ref q_63, .ref q_71, .ref q_79, .int 0, .null, .int 0, .null, .null, .null, .int 0, .int 0, .null, .null, .null, .null, .null, .long 0])), (q_7, .inl (cJ, 40, .inr (.inl (fun _ => 0)))), (q_15, .inl (cJ, 40, .inr (.inl (fun _ => 0)))), (q_23, .inl (cI, 40, .inl (fun _ => nI 0))), (q_31, .inl (cJ, 40, .inr (.inl (fun _ => 0)))), (q_39, .inl (cZ, 40, .inl (fun _ => bm_b false))), (q_47, .inl (cI, 40, .inl (fun _ => nI 0))), (q_55, .inl (cZ, 40, .inl (fun _ => bm_b false))), (q_63, .inl (cJ, 120, .inr (.inl (fun _ => 0)))), (q_71, .inl (cJ, 120, .inr (.inl (fun _ => 0)))), (q_79, .inl (cI, 120, .inl (fun _ => nI 0)))] H := hP
  have hD : va_D A [(h0, .inr (5, [.int 0, .long 0, .long 0, .int 0, .ref q_7, .ref q_15, .ref q_23, .ref q_31, .ref q_39, .ref q_47, .ref q_55, .ref q_63, .ref q_71, .ref q_79, .int 0, .null, .int 0, .null, .null, .null, .int 0, .int 0, .null, .null, .null, .null, .null, .long 0])), (q_7, .inl (cJ, 40, .inr (.inl (fun _ => 0)))), (q_15, .inl (cJ, 40, .inr (.inl (fun _ => 0)))), (q_23, .inl (cI, 40, .inl (fun _ => nI 0))), (q_31, .inl (cJ, 40, .inr (.inl (fun _ => 0)))), (q_39, .inl (cZ, 40, .inl (fun _ => bm_b false))), (q_47, .inl (cI, 40, .inl (fun _ => nI 0))), (q_55, .inl (cZ, 40, .inl (fun _ => bm_b false))), (q_63, .inl (cJ, 120, .inr (.inl (fun _ => 0)))), (q_71, .inl (cJ, 120, .inr (.inl (fun _ => 0)))), (q_79, .inl (cI, 120, .inl (fun _ => nI 0)))] := hD
  refine lv_aload_n hx hb dX5_init_84 rfl (lv_at hl 0 rfl) ?_
  refine lv_bipush (v := nI 50) hx hb dX5_init_85 (by decide) ?_
  refine bm_newa (atype := .long) (ty := .long) (n := (nI 50)) (a0 := (50, .inr (.inl (fun _ => 0)))) hx hb rfl (hts (.arrayClass .long) (by decide +kernel)) hK hP hD hS hA 0 rfl rfl (by decide) (by decide) (by decide) (Nat.le_of_ble_eq_true rfl) (Nat.le_of_ble_eq_true rfl) dX5_init_87 (fun q_87 H hP hD hS => ?_)
  have hP : va_P D vwCl [(h0, .inr (5, [.int 0, .long 0, .long 0, .int 0, .ref q_7, .ref q_15, .ref q_23, .ref q_31, .ref q_39, .ref q_47, .ref q_55, .ref q_63, .ref q_71, .ref q_79, .int 0, .null, .int 0, .null, .null, .null, .int 0, .int 0, .null, .null, .null, .null, .null, .long 0])), (q_7, .inl (cJ, 40, .inr (.inl (fun _ => 0)))), (q_15, .inl (cJ, 40, .inr (.inl (fun _ => 0)))), (q_23, .inl (cI, 40, .inl (fun _ => nI 0))), (q_31, .inl (cJ, 40, .inr (.inl (fun _ => 0)))), (q_39, .inl (cZ, 40, .inl (fun _ => bm_b false))), (q_47, .inl (cI, 40, .inl (fun _ => nI 0))), (q_55, .inl (cZ, 40, .inl (fun _ => bm_b false))), (q_63, .inl (cJ, 120, .inr (.inl (fun _ => 0)))), (q_71, .inl (cJ, 120, .inr (.inl (fun _ => 0)))), (q_79, .inl (cI, 120, .inl (fun _ => nI 0))), (q_87, .inl (cJ, 50, .inr (.inl (fun _ => 0))))] H := hP
  have hD : va_D A [(h0, .inr (5, [.int 0, .long 0, .long 0, .int 0, .ref q_7, .ref q_15, .ref q_23, .ref q_31, .ref q_39, .ref q_47, .ref q_55, .ref q_63, .ref q_71, .ref q_79, .int 0, .null, .int 0, .null, .null, .null, .int 0, .int 0, .null, .null, .null, .null, .null, .long 0])), (q_7, .inl (cJ, 40, .inr (.inl (fun _ => 0)))), (q_15, .inl (cJ, 40, .inr (.inl (fun _ => 0)))), (q_23, .inl (cI, 40, .inl (fun _ => nI 0))), (q_31, .inl (cJ, 40, .inr (.inl (fun _ => 0)))), (q_39, .inl (cZ, 40, .inl (fun _ => bm_b false))), (q_47, .inl (cI, 40, .inl (fun _ => nI 0))), (q_55, .inl (cZ, 40, .inl (fun _ => bm_b false))), (q_63, .inl (cJ, 120, .inr (.inl (fun _ => 0)))), (q_71, .inl (cJ, 120, .inr (.inl (fun _ => 0)))), (q_79, .inl (cI, 120, .inl (fun _ => nI 0))), (q_87, .inl (cJ, 50, .inr (.inl (fun _ => 0))))] := hD
  refine va_putF (D := D) (ci := 5) (v := .ref q_87) (ty := (.array .long)) (C := RX5) (T := TX5) (N := 28) hx hb hts (inT inX5) tyX5 tyX5_ok nmX5 hown hK hP hD hS 0 rfl rfl 15 (by decide) (hts (.fieldLink RX5 42 "BoardMovesModel" "out" "[J") (by decide +kernel)) (fun _ h9 => h9) rfl hin rfl (by decide +kernel) rfl rfl (Nat.le_of_ble_eq_true rfl) dX5_init_89 (fun H locs hP hD hS => ?_)
  have hP : va_P D vwCl [(h0, .inr (5, [.int 0, .long 0, .long 0, .int 0, .ref q_7, .ref q_15, .ref q_23, .ref q_31, .ref q_39, .ref q_47, .ref q_55, .ref q_63, .ref q_71, .ref q_79, .int 0, .ref q_87, .int 0, .null, .null, .null, .int 0, .int 0, .null, .null, .null, .null, .null, .long 0])), (q_7, .inl (cJ, 40, .inr (.inl (fun _ => 0)))), (q_15, .inl (cJ, 40, .inr (.inl (fun _ => 0)))), (q_23, .inl (cI, 40, .inl (fun _ => nI 0))), (q_31, .inl (cJ, 40, .inr (.inl (fun _ => 0)))), (q_39, .inl (cZ, 40, .inl (fun _ => bm_b false))), (q_47, .inl (cI, 40, .inl (fun _ => nI 0))), (q_55, .inl (cZ, 40, .inl (fun _ => bm_b false))), (q_63, .inl (cJ, 120, .inr (.inl (fun _ => 0)))), (q_71, .inl (cJ, 120, .inr (.inl (fun _ => 0)))), (q_79, .inl (cI, 120, .inl (fun _ => nI 0))), (q_87, .inl (cJ, 50, .inr (.inl (fun _ => 0))))] H := hP
  have hD : va_D A [(h0, .inr (5, [.int 0, .long 0, .long 0, .int 0, .ref q_7, .ref q_15, .ref q_23, .ref q_31, .ref q_39, .ref q_47, .ref q_55, .ref q_63, .ref q_71, .ref q_79, .int 0, .ref q_87, .int 0, .null, .null, .null, .int 0, .int 0, .null, .null, .null, .null, .null, .long 0])), (q_7, .inl (cJ, 40, .inr (.inl (fun _ => 0)))), (q_15, .inl (cJ, 40, .inr (.inl (fun _ => 0)))), (q_23, .inl (cI, 40, .inl (fun _ => nI 0))), (q_31, .inl (cJ, 40, .inr (.inl (fun _ => 0)))), (q_39, .inl (cZ, 40, .inl (fun _ => bm_b false))), (q_47, .inl (cI, 40, .inl (fun _ => nI 0))), (q_55, .inl (cZ, 40, .inl (fun _ => bm_b false))), (q_63, .inl (cJ, 120, .inr (.inl (fun _ => 0)))), (q_71, .inl (cJ, 120, .inr (.inl (fun _ => 0)))), (q_79, .inl (cI, 120, .inl (fun _ => nI 0))), (q_87, .inl (cJ, 50, .inr (.inl (fun _ => 0))))] := hD
  refine lv_aload_n hx hb dX5_init_92 rfl (lv_at hl 0 rfl) ?_
  refine lv_bipush (v := nI 20) hx hb dX5_init_93 (by decide) ?_
  refine bm_newa (atype := .int) (ty := .int) (n := (nI 20)) (a0 := (20, .inl (fun _ => nI 0))) hx hb rfl (hts (.arrayClass .int) (by decide +kernel)) hK hP hD hS hA 1 rfl rfl (by decide) (by decide) (by decide) (Nat.le_of_ble_eq_true rfl) (Nat.le_of_ble_eq_true rfl) dX5_init_95 (fun q_95 H hP hD hS => ?_)
  have hP : va_P D vwCl [(h0, .inr (5, [.int 0, .long 0, .long 0, .int 0, .ref q_7, .ref q_15, .ref q_23, .ref q_31, .ref q_39, .ref q_47, .ref q_55, .ref q_63, .ref q_71, .ref q_79, .int 0, .ref q_87, .int 0, .null, .null, .null, .int 0, .int 0, .null, .null, .null, .null, .null, .long 0])), (q_7, .inl (cJ, 40, .inr (.inl (fun _ => 0)))), (q_15, .inl (cJ, 40, .inr (.inl (fun _ => 0)))), (q_23, .inl (cI, 40, .inl (fun _ => nI 0))), (q_31, .inl (cJ, 40, .inr (.inl (fun _ => 0)))), (q_39, .inl (cZ, 40, .inl (fun _ => bm_b false))), (q_47, .inl (cI, 40, .inl (fun _ => nI 0))), (q_55, .inl (cZ, 40, .inl (fun _ => bm_b false))), (q_63, .inl (cJ, 120, .inr (.inl (fun _ => 0)))), (q_71, .inl (cJ, 120, .inr (.inl (fun _ => 0)))), (q_79, .inl (cI, 120, .inl (fun _ => nI 0))), (q_87, .inl (cJ, 50, .inr (.inl (fun _ => 0)))), (q_95, .inl (cI, 20, .inl (fun _ => nI 0)))] H := hP
  have hD : va_D A [(h0, .inr (5, [.int 0, .long 0, .long 0, .int 0, .ref q_7, .ref q_15, .ref q_23, .ref q_31, .ref q_39, .ref q_47, .ref q_55, .ref q_63, .ref q_71, .ref q_79, .int 0, .ref q_87, .int 0, .null, .null, .null, .int 0, .int 0, .null, .null, .null, .null, .null, .long 0])), (q_7, .inl (cJ, 40, .inr (.inl (fun _ => 0)))), (q_15, .inl (cJ, 40, .inr (.inl (fun _ => 0)))), (q_23, .inl (cI, 40, .inl (fun _ => nI 0))), (q_31, .inl (cJ, 40, .inr (.inl (fun _ => 0)))), (q_39, .inl (cZ, 40, .inl (fun _ => bm_b false))), (q_47, .inl (cI, 40, .inl (fun _ => nI 0))), (q_55, .inl (cZ, 40, .inl (fun _ => bm_b false))), (q_63, .inl (cJ, 120, .inr (.inl (fun _ => 0)))), (q_71, .inl (cJ, 120, .inr (.inl (fun _ => 0)))), (q_79, .inl (cI, 120, .inl (fun _ => nI 0))), (q_87, .inl (cJ, 50, .inr (.inl (fun _ => 0)))), (q_95, .inl (cI, 20, .inl (fun _ => nI 0)))] := hD
  refine va_putF (D := D) (ci := 5) (v := .ref q_95) (ty := (.array .int)) (C := RX5) (T := TX5) (N := 28) hx hb hts (inT inX5) tyX5 tyX5_ok nmX5 hown hK hP hD hS 0 rfl rfl 17 (by decide) (hts (.fieldLink RX5 45 "BoardMovesModel" "nearOne" "[I") (by decide +kernel)) (fun _ h9 => h9) rfl hin rfl (by decide +kernel) rfl rfl (Nat.le_of_ble_eq_true rfl) dX5_init_97 (fun H locs hP hD hS => ?_)
  have hP : va_P D vwCl [(h0, .inr (5, [.int 0, .long 0, .long 0, .int 0, .ref q_7, .ref q_15, .ref q_23, .ref q_31, .ref q_39, .ref q_47, .ref q_55, .ref q_63, .ref q_71, .ref q_79, .int 0, .ref q_87, .int 0, .ref q_95, .null, .null, .int 0, .int 0, .null, .null, .null, .null, .null, .long 0])), (q_7, .inl (cJ, 40, .inr (.inl (fun _ => 0)))), (q_15, .inl (cJ, 40, .inr (.inl (fun _ => 0)))), (q_23, .inl (cI, 40, .inl (fun _ => nI 0))), (q_31, .inl (cJ, 40, .inr (.inl (fun _ => 0)))), (q_39, .inl (cZ, 40, .inl (fun _ => bm_b false))), (q_47, .inl (cI, 40, .inl (fun _ => nI 0))), (q_55, .inl (cZ, 40, .inl (fun _ => bm_b false))), (q_63, .inl (cJ, 120, .inr (.inl (fun _ => 0)))), (q_71, .inl (cJ, 120, .inr (.inl (fun _ => 0)))), (q_79, .inl (cI, 120, .inl (fun _ => nI 0))), (q_87, .inl (cJ, 50, .inr (.inl (fun _ => 0)))), (q_95, .inl (cI, 20, .inl (fun _ => nI 0)))] H := hP
  have hD : va_D A [(h0, .inr (5, [.int 0, .long 0, .long 0, .int 0, .ref q_7, .ref q_15, .ref q_23, .ref q_31, .ref q_39, .ref q_47, .ref q_55, .ref q_63, .ref q_71, .ref q_79, .int 0, .ref q_87, .int 0, .ref q_95, .null, .null, .int 0, .int 0, .null, .null, .null, .null, .null, .long 0])), (q_7, .inl (cJ, 40, .inr (.inl (fun _ => 0)))), (q_15, .inl (cJ, 40, .inr (.inl (fun _ => 0)))), (q_23, .inl (cI, 40, .inl (fun _ => nI 0))), (q_31, .inl (cJ, 40, .inr (.inl (fun _ => 0)))), (q_39, .inl (cZ, 40, .inl (fun _ => bm_b false))), (q_47, .inl (cI, 40, .inl (fun _ => nI 0))), (q_55, .inl (cZ, 40, .inl (fun _ => bm_b false))), (q_63, .inl (cJ, 120, .inr (.inl (fun _ => 0)))), (q_71, .inl (cJ, 120, .inr (.inl (fun _ => 0)))), (q_79, .inl (cI, 120, .inl (fun _ => nI 0))), (q_87, .inl (cJ, 50, .inr (.inl (fun _ => 0)))), (q_95, .inl (cI, 20, .inl (fun _ => nI 0)))] := hD
  refine lv_aload_n hx hb dX5_init_100 rfl (lv_at hl 0 rfl) ?_
  refine lv_bipush (v := nI 20) hx hb dX5_init_101 (by decide) ?_
  refine bm_newa (atype := .int) (ty := .int) (n := (nI 20)) (a0 := (20, .inl (fun _ => nI 0))) hx hb rfl (hts (.arrayClass .int) (by decide +kernel)) hK hP hD hS hA 1 rfl rfl (by decide) (by decide) (by decide) (Nat.le_of_ble_eq_true rfl) (Nat.le_of_ble_eq_true rfl) dX5_init_103 (fun q_103 H hP hD hS => ?_)
  have hP : va_P D vwCl [(h0, .inr (5, [.int 0, .long 0, .long 0, .int 0, .ref q_7, .ref q_15, .ref q_23, .ref q_31, .ref q_39, .ref q_47, .ref q_55, .ref q_63, .ref q_71, .ref q_79, .int 0, .ref q_87, .int 0, .ref q_95, .null, .null, .int 0, .int 0, .null, .null, .null, .null, .null, .long 0])), (q_7, .inl (cJ, 40, .inr (.inl (fun _ => 0)))), (q_15, .inl (cJ, 40, .inr (.inl (fun _ => 0)))), (q_23, .inl (cI, 40, .inl (fun _ => nI 0))), (q_31, .inl (cJ, 40, .inr (.inl (fun _ => 0)))), (q_39, .inl (cZ, 40, .inl (fun _ => bm_b false))), (q_47, .inl (cI, 40, .inl (fun _ => nI 0))), (q_55, .inl (cZ, 40, .inl (fun _ => bm_b false))), (q_63, .inl (cJ, 120, .inr (.inl (fun _ => 0)))), (q_71, .inl (cJ, 120, .inr (.inl (fun _ => 0)))), (q_79, .inl (cI, 120, .inl (fun _ => nI 0))), (q_87, .inl (cJ, 50, .inr (.inl (fun _ => 0)))), (q_95, .inl (cI, 20, .inl (fun _ => nI 0))), (q_103, .inl (cI, 20, .inl (fun _ => nI 0)))] H := hP
  have hD : va_D A [(h0, .inr (5, [.int 0, .long 0, .long 0, .int 0, .ref q_7, .ref q_15, .ref q_23, .ref q_31, .ref q_39, .ref q_47, .ref q_55, .ref q_63, .ref q_71, .ref q_79, .int 0, .ref q_87, .int 0, .ref q_95, .null, .null, .int 0, .int 0, .null, .null, .null, .null, .null, .long 0])), (q_7, .inl (cJ, 40, .inr (.inl (fun _ => 0)))), (q_15, .inl (cJ, 40, .inr (.inl (fun _ => 0)))), (q_23, .inl (cI, 40, .inl (fun _ => nI 0))), (q_31, .inl (cJ, 40, .inr (.inl (fun _ => 0)))), (q_39, .inl (cZ, 40, .inl (fun _ => bm_b false))), (q_47, .inl (cI, 40, .inl (fun _ => nI 0))), (q_55, .inl (cZ, 40, .inl (fun _ => bm_b false))), (q_63, .inl (cJ, 120, .inr (.inl (fun _ => 0)))), (q_71, .inl (cJ, 120, .inr (.inl (fun _ => 0)))), (q_79, .inl (cI, 120, .inl (fun _ => nI 0))), (q_87, .inl (cJ, 50, .inr (.inl (fun _ => 0)))), (q_95, .inl (cI, 20, .inl (fun _ => nI 0))), (q_103, .inl (cI, 20, .inl (fun _ => nI 0)))] := hD
  refine va_putF (D := D) (ci := 5) (v := .ref q_103) (ty := (.array .int)) (C := RX5) (T := TX5) (N := 28) hx hb hts (inT inX5) tyX5 tyX5_ok nmX5 hown hK hP hD hS 0 rfl rfl 18 (by decide) (hts (.fieldLink RX5 48 "BoardMovesModel" "nearTwo" "[I") (by decide +kernel)) (fun _ h9 => h9) rfl hin rfl (by decide +kernel) rfl rfl (Nat.le_of_ble_eq_true rfl) dX5_init_105 (fun H locs hP hD hS => ?_)
  have hP : va_P D vwCl [(h0, .inr (5, [.int 0, .long 0, .long 0, .int 0, .ref q_7, .ref q_15, .ref q_23, .ref q_31, .ref q_39, .ref q_47, .ref q_55, .ref q_63, .ref q_71, .ref q_79, .int 0, .ref q_87, .int 0, .ref q_95, .ref q_103, .null, .int 0, .int 0, .null, .null, .null, .null, .null, .long 0])), (q_7, .inl (cJ, 40, .inr (.inl (fun _ => 0)))), (q_15, .inl (cJ, 40, .inr (.inl (fun _ => 0)))), (q_23, .inl (cI, 40, .inl (fun _ => nI 0))), (q_31, .inl (cJ, 40, .inr (.inl (fun _ => 0)))), (q_39, .inl (cZ, 40, .inl (fun _ => bm_b false))), (q_47, .inl (cI, 40, .inl (fun _ => nI 0))), (q_55, .inl (cZ, 40, .inl (fun _ => bm_b false))), (q_63, .inl (cJ, 120, .inr (.inl (fun _ => 0)))), (q_71, .inl (cJ, 120, .inr (.inl (fun _ => 0)))), (q_79, .inl (cI, 120, .inl (fun _ => nI 0))), (q_87, .inl (cJ, 50, .inr (.inl (fun _ => 0)))), (q_95, .inl (cI, 20, .inl (fun _ => nI 0))), (q_103, .inl (cI, 20, .inl (fun _ => nI 0)))] H := hP
  have hD : va_D A [(h0, .inr (5, [.int 0, .long 0, .long 0, .int 0, .ref q_7, .ref q_15, .ref q_23, .ref q_31, .ref q_39, .ref q_47, .ref q_55, .ref q_63, .ref q_71, .ref q_79, .int 0, .ref q_87, .int 0, .ref q_95, .ref q_103, .null, .int 0, .int 0, .null, .null, .null, .null, .null, .long 0])), (q_7, .inl (cJ, 40, .inr (.inl (fun _ => 0)))), (q_15, .inl (cJ, 40, .inr (.inl (fun _ => 0)))), (q_23, .inl (cI, 40, .inl (fun _ => nI 0))), (q_31, .inl (cJ, 40, .inr (.inl (fun _ => 0)))), (q_39, .inl (cZ, 40, .inl (fun _ => bm_b false))), (q_47, .inl (cI, 40, .inl (fun _ => nI 0))), (q_55, .inl (cZ, 40, .inl (fun _ => bm_b false))), (q_63, .inl (cJ, 120, .inr (.inl (fun _ => 0)))), (q_71, .inl (cJ, 120, .inr (.inl (fun _ => 0)))), (q_79, .inl (cI, 120, .inl (fun _ => nI 0))), (q_87, .inl (cJ, 50, .inr (.inl (fun _ => 0)))), (q_95, .inl (cI, 20, .inl (fun _ => nI 0))), (q_103, .inl (cI, 20, .inl (fun _ => nI 0)))] := hD
  refine lv_aload_n hx hb dX5_init_108 rfl (lv_at hl 0 rfl) ?_
  refine lv_bipush (v := nI 20) hx hb dX5_init_109 (by decide) ?_
  refine bm_newa (atype := .long) (ty := .long) (n := (nI 20)) (a0 := (20, .inr (.inl (fun _ => 0)))) hx hb rfl (hts (.arrayClass .long) (by decide +kernel)) hK hP hD hS hA 0 rfl rfl (by decide) (by decide) (by decide) (Nat.le_of_ble_eq_true rfl) (Nat.le_of_ble_eq_true rfl) dX5_init_111 (fun q_111 H hP hD hS => ?_)
  have hP : va_P D vwCl [(h0, .inr (5, [.int 0, .long 0, .long 0, .int 0, .ref q_7, .ref q_15, .ref q_23, .ref q_31, .ref q_39, .ref q_47, .ref q_55, .ref q_63, .ref q_71, .ref q_79, .int 0, .ref q_87, .int 0, .ref q_95, .ref q_103, .null, .int 0, .int 0, .null, .null, .null, .null, .null, .long 0])), (q_7, .inl (cJ, 40, .inr (.inl (fun _ => 0)))), (q_15, .inl (cJ, 40, .inr (.inl (fun _ => 0)))), (q_23, .inl (cI, 40, .inl (fun _ => nI 0))), (q_31, .inl (cJ, 40, .inr (.inl (fun _ => 0)))), (q_39, .inl (cZ, 40, .inl (fun _ => bm_b false))), (q_47, .inl (cI, 40, .inl (fun _ => nI 0))), (q_55, .inl (cZ, 40, .inl (fun _ => bm_b false))), (q_63, .inl (cJ, 120, .inr (.inl (fun _ => 0)))), (q_71, .inl (cJ, 120, .inr (.inl (fun _ => 0)))), (q_79, .inl (cI, 120, .inl (fun _ => nI 0))), (q_87, .inl (cJ, 50, .inr (.inl (fun _ => 0)))), (q_95, .inl (cI, 20, .inl (fun _ => nI 0))), (q_103, .inl (cI, 20, .inl (fun _ => nI 0))), (q_111, .inl (cJ, 20, .inr (.inl (fun _ => 0))))] H := hP
  have hD : va_D A [(h0, .inr (5, [.int 0, .long 0, .long 0, .int 0, .ref q_7, .ref q_15, .ref q_23, .ref q_31, .ref q_39, .ref q_47, .ref q_55, .ref q_63, .ref q_71, .ref q_79, .int 0, .ref q_87, .int 0, .ref q_95, .ref q_103, .null, .int 0, .int 0, .null, .null, .null, .null, .null, .long 0])), (q_7, .inl (cJ, 40, .inr (.inl (fun _ => 0)))), (q_15, .inl (cJ, 40, .inr (.inl (fun _ => 0)))), (q_23, .inl (cI, 40, .inl (fun _ => nI 0))), (q_31, .inl (cJ, 40, .inr (.inl (fun _ => 0)))), (q_39, .inl (cZ, 40, .inl (fun _ => bm_b false))), (q_47, .inl (cI, 40, .inl (fun _ => nI 0))), (q_55, .inl (cZ, 40, .inl (fun _ => bm_b false))), (q_63, .inl (cJ, 120, .inr (.inl (fun _ => 0)))), (q_71, .inl (cJ, 120, .inr (.inl (fun _ => 0)))), (q_79, .inl (cI, 120, .inl (fun _ => nI 0))), (q_87, .inl (cJ, 50, .inr (.inl (fun _ => 0)))), (q_95, .inl (cI, 20, .inl (fun _ => nI 0))), (q_103, .inl (cI, 20, .inl (fun _ => nI 0))), (q_111, .inl (cJ, 20, .inr (.inl (fun _ => 0))))] := hD
  refine va_putF (D := D) (ci := 5) (v := .ref q_111) (ty := (.array .long)) (C := RX5) (T := TX5) (N := 28) hx hb hts (inT inX5) tyX5 tyX5_ok nmX5 hown hK hP hD hS 0 rfl rfl 19 (by decide) (hts (.fieldLink RX5 51 "BoardMovesModel" "nearMost" "[J") (by decide +kernel)) (fun _ h9 => h9) rfl hin rfl (by decide +kernel) rfl rfl (Nat.le_of_ble_eq_true rfl) dX5_init_113 (fun H locs hP hD hS => ?_)
  have hP : va_P D vwCl [(h0, .inr (5, [.int 0, .long 0, .long 0, .int 0, .ref q_7, .ref q_15, .ref q_23, .ref q_31, .ref q_39, .ref q_47, .ref q_55, .ref q_63, .ref q_71, .ref q_79, .int 0, .ref q_87, .int 0, .ref q_95, .ref q_103, .ref q_111, .int 0, .int 0, .null, .null, .null, .null, .null, .long 0])), (q_7, .inl (cJ, 40, .inr (.inl (fun _ => 0)))), (q_15, .inl (cJ, 40, .inr (.inl (fun _ => 0)))), (q_23, .inl (cI, 40, .inl (fun _ => nI 0))), (q_31, .inl (cJ, 40, .inr (.inl (fun _ => 0)))), (q_39, .inl (cZ, 40, .inl (fun _ => bm_b false))), (q_47, .inl (cI, 40, .inl (fun _ => nI 0))), (q_55, .inl (cZ, 40, .inl (fun _ => bm_b false))), (q_63, .inl (cJ, 120, .inr (.inl (fun _ => 0)))), (q_71, .inl (cJ, 120, .inr (.inl (fun _ => 0)))), (q_79, .inl (cI, 120, .inl (fun _ => nI 0))), (q_87, .inl (cJ, 50, .inr (.inl (fun _ => 0)))), (q_95, .inl (cI, 20, .inl (fun _ => nI 0))), (q_103, .inl (cI, 20, .inl (fun _ => nI 0))), (q_111, .inl (cJ, 20, .inr (.inl (fun _ => 0))))] H := hP
  have hD : va_D A [(h0, .inr (5, [.int 0, .long 0, .long 0, .int 0, .ref q_7, .ref q_15, .ref q_23, .ref q_31, .ref q_39, .ref q_47, .ref q_55, .ref q_63, .ref q_71, .ref q_79, .int 0, .ref q_87, .int 0, .ref q_95, .ref q_103, .ref q_111, .int 0, .int 0, .null, .null, .null, .null, .null, .long 0])), (q_7, .inl (cJ, 40, .inr (.inl (fun _ => 0)))), (q_15, .inl (cJ, 40, .inr (.inl (fun _ => 0)))), (q_23, .inl (cI, 40, .inl (fun _ => nI 0))), (q_31, .inl (cJ, 40, .inr (.inl (fun _ => 0)))), (q_39, .inl (cZ, 40, .inl (fun _ => bm_b false))), (q_47, .inl (cI, 40, .inl (fun _ => nI 0))), (q_55, .inl (cZ, 40, .inl (fun _ => bm_b false))), (q_63, .inl (cJ, 120, .inr (.inl (fun _ => 0)))), (q_71, .inl (cJ, 120, .inr (.inl (fun _ => 0)))), (q_79, .inl (cI, 120, .inl (fun _ => nI 0))), (q_87, .inl (cJ, 50, .inr (.inl (fun _ => 0)))), (q_95, .inl (cI, 20, .inl (fun _ => nI 0))), (q_103, .inl (cI, 20, .inl (fun _ => nI 0))), (q_111, .inl (cJ, 20, .inr (.inl (fun _ => 0))))] := hD
  refine lv_aload_n hx hb dX5_init_116 rfl (lv_at hl 0 rfl) ?_
  refine lv_bipush (v := nI 120) hx hb dX5_init_117 (by decide) ?_
  refine bm_newa (atype := .int) (ty := .int) (n := (nI 120)) (a0 := (120, .inl (fun _ => nI 0))) hx hb rfl (hts (.arrayClass .int) (by decide +kernel)) hK hP hD hS hA 1 rfl rfl (by decide) (by decide) (by decide) (Nat.le_of_ble_eq_true rfl) (Nat.le_of_ble_eq_true rfl) dX5_init_119 (fun q_119 H hP hD hS => ?_)
  have hP : va_P D vwCl [(h0, .inr (5, [.int 0, .long 0, .long 0, .int 0, .ref q_7, .ref q_15, .ref q_23, .ref q_31, .ref q_39, .ref q_47, .ref q_55, .ref q_63, .ref q_71, .ref q_79, .int 0, .ref q_87, .int 0, .ref q_95, .ref q_103, .ref q_111, .int 0, .int 0, .null, .null, .null, .null, .null, .long 0])), (q_7, .inl (cJ, 40, .inr (.inl (fun _ => 0)))), (q_15, .inl (cJ, 40, .inr (.inl (fun _ => 0)))), (q_23, .inl (cI, 40, .inl (fun _ => nI 0))), (q_31, .inl (cJ, 40, .inr (.inl (fun _ => 0)))), (q_39, .inl (cZ, 40, .inl (fun _ => bm_b false))), (q_47, .inl (cI, 40, .inl (fun _ => nI 0))), (q_55, .inl (cZ, 40, .inl (fun _ => bm_b false))), (q_63, .inl (cJ, 120, .inr (.inl (fun _ => 0)))), (q_71, .inl (cJ, 120, .inr (.inl (fun _ => 0)))), (q_79, .inl (cI, 120, .inl (fun _ => nI 0))), (q_87, .inl (cJ, 50, .inr (.inl (fun _ => 0)))), (q_95, .inl (cI, 20, .inl (fun _ => nI 0))), (q_103, .inl (cI, 20, .inl (fun _ => nI 0))), (q_111, .inl (cJ, 20, .inr (.inl (fun _ => 0)))), (q_119, .inl (cI, 120, .inl (fun _ => nI 0)))] H := hP
  have hD : va_D A [(h0, .inr (5, [.int 0, .long 0, .long 0, .int 0, .ref q_7, .ref q_15, .ref q_23, .ref q_31, .ref q_39, .ref q_47, .ref q_55, .ref q_63, .ref q_71, .ref q_79, .int 0, .ref q_87, .int 0, .ref q_95, .ref q_103, .ref q_111, .int 0, .int 0, .null, .null, .null, .null, .null, .long 0])), (q_7, .inl (cJ, 40, .inr (.inl (fun _ => 0)))), (q_15, .inl (cJ, 40, .inr (.inl (fun _ => 0)))), (q_23, .inl (cI, 40, .inl (fun _ => nI 0))), (q_31, .inl (cJ, 40, .inr (.inl (fun _ => 0)))), (q_39, .inl (cZ, 40, .inl (fun _ => bm_b false))), (q_47, .inl (cI, 40, .inl (fun _ => nI 0))), (q_55, .inl (cZ, 40, .inl (fun _ => bm_b false))), (q_63, .inl (cJ, 120, .inr (.inl (fun _ => 0)))), (q_71, .inl (cJ, 120, .inr (.inl (fun _ => 0)))), (q_79, .inl (cI, 120, .inl (fun _ => nI 0))), (q_87, .inl (cJ, 50, .inr (.inl (fun _ => 0)))), (q_95, .inl (cI, 20, .inl (fun _ => nI 0))), (q_103, .inl (cI, 20, .inl (fun _ => nI 0))), (q_111, .inl (cJ, 20, .inr (.inl (fun _ => 0)))), (q_119, .inl (cI, 120, .inl (fun _ => nI 0)))] := hD
  refine va_putF (D := D) (ci := 5) (v := .ref q_119) (ty := (.array .int)) (C := RX5) (T := TX5) (N := 28) hx hb hts (inT inX5) tyX5 tyX5_ok nmX5 hown hK hP hD hS 0 rfl rfl 22 (by decide) (hts (.fieldLink RX5 54 "BoardMovesModel" "pinNet" "[I") (by decide +kernel)) (fun _ h9 => h9) rfl hin rfl (by decide +kernel) rfl rfl (Nat.le_of_ble_eq_true rfl) dX5_init_121 (fun H locs hP hD hS => ?_)
  have hP : va_P D vwCl [(h0, .inr (5, [.int 0, .long 0, .long 0, .int 0, .ref q_7, .ref q_15, .ref q_23, .ref q_31, .ref q_39, .ref q_47, .ref q_55, .ref q_63, .ref q_71, .ref q_79, .int 0, .ref q_87, .int 0, .ref q_95, .ref q_103, .ref q_111, .int 0, .int 0, .ref q_119, .null, .null, .null, .null, .long 0])), (q_7, .inl (cJ, 40, .inr (.inl (fun _ => 0)))), (q_15, .inl (cJ, 40, .inr (.inl (fun _ => 0)))), (q_23, .inl (cI, 40, .inl (fun _ => nI 0))), (q_31, .inl (cJ, 40, .inr (.inl (fun _ => 0)))), (q_39, .inl (cZ, 40, .inl (fun _ => bm_b false))), (q_47, .inl (cI, 40, .inl (fun _ => nI 0))), (q_55, .inl (cZ, 40, .inl (fun _ => bm_b false))), (q_63, .inl (cJ, 120, .inr (.inl (fun _ => 0)))), (q_71, .inl (cJ, 120, .inr (.inl (fun _ => 0)))), (q_79, .inl (cI, 120, .inl (fun _ => nI 0))), (q_87, .inl (cJ, 50, .inr (.inl (fun _ => 0)))), (q_95, .inl (cI, 20, .inl (fun _ => nI 0))), (q_103, .inl (cI, 20, .inl (fun _ => nI 0))), (q_111, .inl (cJ, 20, .inr (.inl (fun _ => 0)))), (q_119, .inl (cI, 120, .inl (fun _ => nI 0)))] H := hP
  have hD : va_D A [(h0, .inr (5, [.int 0, .long 0, .long 0, .int 0, .ref q_7, .ref q_15, .ref q_23, .ref q_31, .ref q_39, .ref q_47, .ref q_55, .ref q_63, .ref q_71, .ref q_79, .int 0, .ref q_87, .int 0, .ref q_95, .ref q_103, .ref q_111, .int 0, .int 0, .ref q_119, .null, .null, .null, .null, .long 0])), (q_7, .inl (cJ, 40, .inr (.inl (fun _ => 0)))), (q_15, .inl (cJ, 40, .inr (.inl (fun _ => 0)))), (q_23, .inl (cI, 40, .inl (fun _ => nI 0))), (q_31, .inl (cJ, 40, .inr (.inl (fun _ => 0)))), (q_39, .inl (cZ, 40, .inl (fun _ => bm_b false))), (q_47, .inl (cI, 40, .inl (fun _ => nI 0))), (q_55, .inl (cZ, 40, .inl (fun _ => bm_b false))), (q_63, .inl (cJ, 120, .inr (.inl (fun _ => 0)))), (q_71, .inl (cJ, 120, .inr (.inl (fun _ => 0)))), (q_79, .inl (cI, 120, .inl (fun _ => nI 0))), (q_87, .inl (cJ, 50, .inr (.inl (fun _ => 0)))), (q_95, .inl (cI, 20, .inl (fun _ => nI 0))), (q_103, .inl (cI, 20, .inl (fun _ => nI 0))), (q_111, .inl (cJ, 20, .inr (.inl (fun _ => 0)))), (q_119, .inl (cI, 120, .inl (fun _ => nI 0)))] := hD
  refine lv_aload_n hx hb dX5_init_124 rfl (lv_at hl 0 rfl) ?_
  refine lv_bipush (v := nI 120) hx hb dX5_init_125 (by decide) ?_
  refine bm_newa (atype := .int) (ty := .int) (n := (nI 120)) (a0 := (120, .inl (fun _ => nI 0))) hx hb rfl (hts (.arrayClass .int) (by decide +kernel)) hK hP hD hS hA 1 rfl rfl (by decide) (by decide) (by decide) (Nat.le_of_ble_eq_true rfl) (Nat.le_of_ble_eq_true rfl) dX5_init_127 (fun q_127 H hP hD hS => ?_)
  have hP : va_P D vwCl [(h0, .inr (5, [.int 0, .long 0, .long 0, .int 0, .ref q_7, .ref q_15, .ref q_23, .ref q_31, .ref q_39, .ref q_47, .ref q_55, .ref q_63, .ref q_71, .ref q_79, .int 0, .ref q_87, .int 0, .ref q_95, .ref q_103, .ref q_111, .int 0, .int 0, .ref q_119, .null, .null, .null, .null, .long 0])), (q_7, .inl (cJ, 40, .inr (.inl (fun _ => 0)))), (q_15, .inl (cJ, 40, .inr (.inl (fun _ => 0)))), (q_23, .inl (cI, 40, .inl (fun _ => nI 0))), (q_31, .inl (cJ, 40, .inr (.inl (fun _ => 0)))), (q_39, .inl (cZ, 40, .inl (fun _ => bm_b false))), (q_47, .inl (cI, 40, .inl (fun _ => nI 0))), (q_55, .inl (cZ, 40, .inl (fun _ => bm_b false))), (q_63, .inl (cJ, 120, .inr (.inl (fun _ => 0)))), (q_71, .inl (cJ, 120, .inr (.inl (fun _ => 0)))), (q_79, .inl (cI, 120, .inl (fun _ => nI 0))), (q_87, .inl (cJ, 50, .inr (.inl (fun _ => 0)))), (q_95, .inl (cI, 20, .inl (fun _ => nI 0))), (q_103, .inl (cI, 20, .inl (fun _ => nI 0))), (q_111, .inl (cJ, 20, .inr (.inl (fun _ => 0)))), (q_119, .inl (cI, 120, .inl (fun _ => nI 0))), (q_127, .inl (cI, 120, .inl (fun _ => nI 0)))] H := hP
  have hD : va_D A [(h0, .inr (5, [.int 0, .long 0, .long 0, .int 0, .ref q_7, .ref q_15, .ref q_23, .ref q_31, .ref q_39, .ref q_47, .ref q_55, .ref q_63, .ref q_71, .ref q_79, .int 0, .ref q_87, .int 0, .ref q_95, .ref q_103, .ref q_111, .int 0, .int 0, .ref q_119, .null, .null, .null, .null, .long 0])), (q_7, .inl (cJ, 40, .inr (.inl (fun _ => 0)))), (q_15, .inl (cJ, 40, .inr (.inl (fun _ => 0)))), (q_23, .inl (cI, 40, .inl (fun _ => nI 0))), (q_31, .inl (cJ, 40, .inr (.inl (fun _ => 0)))), (q_39, .inl (cZ, 40, .inl (fun _ => bm_b false))), (q_47, .inl (cI, 40, .inl (fun _ => nI 0))), (q_55, .inl (cZ, 40, .inl (fun _ => bm_b false))), (q_63, .inl (cJ, 120, .inr (.inl (fun _ => 0)))), (q_71, .inl (cJ, 120, .inr (.inl (fun _ => 0)))), (q_79, .inl (cI, 120, .inl (fun _ => nI 0))), (q_87, .inl (cJ, 50, .inr (.inl (fun _ => 0)))), (q_95, .inl (cI, 20, .inl (fun _ => nI 0))), (q_103, .inl (cI, 20, .inl (fun _ => nI 0))), (q_111, .inl (cJ, 20, .inr (.inl (fun _ => 0)))), (q_119, .inl (cI, 120, .inl (fun _ => nI 0))), (q_127, .inl (cI, 120, .inl (fun _ => nI 0)))] := hD
  refine va_putF (D := D) (ci := 5) (v := .ref q_127) (ty := (.array .int)) (C := RX5) (T := TX5) (N := 28) hx hb hts (inT inX5) tyX5 tyX5_ok nmX5 hown hK hP hD hS 0 rfl rfl 23 (by decide) (hts (.fieldLink RX5 57 "BoardMovesModel" "pinPart" "[I") (by decide +kernel)) (fun _ h9 => h9) rfl hin rfl (by decide +kernel) rfl rfl (Nat.le_of_ble_eq_true rfl) dX5_init_129 (fun H locs hP hD hS => ?_)
  have hP : va_P D vwCl [(h0, .inr (5, [.int 0, .long 0, .long 0, .int 0, .ref q_7, .ref q_15, .ref q_23, .ref q_31, .ref q_39, .ref q_47, .ref q_55, .ref q_63, .ref q_71, .ref q_79, .int 0, .ref q_87, .int 0, .ref q_95, .ref q_103, .ref q_111, .int 0, .int 0, .ref q_119, .ref q_127, .null, .null, .null, .long 0])), (q_7, .inl (cJ, 40, .inr (.inl (fun _ => 0)))), (q_15, .inl (cJ, 40, .inr (.inl (fun _ => 0)))), (q_23, .inl (cI, 40, .inl (fun _ => nI 0))), (q_31, .inl (cJ, 40, .inr (.inl (fun _ => 0)))), (q_39, .inl (cZ, 40, .inl (fun _ => bm_b false))), (q_47, .inl (cI, 40, .inl (fun _ => nI 0))), (q_55, .inl (cZ, 40, .inl (fun _ => bm_b false))), (q_63, .inl (cJ, 120, .inr (.inl (fun _ => 0)))), (q_71, .inl (cJ, 120, .inr (.inl (fun _ => 0)))), (q_79, .inl (cI, 120, .inl (fun _ => nI 0))), (q_87, .inl (cJ, 50, .inr (.inl (fun _ => 0)))), (q_95, .inl (cI, 20, .inl (fun _ => nI 0))), (q_103, .inl (cI, 20, .inl (fun _ => nI 0))), (q_111, .inl (cJ, 20, .inr (.inl (fun _ => 0)))), (q_119, .inl (cI, 120, .inl (fun _ => nI 0))), (q_127, .inl (cI, 120, .inl (fun _ => nI 0)))] H := hP
  have hD : va_D A [(h0, .inr (5, [.int 0, .long 0, .long 0, .int 0, .ref q_7, .ref q_15, .ref q_23, .ref q_31, .ref q_39, .ref q_47, .ref q_55, .ref q_63, .ref q_71, .ref q_79, .int 0, .ref q_87, .int 0, .ref q_95, .ref q_103, .ref q_111, .int 0, .int 0, .ref q_119, .ref q_127, .null, .null, .null, .long 0])), (q_7, .inl (cJ, 40, .inr (.inl (fun _ => 0)))), (q_15, .inl (cJ, 40, .inr (.inl (fun _ => 0)))), (q_23, .inl (cI, 40, .inl (fun _ => nI 0))), (q_31, .inl (cJ, 40, .inr (.inl (fun _ => 0)))), (q_39, .inl (cZ, 40, .inl (fun _ => bm_b false))), (q_47, .inl (cI, 40, .inl (fun _ => nI 0))), (q_55, .inl (cZ, 40, .inl (fun _ => bm_b false))), (q_63, .inl (cJ, 120, .inr (.inl (fun _ => 0)))), (q_71, .inl (cJ, 120, .inr (.inl (fun _ => 0)))), (q_79, .inl (cI, 120, .inl (fun _ => nI 0))), (q_87, .inl (cJ, 50, .inr (.inl (fun _ => 0)))), (q_95, .inl (cI, 20, .inl (fun _ => nI 0))), (q_103, .inl (cI, 20, .inl (fun _ => nI 0))), (q_111, .inl (cJ, 20, .inr (.inl (fun _ => 0)))), (q_119, .inl (cI, 120, .inl (fun _ => nI 0))), (q_127, .inl (cI, 120, .inl (fun _ => nI 0)))] := hD
  refine lv_aload_n hx hb dX5_init_132 rfl (lv_at hl 0 rfl) ?_
  refine lv_bipush (v := nI 120) hx hb dX5_init_133 (by decide) ?_
  refine bm_newa (atype := .long) (ty := .long) (n := (nI 120)) (a0 := (120, .inr (.inl (fun _ => 0)))) hx hb rfl (hts (.arrayClass .long) (by decide +kernel)) hK hP hD hS hA 0 rfl rfl (by decide) (by decide) (by decide) (Nat.le_of_ble_eq_true rfl) (Nat.le_of_ble_eq_true rfl) dX5_init_135 (fun q_135 H hP hD hS => ?_)
  have hP : va_P D vwCl [(h0, .inr (5, [.int 0, .long 0, .long 0, .int 0, .ref q_7, .ref q_15, .ref q_23, .ref q_31, .ref q_39, .ref q_47, .ref q_55, .ref q_63, .ref q_71, .ref q_79, .int 0, .ref q_87, .int 0, .ref q_95, .ref q_103, .ref q_111, .int 0, .int 0, .ref q_119, .ref q_127, .null, .null, .null, .long 0])), (q_7, .inl (cJ, 40, .inr (.inl (fun _ => 0)))), (q_15, .inl (cJ, 40, .inr (.inl (fun _ => 0)))), (q_23, .inl (cI, 40, .inl (fun _ => nI 0))), (q_31, .inl (cJ, 40, .inr (.inl (fun _ => 0)))), (q_39, .inl (cZ, 40, .inl (fun _ => bm_b false))), (q_47, .inl (cI, 40, .inl (fun _ => nI 0))), (q_55, .inl (cZ, 40, .inl (fun _ => bm_b false))), (q_63, .inl (cJ, 120, .inr (.inl (fun _ => 0)))), (q_71, .inl (cJ, 120, .inr (.inl (fun _ => 0)))), (q_79, .inl (cI, 120, .inl (fun _ => nI 0))), (q_87, .inl (cJ, 50, .inr (.inl (fun _ => 0)))), (q_95, .inl (cI, 20, .inl (fun _ => nI 0))), (q_103, .inl (cI, 20, .inl (fun _ => nI 0))), (q_111, .inl (cJ, 20, .inr (.inl (fun _ => 0)))), (q_119, .inl (cI, 120, .inl (fun _ => nI 0))), (q_127, .inl (cI, 120, .inl (fun _ => nI 0))), (q_135, .inl (cJ, 120, .inr (.inl (fun _ => 0))))] H := hP
  have hD : va_D A [(h0, .inr (5, [.int 0, .long 0, .long 0, .int 0, .ref q_7, .ref q_15, .ref q_23, .ref q_31, .ref q_39, .ref q_47, .ref q_55, .ref q_63, .ref q_71, .ref q_79, .int 0, .ref q_87, .int 0, .ref q_95, .ref q_103, .ref q_111, .int 0, .int 0, .ref q_119, .ref q_127, .null, .null, .null, .long 0])), (q_7, .inl (cJ, 40, .inr (.inl (fun _ => 0)))), (q_15, .inl (cJ, 40, .inr (.inl (fun _ => 0)))), (q_23, .inl (cI, 40, .inl (fun _ => nI 0))), (q_31, .inl (cJ, 40, .inr (.inl (fun _ => 0)))), (q_39, .inl (cZ, 40, .inl (fun _ => bm_b false))), (q_47, .inl (cI, 40, .inl (fun _ => nI 0))), (q_55, .inl (cZ, 40, .inl (fun _ => bm_b false))), (q_63, .inl (cJ, 120, .inr (.inl (fun _ => 0)))), (q_71, .inl (cJ, 120, .inr (.inl (fun _ => 0)))), (q_79, .inl (cI, 120, .inl (fun _ => nI 0))), (q_87, .inl (cJ, 50, .inr (.inl (fun _ => 0)))), (q_95, .inl (cI, 20, .inl (fun _ => nI 0))), (q_103, .inl (cI, 20, .inl (fun _ => nI 0))), (q_111, .inl (cJ, 20, .inr (.inl (fun _ => 0)))), (q_119, .inl (cI, 120, .inl (fun _ => nI 0))), (q_127, .inl (cI, 120, .inl (fun _ => nI 0))), (q_135, .inl (cJ, 120, .inr (.inl (fun _ => 0))))] := hD
  refine va_putF (D := D) (ci := 5) (v := .ref q_135) (ty := (.array .long)) (C := RX5) (T := TX5) (N := 28) hx hb hts (inT inX5) tyX5 tyX5_ok nmX5 hown hK hP hD hS 0 rfl rfl 24 (by decide) (hts (.fieldLink RX5 60 "BoardMovesModel" "pinX" "[J") (by decide +kernel)) (fun _ h9 => h9) rfl hin rfl (by decide +kernel) rfl rfl (Nat.le_of_ble_eq_true rfl) dX5_init_137 (fun H locs hP hD hS => ?_)
  have hP : va_P D vwCl [(h0, .inr (5, [.int 0, .long 0, .long 0, .int 0, .ref q_7, .ref q_15, .ref q_23, .ref q_31, .ref q_39, .ref q_47, .ref q_55, .ref q_63, .ref q_71, .ref q_79, .int 0, .ref q_87, .int 0, .ref q_95, .ref q_103, .ref q_111, .int 0, .int 0, .ref q_119, .ref q_127, .ref q_135, .null, .null, .long 0])), (q_7, .inl (cJ, 40, .inr (.inl (fun _ => 0)))), (q_15, .inl (cJ, 40, .inr (.inl (fun _ => 0)))), (q_23, .inl (cI, 40, .inl (fun _ => nI 0))), (q_31, .inl (cJ, 40, .inr (.inl (fun _ => 0)))), (q_39, .inl (cZ, 40, .inl (fun _ => bm_b false))), (q_47, .inl (cI, 40, .inl (fun _ => nI 0))), (q_55, .inl (cZ, 40, .inl (fun _ => bm_b false))), (q_63, .inl (cJ, 120, .inr (.inl (fun _ => 0)))), (q_71, .inl (cJ, 120, .inr (.inl (fun _ => 0)))), (q_79, .inl (cI, 120, .inl (fun _ => nI 0))), (q_87, .inl (cJ, 50, .inr (.inl (fun _ => 0)))), (q_95, .inl (cI, 20, .inl (fun _ => nI 0))), (q_103, .inl (cI, 20, .inl (fun _ => nI 0))), (q_111, .inl (cJ, 20, .inr (.inl (fun _ => 0)))), (q_119, .inl (cI, 120, .inl (fun _ => nI 0))), (q_127, .inl (cI, 120, .inl (fun _ => nI 0))), (q_135, .inl (cJ, 120, .inr (.inl (fun _ => 0))))] H := hP
  have hD : va_D A [(h0, .inr (5, [.int 0, .long 0, .long 0, .int 0, .ref q_7, .ref q_15, .ref q_23, .ref q_31, .ref q_39, .ref q_47, .ref q_55, .ref q_63, .ref q_71, .ref q_79, .int 0, .ref q_87, .int 0, .ref q_95, .ref q_103, .ref q_111, .int 0, .int 0, .ref q_119, .ref q_127, .ref q_135, .null, .null, .long 0])), (q_7, .inl (cJ, 40, .inr (.inl (fun _ => 0)))), (q_15, .inl (cJ, 40, .inr (.inl (fun _ => 0)))), (q_23, .inl (cI, 40, .inl (fun _ => nI 0))), (q_31, .inl (cJ, 40, .inr (.inl (fun _ => 0)))), (q_39, .inl (cZ, 40, .inl (fun _ => bm_b false))), (q_47, .inl (cI, 40, .inl (fun _ => nI 0))), (q_55, .inl (cZ, 40, .inl (fun _ => bm_b false))), (q_63, .inl (cJ, 120, .inr (.inl (fun _ => 0)))), (q_71, .inl (cJ, 120, .inr (.inl (fun _ => 0)))), (q_79, .inl (cI, 120, .inl (fun _ => nI 0))), (q_87, .inl (cJ, 50, .inr (.inl (fun _ => 0)))), (q_95, .inl (cI, 20, .inl (fun _ => nI 0))), (q_103, .inl (cI, 20, .inl (fun _ => nI 0))), (q_111, .inl (cJ, 20, .inr (.inl (fun _ => 0)))), (q_119, .inl (cI, 120, .inl (fun _ => nI 0))), (q_127, .inl (cI, 120, .inl (fun _ => nI 0))), (q_135, .inl (cJ, 120, .inr (.inl (fun _ => 0))))] := hD
  refine lv_aload_n hx hb dX5_init_140 rfl (lv_at hl 0 rfl) ?_
  refine lv_bipush (v := nI 120) hx hb dX5_init_141 (by decide) ?_
  refine bm_newa (atype := .long) (ty := .long) (n := (nI 120)) (a0 := (120, .inr (.inl (fun _ => 0)))) hx hb rfl (hts (.arrayClass .long) (by decide +kernel)) hK hP hD hS hA 0 rfl rfl (by decide) (by decide) (by decide) (Nat.le_of_ble_eq_true rfl) (Nat.le_of_ble_eq_true rfl) dX5_init_143 (fun q_143 H hP hD hS => ?_)
  have hP : va_P D vwCl [(h0, .inr (5, [.int 0, .long 0, .long 0, .int 0, .ref q_7, .ref q_15, .ref q_23, .ref q_31, .ref q_39, .ref q_47, .ref q_55, .ref q_63, .ref q_71, .ref q_79, .int 0, .ref q_87, .int 0, .ref q_95, .ref q_103, .ref q_111, .int 0, .int 0, .ref q_119, .ref q_127, .ref q_135, .null, .null, .long 0])), (q_7, .inl (cJ, 40, .inr (.inl (fun _ => 0)))), (q_15, .inl (cJ, 40, .inr (.inl (fun _ => 0)))), (q_23, .inl (cI, 40, .inl (fun _ => nI 0))), (q_31, .inl (cJ, 40, .inr (.inl (fun _ => 0)))), (q_39, .inl (cZ, 40, .inl (fun _ => bm_b false))), (q_47, .inl (cI, 40, .inl (fun _ => nI 0))), (q_55, .inl (cZ, 40, .inl (fun _ => bm_b false))), (q_63, .inl (cJ, 120, .inr (.inl (fun _ => 0)))), (q_71, .inl (cJ, 120, .inr (.inl (fun _ => 0)))), (q_79, .inl (cI, 120, .inl (fun _ => nI 0))), (q_87, .inl (cJ, 50, .inr (.inl (fun _ => 0)))), (q_95, .inl (cI, 20, .inl (fun _ => nI 0))), (q_103, .inl (cI, 20, .inl (fun _ => nI 0))), (q_111, .inl (cJ, 20, .inr (.inl (fun _ => 0)))), (q_119, .inl (cI, 120, .inl (fun _ => nI 0))), (q_127, .inl (cI, 120, .inl (fun _ => nI 0))), (q_135, .inl (cJ, 120, .inr (.inl (fun _ => 0)))), (q_143, .inl (cJ, 120, .inr (.inl (fun _ => 0))))] H := hP
  have hD : va_D A [(h0, .inr (5, [.int 0, .long 0, .long 0, .int 0, .ref q_7, .ref q_15, .ref q_23, .ref q_31, .ref q_39, .ref q_47, .ref q_55, .ref q_63, .ref q_71, .ref q_79, .int 0, .ref q_87, .int 0, .ref q_95, .ref q_103, .ref q_111, .int 0, .int 0, .ref q_119, .ref q_127, .ref q_135, .null, .null, .long 0])), (q_7, .inl (cJ, 40, .inr (.inl (fun _ => 0)))), (q_15, .inl (cJ, 40, .inr (.inl (fun _ => 0)))), (q_23, .inl (cI, 40, .inl (fun _ => nI 0))), (q_31, .inl (cJ, 40, .inr (.inl (fun _ => 0)))), (q_39, .inl (cZ, 40, .inl (fun _ => bm_b false))), (q_47, .inl (cI, 40, .inl (fun _ => nI 0))), (q_55, .inl (cZ, 40, .inl (fun _ => bm_b false))), (q_63, .inl (cJ, 120, .inr (.inl (fun _ => 0)))), (q_71, .inl (cJ, 120, .inr (.inl (fun _ => 0)))), (q_79, .inl (cI, 120, .inl (fun _ => nI 0))), (q_87, .inl (cJ, 50, .inr (.inl (fun _ => 0)))), (q_95, .inl (cI, 20, .inl (fun _ => nI 0))), (q_103, .inl (cI, 20, .inl (fun _ => nI 0))), (q_111, .inl (cJ, 20, .inr (.inl (fun _ => 0)))), (q_119, .inl (cI, 120, .inl (fun _ => nI 0))), (q_127, .inl (cI, 120, .inl (fun _ => nI 0))), (q_135, .inl (cJ, 120, .inr (.inl (fun _ => 0)))), (q_143, .inl (cJ, 120, .inr (.inl (fun _ => 0))))] := hD
  refine va_putF (D := D) (ci := 5) (v := .ref q_143) (ty := (.array .long)) (C := RX5) (T := TX5) (N := 28) hx hb hts (inT inX5) tyX5 tyX5_ok nmX5 hown hK hP hD hS 0 rfl rfl 25 (by decide) (hts (.fieldLink RX5 63 "BoardMovesModel" "pinY" "[J") (by decide +kernel)) (fun _ h9 => h9) rfl hin rfl (by decide +kernel) rfl rfl (Nat.le_of_ble_eq_true rfl) dX5_init_145 (fun H locs hP hD hS => ?_)
  have hP : va_P D vwCl [(h0, .inr (5, [.int 0, .long 0, .long 0, .int 0, .ref q_7, .ref q_15, .ref q_23, .ref q_31, .ref q_39, .ref q_47, .ref q_55, .ref q_63, .ref q_71, .ref q_79, .int 0, .ref q_87, .int 0, .ref q_95, .ref q_103, .ref q_111, .int 0, .int 0, .ref q_119, .ref q_127, .ref q_135, .ref q_143, .null, .long 0])), (q_7, .inl (cJ, 40, .inr (.inl (fun _ => 0)))), (q_15, .inl (cJ, 40, .inr (.inl (fun _ => 0)))), (q_23, .inl (cI, 40, .inl (fun _ => nI 0))), (q_31, .inl (cJ, 40, .inr (.inl (fun _ => 0)))), (q_39, .inl (cZ, 40, .inl (fun _ => bm_b false))), (q_47, .inl (cI, 40, .inl (fun _ => nI 0))), (q_55, .inl (cZ, 40, .inl (fun _ => bm_b false))), (q_63, .inl (cJ, 120, .inr (.inl (fun _ => 0)))), (q_71, .inl (cJ, 120, .inr (.inl (fun _ => 0)))), (q_79, .inl (cI, 120, .inl (fun _ => nI 0))), (q_87, .inl (cJ, 50, .inr (.inl (fun _ => 0)))), (q_95, .inl (cI, 20, .inl (fun _ => nI 0))), (q_103, .inl (cI, 20, .inl (fun _ => nI 0))), (q_111, .inl (cJ, 20, .inr (.inl (fun _ => 0)))), (q_119, .inl (cI, 120, .inl (fun _ => nI 0))), (q_127, .inl (cI, 120, .inl (fun _ => nI 0))), (q_135, .inl (cJ, 120, .inr (.inl (fun _ => 0)))), (q_143, .inl (cJ, 120, .inr (.inl (fun _ => 0))))] H := hP
  have hD : va_D A [(h0, .inr (5, [.int 0, .long 0, .long 0, .int 0, .ref q_7, .ref q_15, .ref q_23, .ref q_31, .ref q_39, .ref q_47, .ref q_55, .ref q_63, .ref q_71, .ref q_79, .int 0, .ref q_87, .int 0, .ref q_95, .ref q_103, .ref q_111, .int 0, .int 0, .ref q_119, .ref q_127, .ref q_135, .ref q_143, .null, .long 0])), (q_7, .inl (cJ, 40, .inr (.inl (fun _ => 0)))), (q_15, .inl (cJ, 40, .inr (.inl (fun _ => 0)))), (q_23, .inl (cI, 40, .inl (fun _ => nI 0))), (q_31, .inl (cJ, 40, .inr (.inl (fun _ => 0)))), (q_39, .inl (cZ, 40, .inl (fun _ => bm_b false))), (q_47, .inl (cI, 40, .inl (fun _ => nI 0))), (q_55, .inl (cZ, 40, .inl (fun _ => bm_b false))), (q_63, .inl (cJ, 120, .inr (.inl (fun _ => 0)))), (q_71, .inl (cJ, 120, .inr (.inl (fun _ => 0)))), (q_79, .inl (cI, 120, .inl (fun _ => nI 0))), (q_87, .inl (cJ, 50, .inr (.inl (fun _ => 0)))), (q_95, .inl (cI, 20, .inl (fun _ => nI 0))), (q_103, .inl (cI, 20, .inl (fun _ => nI 0))), (q_111, .inl (cJ, 20, .inr (.inl (fun _ => 0)))), (q_119, .inl (cI, 120, .inl (fun _ => nI 0))), (q_127, .inl (cI, 120, .inl (fun _ => nI 0))), (q_135, .inl (cJ, 120, .inr (.inl (fun _ => 0)))), (q_143, .inl (cJ, 120, .inr (.inl (fun _ => 0))))] := hD
  refine lv_aload_n hx hb dX5_init_148 rfl (lv_at hl 0 rfl) ?_
  refine lv_bipush (v := nI 40) hx hb dX5_init_149 (by decide) ?_
  refine bm_newa (atype := .boolean) (ty := .boolean) (n := (nI 40)) (a0 := (40, .inl (fun _ => bm_b false))) hx hb rfl (hts (.arrayClass .boolean) (by decide +kernel)) hK hP hD hS hA 2 rfl rfl (by decide) (by decide) (by decide) (Nat.le_of_ble_eq_true rfl) (Nat.le_of_ble_eq_true rfl) dX5_init_151 (fun q_151 H hP hD hS => ?_)
  have hP : va_P D vwCl [(h0, .inr (5, [.int 0, .long 0, .long 0, .int 0, .ref q_7, .ref q_15, .ref q_23, .ref q_31, .ref q_39, .ref q_47, .ref q_55, .ref q_63, .ref q_71, .ref q_79, .int 0, .ref q_87, .int 0, .ref q_95, .ref q_103, .ref q_111, .int 0, .int 0, .ref q_119, .ref q_127, .ref q_135, .ref q_143, .null, .long 0])), (q_7, .inl (cJ, 40, .inr (.inl (fun _ => 0)))), (q_15, .inl (cJ, 40, .inr (.inl (fun _ => 0)))), (q_23, .inl (cI, 40, .inl (fun _ => nI 0))), (q_31, .inl (cJ, 40, .inr (.inl (fun _ => 0)))), (q_39, .inl (cZ, 40, .inl (fun _ => bm_b false))), (q_47, .inl (cI, 40, .inl (fun _ => nI 0))), (q_55, .inl (cZ, 40, .inl (fun _ => bm_b false))), (q_63, .inl (cJ, 120, .inr (.inl (fun _ => 0)))), (q_71, .inl (cJ, 120, .inr (.inl (fun _ => 0)))), (q_79, .inl (cI, 120, .inl (fun _ => nI 0))), (q_87, .inl (cJ, 50, .inr (.inl (fun _ => 0)))), (q_95, .inl (cI, 20, .inl (fun _ => nI 0))), (q_103, .inl (cI, 20, .inl (fun _ => nI 0))), (q_111, .inl (cJ, 20, .inr (.inl (fun _ => 0)))), (q_119, .inl (cI, 120, .inl (fun _ => nI 0))), (q_127, .inl (cI, 120, .inl (fun _ => nI 0))), (q_135, .inl (cJ, 120, .inr (.inl (fun _ => 0)))), (q_143, .inl (cJ, 120, .inr (.inl (fun _ => 0)))), (q_151, .inl (cZ, 40, .inl (fun _ => bm_b false)))] H := hP
  have hD : va_D A [(h0, .inr (5, [.int 0, .long 0, .long 0, .int 0, .ref q_7, .ref q_15, .ref q_23, .ref q_31, .ref q_39, .ref q_47, .ref q_55, .ref q_63, .ref q_71, .ref q_79, .int 0, .ref q_87, .int 0, .ref q_95, .ref q_103, .ref q_111, .int 0, .int 0, .ref q_119, .ref q_127, .ref q_135, .ref q_143, .null, .long 0])), (q_7, .inl (cJ, 40, .inr (.inl (fun _ => 0)))), (q_15, .inl (cJ, 40, .inr (.inl (fun _ => 0)))), (q_23, .inl (cI, 40, .inl (fun _ => nI 0))), (q_31, .inl (cJ, 40, .inr (.inl (fun _ => 0)))), (q_39, .inl (cZ, 40, .inl (fun _ => bm_b false))), (q_47, .inl (cI, 40, .inl (fun _ => nI 0))), (q_55, .inl (cZ, 40, .inl (fun _ => bm_b false))), (q_63, .inl (cJ, 120, .inr (.inl (fun _ => 0)))), (q_71, .inl (cJ, 120, .inr (.inl (fun _ => 0)))), (q_79, .inl (cI, 120, .inl (fun _ => nI 0))), (q_87, .inl (cJ, 50, .inr (.inl (fun _ => 0)))), (q_95, .inl (cI, 20, .inl (fun _ => nI 0))), (q_103, .inl (cI, 20, .inl (fun _ => nI 0))), (q_111, .inl (cJ, 20, .inr (.inl (fun _ => 0)))), (q_119, .inl (cI, 120, .inl (fun _ => nI 0))), (q_127, .inl (cI, 120, .inl (fun _ => nI 0))), (q_135, .inl (cJ, 120, .inr (.inl (fun _ => 0)))), (q_143, .inl (cJ, 120, .inr (.inl (fun _ => 0)))), (q_151, .inl (cZ, 40, .inl (fun _ => bm_b false)))] := hD
  refine va_putF (D := D) (ci := 5) (v := .ref q_151) (ty := (.array .boolean)) (C := RX5) (T := TX5) (N := 28) hx hb hts (inT inX5) tyX5 tyX5_ok nmX5 hown hK hP hD hS 0 rfl rfl 26 (by decide) (hts (.fieldLink RX5 66 "BoardMovesModel" "moved" "[Z") (by decide +kernel)) (fun _ h9 => h9) rfl hin rfl (by decide +kernel) rfl rfl (Nat.le_of_ble_eq_true rfl) dX5_init_153 (fun H locs hP hD hS => ?_)
  have hP : va_P D vwCl [(h0, .inr (5, [.int 0, .long 0, .long 0, .int 0, .ref q_7, .ref q_15, .ref q_23, .ref q_31, .ref q_39, .ref q_47, .ref q_55, .ref q_63, .ref q_71, .ref q_79, .int 0, .ref q_87, .int 0, .ref q_95, .ref q_103, .ref q_111, .int 0, .int 0, .ref q_119, .ref q_127, .ref q_135, .ref q_143, .ref q_151, .long 0])), (q_7, .inl (cJ, 40, .inr (.inl (fun _ => 0)))), (q_15, .inl (cJ, 40, .inr (.inl (fun _ => 0)))), (q_23, .inl (cI, 40, .inl (fun _ => nI 0))), (q_31, .inl (cJ, 40, .inr (.inl (fun _ => 0)))), (q_39, .inl (cZ, 40, .inl (fun _ => bm_b false))), (q_47, .inl (cI, 40, .inl (fun _ => nI 0))), (q_55, .inl (cZ, 40, .inl (fun _ => bm_b false))), (q_63, .inl (cJ, 120, .inr (.inl (fun _ => 0)))), (q_71, .inl (cJ, 120, .inr (.inl (fun _ => 0)))), (q_79, .inl (cI, 120, .inl (fun _ => nI 0))), (q_87, .inl (cJ, 50, .inr (.inl (fun _ => 0)))), (q_95, .inl (cI, 20, .inl (fun _ => nI 0))), (q_103, .inl (cI, 20, .inl (fun _ => nI 0))), (q_111, .inl (cJ, 20, .inr (.inl (fun _ => 0)))), (q_119, .inl (cI, 120, .inl (fun _ => nI 0))), (q_127, .inl (cI, 120, .inl (fun _ => nI 0))), (q_135, .inl (cJ, 120, .inr (.inl (fun _ => 0)))), (q_143, .inl (cJ, 120, .inr (.inl (fun _ => 0)))), (q_151, .inl (cZ, 40, .inl (fun _ => bm_b false)))] H := hP
  have hD : va_D A [(h0, .inr (5, [.int 0, .long 0, .long 0, .int 0, .ref q_7, .ref q_15, .ref q_23, .ref q_31, .ref q_39, .ref q_47, .ref q_55, .ref q_63, .ref q_71, .ref q_79, .int 0, .ref q_87, .int 0, .ref q_95, .ref q_103, .ref q_111, .int 0, .int 0, .ref q_119, .ref q_127, .ref q_135, .ref q_143, .ref q_151, .long 0])), (q_7, .inl (cJ, 40, .inr (.inl (fun _ => 0)))), (q_15, .inl (cJ, 40, .inr (.inl (fun _ => 0)))), (q_23, .inl (cI, 40, .inl (fun _ => nI 0))), (q_31, .inl (cJ, 40, .inr (.inl (fun _ => 0)))), (q_39, .inl (cZ, 40, .inl (fun _ => bm_b false))), (q_47, .inl (cI, 40, .inl (fun _ => nI 0))), (q_55, .inl (cZ, 40, .inl (fun _ => bm_b false))), (q_63, .inl (cJ, 120, .inr (.inl (fun _ => 0)))), (q_71, .inl (cJ, 120, .inr (.inl (fun _ => 0)))), (q_79, .inl (cI, 120, .inl (fun _ => nI 0))), (q_87, .inl (cJ, 50, .inr (.inl (fun _ => 0)))), (q_95, .inl (cI, 20, .inl (fun _ => nI 0))), (q_103, .inl (cI, 20, .inl (fun _ => nI 0))), (q_111, .inl (cJ, 20, .inr (.inl (fun _ => 0)))), (q_119, .inl (cI, 120, .inl (fun _ => nI 0))), (q_127, .inl (cI, 120, .inl (fun _ => nI 0))), (q_135, .inl (cJ, 120, .inr (.inl (fun _ => 0)))), (q_143, .inl (cJ, 120, .inr (.inl (fun _ => 0)))), (q_151, .inl (cZ, 40, .inl (fun _ => bm_b false)))] := hD
  refine lv_aload_n hx hb dX5_init_156 rfl (lv_at hl 0 rfl) ?_
  refine lv_lload_n hx hb dX5_init_157 rfl (lv_at hl 1 rfl) ?_
  refine lv_lconst (v := 1) hx hb dX5_init_158 (by decide) ?_
  refine bm_lc_ge (x := zA) (y := 1) (tgt := 167) hx hb dX5_init_159 dX5_init_160 (by decide) (fun c_1 => ?_) (fun c_1 => ?_)
  · refine lv_lload_n hx hb dX5_init_167 rfl (lv_at hl 1 rfl) ?_
    refine lv_ldc2 (v := 65536) hx hb hown (hts (.constantLong RX5 69 65536) (by decide +kernel)) dX5_init_168 ?_
    refine bm_lc_le (x := zA) (y := 65536) (tgt := 181) hx hb dX5_init_171 dX5_init_172 (by decide) (fun c_2 => ?_) (fun c_2 => ?_)
    · refine lv_lload_n hx hb dX5_init_181 rfl (lv_at hl 1 rfl) ?_
      refine va_putF (D := D) (ci := 5) (v := .long zA) (ty := .long) (C := RX5) (T := TX5) (N := 28) hx hb hts (inT inX5) tyX5 tyX5_ok nmX5 hown hK hP hD hS 0 rfl rfl 1 (by decide) (hts (.fieldLink RX5 71 "BoardMovesModel" "width" "J") (by decide +kernel)) (fun _ h9 => h9) rfl hin rfl (by decide +kernel) rfl rfl (Nat.le_of_ble_eq_true rfl) dX5_init_182 (fun H locs hP hD hS => ?_)
      have hP : va_P D vwCl [(h0, .inr (5, [.int 0, .long zA, .long 0, .int 0, .ref q_7, .ref q_15, .ref q_23, .ref q_31, .ref q_39, .ref q_47, .ref q_55, .ref q_63, .ref q_71, .ref q_79, .int 0, .ref q_87, .int 0, .ref q_95, .ref q_103, .ref q_111, .int 0, .int 0, .ref q_119, .ref q_127, .ref q_135, .ref q_143, .ref q_151, .long 0])), (q_7, .inl (cJ, 40, .inr (.inl (fun _ => 0)))), (q_15, .inl (cJ, 40, .inr (.inl (fun _ => 0)))), (q_23, .inl (cI, 40, .inl (fun _ => nI 0))), (q_31, .inl (cJ, 40, .inr (.inl (fun _ => 0)))), (q_39, .inl (cZ, 40, .inl (fun _ => bm_b false))), (q_47, .inl (cI, 40, .inl (fun _ => nI 0))), (q_55, .inl (cZ, 40, .inl (fun _ => bm_b false))), (q_63, .inl (cJ, 120, .inr (.inl (fun _ => 0)))), (q_71, .inl (cJ, 120, .inr (.inl (fun _ => 0)))), (q_79, .inl (cI, 120, .inl (fun _ => nI 0))), (q_87, .inl (cJ, 50, .inr (.inl (fun _ => 0)))), (q_95, .inl (cI, 20, .inl (fun _ => nI 0))), (q_103, .inl (cI, 20, .inl (fun _ => nI 0))), (q_111, .inl (cJ, 20, .inr (.inl (fun _ => 0)))), (q_119, .inl (cI, 120, .inl (fun _ => nI 0))), (q_127, .inl (cI, 120, .inl (fun _ => nI 0))), (q_135, .inl (cJ, 120, .inr (.inl (fun _ => 0)))), (q_143, .inl (cJ, 120, .inr (.inl (fun _ => 0)))), (q_151, .inl (cZ, 40, .inl (fun _ => bm_b false)))] H := hP
      have hD : va_D A [(h0, .inr (5, [.int 0, .long zA, .long 0, .int 0, .ref q_7, .ref q_15, .ref q_23, .ref q_31, .ref q_39, .ref q_47, .ref q_55, .ref q_63, .ref q_71, .ref q_79, .int 0, .ref q_87, .int 0, .ref q_95, .ref q_103, .ref q_111, .int 0, .int 0, .ref q_119, .ref q_127, .ref q_135, .ref q_143, .ref q_151, .long 0])), (q_7, .inl (cJ, 40, .inr (.inl (fun _ => 0)))), (q_15, .inl (cJ, 40, .inr (.inl (fun _ => 0)))), (q_23, .inl (cI, 40, .inl (fun _ => nI 0))), (q_31, .inl (cJ, 40, .inr (.inl (fun _ => 0)))), (q_39, .inl (cZ, 40, .inl (fun _ => bm_b false))), (q_47, .inl (cI, 40, .inl (fun _ => nI 0))), (q_55, .inl (cZ, 40, .inl (fun _ => bm_b false))), (q_63, .inl (cJ, 120, .inr (.inl (fun _ => 0)))), (q_71, .inl (cJ, 120, .inr (.inl (fun _ => 0)))), (q_79, .inl (cI, 120, .inl (fun _ => nI 0))), (q_87, .inl (cJ, 50, .inr (.inl (fun _ => 0)))), (q_95, .inl (cI, 20, .inl (fun _ => nI 0))), (q_103, .inl (cI, 20, .inl (fun _ => nI 0))), (q_111, .inl (cJ, 20, .inr (.inl (fun _ => 0)))), (q_119, .inl (cI, 120, .inl (fun _ => nI 0))), (q_127, .inl (cI, 120, .inl (fun _ => nI 0))), (q_135, .inl (cJ, 120, .inr (.inl (fun _ => 0)))), (q_143, .inl (cJ, 120, .inr (.inl (fun _ => 0)))), (q_151, .inl (cZ, 40, .inl (fun _ => bm_b false)))] := hD
      refine lv_aload_n hx hb dX5_init_185 rfl (lv_at hl 0 rfl) ?_
      refine lv_lload_n hx hb dX5_init_186 rfl (lv_at hl 2 rfl) ?_
      refine lv_lconst (v := 1) hx hb dX5_init_187 (by decide) ?_
      refine bm_lc_ge (x := zB) (y := 1) (tgt := 196) hx hb dX5_init_188 dX5_init_189 (by decide) (fun c_3 => ?_) (fun c_3 => ?_)
      · refine lv_lload_n hx hb dX5_init_196 rfl (lv_at hl 2 rfl) ?_
        refine lv_ldc2 (v := 65536) hx hb hown (hts (.constantLong RX5 69 65536) (by decide +kernel)) dX5_init_197 ?_
        refine bm_lc_le (x := zB) (y := 65536) (tgt := 210) hx hb dX5_init_200 dX5_init_201 (by decide) (fun c_4 => ?_) (fun c_4 => ?_)
        · refine lv_lload_n hx hb dX5_init_210 rfl (lv_at hl 2 rfl) ?_
          refine va_putF (D := D) (ci := 5) (v := .long zB) (ty := .long) (C := RX5) (T := TX5) (N := 28) hx hb hts (inT inX5) tyX5 tyX5_ok nmX5 hown hK hP hD hS 0 rfl rfl 2 (by decide) (hts (.fieldLink RX5 75 "BoardMovesModel" "height" "J") (by decide +kernel)) (fun _ h9 => h9) rfl hin rfl (by decide +kernel) rfl rfl (Nat.le_of_ble_eq_true rfl) dX5_init_211 (fun H locs hP hD hS => ?_)
          have hP : va_P D vwCl [(h0, .inr (5, [.int 0, .long zA, .long zB, .int 0, .ref q_7, .ref q_15, .ref q_23, .ref q_31, .ref q_39, .ref q_47, .ref q_55, .ref q_63, .ref q_71, .ref q_79, .int 0, .ref q_87, .int 0, .ref q_95, .ref q_103, .ref q_111, .int 0, .int 0, .ref q_119, .ref q_127, .ref q_135, .ref q_143, .ref q_151, .long 0])), (q_7, .inl (cJ, 40, .inr (.inl (fun _ => 0)))), (q_15, .inl (cJ, 40, .inr (.inl (fun _ => 0)))), (q_23, .inl (cI, 40, .inl (fun _ => nI 0))), (q_31, .inl (cJ, 40, .inr (.inl (fun _ => 0)))), (q_39, .inl (cZ, 40, .inl (fun _ => bm_b false))), (q_47, .inl (cI, 40, .inl (fun _ => nI 0))), (q_55, .inl (cZ, 40, .inl (fun _ => bm_b false))), (q_63, .inl (cJ, 120, .inr (.inl (fun _ => 0)))), (q_71, .inl (cJ, 120, .inr (.inl (fun _ => 0)))), (q_79, .inl (cI, 120, .inl (fun _ => nI 0))), (q_87, .inl (cJ, 50, .inr (.inl (fun _ => 0)))), (q_95, .inl (cI, 20, .inl (fun _ => nI 0))), (q_103, .inl (cI, 20, .inl (fun _ => nI 0))), (q_111, .inl (cJ, 20, .inr (.inl (fun _ => 0)))), (q_119, .inl (cI, 120, .inl (fun _ => nI 0))), (q_127, .inl (cI, 120, .inl (fun _ => nI 0))), (q_135, .inl (cJ, 120, .inr (.inl (fun _ => 0)))), (q_143, .inl (cJ, 120, .inr (.inl (fun _ => 0)))), (q_151, .inl (cZ, 40, .inl (fun _ => bm_b false)))] H := hP
          have hD : va_D A [(h0, .inr (5, [.int 0, .long zA, .long zB, .int 0, .ref q_7, .ref q_15, .ref q_23, .ref q_31, .ref q_39, .ref q_47, .ref q_55, .ref q_63, .ref q_71, .ref q_79, .int 0, .ref q_87, .int 0, .ref q_95, .ref q_103, .ref q_111, .int 0, .int 0, .ref q_119, .ref q_127, .ref q_135, .ref q_143, .ref q_151, .long 0])), (q_7, .inl (cJ, 40, .inr (.inl (fun _ => 0)))), (q_15, .inl (cJ, 40, .inr (.inl (fun _ => 0)))), (q_23, .inl (cI, 40, .inl (fun _ => nI 0))), (q_31, .inl (cJ, 40, .inr (.inl (fun _ => 0)))), (q_39, .inl (cZ, 40, .inl (fun _ => bm_b false))), (q_47, .inl (cI, 40, .inl (fun _ => nI 0))), (q_55, .inl (cZ, 40, .inl (fun _ => bm_b false))), (q_63, .inl (cJ, 120, .inr (.inl (fun _ => 0)))), (q_71, .inl (cJ, 120, .inr (.inl (fun _ => 0)))), (q_79, .inl (cI, 120, .inl (fun _ => nI 0))), (q_87, .inl (cJ, 50, .inr (.inl (fun _ => 0)))), (q_95, .inl (cI, 20, .inl (fun _ => nI 0))), (q_103, .inl (cI, 20, .inl (fun _ => nI 0))), (q_111, .inl (cJ, 20, .inr (.inl (fun _ => 0)))), (q_119, .inl (cI, 120, .inl (fun _ => nI 0))), (q_127, .inl (cI, 120, .inl (fun _ => nI 0))), (q_135, .inl (cJ, 120, .inr (.inl (fun _ => 0)))), (q_143, .inl (cJ, 120, .inr (.inl (fun _ => 0)))), (q_151, .inl (cZ, 40, .inl (fun _ => bm_b false)))] := hD
          refine lv_aload_n hx hb dX5_init_214 rfl (lv_at hl 0 rfl) ?_
          refine lv_lload hx hb dX5_init_215 (lv_at hl 3 rfl) ?_
          refine va_put (D := D) (ci := 5) (v := .long zC) (ty := .long) (C := RX5) (T := TX5) (N := 28) hx hb hts (inT inX5) tyX5 tyX5_ok nmX5 hown hK hP hD hS 0 rfl rfl 27 (by decide) (hts (.fieldLink RX5 78 "BoardMovesModel" "s" "J") (by decide +kernel)) (fun _ h9 => h9) rfl (by decide +kernel) rfl rfl (Nat.le_of_ble_eq_true rfl) dX5_init_217 (fun H locs hP hD hS => ?_)
          have hP : va_P D vwCl [(h0, .inr (5, [.int 0, .long zA, .long zB, .int 0, .ref q_7, .ref q_15, .ref q_23, .ref q_31, .ref q_39, .ref q_47, .ref q_55, .ref q_63, .ref q_71, .ref q_79, .int 0, .ref q_87, .int 0, .ref q_95, .ref q_103, .ref q_111, .int 0, .int 0, .ref q_119, .ref q_127, .ref q_135, .ref q_143, .ref q_151, .long zC])), (q_7, .inl (cJ, 40, .inr (.inl (fun _ => 0)))), (q_15, .inl (cJ, 40, .inr (.inl (fun _ => 0)))), (q_23, .inl (cI, 40, .inl (fun _ => nI 0))), (q_31, .inl (cJ, 40, .inr (.inl (fun _ => 0)))), (q_39, .inl (cZ, 40, .inl (fun _ => bm_b false))), (q_47, .inl (cI, 40, .inl (fun _ => nI 0))), (q_55, .inl (cZ, 40, .inl (fun _ => bm_b false))), (q_63, .inl (cJ, 120, .inr (.inl (fun _ => 0)))), (q_71, .inl (cJ, 120, .inr (.inl (fun _ => 0)))), (q_79, .inl (cI, 120, .inl (fun _ => nI 0))), (q_87, .inl (cJ, 50, .inr (.inl (fun _ => 0)))), (q_95, .inl (cI, 20, .inl (fun _ => nI 0))), (q_103, .inl (cI, 20, .inl (fun _ => nI 0))), (q_111, .inl (cJ, 20, .inr (.inl (fun _ => 0)))), (q_119, .inl (cI, 120, .inl (fun _ => nI 0))), (q_127, .inl (cI, 120, .inl (fun _ => nI 0))), (q_135, .inl (cJ, 120, .inr (.inl (fun _ => 0)))), (q_143, .inl (cJ, 120, .inr (.inl (fun _ => 0)))), (q_151, .inl (cZ, 40, .inl (fun _ => bm_b false)))] H := hP
          have hD : va_D A [(h0, .inr (5, [.int 0, .long zA, .long zB, .int 0, .ref q_7, .ref q_15, .ref q_23, .ref q_31, .ref q_39, .ref q_47, .ref q_55, .ref q_63, .ref q_71, .ref q_79, .int 0, .ref q_87, .int 0, .ref q_95, .ref q_103, .ref q_111, .int 0, .int 0, .ref q_119, .ref q_127, .ref q_135, .ref q_143, .ref q_151, .long zC])), (q_7, .inl (cJ, 40, .inr (.inl (fun _ => 0)))), (q_15, .inl (cJ, 40, .inr (.inl (fun _ => 0)))), (q_23, .inl (cI, 40, .inl (fun _ => nI 0))), (q_31, .inl (cJ, 40, .inr (.inl (fun _ => 0)))), (q_39, .inl (cZ, 40, .inl (fun _ => bm_b false))), (q_47, .inl (cI, 40, .inl (fun _ => nI 0))), (q_55, .inl (cZ, 40, .inl (fun _ => bm_b false))), (q_63, .inl (cJ, 120, .inr (.inl (fun _ => 0)))), (q_71, .inl (cJ, 120, .inr (.inl (fun _ => 0)))), (q_79, .inl (cI, 120, .inl (fun _ => nI 0))), (q_87, .inl (cJ, 50, .inr (.inl (fun _ => 0)))), (q_95, .inl (cI, 20, .inl (fun _ => nI 0))), (q_103, .inl (cI, 20, .inl (fun _ => nI 0))), (q_111, .inl (cJ, 20, .inr (.inl (fun _ => 0)))), (q_119, .inl (cI, 120, .inl (fun _ => nI 0))), (q_127, .inl (cI, 120, .inl (fun _ => nI 0))), (q_135, .inl (cJ, 120, .inr (.inl (fun _ => 0)))), (q_143, .inl (cJ, 120, .inr (.inl (fun _ => 0)))), (q_151, .inl (cZ, 40, .inl (fun _ => bm_b false)))] := hD
          refine W.widen (k := 19) (n := 1270) (Nat.le_of_ble_eq_true rfl) (Nat.le_of_ble_eq_true rfl) ?_
          exact W.vret hx hb hr (fun t ht hW => ⟨⟨(), rfl, trivial, q_7, q_15, q_23, q_31, q_39, q_47, q_55, q_63, q_71, q_79, q_87, q_95, q_103, q_111, q_119, q_127, q_135, q_143, q_151, zA, zB, zC, by rw [ht]; exact hP, va_K.moved hW.alike hK, hD⟩, hS.F ht⟩) hS.2.2 dX5_init_220
        · refine lv_ldc2 (v := 65536) hx hb hown (hts (.constantLong RX5 69 65536) (by decide +kernel)) dX5_init_204 ?_
          refine lv_goto (tgt := 211) hx hb dX5_init_207 (by decide) ?_
          refine va_putF (D := D) (ci := 5) (v := .long 65536) (ty := .long) (C := RX5) (T := TX5) (N := 28) hx hb hts (inT inX5) tyX5 tyX5_ok nmX5 hown hK hP hD hS 0 rfl rfl 2 (by decide) (hts (.fieldLink RX5 75 "BoardMovesModel" "height" "J") (by decide +kernel)) (fun _ h9 => h9) rfl hin rfl (by decide +kernel) rfl rfl (Nat.le_of_ble_eq_true rfl) dX5_init_211 (fun H locs hP hD hS => ?_)
          have hP : va_P D vwCl [(h0, .inr (5, [.int 0, .long zA, .long 65536, .int 0, .ref q_7, .ref q_15, .ref q_23, .ref q_31, .ref q_39, .ref q_47, .ref q_55, .ref q_63, .ref q_71, .ref q_79, .int 0, .ref q_87, .int 0, .ref q_95, .ref q_103, .ref q_111, .int 0, .int 0, .ref q_119, .ref q_127, .ref q_135, .ref q_143, .ref q_151, .long 0])), (q_7, .inl (cJ, 40, .inr (.inl (fun _ => 0)))), (q_15, .inl (cJ, 40, .inr (.inl (fun _ => 0)))), (q_23, .inl (cI, 40, .inl (fun _ => nI 0))), (q_31, .inl (cJ, 40, .inr (.inl (fun _ => 0)))), (q_39, .inl (cZ, 40, .inl (fun _ => bm_b false))), (q_47, .inl (cI, 40, .inl (fun _ => nI 0))), (q_55, .inl (cZ, 40, .inl (fun _ => bm_b false))), (q_63, .inl (cJ, 120, .inr (.inl (fun _ => 0)))), (q_71, .inl (cJ, 120, .inr (.inl (fun _ => 0)))), (q_79, .inl (cI, 120, .inl (fun _ => nI 0))), (q_87, .inl (cJ, 50, .inr (.inl (fun _ => 0)))), (q_95, .inl (cI, 20, .inl (fun _ => nI 0))), (q_103, .inl (cI, 20, .inl (fun _ => nI 0))), (q_111, .inl (cJ, 20, .inr (.inl (fun _ => 0)))), (q_119, .inl (cI, 120, .inl (fun _ => nI 0))), (q_127, .inl (cI, 120, .inl (fun _ => nI 0))), (q_135, .inl (cJ, 120, .inr (.inl (fun _ => 0)))), (q_143, .inl (cJ, 120, .inr (.inl (fun _ => 0)))), (q_151, .inl (cZ, 40, .inl (fun _ => bm_b false)))] H := hP
          have hD : va_D A [(h0, .inr (5, [.int 0, .long zA, .long 65536, .int 0, .ref q_7, .ref q_15, .ref q_23, .ref q_31, .ref q_39, .ref q_47, .ref q_55, .ref q_63, .ref q_71, .ref q_79, .int 0, .ref q_87, .int 0, .ref q_95, .ref q_103, .ref q_111, .int 0, .int 0, .ref q_119, .ref q_127, .ref q_135, .ref q_143, .ref q_151, .long 0])), (q_7, .inl (cJ, 40, .inr (.inl (fun _ => 0)))), (q_15, .inl (cJ, 40, .inr (.inl (fun _ => 0)))), (q_23, .inl (cI, 40, .inl (fun _ => nI 0))), (q_31, .inl (cJ, 40, .inr (.inl (fun _ => 0)))), (q_39, .inl (cZ, 40, .inl (fun _ => bm_b false))), (q_47, .inl (cI, 40, .inl (fun _ => nI 0))), (q_55, .inl (cZ, 40, .inl (fun _ => bm_b false))), (q_63, .inl (cJ, 120, .inr (.inl (fun _ => 0)))), (q_71, .inl (cJ, 120, .inr (.inl (fun _ => 0)))), (q_79, .inl (cI, 120, .inl (fun _ => nI 0))), (q_87, .inl (cJ, 50, .inr (.inl (fun _ => 0)))), (q_95, .inl (cI, 20, .inl (fun _ => nI 0))), (q_103, .inl (cI, 20, .inl (fun _ => nI 0))), (q_111, .inl (cJ, 20, .inr (.inl (fun _ => 0)))), (q_119, .inl (cI, 120, .inl (fun _ => nI 0))), (q_127, .inl (cI, 120, .inl (fun _ => nI 0))), (q_135, .inl (cJ, 120, .inr (.inl (fun _ => 0)))), (q_143, .inl (cJ, 120, .inr (.inl (fun _ => 0)))), (q_151, .inl (cZ, 40, .inl (fun _ => bm_b false)))] := hD
          refine lv_aload_n hx hb dX5_init_214 rfl (lv_at hl 0 rfl) ?_
          refine lv_lload hx hb dX5_init_215 (lv_at hl 3 rfl) ?_
          refine va_put (D := D) (ci := 5) (v := .long zC) (ty := .long) (C := RX5) (T := TX5) (N := 28) hx hb hts (inT inX5) tyX5 tyX5_ok nmX5 hown hK hP hD hS 0 rfl rfl 27 (by decide) (hts (.fieldLink RX5 78 "BoardMovesModel" "s" "J") (by decide +kernel)) (fun _ h9 => h9) rfl (by decide +kernel) rfl rfl (Nat.le_of_ble_eq_true rfl) dX5_init_217 (fun H locs hP hD hS => ?_)
          have hP : va_P D vwCl [(h0, .inr (5, [.int 0, .long zA, .long 65536, .int 0, .ref q_7, .ref q_15, .ref q_23, .ref q_31, .ref q_39, .ref q_47, .ref q_55, .ref q_63, .ref q_71, .ref q_79, .int 0, .ref q_87, .int 0, .ref q_95, .ref q_103, .ref q_111, .int 0, .int 0, .ref q_119, .ref q_127, .ref q_135, .ref q_143, .ref q_151, .long zC])), (q_7, .inl (cJ, 40, .inr (.inl (fun _ => 0)))), (q_15, .inl (cJ, 40, .inr (.inl (fun _ => 0)))), (q_23, .inl (cI, 40, .inl (fun _ => nI 0))), (q_31, .inl (cJ, 40, .inr (.inl (fun _ => 0)))), (q_39, .inl (cZ, 40, .inl (fun _ => bm_b false))), (q_47, .inl (cI, 40, .inl (fun _ => nI 0))), (q_55, .inl (cZ, 40, .inl (fun _ => bm_b false))), (q_63, .inl (cJ, 120, .inr (.inl (fun _ => 0)))), (q_71, .inl (cJ, 120, .inr (.inl (fun _ => 0)))), (q_79, .inl (cI, 120, .inl (fun _ => nI 0))), (q_87, .inl (cJ, 50, .inr (.inl (fun _ => 0)))), (q_95, .inl (cI, 20, .inl (fun _ => nI 0))), (q_103, .inl (cI, 20, .inl (fun _ => nI 0))), (q_111, .inl (cJ, 20, .inr (.inl (fun _ => 0)))), (q_119, .inl (cI, 120, .inl (fun _ => nI 0))), (q_127, .inl (cI, 120, .inl (fun _ => nI 0))), (q_135, .inl (cJ, 120, .inr (.inl (fun _ => 0)))), (q_143, .inl (cJ, 120, .inr (.inl (fun _ => 0)))), (q_151, .inl (cZ, 40, .inl (fun _ => bm_b false)))] H := hP
          have hD : va_D A [(h0, .inr (5, [.int 0, .long zA, .long 65536, .int 0, .ref q_7, .ref q_15, .ref q_23, .ref q_31, .ref q_39, .ref q_47, .ref q_55, .ref q_63, .ref q_71, .ref q_79, .int 0, .ref q_87, .int 0, .ref q_95, .ref q_103, .ref q_111, .int 0, .int 0, .ref q_119, .ref q_127, .ref q_135, .ref q_143, .ref q_151, .long zC])), (q_7, .inl (cJ, 40, .inr (.inl (fun _ => 0)))), (q_15, .inl (cJ, 40, .inr (.inl (fun _ => 0)))), (q_23, .inl (cI, 40, .inl (fun _ => nI 0))), (q_31, .inl (cJ, 40, .inr (.inl (fun _ => 0)))), (q_39, .inl (cZ, 40, .inl (fun _ => bm_b false))), (q_47, .inl (cI, 40, .inl (fun _ => nI 0))), (q_55, .inl (cZ, 40, .inl (fun _ => bm_b false))), (q_63, .inl (cJ, 120, .inr (.inl (fun _ => 0)))), (q_71, .inl (cJ, 120, .inr (.inl (fun _ => 0)))), (q_79, .inl (cI, 120, .inl (fun _ => nI 0))), (q_87, .inl (cJ, 50, .inr (.inl (fun _ => 0)))), (q_95, .inl (cI, 20, .inl (fun _ => nI 0))), (q_103, .inl (cI, 20, .inl (fun _ => nI 0))), (q_111, .inl (cJ, 20, .inr (.inl (fun _ => 0)))), (q_119, .inl (cI, 120, .inl (fun _ => nI 0))), (q_127, .inl (cI, 120, .inl (fun _ => nI 0))), (q_135, .inl (cJ, 120, .inr (.inl (fun _ => 0)))), (q_143, .inl (cJ, 120, .inr (.inl (fun _ => 0)))), (q_151, .inl (cZ, 40, .inl (fun _ => bm_b false)))] := hD
          refine W.widen (k := 19) (n := 1270) (Nat.le_of_ble_eq_true rfl) (Nat.le_of_ble_eq_true rfl) ?_
          exact W.vret hx hb hr (fun t ht hW => ⟨⟨(), rfl, trivial, q_7, q_15, q_23, q_31, q_39, q_47, q_55, q_63, q_71, q_79, q_87, q_95, q_103, q_111, q_119, q_127, q_135, q_143, q_151, zA, 65536, zC, by rw [ht]; exact hP, va_K.moved hW.alike hK, hD⟩, hS.F ht⟩) hS.2.2 dX5_init_220
      · refine lv_lconst (v := 1) hx hb dX5_init_192 (by decide) ?_
        refine lv_goto (tgt := 211) hx hb dX5_init_193 (by decide) ?_
        refine va_putF (D := D) (ci := 5) (v := .long 1) (ty := .long) (C := RX5) (T := TX5) (N := 28) hx hb hts (inT inX5) tyX5 tyX5_ok nmX5 hown hK hP hD hS 0 rfl rfl 2 (by decide) (hts (.fieldLink RX5 75 "BoardMovesModel" "height" "J") (by decide +kernel)) (fun _ h9 => h9) rfl hin rfl (by decide +kernel) rfl rfl (Nat.le_of_ble_eq_true rfl) dX5_init_211 (fun H locs hP hD hS => ?_)
        have hP : va_P D vwCl [(h0, .inr (5, [.int 0, .long zA, .long 1, .int 0, .ref q_7, .ref q_15, .ref q_23, .ref q_31, .ref q_39, .ref q_47, .ref q_55, .ref q_63, .ref q_71, .ref q_79, .int 0, .ref q_87, .int 0, .ref q_95, .ref q_103, .ref q_111, .int 0, .int 0, .ref q_119, .ref q_127, .ref q_135, .ref q_143, .ref q_151, .long 0])), (q_7, .inl (cJ, 40, .inr (.inl (fun _ => 0)))), (q_15, .inl (cJ, 40, .inr (.inl (fun _ => 0)))), (q_23, .inl (cI, 40, .inl (fun _ => nI 0))), (q_31, .inl (cJ, 40, .inr (.inl (fun _ => 0)))), (q_39, .inl (cZ, 40, .inl (fun _ => bm_b false))), (q_47, .inl (cI, 40, .inl (fun _ => nI 0))), (q_55, .inl (cZ, 40, .inl (fun _ => bm_b false))), (q_63, .inl (cJ, 120, .inr (.inl (fun _ => 0)))), (q_71, .inl (cJ, 120, .inr (.inl (fun _ => 0)))), (q_79, .inl (cI, 120, .inl (fun _ => nI 0))), (q_87, .inl (cJ, 50, .inr (.inl (fun _ => 0)))), (q_95, .inl (cI, 20, .inl (fun _ => nI 0))), (q_103, .inl (cI, 20, .inl (fun _ => nI 0))), (q_111, .inl (cJ, 20, .inr (.inl (fun _ => 0)))), (q_119, .inl (cI, 120, .inl (fun _ => nI 0))), (q_127, .inl (cI, 120, .inl (fun _ => nI 0))), (q_135, .inl (cJ, 120, .inr (.inl (fun _ => 0)))), (q_143, .inl (cJ, 120, .inr (.inl (fun _ => 0)))), (q_151, .inl (cZ, 40, .inl (fun _ => bm_b false)))] H := hP
        have hD : va_D A [(h0, .inr (5, [.int 0, .long zA, .long 1, .int 0, .ref q_7, .ref q_15, .ref q_23, .ref q_31, .ref q_39, .ref q_47, .ref q_55, .ref q_63, .ref q_71, .ref q_79, .int 0, .ref q_87, .int 0, .ref q_95, .ref q_103, .ref q_111, .int 0, .int 0, .ref q_119, .ref q_127, .ref q_135, .ref q_143, .ref q_151, .long 0])), (q_7, .inl (cJ, 40, .inr (.inl (fun _ => 0)))), (q_15, .inl (cJ, 40, .inr (.inl (fun _ => 0)))), (q_23, .inl (cI, 40, .inl (fun _ => nI 0))), (q_31, .inl (cJ, 40, .inr (.inl (fun _ => 0)))), (q_39, .inl (cZ, 40, .inl (fun _ => bm_b false))), (q_47, .inl (cI, 40, .inl (fun _ => nI 0))), (q_55, .inl (cZ, 40, .inl (fun _ => bm_b false))), (q_63, .inl (cJ, 120, .inr (.inl (fun _ => 0)))), (q_71, .inl (cJ, 120, .inr (.inl (fun _ => 0)))), (q_79, .inl (cI, 120, .inl (fun _ => nI 0))), (q_87, .inl (cJ, 50, .inr (.inl (fun _ => 0)))), (q_95, .inl (cI, 20, .inl (fun _ => nI 0))), (q_103, .inl (cI, 20, .inl (fun _ => nI 0))), (q_111, .inl (cJ, 20, .inr (.inl (fun _ => 0)))), (q_119, .inl (cI, 120, .inl (fun _ => nI 0))), (q_127, .inl (cI, 120, .inl (fun _ => nI 0))), (q_135, .inl (cJ, 120, .inr (.inl (fun _ => 0)))), (q_143, .inl (cJ, 120, .inr (.inl (fun _ => 0)))), (q_151, .inl (cZ, 40, .inl (fun _ => bm_b false)))] := hD
        refine lv_aload_n hx hb dX5_init_214 rfl (lv_at hl 0 rfl) ?_
        refine lv_lload hx hb dX5_init_215 (lv_at hl 3 rfl) ?_
        refine va_put (D := D) (ci := 5) (v := .long zC) (ty := .long) (C := RX5) (T := TX5) (N := 28) hx hb hts (inT inX5) tyX5 tyX5_ok nmX5 hown hK hP hD hS 0 rfl rfl 27 (by decide) (hts (.fieldLink RX5 78 "BoardMovesModel" "s" "J") (by decide +kernel)) (fun _ h9 => h9) rfl (by decide +kernel) rfl rfl (Nat.le_of_ble_eq_true rfl) dX5_init_217 (fun H locs hP hD hS => ?_)
        have hP : va_P D vwCl [(h0, .inr (5, [.int 0, .long zA, .long 1, .int 0, .ref q_7, .ref q_15, .ref q_23, .ref q_31, .ref q_39, .ref q_47, .ref q_55, .ref q_63, .ref q_71, .ref q_79, .int 0, .ref q_87, .int 0, .ref q_95, .ref q_103, .ref q_111, .int 0, .int 0, .ref q_119, .ref q_127, .ref q_135, .ref q_143, .ref q_151, .long zC])), (q_7, .inl (cJ, 40, .inr (.inl (fun _ => 0)))), (q_15, .inl (cJ, 40, .inr (.inl (fun _ => 0)))), (q_23, .inl (cI, 40, .inl (fun _ => nI 0))), (q_31, .inl (cJ, 40, .inr (.inl (fun _ => 0)))), (q_39, .inl (cZ, 40, .inl (fun _ => bm_b false))), (q_47, .inl (cI, 40, .inl (fun _ => nI 0))), (q_55, .inl (cZ, 40, .inl (fun _ => bm_b false))), (q_63, .inl (cJ, 120, .inr (.inl (fun _ => 0)))), (q_71, .inl (cJ, 120, .inr (.inl (fun _ => 0)))), (q_79, .inl (cI, 120, .inl (fun _ => nI 0))), (q_87, .inl (cJ, 50, .inr (.inl (fun _ => 0)))), (q_95, .inl (cI, 20, .inl (fun _ => nI 0))), (q_103, .inl (cI, 20, .inl (fun _ => nI 0))), (q_111, .inl (cJ, 20, .inr (.inl (fun _ => 0)))), (q_119, .inl (cI, 120, .inl (fun _ => nI 0))), (q_127, .inl (cI, 120, .inl (fun _ => nI 0))), (q_135, .inl (cJ, 120, .inr (.inl (fun _ => 0)))), (q_143, .inl (cJ, 120, .inr (.inl (fun _ => 0)))), (q_151, .inl (cZ, 40, .inl (fun _ => bm_b false)))] H := hP
        have hD : va_D A [(h0, .inr (5, [.int 0, .long zA, .long 1, .int 0, .ref q_7, .ref q_15, .ref q_23, .ref q_31, .ref q_39, .ref q_47, .ref q_55, .ref q_63, .ref q_71, .ref q_79, .int 0, .ref q_87, .int 0, .ref q_95, .ref q_103, .ref q_111, .int 0, .int 0, .ref q_119, .ref q_127, .ref q_135, .ref q_143, .ref q_151, .long zC])), (q_7, .inl (cJ, 40, .inr (.inl (fun _ => 0)))), (q_15, .inl (cJ, 40, .inr (.inl (fun _ => 0)))), (q_23, .inl (cI, 40, .inl (fun _ => nI 0))), (q_31, .inl (cJ, 40, .inr (.inl (fun _ => 0)))), (q_39, .inl (cZ, 40, .inl (fun _ => bm_b false))), (q_47, .inl (cI, 40, .inl (fun _ => nI 0))), (q_55, .inl (cZ, 40, .inl (fun _ => bm_b false))), (q_63, .inl (cJ, 120, .inr (.inl (fun _ => 0)))), (q_71, .inl (cJ, 120, .inr (.inl (fun _ => 0)))), (q_79, .inl (cI, 120, .inl (fun _ => nI 0))), (q_87, .inl (cJ, 50, .inr (.inl (fun _ => 0)))), (q_95, .inl (cI, 20, .inl (fun _ => nI 0))), (q_103, .inl (cI, 20, .inl (fun _ => nI 0))), (q_111, .inl (cJ, 20, .inr (.inl (fun _ => 0)))), (q_119, .inl (cI, 120, .inl (fun _ => nI 0))), (q_127, .inl (cI, 120, .inl (fun _ => nI 0))), (q_135, .inl (cJ, 120, .inr (.inl (fun _ => 0)))), (q_143, .inl (cJ, 120, .inr (.inl (fun _ => 0)))), (q_151, .inl (cZ, 40, .inl (fun _ => bm_b false)))] := hD
        refine W.widen (k := 19) (n := 1270) (Nat.le_of_ble_eq_true rfl) (Nat.le_of_ble_eq_true rfl) ?_
        exact W.vret hx hb hr (fun t ht hW => ⟨⟨(), rfl, trivial, q_7, q_15, q_23, q_31, q_39, q_47, q_55, q_63, q_71, q_79, q_87, q_95, q_103, q_111, q_119, q_127, q_135, q_143, q_151, zA, 1, zC, by rw [ht]; exact hP, va_K.moved hW.alike hK, hD⟩, hS.F ht⟩) hS.2.2 dX5_init_220
    · refine lv_ldc2 (v := 65536) hx hb hown (hts (.constantLong RX5 69 65536) (by decide +kernel)) dX5_init_175 ?_
      refine lv_goto (tgt := 182) hx hb dX5_init_178 (by decide) ?_
      refine va_putF (D := D) (ci := 5) (v := .long 65536) (ty := .long) (C := RX5) (T := TX5) (N := 28) hx hb hts (inT inX5) tyX5 tyX5_ok nmX5 hown hK hP hD hS 0 rfl rfl 1 (by decide) (hts (.fieldLink RX5 71 "BoardMovesModel" "width" "J") (by decide +kernel)) (fun _ h9 => h9) rfl hin rfl (by decide +kernel) rfl rfl (Nat.le_of_ble_eq_true rfl) dX5_init_182 (fun H locs hP hD hS => ?_)
      have hP : va_P D vwCl [(h0, .inr (5, [.int 0, .long 65536, .long 0, .int 0, .ref q_7, .ref q_15, .ref q_23, .ref q_31, .ref q_39, .ref q_47, .ref q_55, .ref q_63, .ref q_71, .ref q_79, .int 0, .ref q_87, .int 0, .ref q_95, .ref q_103, .ref q_111, .int 0, .int 0, .ref q_119, .ref q_127, .ref q_135, .ref q_143, .ref q_151, .long 0])), (q_7, .inl (cJ, 40, .inr (.inl (fun _ => 0)))), (q_15, .inl (cJ, 40, .inr (.inl (fun _ => 0)))), (q_23, .inl (cI, 40, .inl (fun _ => nI 0))), (q_31, .inl (cJ, 40, .inr (.inl (fun _ => 0)))), (q_39, .inl (cZ, 40, .inl (fun _ => bm_b false))), (q_47, .inl (cI, 40, .inl (fun _ => nI 0))), (q_55, .inl (cZ, 40, .inl (fun _ => bm_b false))), (q_63, .inl (cJ, 120, .inr (.inl (fun _ => 0)))), (q_71, .inl (cJ, 120, .inr (.inl (fun _ => 0)))), (q_79, .inl (cI, 120, .inl (fun _ => nI 0))), (q_87, .inl (cJ, 50, .inr (.inl (fun _ => 0)))), (q_95, .inl (cI, 20, .inl (fun _ => nI 0))), (q_103, .inl (cI, 20, .inl (fun _ => nI 0))), (q_111, .inl (cJ, 20, .inr (.inl (fun _ => 0)))), (q_119, .inl (cI, 120, .inl (fun _ => nI 0))), (q_127, .inl (cI, 120, .inl (fun _ => nI 0))), (q_135, .inl (cJ, 120, .inr (.inl (fun _ => 0)))), (q_143, .inl (cJ, 120, .inr (.inl (fun _ => 0)))), (q_151, .inl (cZ, 40, .inl (fun _ => bm_b false)))] H := hP
      have hD : va_D A [(h0, .inr (5, [.int 0, .long 65536, .long 0, .int 0, .ref q_7, .ref q_15, .ref q_23, .ref q_31, .ref q_39, .ref q_47, .ref q_55, .ref q_63, .ref q_71, .ref q_79, .int 0, .ref q_87, .int 0, .ref q_95, .ref q_103, .ref q_111, .int 0, .int 0, .ref q_119, .ref q_127, .ref q_135, .ref q_143, .ref q_151, .long 0])), (q_7, .inl (cJ, 40, .inr (.inl (fun _ => 0)))), (q_15, .inl (cJ, 40, .inr (.inl (fun _ => 0)))), (q_23, .inl (cI, 40, .inl (fun _ => nI 0))), (q_31, .inl (cJ, 40, .inr (.inl (fun _ => 0)))), (q_39, .inl (cZ, 40, .inl (fun _ => bm_b false))), (q_47, .inl (cI, 40, .inl (fun _ => nI 0))), (q_55, .inl (cZ, 40, .inl (fun _ => bm_b false))), (q_63, .inl (cJ, 120, .inr (.inl (fun _ => 0)))), (q_71, .inl (cJ, 120, .inr (.inl (fun _ => 0)))), (q_79, .inl (cI, 120, .inl (fun _ => nI 0))), (q_87, .inl (cJ, 50, .inr (.inl (fun _ => 0)))), (q_95, .inl (cI, 20, .inl (fun _ => nI 0))), (q_103, .inl (cI, 20, .inl (fun _ => nI 0))), (q_111, .inl (cJ, 20, .inr (.inl (fun _ => 0)))), (q_119, .inl (cI, 120, .inl (fun _ => nI 0))), (q_127, .inl (cI, 120, .inl (fun _ => nI 0))), (q_135, .inl (cJ, 120, .inr (.inl (fun _ => 0)))), (q_143, .inl (cJ, 120, .inr (.inl (fun _ => 0)))), (q_151, .inl (cZ, 40, .inl (fun _ => bm_b false)))] := hD
      refine lv_aload_n hx hb dX5_init_185 rfl (lv_at hl 0 rfl) ?_
      refine lv_lload_n hx hb dX5_init_186 rfl (lv_at hl 2 rfl) ?_
      refine lv_lconst (v := 1) hx hb dX5_init_187 (by decide) ?_
      refine bm_lc_ge (x := zB) (y := 1) (tgt := 196) hx hb dX5_init_188 dX5_init_189 (by decide) (fun c_5 => ?_) (fun c_5 => ?_)
      · refine lv_lload_n hx hb dX5_init_196 rfl (lv_at hl 2 rfl) ?_
        refine lv_ldc2 (v := 65536) hx hb hown (hts (.constantLong RX5 69 65536) (by decide +kernel)) dX5_init_197 ?_
        refine bm_lc_le (x := zB) (y := 65536) (tgt := 210) hx hb dX5_init_200 dX5_init_201 (by decide) (fun c_6 => ?_) (fun c_6 => ?_)
        · refine lv_lload_n hx hb dX5_init_210 rfl (lv_at hl 2 rfl) ?_
          refine va_putF (D := D) (ci := 5) (v := .long zB) (ty := .long) (C := RX5) (T := TX5) (N := 28) hx hb hts (inT inX5) tyX5 tyX5_ok nmX5 hown hK hP hD hS 0 rfl rfl 2 (by decide) (hts (.fieldLink RX5 75 "BoardMovesModel" "height" "J") (by decide +kernel)) (fun _ h9 => h9) rfl hin rfl (by decide +kernel) rfl rfl (Nat.le_of_ble_eq_true rfl) dX5_init_211 (fun H locs hP hD hS => ?_)
          have hP : va_P D vwCl [(h0, .inr (5, [.int 0, .long 65536, .long zB, .int 0, .ref q_7, .ref q_15, .ref q_23, .ref q_31, .ref q_39, .ref q_47, .ref q_55, .ref q_63, .ref q_71, .ref q_79, .int 0, .ref q_87, .int 0, .ref q_95, .ref q_103, .ref q_111, .int 0, .int 0, .ref q_119, .ref q_127, .ref q_135, .ref q_143, .ref q_151, .long 0])), (q_7, .inl (cJ, 40, .inr (.inl (fun _ => 0)))), (q_15, .inl (cJ, 40, .inr (.inl (fun _ => 0)))), (q_23, .inl (cI, 40, .inl (fun _ => nI 0))), (q_31, .inl (cJ, 40, .inr (.inl (fun _ => 0)))), (q_39, .inl (cZ, 40, .inl (fun _ => bm_b false))), (q_47, .inl (cI, 40, .inl (fun _ => nI 0))), (q_55, .inl (cZ, 40, .inl (fun _ => bm_b false))), (q_63, .inl (cJ, 120, .inr (.inl (fun _ => 0)))), (q_71, .inl (cJ, 120, .inr (.inl (fun _ => 0)))), (q_79, .inl (cI, 120, .inl (fun _ => nI 0))), (q_87, .inl (cJ, 50, .inr (.inl (fun _ => 0)))), (q_95, .inl (cI, 20, .inl (fun _ => nI 0))), (q_103, .inl (cI, 20, .inl (fun _ => nI 0))), (q_111, .inl (cJ, 20, .inr (.inl (fun _ => 0)))), (q_119, .inl (cI, 120, .inl (fun _ => nI 0))), (q_127, .inl (cI, 120, .inl (fun _ => nI 0))), (q_135, .inl (cJ, 120, .inr (.inl (fun _ => 0)))), (q_143, .inl (cJ, 120, .inr (.inl (fun _ => 0)))), (q_151, .inl (cZ, 40, .inl (fun _ => bm_b false)))] H := hP
          have hD : va_D A [(h0, .inr (5, [.int 0, .long 65536, .long zB, .int 0, .ref q_7, .ref q_15, .ref q_23, .ref q_31, .ref q_39, .ref q_47, .ref q_55, .ref q_63, .ref q_71, .ref q_79, .int 0, .ref q_87, .int 0, .ref q_95, .ref q_103, .ref q_111, .int 0, .int 0, .ref q_119, .ref q_127, .ref q_135, .ref q_143, .ref q_151, .long 0])), (q_7, .inl (cJ, 40, .inr (.inl (fun _ => 0)))), (q_15, .inl (cJ, 40, .inr (.inl (fun _ => 0)))), (q_23, .inl (cI, 40, .inl (fun _ => nI 0))), (q_31, .inl (cJ, 40, .inr (.inl (fun _ => 0)))), (q_39, .inl (cZ, 40, .inl (fun _ => bm_b false))), (q_47, .inl (cI, 40, .inl (fun _ => nI 0))), (q_55, .inl (cZ, 40, .inl (fun _ => bm_b false))), (q_63, .inl (cJ, 120, .inr (.inl (fun _ => 0)))), (q_71, .inl (cJ, 120, .inr (.inl (fun _ => 0)))), (q_79, .inl (cI, 120, .inl (fun _ => nI 0))), (q_87, .inl (cJ, 50, .inr (.inl (fun _ => 0)))), (q_95, .inl (cI, 20, .inl (fun _ => nI 0))), (q_103, .inl (cI, 20, .inl (fun _ => nI 0))), (q_111, .inl (cJ, 20, .inr (.inl (fun _ => 0)))), (q_119, .inl (cI, 120, .inl (fun _ => nI 0))), (q_127, .inl (cI, 120, .inl (fun _ => nI 0))), (q_135, .inl (cJ, 120, .inr (.inl (fun _ => 0)))), (q_143, .inl (cJ, 120, .inr (.inl (fun _ => 0)))), (q_151, .inl (cZ, 40, .inl (fun _ => bm_b false)))] := hD
          refine lv_aload_n hx hb dX5_init_214 rfl (lv_at hl 0 rfl) ?_
          refine lv_lload hx hb dX5_init_215 (lv_at hl 3 rfl) ?_
          refine va_put (D := D) (ci := 5) (v := .long zC) (ty := .long) (C := RX5) (T := TX5) (N := 28) hx hb hts (inT inX5) tyX5 tyX5_ok nmX5 hown hK hP hD hS 0 rfl rfl 27 (by decide) (hts (.fieldLink RX5 78 "BoardMovesModel" "s" "J") (by decide +kernel)) (fun _ h9 => h9) rfl (by decide +kernel) rfl rfl (Nat.le_of_ble_eq_true rfl) dX5_init_217 (fun H locs hP hD hS => ?_)
          have hP : va_P D vwCl [(h0, .inr (5, [.int 0, .long 65536, .long zB, .int 0, .ref q_7, .ref q_15, .ref q_23, .ref q_31, .ref q_39, .ref q_47, .ref q_55, .ref q_63, .ref q_71, .ref q_79, .int 0, .ref q_87, .int 0, .ref q_95, .ref q_103, .ref q_111, .int 0, .int 0, .ref q_119, .ref q_127, .ref q_135, .ref q_143, .ref q_151, .long zC])), (q_7, .inl (cJ, 40, .inr (.inl (fun _ => 0)))), (q_15, .inl (cJ, 40, .inr (.inl (fun _ => 0)))), (q_23, .inl (cI, 40, .inl (fun _ => nI 0))), (q_31, .inl (cJ, 40, .inr (.inl (fun _ => 0)))), (q_39, .inl (cZ, 40, .inl (fun _ => bm_b false))), (q_47, .inl (cI, 40, .inl (fun _ => nI 0))), (q_55, .inl (cZ, 40, .inl (fun _ => bm_b false))), (q_63, .inl (cJ, 120, .inr (.inl (fun _ => 0)))), (q_71, .inl (cJ, 120, .inr (.inl (fun _ => 0)))), (q_79, .inl (cI, 120, .inl (fun _ => nI 0))), (q_87, .inl (cJ, 50, .inr (.inl (fun _ => 0)))), (q_95, .inl (cI, 20, .inl (fun _ => nI 0))), (q_103, .inl (cI, 20, .inl (fun _ => nI 0))), (q_111, .inl (cJ, 20, .inr (.inl (fun _ => 0)))), (q_119, .inl (cI, 120, .inl (fun _ => nI 0))), (q_127, .inl (cI, 120, .inl (fun _ => nI 0))), (q_135, .inl (cJ, 120, .inr (.inl (fun _ => 0)))), (q_143, .inl (cJ, 120, .inr (.inl (fun _ => 0)))), (q_151, .inl (cZ, 40, .inl (fun _ => bm_b false)))] H := hP
          have hD : va_D A [(h0, .inr (5, [.int 0, .long 65536, .long zB, .int 0, .ref q_7, .ref q_15, .ref q_23, .ref q_31, .ref q_39, .ref q_47, .ref q_55, .ref q_63, .ref q_71, .ref q_79, .int 0, .ref q_87, .int 0, .ref q_95, .ref q_103, .ref q_111, .int 0, .int 0, .ref q_119, .ref q_127, .ref q_135, .ref q_143, .ref q_151, .long zC])), (q_7, .inl (cJ, 40, .inr (.inl (fun _ => 0)))), (q_15, .inl (cJ, 40, .inr (.inl (fun _ => 0)))), (q_23, .inl (cI, 40, .inl (fun _ => nI 0))), (q_31, .inl (cJ, 40, .inr (.inl (fun _ => 0)))), (q_39, .inl (cZ, 40, .inl (fun _ => bm_b false))), (q_47, .inl (cI, 40, .inl (fun _ => nI 0))), (q_55, .inl (cZ, 40, .inl (fun _ => bm_b false))), (q_63, .inl (cJ, 120, .inr (.inl (fun _ => 0)))), (q_71, .inl (cJ, 120, .inr (.inl (fun _ => 0)))), (q_79, .inl (cI, 120, .inl (fun _ => nI 0))), (q_87, .inl (cJ, 50, .inr (.inl (fun _ => 0)))), (q_95, .inl (cI, 20, .inl (fun _ => nI 0))), (q_103, .inl (cI, 20, .inl (fun _ => nI 0))), (q_111, .inl (cJ, 20, .inr (.inl (fun _ => 0)))), (q_119, .inl (cI, 120, .inl (fun _ => nI 0))), (q_127, .inl (cI, 120, .inl (fun _ => nI 0))), (q_135, .inl (cJ, 120, .inr (.inl (fun _ => 0)))), (q_143, .inl (cJ, 120, .inr (.inl (fun _ => 0)))), (q_151, .inl (cZ, 40, .inl (fun _ => bm_b false)))] := hD
          refine W.widen (k := 19) (n := 1270) (Nat.le_of_ble_eq_true rfl) (Nat.le_of_ble_eq_true rfl) ?_
          exact W.vret hx hb hr (fun t ht hW => ⟨⟨(), rfl, trivial, q_7, q_15, q_23, q_31, q_39, q_47, q_55, q_63, q_71, q_79, q_87, q_95, q_103, q_111, q_119, q_127, q_135, q_143, q_151, 65536, zB, zC, by rw [ht]; exact hP, va_K.moved hW.alike hK, hD⟩, hS.F ht⟩) hS.2.2 dX5_init_220
        · refine lv_ldc2 (v := 65536) hx hb hown (hts (.constantLong RX5 69 65536) (by decide +kernel)) dX5_init_204 ?_
          refine lv_goto (tgt := 211) hx hb dX5_init_207 (by decide) ?_
          refine va_putF (D := D) (ci := 5) (v := .long 65536) (ty := .long) (C := RX5) (T := TX5) (N := 28) hx hb hts (inT inX5) tyX5 tyX5_ok nmX5 hown hK hP hD hS 0 rfl rfl 2 (by decide) (hts (.fieldLink RX5 75 "BoardMovesModel" "height" "J") (by decide +kernel)) (fun _ h9 => h9) rfl hin rfl (by decide +kernel) rfl rfl (Nat.le_of_ble_eq_true rfl) dX5_init_211 (fun H locs hP hD hS => ?_)
          have hP : va_P D vwCl [(h0, .inr (5, [.int 0, .long 65536, .long 65536, .int 0, .ref q_7, .ref q_15, .ref q_23, .ref q_31, .ref q_39, .ref q_47, .ref q_55, .ref q_63, .ref q_71, .ref q_79, .int 0, .ref q_87, .int 0, .ref q_95, .ref q_103, .ref q_111, .int 0, .int 0, .ref q_119, .ref q_127, .ref q_135, .ref q_143, .ref q_151, .long 0])), (q_7, .inl (cJ, 40, .inr (.inl (fun _ => 0)))), (q_15, .inl (cJ, 40, .inr (.inl (fun _ => 0)))), (q_23, .inl (cI, 40, .inl (fun _ => nI 0))), (q_31, .inl (cJ, 40, .inr (.inl (fun _ => 0)))), (q_39, .inl (cZ, 40, .inl (fun _ => bm_b false))), (q_47, .inl (cI, 40, .inl (fun _ => nI 0))), (q_55, .inl (cZ, 40, .inl (fun _ => bm_b false))), (q_63, .inl (cJ, 120, .inr (.inl (fun _ => 0)))), (q_71, .inl (cJ, 120, .inr (.inl (fun _ => 0)))), (q_79, .inl (cI, 120, .inl (fun _ => nI 0))), (q_87, .inl (cJ, 50, .inr (.inl (fun _ => 0)))), (q_95, .inl (cI, 20, .inl (fun _ => nI 0))), (q_103, .inl (cI, 20, .inl (fun _ => nI 0))), (q_111, .inl (cJ, 20, .inr (.inl (fun _ => 0)))), (q_119, .inl (cI, 120, .inl (fun _ => nI 0))), (q_127, .inl (cI, 120, .inl (fun _ => nI 0))), (q_135, .inl (cJ, 120, .inr (.inl (fun _ => 0)))), (q_143, .inl (cJ, 120, .inr (.inl (fun _ => 0)))), (q_151, .inl (cZ, 40, .inl (fun _ => bm_b false)))] H := hP
          have hD : va_D A [(h0, .inr (5, [.int 0, .long 65536, .long 65536, .int 0, .ref q_7, .ref q_15, .ref q_23, .ref q_31, .ref q_39, .ref q_47, .ref q_55, .ref q_63, .ref q_71, .ref q_79, .int 0, .ref q_87, .int 0, .ref q_95, .ref q_103, .ref q_111, .int 0, .int 0, .ref q_119, .ref q_127, .ref q_135, .ref q_143, .ref q_151, .long 0])), (q_7, .inl (cJ, 40, .inr (.inl (fun _ => 0)))), (q_15, .inl (cJ, 40, .inr (.inl (fun _ => 0)))), (q_23, .inl (cI, 40, .inl (fun _ => nI 0))), (q_31, .inl (cJ, 40, .inr (.inl (fun _ => 0)))), (q_39, .inl (cZ, 40, .inl (fun _ => bm_b false))), (q_47, .inl (cI, 40, .inl (fun _ => nI 0))), (q_55, .inl (cZ, 40, .inl (fun _ => bm_b false))), (q_63, .inl (cJ, 120, .inr (.inl (fun _ => 0)))), (q_71, .inl (cJ, 120, .inr (.inl (fun _ => 0)))), (q_79, .inl (cI, 120, .inl (fun _ => nI 0))), (q_87, .inl (cJ, 50, .inr (.inl (fun _ => 0)))), (q_95, .inl (cI, 20, .inl (fun _ => nI 0))), (q_103, .inl (cI, 20, .inl (fun _ => nI 0))), (q_111, .inl (cJ, 20, .inr (.inl (fun _ => 0)))), (q_119, .inl (cI, 120, .inl (fun _ => nI 0))), (q_127, .inl (cI, 120, .inl (fun _ => nI 0))), (q_135, .inl (cJ, 120, .inr (.inl (fun _ => 0)))), (q_143, .inl (cJ, 120, .inr (.inl (fun _ => 0)))), (q_151, .inl (cZ, 40, .inl (fun _ => bm_b false)))] := hD
          refine lv_aload_n hx hb dX5_init_214 rfl (lv_at hl 0 rfl) ?_
          refine lv_lload hx hb dX5_init_215 (lv_at hl 3 rfl) ?_
          refine va_put (D := D) (ci := 5) (v := .long zC) (ty := .long) (C := RX5) (T := TX5) (N := 28) hx hb hts (inT inX5) tyX5 tyX5_ok nmX5 hown hK hP hD hS 0 rfl rfl 27 (by decide) (hts (.fieldLink RX5 78 "BoardMovesModel" "s" "J") (by decide +kernel)) (fun _ h9 => h9) rfl (by decide +kernel) rfl rfl (Nat.le_of_ble_eq_true rfl) dX5_init_217 (fun H locs hP hD hS => ?_)
          have hP : va_P D vwCl [(h0, .inr (5, [.int 0, .long 65536, .long 65536, .int 0, .ref q_7, .ref q_15, .ref q_23, .ref q_31, .ref q_39, .ref q_47, .ref q_55, .ref q_63, .ref q_71, .ref q_79, .int 0, .ref q_87, .int 0, .ref q_95, .ref q_103, .ref q_111, .int 0, .int 0, .ref q_119, .ref q_127, .ref q_135, .ref q_143, .ref q_151, .long zC])), (q_7, .inl (cJ, 40, .inr (.inl (fun _ => 0)))), (q_15, .inl (cJ, 40, .inr (.inl (fun _ => 0)))), (q_23, .inl (cI, 40, .inl (fun _ => nI 0))), (q_31, .inl (cJ, 40, .inr (.inl (fun _ => 0)))), (q_39, .inl (cZ, 40, .inl (fun _ => bm_b false))), (q_47, .inl (cI, 40, .inl (fun _ => nI 0))), (q_55, .inl (cZ, 40, .inl (fun _ => bm_b false))), (q_63, .inl (cJ, 120, .inr (.inl (fun _ => 0)))), (q_71, .inl (cJ, 120, .inr (.inl (fun _ => 0)))), (q_79, .inl (cI, 120, .inl (fun _ => nI 0))), (q_87, .inl (cJ, 50, .inr (.inl (fun _ => 0)))), (q_95, .inl (cI, 20, .inl (fun _ => nI 0))), (q_103, .inl (cI, 20, .inl (fun _ => nI 0))), (q_111, .inl (cJ, 20, .inr (.inl (fun _ => 0)))), (q_119, .inl (cI, 120, .inl (fun _ => nI 0))), (q_127, .inl (cI, 120, .inl (fun _ => nI 0))), (q_135, .inl (cJ, 120, .inr (.inl (fun _ => 0)))), (q_143, .inl (cJ, 120, .inr (.inl (fun _ => 0)))), (q_151, .inl (cZ, 40, .inl (fun _ => bm_b false)))] H := hP
          have hD : va_D A [(h0, .inr (5, [.int 0, .long 65536, .long 65536, .int 0, .ref q_7, .ref q_15, .ref q_23, .ref q_31, .ref q_39, .ref q_47, .ref q_55, .ref q_63, .ref q_71, .ref q_79, .int 0, .ref q_87, .int 0, .ref q_95, .ref q_103, .ref q_111, .int 0, .int 0, .ref q_119, .ref q_127, .ref q_135, .ref q_143, .ref q_151, .long zC])), (q_7, .inl (cJ, 40, .inr (.inl (fun _ => 0)))), (q_15, .inl (cJ, 40, .inr (.inl (fun _ => 0)))), (q_23, .inl (cI, 40, .inl (fun _ => nI 0))), (q_31, .inl (cJ, 40, .inr (.inl (fun _ => 0)))), (q_39, .inl (cZ, 40, .inl (fun _ => bm_b false))), (q_47, .inl (cI, 40, .inl (fun _ => nI 0))), (q_55, .inl (cZ, 40, .inl (fun _ => bm_b false))), (q_63, .inl (cJ, 120, .inr (.inl (fun _ => 0)))), (q_71, .inl (cJ, 120, .inr (.inl (fun _ => 0)))), (q_79, .inl (cI, 120, .inl (fun _ => nI 0))), (q_87, .inl (cJ, 50, .inr (.inl (fun _ => 0)))), (q_95, .inl (cI, 20, .inl (fun _ => nI 0))), (q_103, .inl (cI, 20, .inl (fun _ => nI 0))), (q_111, .inl (cJ, 20, .inr (.inl (fun _ => 0)))), (q_119, .inl (cI, 120, .inl (fun _ => nI 0))), (q_127, .inl (cI, 120, .inl (fun _ => nI 0))), (q_135, .inl (cJ, 120, .inr (.inl (fun _ => 0)))), (q_143, .inl (cJ, 120, .inr (.inl (fun _ => 0)))), (q_151, .inl (cZ, 40, .inl (fun _ => bm_b false)))] := hD
          refine W.widen (k := 19) (n := 1270) (Nat.le_of_ble_eq_true rfl) (Nat.le_of_ble_eq_true rfl) ?_
          exact W.vret hx hb hr (fun t ht hW => ⟨⟨(), rfl, trivial, q_7, q_15, q_23, q_31, q_39, q_47, q_55, q_63, q_71, q_79, q_87, q_95, q_103, q_111, q_119, q_127, q_135, q_143, q_151, 65536, 65536, zC, by rw [ht]; exact hP, va_K.moved hW.alike hK, hD⟩, hS.F ht⟩) hS.2.2 dX5_init_220
      · refine lv_lconst (v := 1) hx hb dX5_init_192 (by decide) ?_
        refine lv_goto (tgt := 211) hx hb dX5_init_193 (by decide) ?_
        refine va_putF (D := D) (ci := 5) (v := .long 1) (ty := .long) (C := RX5) (T := TX5) (N := 28) hx hb hts (inT inX5) tyX5 tyX5_ok nmX5 hown hK hP hD hS 0 rfl rfl 2 (by decide) (hts (.fieldLink RX5 75 "BoardMovesModel" "height" "J") (by decide +kernel)) (fun _ h9 => h9) rfl hin rfl (by decide +kernel) rfl rfl (Nat.le_of_ble_eq_true rfl) dX5_init_211 (fun H locs hP hD hS => ?_)
        have hP : va_P D vwCl [(h0, .inr (5, [.int 0, .long 65536, .long 1, .int 0, .ref q_7, .ref q_15, .ref q_23, .ref q_31, .ref q_39, .ref q_47, .ref q_55, .ref q_63, .ref q_71, .ref q_79, .int 0, .ref q_87, .int 0, .ref q_95, .ref q_103, .ref q_111, .int 0, .int 0, .ref q_119, .ref q_127, .ref q_135, .ref q_143, .ref q_151, .long 0])), (q_7, .inl (cJ, 40, .inr (.inl (fun _ => 0)))), (q_15, .inl (cJ, 40, .inr (.inl (fun _ => 0)))), (q_23, .inl (cI, 40, .inl (fun _ => nI 0))), (q_31, .inl (cJ, 40, .inr (.inl (fun _ => 0)))), (q_39, .inl (cZ, 40, .inl (fun _ => bm_b false))), (q_47, .inl (cI, 40, .inl (fun _ => nI 0))), (q_55, .inl (cZ, 40, .inl (fun _ => bm_b false))), (q_63, .inl (cJ, 120, .inr (.inl (fun _ => 0)))), (q_71, .inl (cJ, 120, .inr (.inl (fun _ => 0)))), (q_79, .inl (cI, 120, .inl (fun _ => nI 0))), (q_87, .inl (cJ, 50, .inr (.inl (fun _ => 0)))), (q_95, .inl (cI, 20, .inl (fun _ => nI 0))), (q_103, .inl (cI, 20, .inl (fun _ => nI 0))), (q_111, .inl (cJ, 20, .inr (.inl (fun _ => 0)))), (q_119, .inl (cI, 120, .inl (fun _ => nI 0))), (q_127, .inl (cI, 120, .inl (fun _ => nI 0))), (q_135, .inl (cJ, 120, .inr (.inl (fun _ => 0)))), (q_143, .inl (cJ, 120, .inr (.inl (fun _ => 0)))), (q_151, .inl (cZ, 40, .inl (fun _ => bm_b false)))] H := hP
        have hD : va_D A [(h0, .inr (5, [.int 0, .long 65536, .long 1, .int 0, .ref q_7, .ref q_15, .ref q_23, .ref q_31, .ref q_39, .ref q_47, .ref q_55, .ref q_63, .ref q_71, .ref q_79, .int 0, .ref q_87, .int 0, .ref q_95, .ref q_103, .ref q_111, .int 0, .int 0, .ref q_119, .ref q_127, .ref q_135, .ref q_143, .ref q_151, .long 0])), (q_7, .inl (cJ, 40, .inr (.inl (fun _ => 0)))), (q_15, .inl (cJ, 40, .inr (.inl (fun _ => 0)))), (q_23, .inl (cI, 40, .inl (fun _ => nI 0))), (q_31, .inl (cJ, 40, .inr (.inl (fun _ => 0)))), (q_39, .inl (cZ, 40, .inl (fun _ => bm_b false))), (q_47, .inl (cI, 40, .inl (fun _ => nI 0))), (q_55, .inl (cZ, 40, .inl (fun _ => bm_b false))), (q_63, .inl (cJ, 120, .inr (.inl (fun _ => 0)))), (q_71, .inl (cJ, 120, .inr (.inl (fun _ => 0)))), (q_79, .inl (cI, 120, .inl (fun _ => nI 0))), (q_87, .inl (cJ, 50, .inr (.inl (fun _ => 0)))), (q_95, .inl (cI, 20, .inl (fun _ => nI 0))), (q_103, .inl (cI, 20, .inl (fun _ => nI 0))), (q_111, .inl (cJ, 20, .inr (.inl (fun _ => 0)))), (q_119, .inl (cI, 120, .inl (fun _ => nI 0))), (q_127, .inl (cI, 120, .inl (fun _ => nI 0))), (q_135, .inl (cJ, 120, .inr (.inl (fun _ => 0)))), (q_143, .inl (cJ, 120, .inr (.inl (fun _ => 0)))), (q_151, .inl (cZ, 40, .inl (fun _ => bm_b false)))] := hD
        refine lv_aload_n hx hb dX5_init_214 rfl (lv_at hl 0 rfl) ?_
        refine lv_lload hx hb dX5_init_215 (lv_at hl 3 rfl) ?_
        refine va_put (D := D) (ci := 5) (v := .long zC) (ty := .long) (C := RX5) (T := TX5) (N := 28) hx hb hts (inT inX5) tyX5 tyX5_ok nmX5 hown hK hP hD hS 0 rfl rfl 27 (by decide) (hts (.fieldLink RX5 78 "BoardMovesModel" "s" "J") (by decide +kernel)) (fun _ h9 => h9) rfl (by decide +kernel) rfl rfl (Nat.le_of_ble_eq_true rfl) dX5_init_217 (fun H locs hP hD hS => ?_)
        have hP : va_P D vwCl [(h0, .inr (5, [.int 0, .long 65536, .long 1, .int 0, .ref q_7, .ref q_15, .ref q_23, .ref q_31, .ref q_39, .ref q_47, .ref q_55, .ref q_63, .ref q_71, .ref q_79, .int 0, .ref q_87, .int 0, .ref q_95, .ref q_103, .ref q_111, .int 0, .int 0, .ref q_119, .ref q_127, .ref q_135, .ref q_143, .ref q_151, .long zC])), (q_7, .inl (cJ, 40, .inr (.inl (fun _ => 0)))), (q_15, .inl (cJ, 40, .inr (.inl (fun _ => 0)))), (q_23, .inl (cI, 40, .inl (fun _ => nI 0))), (q_31, .inl (cJ, 40, .inr (.inl (fun _ => 0)))), (q_39, .inl (cZ, 40, .inl (fun _ => bm_b false))), (q_47, .inl (cI, 40, .inl (fun _ => nI 0))), (q_55, .inl (cZ, 40, .inl (fun _ => bm_b false))), (q_63, .inl (cJ, 120, .inr (.inl (fun _ => 0)))), (q_71, .inl (cJ, 120, .inr (.inl (fun _ => 0)))), (q_79, .inl (cI, 120, .inl (fun _ => nI 0))), (q_87, .inl (cJ, 50, .inr (.inl (fun _ => 0)))), (q_95, .inl (cI, 20, .inl (fun _ => nI 0))), (q_103, .inl (cI, 20, .inl (fun _ => nI 0))), (q_111, .inl (cJ, 20, .inr (.inl (fun _ => 0)))), (q_119, .inl (cI, 120, .inl (fun _ => nI 0))), (q_127, .inl (cI, 120, .inl (fun _ => nI 0))), (q_135, .inl (cJ, 120, .inr (.inl (fun _ => 0)))), (q_143, .inl (cJ, 120, .inr (.inl (fun _ => 0)))), (q_151, .inl (cZ, 40, .inl (fun _ => bm_b false)))] H := hP
        have hD : va_D A [(h0, .inr (5, [.int 0, .long 65536, .long 1, .int 0, .ref q_7, .ref q_15, .ref q_23, .ref q_31, .ref q_39, .ref q_47, .ref q_55, .ref q_63, .ref q_71, .ref q_79, .int 0, .ref q_87, .int 0, .ref q_95, .ref q_103, .ref q_111, .int 0, .int 0, .ref q_119, .ref q_127, .ref q_135, .ref q_143, .ref q_151, .long zC])), (q_7, .inl (cJ, 40, .inr (.inl (fun _ => 0)))), (q_15, .inl (cJ, 40, .inr (.inl (fun _ => 0)))), (q_23, .inl (cI, 40, .inl (fun _ => nI 0))), (q_31, .inl (cJ, 40, .inr (.inl (fun _ => 0)))), (q_39, .inl (cZ, 40, .inl (fun _ => bm_b false))), (q_47, .inl (cI, 40, .inl (fun _ => nI 0))), (q_55, .inl (cZ, 40, .inl (fun _ => bm_b false))), (q_63, .inl (cJ, 120, .inr (.inl (fun _ => 0)))), (q_71, .inl (cJ, 120, .inr (.inl (fun _ => 0)))), (q_79, .inl (cI, 120, .inl (fun _ => nI 0))), (q_87, .inl (cJ, 50, .inr (.inl (fun _ => 0)))), (q_95, .inl (cI, 20, .inl (fun _ => nI 0))), (q_103, .inl (cI, 20, .inl (fun _ => nI 0))), (q_111, .inl (cJ, 20, .inr (.inl (fun _ => 0)))), (q_119, .inl (cI, 120, .inl (fun _ => nI 0))), (q_127, .inl (cI, 120, .inl (fun _ => nI 0))), (q_135, .inl (cJ, 120, .inr (.inl (fun _ => 0)))), (q_143, .inl (cJ, 120, .inr (.inl (fun _ => 0)))), (q_151, .inl (cZ, 40, .inl (fun _ => bm_b false)))] := hD
        refine W.widen (k := 19) (n := 1270) (Nat.le_of_ble_eq_true rfl) (Nat.le_of_ble_eq_true rfl) ?_
        exact W.vret hx hb hr (fun t ht hW => ⟨⟨(), rfl, trivial, q_7, q_15, q_23, q_31, q_39, q_47, q_55, q_63, q_71, q_79, q_87, q_95, q_103, q_111, q_119, q_127, q_135, q_143, q_151, 65536, 1, zC, by rw [ht]; exact hP, va_K.moved hW.alike hK, hD⟩, hS.F ht⟩) hS.2.2 dX5_init_220
  · refine lv_lconst (v := 1) hx hb dX5_init_163 (by decide) ?_
    refine lv_goto (tgt := 182) hx hb dX5_init_164 (by decide) ?_
    refine va_putF (D := D) (ci := 5) (v := .long 1) (ty := .long) (C := RX5) (T := TX5) (N := 28) hx hb hts (inT inX5) tyX5 tyX5_ok nmX5 hown hK hP hD hS 0 rfl rfl 1 (by decide) (hts (.fieldLink RX5 71 "BoardMovesModel" "width" "J") (by decide +kernel)) (fun _ h9 => h9) rfl hin rfl (by decide +kernel) rfl rfl (Nat.le_of_ble_eq_true rfl) dX5_init_182 (fun H locs hP hD hS => ?_)
    have hP : va_P D vwCl [(h0, .inr (5, [.int 0, .long 1, .long 0, .int 0, .ref q_7, .ref q_15, .ref q_23, .ref q_31, .ref q_39, .ref q_47, .ref q_55, .ref q_63, .ref q_71, .ref q_79, .int 0, .ref q_87, .int 0, .ref q_95, .ref q_103, .ref q_111, .int 0, .int 0, .ref q_119, .ref q_127, .ref q_135, .ref q_143, .ref q_151, .long 0])), (q_7, .inl (cJ, 40, .inr (.inl (fun _ => 0)))), (q_15, .inl (cJ, 40, .inr (.inl (fun _ => 0)))), (q_23, .inl (cI, 40, .inl (fun _ => nI 0))), (q_31, .inl (cJ, 40, .inr (.inl (fun _ => 0)))), (q_39, .inl (cZ, 40, .inl (fun _ => bm_b false))), (q_47, .inl (cI, 40, .inl (fun _ => nI 0))), (q_55, .inl (cZ, 40, .inl (fun _ => bm_b false))), (q_63, .inl (cJ, 120, .inr (.inl (fun _ => 0)))), (q_71, .inl (cJ, 120, .inr (.inl (fun _ => 0)))), (q_79, .inl (cI, 120, .inl (fun _ => nI 0))), (q_87, .inl (cJ, 50, .inr (.inl (fun _ => 0)))), (q_95, .inl (cI, 20, .inl (fun _ => nI 0))), (q_103, .inl (cI, 20, .inl (fun _ => nI 0))), (q_111, .inl (cJ, 20, .inr (.inl (fun _ => 0)))), (q_119, .inl (cI, 120, .inl (fun _ => nI 0))), (q_127, .inl (cI, 120, .inl (fun _ => nI 0))), (q_135, .inl (cJ, 120, .inr (.inl (fun _ => 0)))), (q_143, .inl (cJ, 120, .inr (.inl (fun _ => 0)))), (q_151, .inl (cZ, 40, .inl (fun _ => bm_b false)))] H := hP
    have hD : va_D A [(h0, .inr (5, [.int 0, .long 1, .long 0, .int 0, .ref q_7, .ref q_15, .ref q_23, .ref q_31, .ref q_39, .ref q_47, .ref q_55, .ref q_63, .ref q_71, .ref q_79, .int 0, .ref q_87, .int 0, .ref q_95, .ref q_103, .ref q_111, .int 0, .int 0, .ref q_119, .ref q_127, .ref q_135, .ref q_143, .ref q_151, .long 0])), (q_7, .inl (cJ, 40, .inr (.inl (fun _ => 0)))), (q_15, .inl (cJ, 40, .inr (.inl (fun _ => 0)))), (q_23, .inl (cI, 40, .inl (fun _ => nI 0))), (q_31, .inl (cJ, 40, .inr (.inl (fun _ => 0)))), (q_39, .inl (cZ, 40, .inl (fun _ => bm_b false))), (q_47, .inl (cI, 40, .inl (fun _ => nI 0))), (q_55, .inl (cZ, 40, .inl (fun _ => bm_b false))), (q_63, .inl (cJ, 120, .inr (.inl (fun _ => 0)))), (q_71, .inl (cJ, 120, .inr (.inl (fun _ => 0)))), (q_79, .inl (cI, 120, .inl (fun _ => nI 0))), (q_87, .inl (cJ, 50, .inr (.inl (fun _ => 0)))), (q_95, .inl (cI, 20, .inl (fun _ => nI 0))), (q_103, .inl (cI, 20, .inl (fun _ => nI 0))), (q_111, .inl (cJ, 20, .inr (.inl (fun _ => 0)))), (q_119, .inl (cI, 120, .inl (fun _ => nI 0))), (q_127, .inl (cI, 120, .inl (fun _ => nI 0))), (q_135, .inl (cJ, 120, .inr (.inl (fun _ => 0)))), (q_143, .inl (cJ, 120, .inr (.inl (fun _ => 0)))), (q_151, .inl (cZ, 40, .inl (fun _ => bm_b false)))] := hD
    refine lv_aload_n hx hb dX5_init_185 rfl (lv_at hl 0 rfl) ?_
    refine lv_lload_n hx hb dX5_init_186 rfl (lv_at hl 2 rfl) ?_
    refine lv_lconst (v := 1) hx hb dX5_init_187 (by decide) ?_
    refine bm_lc_ge (x := zB) (y := 1) (tgt := 196) hx hb dX5_init_188 dX5_init_189 (by decide) (fun c_7 => ?_) (fun c_7 => ?_)
    · refine lv_lload_n hx hb dX5_init_196 rfl (lv_at hl 2 rfl) ?_
      refine lv_ldc2 (v := 65536) hx hb hown (hts (.constantLong RX5 69 65536) (by decide +kernel)) dX5_init_197 ?_
      refine bm_lc_le (x := zB) (y := 65536) (tgt := 210) hx hb dX5_init_200 dX5_init_201 (by decide) (fun c_8 => ?_) (fun c_8 => ?_)
      · refine lv_lload_n hx hb dX5_init_210 rfl (lv_at hl 2 rfl) ?_
        refine va_putF (D := D) (ci := 5) (v := .long zB) (ty := .long) (C := RX5) (T := TX5) (N := 28) hx hb hts (inT inX5) tyX5 tyX5_ok nmX5 hown hK hP hD hS 0 rfl rfl 2 (by decide) (hts (.fieldLink RX5 75 "BoardMovesModel" "height" "J") (by decide +kernel)) (fun _ h9 => h9) rfl hin rfl (by decide +kernel) rfl rfl (Nat.le_of_ble_eq_true rfl) dX5_init_211 (fun H locs hP hD hS => ?_)
        have hP : va_P D vwCl [(h0, .inr (5, [.int 0, .long 1, .long zB, .int 0, .ref q_7, .ref q_15, .ref q_23, .ref q_31, .ref q_39, .ref q_47, .ref q_55, .ref q_63, .ref q_71, .ref q_79, .int 0, .ref q_87, .int 0, .ref q_95, .ref q_103, .ref q_111, .int 0, .int 0, .ref q_119, .ref q_127, .ref q_135, .ref q_143, .ref q_151, .long 0])), (q_7, .inl (cJ, 40, .inr (.inl (fun _ => 0)))), (q_15, .inl (cJ, 40, .inr (.inl (fun _ => 0)))), (q_23, .inl (cI, 40, .inl (fun _ => nI 0))), (q_31, .inl (cJ, 40, .inr (.inl (fun _ => 0)))), (q_39, .inl (cZ, 40, .inl (fun _ => bm_b false))), (q_47, .inl (cI, 40, .inl (fun _ => nI 0))), (q_55, .inl (cZ, 40, .inl (fun _ => bm_b false))), (q_63, .inl (cJ, 120, .inr (.inl (fun _ => 0)))), (q_71, .inl (cJ, 120, .inr (.inl (fun _ => 0)))), (q_79, .inl (cI, 120, .inl (fun _ => nI 0))), (q_87, .inl (cJ, 50, .inr (.inl (fun _ => 0)))), (q_95, .inl (cI, 20, .inl (fun _ => nI 0))), (q_103, .inl (cI, 20, .inl (fun _ => nI 0))), (q_111, .inl (cJ, 20, .inr (.inl (fun _ => 0)))), (q_119, .inl (cI, 120, .inl (fun _ => nI 0))), (q_127, .inl (cI, 120, .inl (fun _ => nI 0))), (q_135, .inl (cJ, 120, .inr (.inl (fun _ => 0)))), (q_143, .inl (cJ, 120, .inr (.inl (fun _ => 0)))), (q_151, .inl (cZ, 40, .inl (fun _ => bm_b false)))] H := hP
        have hD : va_D A [(h0, .inr (5, [.int 0, .long 1, .long zB, .int 0, .ref q_7, .ref q_15, .ref q_23, .ref q_31, .ref q_39, .ref q_47, .ref q_55, .ref q_63, .ref q_71, .ref q_79, .int 0, .ref q_87, .int 0, .ref q_95, .ref q_103, .ref q_111, .int 0, .int 0, .ref q_119, .ref q_127, .ref q_135, .ref q_143, .ref q_151, .long 0])), (q_7, .inl (cJ, 40, .inr (.inl (fun _ => 0)))), (q_15, .inl (cJ, 40, .inr (.inl (fun _ => 0)))), (q_23, .inl (cI, 40, .inl (fun _ => nI 0))), (q_31, .inl (cJ, 40, .inr (.inl (fun _ => 0)))), (q_39, .inl (cZ, 40, .inl (fun _ => bm_b false))), (q_47, .inl (cI, 40, .inl (fun _ => nI 0))), (q_55, .inl (cZ, 40, .inl (fun _ => bm_b false))), (q_63, .inl (cJ, 120, .inr (.inl (fun _ => 0)))), (q_71, .inl (cJ, 120, .inr (.inl (fun _ => 0)))), (q_79, .inl (cI, 120, .inl (fun _ => nI 0))), (q_87, .inl (cJ, 50, .inr (.inl (fun _ => 0)))), (q_95, .inl (cI, 20, .inl (fun _ => nI 0))), (q_103, .inl (cI, 20, .inl (fun _ => nI 0))), (q_111, .inl (cJ, 20, .inr (.inl (fun _ => 0)))), (q_119, .inl (cI, 120, .inl (fun _ => nI 0))), (q_127, .inl (cI, 120, .inl (fun _ => nI 0))), (q_135, .inl (cJ, 120, .inr (.inl (fun _ => 0)))), (q_143, .inl (cJ, 120, .inr (.inl (fun _ => 0)))), (q_151, .inl (cZ, 40, .inl (fun _ => bm_b false)))] := hD
        refine lv_aload_n hx hb dX5_init_214 rfl (lv_at hl 0 rfl) ?_
        refine lv_lload hx hb dX5_init_215 (lv_at hl 3 rfl) ?_
        refine va_put (D := D) (ci := 5) (v := .long zC) (ty := .long) (C := RX5) (T := TX5) (N := 28) hx hb hts (inT inX5) tyX5 tyX5_ok nmX5 hown hK hP hD hS 0 rfl rfl 27 (by decide) (hts (.fieldLink RX5 78 "BoardMovesModel" "s" "J") (by decide +kernel)) (fun _ h9 => h9) rfl (by decide +kernel) rfl rfl (Nat.le_of_ble_eq_true rfl) dX5_init_217 (fun H locs hP hD hS => ?_)
        have hP : va_P D vwCl [(h0, .inr (5, [.int 0, .long 1, .long zB, .int 0, .ref q_7, .ref q_15, .ref q_23, .ref q_31, .ref q_39, .ref q_47, .ref q_55, .ref q_63, .ref q_71, .ref q_79, .int 0, .ref q_87, .int 0, .ref q_95, .ref q_103, .ref q_111, .int 0, .int 0, .ref q_119, .ref q_127, .ref q_135, .ref q_143, .ref q_151, .long zC])), (q_7, .inl (cJ, 40, .inr (.inl (fun _ => 0)))), (q_15, .inl (cJ, 40, .inr (.inl (fun _ => 0)))), (q_23, .inl (cI, 40, .inl (fun _ => nI 0))), (q_31, .inl (cJ, 40, .inr (.inl (fun _ => 0)))), (q_39, .inl (cZ, 40, .inl (fun _ => bm_b false))), (q_47, .inl (cI, 40, .inl (fun _ => nI 0))), (q_55, .inl (cZ, 40, .inl (fun _ => bm_b false))), (q_63, .inl (cJ, 120, .inr (.inl (fun _ => 0)))), (q_71, .inl (cJ, 120, .inr (.inl (fun _ => 0)))), (q_79, .inl (cI, 120, .inl (fun _ => nI 0))), (q_87, .inl (cJ, 50, .inr (.inl (fun _ => 0)))), (q_95, .inl (cI, 20, .inl (fun _ => nI 0))), (q_103, .inl (cI, 20, .inl (fun _ => nI 0))), (q_111, .inl (cJ, 20, .inr (.inl (fun _ => 0)))), (q_119, .inl (cI, 120, .inl (fun _ => nI 0))), (q_127, .inl (cI, 120, .inl (fun _ => nI 0))), (q_135, .inl (cJ, 120, .inr (.inl (fun _ => 0)))), (q_143, .inl (cJ, 120, .inr (.inl (fun _ => 0)))), (q_151, .inl (cZ, 40, .inl (fun _ => bm_b false)))] H := hP
        have hD : va_D A [(h0, .inr (5, [.int 0, .long 1, .long zB, .int 0, .ref q_7, .ref q_15, .ref q_23, .ref q_31, .ref q_39, .ref q_47, .ref q_55, .ref q_63, .ref q_71, .ref q_79, .int 0, .ref q_87, .int 0, .ref q_95, .ref q_103, .ref q_111, .int 0, .int 0, .ref q_119, .ref q_127, .ref q_135, .ref q_143, .ref q_151, .long zC])), (q_7, .inl (cJ, 40, .inr (.inl (fun _ => 0)))), (q_15, .inl (cJ, 40, .inr (.inl (fun _ => 0)))), (q_23, .inl (cI, 40, .inl (fun _ => nI 0))), (q_31, .inl (cJ, 40, .inr (.inl (fun _ => 0)))), (q_39, .inl (cZ, 40, .inl (fun _ => bm_b false))), (q_47, .inl (cI, 40, .inl (fun _ => nI 0))), (q_55, .inl (cZ, 40, .inl (fun _ => bm_b false))), (q_63, .inl (cJ, 120, .inr (.inl (fun _ => 0)))), (q_71, .inl (cJ, 120, .inr (.inl (fun _ => 0)))), (q_79, .inl (cI, 120, .inl (fun _ => nI 0))), (q_87, .inl (cJ, 50, .inr (.inl (fun _ => 0)))), (q_95, .inl (cI, 20, .inl (fun _ => nI 0))), (q_103, .inl (cI, 20, .inl (fun _ => nI 0))), (q_111, .inl (cJ, 20, .inr (.inl (fun _ => 0)))), (q_119, .inl (cI, 120, .inl (fun _ => nI 0))), (q_127, .inl (cI, 120, .inl (fun _ => nI 0))), (q_135, .inl (cJ, 120, .inr (.inl (fun _ => 0)))), (q_143, .inl (cJ, 120, .inr (.inl (fun _ => 0)))), (q_151, .inl (cZ, 40, .inl (fun _ => bm_b false)))] := hD
        refine W.widen (k := 19) (n := 1270) (Nat.le_of_ble_eq_true rfl) (Nat.le_of_ble_eq_true rfl) ?_
        exact W.vret hx hb hr (fun t ht hW => ⟨⟨(), rfl, trivial, q_7, q_15, q_23, q_31, q_39, q_47, q_55, q_63, q_71, q_79, q_87, q_95, q_103, q_111, q_119, q_127, q_135, q_143, q_151, 1, zB, zC, by rw [ht]; exact hP, va_K.moved hW.alike hK, hD⟩, hS.F ht⟩) hS.2.2 dX5_init_220
      · refine lv_ldc2 (v := 65536) hx hb hown (hts (.constantLong RX5 69 65536) (by decide +kernel)) dX5_init_204 ?_
        refine lv_goto (tgt := 211) hx hb dX5_init_207 (by decide) ?_
        refine va_putF (D := D) (ci := 5) (v := .long 65536) (ty := .long) (C := RX5) (T := TX5) (N := 28) hx hb hts (inT inX5) tyX5 tyX5_ok nmX5 hown hK hP hD hS 0 rfl rfl 2 (by decide) (hts (.fieldLink RX5 75 "BoardMovesModel" "height" "J") (by decide +kernel)) (fun _ h9 => h9) rfl hin rfl (by decide +kernel) rfl rfl (Nat.le_of_ble_eq_true rfl) dX5_init_211 (fun H locs hP hD hS => ?_)
        have hP : va_P D vwCl [(h0, .inr (5, [.int 0, .long 1, .long 65536, .int 0, .ref q_7, .ref q_15, .ref q_23, .ref q_31, .ref q_39, .ref q_47, .ref q_55, .ref q_63, .ref q_71, .ref q_79, .int 0, .ref q_87, .int 0, .ref q_95, .ref q_103, .ref q_111, .int 0, .int 0, .ref q_119, .ref q_127, .ref q_135, .ref q_143, .ref q_151, .long 0])), (q_7, .inl (cJ, 40, .inr (.inl (fun _ => 0)))), (q_15, .inl (cJ, 40, .inr (.inl (fun _ => 0)))), (q_23, .inl (cI, 40, .inl (fun _ => nI 0))), (q_31, .inl (cJ, 40, .inr (.inl (fun _ => 0)))), (q_39, .inl (cZ, 40, .inl (fun _ => bm_b false))), (q_47, .inl (cI, 40, .inl (fun _ => nI 0))), (q_55, .inl (cZ, 40, .inl (fun _ => bm_b false))), (q_63, .inl (cJ, 120, .inr (.inl (fun _ => 0)))), (q_71, .inl (cJ, 120, .inr (.inl (fun _ => 0)))), (q_79, .inl (cI, 120, .inl (fun _ => nI 0))), (q_87, .inl (cJ, 50, .inr (.inl (fun _ => 0)))), (q_95, .inl (cI, 20, .inl (fun _ => nI 0))), (q_103, .inl (cI, 20, .inl (fun _ => nI 0))), (q_111, .inl (cJ, 20, .inr (.inl (fun _ => 0)))), (q_119, .inl (cI, 120, .inl (fun _ => nI 0))), (q_127, .inl (cI, 120, .inl (fun _ => nI 0))), (q_135, .inl (cJ, 120, .inr (.inl (fun _ => 0)))), (q_143, .inl (cJ, 120, .inr (.inl (fun _ => 0)))), (q_151, .inl (cZ, 40, .inl (fun _ => bm_b false)))] H := hP
        have hD : va_D A [(h0, .inr (5, [.int 0, .long 1, .long 65536, .int 0, .ref q_7, .ref q_15, .ref q_23, .ref q_31, .ref q_39, .ref q_47, .ref q_55, .ref q_63, .ref q_71, .ref q_79, .int 0, .ref q_87, .int 0, .ref q_95, .ref q_103, .ref q_111, .int 0, .int 0, .ref q_119, .ref q_127, .ref q_135, .ref q_143, .ref q_151, .long 0])), (q_7, .inl (cJ, 40, .inr (.inl (fun _ => 0)))), (q_15, .inl (cJ, 40, .inr (.inl (fun _ => 0)))), (q_23, .inl (cI, 40, .inl (fun _ => nI 0))), (q_31, .inl (cJ, 40, .inr (.inl (fun _ => 0)))), (q_39, .inl (cZ, 40, .inl (fun _ => bm_b false))), (q_47, .inl (cI, 40, .inl (fun _ => nI 0))), (q_55, .inl (cZ, 40, .inl (fun _ => bm_b false))), (q_63, .inl (cJ, 120, .inr (.inl (fun _ => 0)))), (q_71, .inl (cJ, 120, .inr (.inl (fun _ => 0)))), (q_79, .inl (cI, 120, .inl (fun _ => nI 0))), (q_87, .inl (cJ, 50, .inr (.inl (fun _ => 0)))), (q_95, .inl (cI, 20, .inl (fun _ => nI 0))), (q_103, .inl (cI, 20, .inl (fun _ => nI 0))), (q_111, .inl (cJ, 20, .inr (.inl (fun _ => 0)))), (q_119, .inl (cI, 120, .inl (fun _ => nI 0))), (q_127, .inl (cI, 120, .inl (fun _ => nI 0))), (q_135, .inl (cJ, 120, .inr (.inl (fun _ => 0)))), (q_143, .inl (cJ, 120, .inr (.inl (fun _ => 0)))), (q_151, .inl (cZ, 40, .inl (fun _ => bm_b false)))] := hD
        refine lv_aload_n hx hb dX5_init_214 rfl (lv_at hl 0 rfl) ?_
        refine lv_lload hx hb dX5_init_215 (lv_at hl 3 rfl) ?_
        refine va_put (D := D) (ci := 5) (v := .long zC) (ty := .long) (C := RX5) (T := TX5) (N := 28) hx hb hts (inT inX5) tyX5 tyX5_ok nmX5 hown hK hP hD hS 0 rfl rfl 27 (by decide) (hts (.fieldLink RX5 78 "BoardMovesModel" "s" "J") (by decide +kernel)) (fun _ h9 => h9) rfl (by decide +kernel) rfl rfl (Nat.le_of_ble_eq_true rfl) dX5_init_217 (fun H locs hP hD hS => ?_)
        have hP : va_P D vwCl [(h0, .inr (5, [.int 0, .long 1, .long 65536, .int 0, .ref q_7, .ref q_15, .ref q_23, .ref q_31, .ref q_39, .ref q_47, .ref q_55, .ref q_63, .ref q_71, .ref q_79, .int 0, .ref q_87, .int 0, .ref q_95, .ref q_103, .ref q_111, .int 0, .int 0, .ref q_119, .ref q_127, .ref q_135, .ref q_143, .ref q_151, .long zC])), (q_7, .inl (cJ, 40, .inr (.inl (fun _ => 0)))), (q_15, .inl (cJ, 40, .inr (.inl (fun _ => 0)))), (q_23, .inl (cI, 40, .inl (fun _ => nI 0))), (q_31, .inl (cJ, 40, .inr (.inl (fun _ => 0)))), (q_39, .inl (cZ, 40, .inl (fun _ => bm_b false))), (q_47, .inl (cI, 40, .inl (fun _ => nI 0))), (q_55, .inl (cZ, 40, .inl (fun _ => bm_b false))), (q_63, .inl (cJ, 120, .inr (.inl (fun _ => 0)))), (q_71, .inl (cJ, 120, .inr (.inl (fun _ => 0)))), (q_79, .inl (cI, 120, .inl (fun _ => nI 0))), (q_87, .inl (cJ, 50, .inr (.inl (fun _ => 0)))), (q_95, .inl (cI, 20, .inl (fun _ => nI 0))), (q_103, .inl (cI, 20, .inl (fun _ => nI 0))), (q_111, .inl (cJ, 20, .inr (.inl (fun _ => 0)))), (q_119, .inl (cI, 120, .inl (fun _ => nI 0))), (q_127, .inl (cI, 120, .inl (fun _ => nI 0))), (q_135, .inl (cJ, 120, .inr (.inl (fun _ => 0)))), (q_143, .inl (cJ, 120, .inr (.inl (fun _ => 0)))), (q_151, .inl (cZ, 40, .inl (fun _ => bm_b false)))] H := hP
        have hD : va_D A [(h0, .inr (5, [.int 0, .long 1, .long 65536, .int 0, .ref q_7, .ref q_15, .ref q_23, .ref q_31, .ref q_39, .ref q_47, .ref q_55, .ref q_63, .ref q_71, .ref q_79, .int 0, .ref q_87, .int 0, .ref q_95, .ref q_103, .ref q_111, .int 0, .int 0, .ref q_119, .ref q_127, .ref q_135, .ref q_143, .ref q_151, .long zC])), (q_7, .inl (cJ, 40, .inr (.inl (fun _ => 0)))), (q_15, .inl (cJ, 40, .inr (.inl (fun _ => 0)))), (q_23, .inl (cI, 40, .inl (fun _ => nI 0))), (q_31, .inl (cJ, 40, .inr (.inl (fun _ => 0)))), (q_39, .inl (cZ, 40, .inl (fun _ => bm_b false))), (q_47, .inl (cI, 40, .inl (fun _ => nI 0))), (q_55, .inl (cZ, 40, .inl (fun _ => bm_b false))), (q_63, .inl (cJ, 120, .inr (.inl (fun _ => 0)))), (q_71, .inl (cJ, 120, .inr (.inl (fun _ => 0)))), (q_79, .inl (cI, 120, .inl (fun _ => nI 0))), (q_87, .inl (cJ, 50, .inr (.inl (fun _ => 0)))), (q_95, .inl (cI, 20, .inl (fun _ => nI 0))), (q_103, .inl (cI, 20, .inl (fun _ => nI 0))), (q_111, .inl (cJ, 20, .inr (.inl (fun _ => 0)))), (q_119, .inl (cI, 120, .inl (fun _ => nI 0))), (q_127, .inl (cI, 120, .inl (fun _ => nI 0))), (q_135, .inl (cJ, 120, .inr (.inl (fun _ => 0)))), (q_143, .inl (cJ, 120, .inr (.inl (fun _ => 0)))), (q_151, .inl (cZ, 40, .inl (fun _ => bm_b false)))] := hD
        refine W.widen (k := 19) (n := 1270) (Nat.le_of_ble_eq_true rfl) (Nat.le_of_ble_eq_true rfl) ?_
        exact W.vret hx hb hr (fun t ht hW => ⟨⟨(), rfl, trivial, q_7, q_15, q_23, q_31, q_39, q_47, q_55, q_63, q_71, q_79, q_87, q_95, q_103, q_111, q_119, q_127, q_135, q_143, q_151, 1, 65536, zC, by rw [ht]; exact hP, va_K.moved hW.alike hK, hD⟩, hS.F ht⟩) hS.2.2 dX5_init_220
    · refine lv_lconst (v := 1) hx hb dX5_init_192 (by decide) ?_
      refine lv_goto (tgt := 211) hx hb dX5_init_193 (by decide) ?_
      refine va_putF (D := D) (ci := 5) (v := .long 1) (ty := .long) (C := RX5) (T := TX5) (N := 28) hx hb hts (inT inX5) tyX5 tyX5_ok nmX5 hown hK hP hD hS 0 rfl rfl 2 (by decide) (hts (.fieldLink RX5 75 "BoardMovesModel" "height" "J") (by decide +kernel)) (fun _ h9 => h9) rfl hin rfl (by decide +kernel) rfl rfl (Nat.le_of_ble_eq_true rfl) dX5_init_211 (fun H locs hP hD hS => ?_)
      have hP : va_P D vwCl [(h0, .inr (5, [.int 0, .long 1, .long 1, .int 0, .ref q_7, .ref q_15, .ref q_23, .ref q_31, .ref q_39, .ref q_47, .ref q_55, .ref q_63, .ref q_71, .ref q_79, .int 0, .ref q_87, .int 0, .ref q_95, .ref q_103, .ref q_111, .int 0, .int 0, .ref q_119, .ref q_127, .ref q_135, .ref q_143, .ref q_151, .long 0])), (q_7, .inl (cJ, 40, .inr (.inl (fun _ => 0)))), (q_15, .inl (cJ, 40, .inr (.inl (fun _ => 0)))), (q_23, .inl (cI, 40, .inl (fun _ => nI 0))), (q_31, .inl (cJ, 40, .inr (.inl (fun _ => 0)))), (q_39, .inl (cZ, 40, .inl (fun _ => bm_b false))), (q_47, .inl (cI, 40, .inl (fun _ => nI 0))), (q_55, .inl (cZ, 40, .inl (fun _ => bm_b false))), (q_63, .inl (cJ, 120, .inr (.inl (fun _ => 0)))), (q_71, .inl (cJ, 120, .inr (.inl (fun _ => 0)))), (q_79, .inl (cI, 120, .inl (fun _ => nI 0))), (q_87, .inl (cJ, 50, .inr (.inl (fun _ => 0)))), (q_95, .inl (cI, 20, .inl (fun _ => nI 0))), (q_103, .inl (cI, 20, .inl (fun _ => nI 0))), (q_111, .inl (cJ, 20, .inr (.inl (fun _ => 0)))), (q_119, .inl (cI, 120, .inl (fun _ => nI 0))), (q_127, .inl (cI, 120, .inl (fun _ => nI 0))), (q_135, .inl (cJ, 120, .inr (.inl (fun _ => 0)))), (q_143, .inl (cJ, 120, .inr (.inl (fun _ => 0)))), (q_151, .inl (cZ, 40, .inl (fun _ => bm_b false)))] H := hP
      have hD : va_D A [(h0, .inr (5, [.int 0, .long 1, .long 1, .int 0, .ref q_7, .ref q_15, .ref q_23, .ref q_31, .ref q_39, .ref q_47, .ref q_55, .ref q_63, .ref q_71, .ref q_79, .int 0, .ref q_87, .int 0, .ref q_95, .ref q_103, .ref q_111, .int 0, .int 0, .ref q_119, .ref q_127, .ref q_135, .ref q_143, .ref q_151, .long 0])), (q_7, .inl (cJ, 40, .inr (.inl (fun _ => 0)))), (q_15, .inl (cJ, 40, .inr (.inl (fun _ => 0)))), (q_23, .inl (cI, 40, .inl (fun _ => nI 0))), (q_31, .inl (cJ, 40, .inr (.inl (fun _ => 0)))), (q_39, .inl (cZ, 40, .inl (fun _ => bm_b false))), (q_47, .inl (cI, 40, .inl (fun _ => nI 0))), (q_55, .inl (cZ, 40, .inl (fun _ => bm_b false))), (q_63, .inl (cJ, 120, .inr (.inl (fun _ => 0)))), (q_71, .inl (cJ, 120, .inr (.inl (fun _ => 0)))), (q_79, .inl (cI, 120, .inl (fun _ => nI 0))), (q_87, .inl (cJ, 50, .inr (.inl (fun _ => 0)))), (q_95, .inl (cI, 20, .inl (fun _ => nI 0))), (q_103, .inl (cI, 20, .inl (fun _ => nI 0))), (q_111, .inl (cJ, 20, .inr (.inl (fun _ => 0)))), (q_119, .inl (cI, 120, .inl (fun _ => nI 0))), (q_127, .inl (cI, 120, .inl (fun _ => nI 0))), (q_135, .inl (cJ, 120, .inr (.inl (fun _ => 0)))), (q_143, .inl (cJ, 120, .inr (.inl (fun _ => 0)))), (q_151, .inl (cZ, 40, .inl (fun _ => bm_b false)))] := hD
      refine lv_aload_n hx hb dX5_init_214 rfl (lv_at hl 0 rfl) ?_
      refine lv_lload hx hb dX5_init_215 (lv_at hl 3 rfl) ?_
      refine va_put (D := D) (ci := 5) (v := .long zC) (ty := .long) (C := RX5) (T := TX5) (N := 28) hx hb hts (inT inX5) tyX5 tyX5_ok nmX5 hown hK hP hD hS 0 rfl rfl 27 (by decide) (hts (.fieldLink RX5 78 "BoardMovesModel" "s" "J") (by decide +kernel)) (fun _ h9 => h9) rfl (by decide +kernel) rfl rfl (Nat.le_of_ble_eq_true rfl) dX5_init_217 (fun H locs hP hD hS => ?_)
      have hP : va_P D vwCl [(h0, .inr (5, [.int 0, .long 1, .long 1, .int 0, .ref q_7, .ref q_15, .ref q_23, .ref q_31, .ref q_39, .ref q_47, .ref q_55, .ref q_63, .ref q_71, .ref q_79, .int 0, .ref q_87, .int 0, .ref q_95, .ref q_103, .ref q_111, .int 0, .int 0, .ref q_119, .ref q_127, .ref q_135, .ref q_143, .ref q_151, .long zC])), (q_7, .inl (cJ, 40, .inr (.inl (fun _ => 0)))), (q_15, .inl (cJ, 40, .inr (.inl (fun _ => 0)))), (q_23, .inl (cI, 40, .inl (fun _ => nI 0))), (q_31, .inl (cJ, 40, .inr (.inl (fun _ => 0)))), (q_39, .inl (cZ, 40, .inl (fun _ => bm_b false))), (q_47, .inl (cI, 40, .inl (fun _ => nI 0))), (q_55, .inl (cZ, 40, .inl (fun _ => bm_b false))), (q_63, .inl (cJ, 120, .inr (.inl (fun _ => 0)))), (q_71, .inl (cJ, 120, .inr (.inl (fun _ => 0)))), (q_79, .inl (cI, 120, .inl (fun _ => nI 0))), (q_87, .inl (cJ, 50, .inr (.inl (fun _ => 0)))), (q_95, .inl (cI, 20, .inl (fun _ => nI 0))), (q_103, .inl (cI, 20, .inl (fun _ => nI 0))), (q_111, .inl (cJ, 20, .inr (.inl (fun _ => 0)))), (q_119, .inl (cI, 120, .inl (fun _ => nI 0))), (q_127, .inl (cI, 120, .inl (fun _ => nI 0))), (q_135, .inl (cJ, 120, .inr (.inl (fun _ => 0)))), (q_143, .inl (cJ, 120, .inr (.inl (fun _ => 0)))), (q_151, .inl (cZ, 40, .inl (fun _ => bm_b false)))] H := hP
      have hD : va_D A [(h0, .inr (5, [.int 0, .long 1, .long 1, .int 0, .ref q_7, .ref q_15, .ref q_23, .ref q_31, .ref q_39, .ref q_47, .ref q_55, .ref q_63, .ref q_71, .ref q_79, .int 0, .ref q_87, .int 0, .ref q_95, .ref q_103, .ref q_111, .int 0, .int 0, .ref q_119, .ref q_127, .ref q_135, .ref q_143, .ref q_151, .long zC])), (q_7, .inl (cJ, 40, .inr (.inl (fun _ => 0)))), (q_15, .inl (cJ, 40, .inr (.inl (fun _ => 0)))), (q_23, .inl (cI, 40, .inl (fun _ => nI 0))), (q_31, .inl (cJ, 40, .inr (.inl (fun _ => 0)))), (q_39, .inl (cZ, 40, .inl (fun _ => bm_b false))), (q_47, .inl (cI, 40, .inl (fun _ => nI 0))), (q_55, .inl (cZ, 40, .inl (fun _ => bm_b false))), (q_63, .inl (cJ, 120, .inr (.inl (fun _ => 0)))), (q_71, .inl (cJ, 120, .inr (.inl (fun _ => 0)))), (q_79, .inl (cI, 120, .inl (fun _ => nI 0))), (q_87, .inl (cJ, 50, .inr (.inl (fun _ => 0)))), (q_95, .inl (cI, 20, .inl (fun _ => nI 0))), (q_103, .inl (cI, 20, .inl (fun _ => nI 0))), (q_111, .inl (cJ, 20, .inr (.inl (fun _ => 0)))), (q_119, .inl (cI, 120, .inl (fun _ => nI 0))), (q_127, .inl (cI, 120, .inl (fun _ => nI 0))), (q_135, .inl (cJ, 120, .inr (.inl (fun _ => 0)))), (q_143, .inl (cJ, 120, .inr (.inl (fun _ => 0)))), (q_151, .inl (cZ, 40, .inl (fun _ => bm_b false)))] := hD
      refine W.widen (k := 19) (n := 1270) (Nat.le_of_ble_eq_true rfl) (Nat.le_of_ble_eq_true rfl) ?_
      exact W.vret hx hb hr (fun t ht hW => ⟨⟨(), rfl, trivial, q_7, q_15, q_23, q_31, q_39, q_47, q_55, q_63, q_71, q_79, q_87, q_95, q_103, q_111, q_119, q_127, q_135, q_143, q_151, 1, 1, zC, by rw [ht]; exact hP, va_K.moved hW.alike hK, hD⟩, hS.F ht⟩) hS.2.2 dX5_init_220
end
section
set_option maxHeartbeats 4000000 in
set_option maxRecDepth 100000 in
theorem k_len {l : Launch} {D : va_G} {ad : Nat → Nat} {cJ cI cZ : ClassId} {bm : gBM} {pa : gPA} {p0 p1 p2 : gPL} {li : gLI} {wi : gWI} {mt : Nat} {ms : gMS} {ma : gMA} {mp : gMP} {mk : gMK} {mn : gMN} {ou : Nat → Int64} {zA : Int64} : bm_Rd l yX4_isLength wsX4_isLength ({ frames := 0, cells := 0, slots := 0, locals := 0 }) D vwCl [(cJ, .long), (cI, .int), (cZ, .boolean)] (WW ad cJ cI cZ bm pa p0 p1 p2 li wi mt ms ma mp mk mn ou) [.long zA] (.int (bm_b (q_len zA))) := by
  refine Met.ofW (cc := cX4_isLength) (maxL := 2) (ret := (some .boolean)) (by decide) rfl ?_
  intro p e s m args below meth c s₁ B hml hv
  obtain ⟨ha, hP, hK⟩ := hv
  have hx := B.exec
  have hb := B.bytes
  have hr := B.returns
  have hts := atoms_spec (ws := wsX4_isLength) B.pre
  have hown : s.vm.findClass RX4 = some m.cls := findClass_of_methodNamed B.named
  have hlocks := B.notSynchronized
  have hl := lv_entry ([.long zA]) (n := 2) (Nat.le_of_ble_eq_true rfl)
  refine W.eq (g2 := entryFrame m ([.long zA] : List Value).toArray 2) (by rw [ha]) ?_
  rw [lg_entry_eq]
  generalize (lg_sl ([.long zA]) ++ List.replicate (2 - (lg_sl ([.long zA])).length) Slot.unset).toArray = ls at hl ⊢
  have hl : lv_has ls 2 [(0, .long zA)] := hl
  refine lv_lload_n hx hb dX4_isLength_0 rfl (lv_at hl 0 rfl) ?_
  refine lv_lconst (v := 1) hx hb dX4_isLength_1 (by decide) ?_
  refine bm_lc_lt (x := zA) (y := 1) (tgt := 18) hx hb dX4_isLength_2 dX4_isLength_3 (by decide) (fun c_1 => ?_) (fun c_1 => ?_)
  · refine lv_iconst (v := bm_b false) hx hb dX4_isLength_18 (by decide) ?_
    exact bm_zretR (v := false) hx hb hr (by simp [q_len, c_1]) dX4_isLength_19 hlocks
  · refine lv_lload_n hx hb dX4_isLength_6 rfl (lv_at hl 0 rfl) ?_
    refine lv_ldc2 (v := 65536) hx hb hown (hts (.constantLong RX4 51 65536) (by decide +kernel)) dX4_isLength_7 ?_
    refine bm_lc_gt (x := zA) (y := 65536) (tgt := 18) hx hb dX4_isLength_10 dX4_isLength_11 (by decide) (fun c_2 => ?_) (fun c_2 => ?_)
    · refine lv_iconst (v := bm_b false) hx hb dX4_isLength_18 (by decide) ?_
      exact bm_zretR (v := false) hx hb hr (by simp [q_len, c_1, c_2]) dX4_isLength_19 hlocks
    · refine lv_iconst (v := bm_b true) hx hb dX4_isLength_14 (by decide) ?_
      refine lv_goto (tgt := 19) hx hb dX4_isLength_15 (by decide) ?_
      exact bm_zretR (v := true) hx hb hr (by simp [q_len, c_1, c_2]) dX4_isLength_19 hlocks

set_option maxHeartbeats 4000000 in
set_option maxRecDepth 100000 in
theorem k_add {l : Launch} {D : va_G} {ad : Nat → Nat} {cJ cI cZ : ClassId} {bm : gBM} {pa : gPA} {p0 p1 p2 : gPL} {li : gLI} {wi : gWI} {mt : Nat} {ms : gMS} {ma : gMA} {mp : gMP} {mk : gMK} {mn : gMN} {ou : Nat → Int64} {zA zB : Int64} {zC : Nat} : bm_Wr l yX1_add wsX1_add ({ frames := 0, cells := 0, slots := 0, locals := 0 }) D vwCl [(cJ, .long), (cI, .int), (cZ, .boolean)] (WW ad cJ cI cZ (bm.1, bm.2.1, bm.2.2.1, 0) (pa.1, pa.2.1, pa.2.2.1, pa.2.2.2.1, pa.2.2.2.2.1, pa.2.2.2.2.2.1, 0) p0 p1 p2 (li.1, li.2.1, li.2.2.1, li.2.2.2.1, li.2.2.2.2.1, li.2.2.2.2.2.1, li.2.2.2.2.2.2.1, li.2.2.2.2.2.2.2.1, 0, 0) (wi.1, wi.2.1, wi.2.2.1, wi.2.2.2.1, wi.2.2.2.2.1, wi.2.2.2.2.2.1, wi.2.2.2.2.2.2.1, wi.2.2.2.2.2.2.2.1, wi.2.2.2.2.2.2.2.2.1, 0, 0) mt ms ma mp mk mn ou) [.ref (ad 1), .long zA, .long zB, .int (nI zC)] (WW ad cJ cI cZ (bm.1, bm.2.1, bm.2.2.1, 0) (va_up pa.1 0 zA, va_up pa.2.1 0 zB, va_up pa.2.2.1 0 zC, pa.2.2.2.1, pa.2.2.2.2.1, va_up pa.2.2.2.2.2.1 0 0, 0 + 1) p0 p1 p2 (li.1, li.2.1, li.2.2.1, li.2.2.2.1, li.2.2.2.2.1, li.2.2.2.2.2.1, li.2.2.2.2.2.2.1, li.2.2.2.2.2.2.2.1, 0, 0) (wi.1, wi.2.1, wi.2.2.1, wi.2.2.2.1, wi.2.2.2.2.1, wi.2.2.2.2.2.1, wi.2.2.2.2.2.2.1, wi.2.2.2.2.2.2.2.1, wi.2.2.2.2.2.2.2.2.1, 0, 0) mt ms ma mp mk mn ou) (some (.int (nI ((0 + 1) - 1)))) := by
  intro sz
  refine Met.ofW (cc := cX1_add) (maxL := 6) (ret := (some .int)) (by decide) rfl ?_
  intro p e s m args below meth c s₁ B hml hv
  obtain ⟨ha, hsz, hP, hK, hD0⟩ := hv
  have hx := B.exec
  have hb := B.bytes
  have hr := B.returns
  have hts := atoms_spec (ws := wsX1_add) B.pre
  have hown : s.vm.findClass RX1 = some m.cls := findClass_of_methodNamed B.named
  have hlocks := B.notSynchronized
  subst hsz
  have hD := hD0.self (sz := s.heap.size)
  generalize hAe : va_A (WW ad cJ cI cZ (bm.1, bm.2.1, bm.2.2.1, 0) (pa.1, pa.2.1, pa.2.2.1, pa.2.2.2.1, pa.2.2.2.2.1, pa.2.2.2.2.2.1, 0) p0 p1 p2 (li.1, li.2.1, li.2.2.1, li.2.2.2.1, li.2.2.2.2.1, li.2.2.2.2.2.1, li.2.2.2.2.2.2.1, li.2.2.2.2.2.2.2.1, 0, 0) (wi.1, wi.2.1, wi.2.2.1, wi.2.2.2.1, wi.2.2.2.2.1, wi.2.2.2.2.2.1, wi.2.2.2.2.2.2.1, wi.2.2.2.2.2.2.2.1, wi.2.2.2.2.2.2.2.2.1, 0, 0) mt ms ma mp mk mn ou) s.heap.size = A at hD ⊢
  have hA : ∀ q : Nat, s.heap.size ≤ q → A q := fun q h => by rw [← hAe]; exact Or.inr h
  have hS : va_S A s.heap s.heap [] := va_S.rf
  have hl := lv_entry ([.ref (ad 1), .long zA, .long zB, .int (nI zC)]) (n := 6) (Nat.le_of_ble_eq_true rfl)
  refine W.eq (g2 := entryFrame m ([.ref (ad 1), .long zA, .long zB, .int (nI zC)] : List Value).toArray 6) (by rw [ha]) ?_
  rw [lg_entry_eq]
  generalize (lg_sl ([.ref (ad 1), .long zA, .long zB, .int (nI zC)]) ++ List.replicate (6 - (lg_sl ([.ref (ad 1), .long zA, .long zB, .int (nI zC)])).length) Slot.unset).toArray = ls at hl ⊢
  have hl : lv_has ls 6 [(0, .ref (ad 1)), (1, .long zA), (3, .long zB), (5, .int (nI zC))] := hl
  refine lv_aload_n hx hb dX1_add_0 rfl (lv_at hl 0 rfl) ?_
  refine va_get (D := D) (ci := 1) (v := .int (nI 0)) (C := RX1) (T := TX1) (N := 7) hx hb hts (inT inX1) hown hK hP 1 rfl rfl 6 (by decide) (hts (.fieldLink RX1 32 "BoardMoves$Parts" "count" "I") (by decide +kernel)) (fun _ h9 => h9) rfl dX1_add_1 ?_
  refine lv_bipush (v := nI 40) hx hb dX1_add_4 (by decide) ?_
  refine bm_ni_lt (x := 0) (y := 40) (tgt := 11) hx hb (by decide) (by decide) dX1_add_6 (by decide) (fun c_1 => ?_) (fun c_1 => ?_)
  · refine lv_aload_n hx hb dX1_add_11 rfl (lv_at hl 0 rfl) ?_
    refine va_get (D := D) (ci := 1) (v := .ref (ad 2)) (C := RX1) (T := TX1) (N := 7) hx hb hts (inT inX1) hown hK hP 1 rfl rfl 0 (by decide) (hts (.fieldLink RX1 9 "BoardMoves$Parts" "w" "[J") (by decide +kernel)) (fun _ h9 => h9) rfl dX1_add_12 ?_
    refine lv_aload_n hx hb dX1_add_15 rfl (lv_at hl 0 rfl) ?_
    refine va_get (D := D) (ci := 1) (v := .int (nI 0)) (C := RX1) (T := TX1) (N := 7) hx hb hts (inT inX1) hown hK hP 1 rfl rfl 6 (by decide) (hts (.fieldLink RX1 32 "BoardMoves$Parts" "count" "I") (by decide +kernel)) (fun _ h9 => h9) rfl dX1_add_16 ?_
    refine lv_lload_n hx hb dX1_add_19 rfl (lv_at hl 1 rfl) ?_
    refine bm_last (f := pa.1) hx hb hK hP hD hS 2 0 rfl rfl (j := 0) (x := zA) (by omega) (by decide) dX1_add_20 (fun H locs hP hD hS => ?_)
    have hP : va_P D vwCl (WW ad cJ cI cZ (bm.1, bm.2.1, bm.2.2.1, 0) (va_up pa.1 0 zA, pa.2.1, pa.2.2.1, pa.2.2.2.1, pa.2.2.2.2.1, pa.2.2.2.2.2.1, 0) p0 p1 p2 (li.1, li.2.1, li.2.2.1, li.2.2.2.1, li.2.2.2.2.1, li.2.2.2.2.2.1, li.2.2.2.2.2.2.1, li.2.2.2.2.2.2.2.1, 0, 0) (wi.1, wi.2.1, wi.2.2.1, wi.2.2.2.1, wi.2.2.2.2.1, wi.2.2.2.2.2.1, wi.2.2.2.2.2.2.1, wi.2.2.2.2.2.2.2.1, wi.2.2.2.2.2.2.2.2.1, 0, 0) mt ms ma mp mk mn ou) H := hP
    have hD : va_D A (WW ad cJ cI cZ (bm.1, bm.2.1, bm.2.2.1, 0) (va_up pa.1 0 zA, pa.2.1, pa.2.2.1, pa.2.2.2.1, pa.2.2.2.2.1, pa.2.2.2.2.2.1, 0) p0 p1 p2 (li.1, li.2.1, li.2.2.1, li.2.2.2.1, li.2.2.2.2.1, li.2.2.2.2.2.1, li.2.2.2.2.2.2.1, li.2.2.2.2.2.2.2.1, 0, 0) (wi.1, wi.2.1, wi.2.2.1, wi.2.2.2.1, wi.2.2.2.2.1, wi.2.2.2.2.2.1, wi.2.2.2.2.2.2.1, wi.2.2.2.2.2.2.2.1, wi.2.2.2.2.2.2.2.2.1, 0, 0) mt ms ma mp mk mn ou) := hD
    refine lv_aload_n hx hb dX1_add_21 rfl (lv_at hl 0 rfl) ?_
    refine va_get (D := D) (ci := 1) (v := .ref (ad 3)) (C := RX1) (T := TX1) (N := 7) hx hb hts (inT inX1) hown hK hP 1 rfl rfl 1 (by decide) (hts (.fieldLink RX1 15 "BoardMoves$Parts" "h" "[J") (by decide +kernel)) (fun _ h9 => h9) rfl dX1_add_22 ?_
    refine lv_aload_n hx hb dX1_add_25 rfl (lv_at hl 0 rfl) ?_
    refine va_get (D := D) (ci := 1) (v := .int (nI 0)) (C := RX1) (T := TX1) (N := 7) hx hb hts (inT inX1) hown hK hP 1 rfl rfl 6 (by decide) (hts (.fieldLink RX1 32 "BoardMoves$Parts" "count" "I") (by decide +kernel)) (fun _ h9 => h9) rfl dX1_add_26 ?_
    refine lv_lload_n hx hb dX1_add_29 rfl (lv_at hl 2 rfl) ?_
    refine bm_last (f := pa.2.1) hx hb hK hP hD hS 3 0 rfl rfl (j := 0) (x := zB) (by omega) (by decide) dX1_add_30 (fun H locs hP hD hS => ?_)
    have hP : va_P D vwCl (WW ad cJ cI cZ (bm.1, bm.2.1, bm.2.2.1, 0) (va_up pa.1 0 zA, va_up pa.2.1 0 zB, pa.2.2.1, pa.2.2.2.1, pa.2.2.2.2.1, pa.2.2.2.2.2.1, 0) p0 p1 p2 (li.1, li.2.1, li.2.2.1, li.2.2.2.1, li.2.2.2.2.1, li.2.2.2.2.2.1, li.2.2.2.2.2.2.1, li.2.2.2.2.2.2.2.1, 0, 0) (wi.1, wi.2.1, wi.2.2.1, wi.2.2.2.1, wi.2.2.2.2.1, wi.2.2.2.2.2.1, wi.2.2.2.2.2.2.1, wi.2.2.2.2.2.2.2.1, wi.2.2.2.2.2.2.2.2.1, 0, 0) mt ms ma mp mk mn ou) H := hP
    have hD : va_D A (WW ad cJ cI cZ (bm.1, bm.2.1, bm.2.2.1, 0) (va_up pa.1 0 zA, va_up pa.2.1 0 zB, pa.2.2.1, pa.2.2.2.1, pa.2.2.2.2.1, pa.2.2.2.2.2.1, 0) p0 p1 p2 (li.1, li.2.1, li.2.2.1, li.2.2.2.1, li.2.2.2.2.1, li.2.2.2.2.2.1, li.2.2.2.2.2.2.1, li.2.2.2.2.2.2.2.1, 0, 0) (wi.1, wi.2.1, wi.2.2.1, wi.2.2.2.1, wi.2.2.2.2.1, wi.2.2.2.2.2.1, wi.2.2.2.2.2.2.1, wi.2.2.2.2.2.2.2.1, wi.2.2.2.2.2.2.2.2.1, 0, 0) mt ms ma mp mk mn ou) := hD
    refine lv_aload_n hx hb dX1_add_31 rfl (lv_at hl 0 rfl) ?_
    refine va_get (D := D) (ci := 1) (v := .ref (ad 4)) (C := RX1) (T := TX1) (N := 7) hx hb hts (inT inX1) hown hK hP 1 rfl rfl 2 (by decide) (hts (.fieldLink RX1 18 "BoardMoves$Parts" "side" "[I") (by decide +kernel)) (fun _ h9 => h9) rfl dX1_add_32 ?_
    refine lv_aload_n hx hb dX1_add_35 rfl (lv_at hl 0 rfl) ?_
    refine va_get (D := D) (ci := 1) (v := .int (nI 0)) (C := RX1) (T := TX1) (N := 7) hx hb hts (inT inX1) hown hK hP 1 rfl rfl 6 (by decide) (hts (.fieldLink RX1 32 "BoardMoves$Parts" "count" "I") (by decide +kernel)) (fun _ h9 => h9) rfl dX1_add_36 ?_
    refine lv_iload hx hb dX1_add_39 (lv_at hl 3 rfl) ?_
    refine bm_nast (f := pa.2.2.1) hx hb hK hP hD hS 4 1 rfl rfl (j := 0) (x := zC) (by omega) (by decide) dX1_add_41 (fun H locs hP hD hS => ?_)
    have hP : va_P D vwCl (WW ad cJ cI cZ (bm.1, bm.2.1, bm.2.2.1, 0) (va_up pa.1 0 zA, va_up pa.2.1 0 zB, va_up pa.2.2.1 0 zC, pa.2.2.2.1, pa.2.2.2.2.1, pa.2.2.2.2.2.1, 0) p0 p1 p2 (li.1, li.2.1, li.2.2.1, li.2.2.2.1, li.2.2.2.2.1, li.2.2.2.2.2.1, li.2.2.2.2.2.2.1, li.2.2.2.2.2.2.2.1, 0, 0) (wi.1, wi.2.1, wi.2.2.1, wi.2.2.2.1, wi.2.2.2.2.1, wi.2.2.2.2.2.1, wi.2.2.2.2.2.2.1, wi.2.2.2.2.2.2.2.1, wi.2.2.2.2.2.2.2.2.1, 0, 0) mt ms ma mp mk mn ou) H := hP
    have hD : va_D A (WW ad cJ cI cZ (bm.1, bm.2.1, bm.2.2.1, 0) (va_up pa.1 0 zA, va_up pa.2.1 0 zB, va_up pa.2.2.1 0 zC, pa.2.2.2.1, pa.2.2.2.2.1, pa.2.2.2.2.2.1, 0) p0 p1 p2 (li.1, li.2.1, li.2.2.1, li.2.2.2.1, li.2.2.2.2.1, li.2.2.2.2.2.1, li.2.2.2.2.2.2.1, li.2.2.2.2.2.2.2.1, 0, 0) (wi.1, wi.2.1, wi.2.2.1, wi.2.2.2.1, wi.2.2.2.2.1, wi.2.2.2.2.2.1, wi.2.2.2.2.2.2.1, wi.2.2.2.2.2.2.2.1, wi.2.2.2.2.2.2.2.2.1, 0, 0) mt ms ma mp mk mn ou) := hD
    refine lv_aload_n hx hb dX1_add_42 rfl (lv_at hl 0 rfl) ?_
    refine va_get (D := D) (ci := 1) (v := .ref (ad 7)) (C := RX1) (T := TX1) (N := 7) hx hb hts (inT inX1) hown hK hP 1 rfl rfl 5 (by decide) (hts (.fieldLink RX1 29 "BoardMoves$Parts" "lowest" "[I") (by decide +kernel)) (fun _ h9 => h9) rfl dX1_add_43 ?_
    refine lv_aload_n hx hb dX1_add_46 rfl (lv_at hl 0 rfl) ?_
    refine va_get (D := D) (ci := 1) (v := .int (nI 0)) (C := RX1) (T := TX1) (N := 7) hx hb hts (inT inX1) hown hK hP 1 rfl rfl 6 (by decide) (hts (.fieldLink RX1 32 "BoardMoves$Parts" "count" "I") (by decide +kernel)) (fun _ h9 => h9) rfl dX1_add_47 ?_
    refine lv_aload_n hx hb dX1_add_50 rfl (lv_at hl 0 rfl) ?_
    refine va_get (D := D) (ci := 1) (v := .int (nI 0)) (C := RX1) (T := TX1) (N := 7) hx hb hts (inT inX1) hown hK hP 1 rfl rfl 6 (by decide) (hts (.fieldLink RX1 32 "BoardMoves$Parts" "count" "I") (by decide +kernel)) (fun _ h9 => h9) rfl dX1_add_51 ?_
    refine bm_nast (f := pa.2.2.2.2.2.1) hx hb hK hP hD hS 7 1 rfl rfl (j := 0) (x := 0) (by omega) (by decide) dX1_add_54 (fun H locs hP hD hS => ?_)
    have hP : va_P D vwCl (WW ad cJ cI cZ (bm.1, bm.2.1, bm.2.2.1, 0) (va_up pa.1 0 zA, va_up pa.2.1 0 zB, va_up pa.2.2.1 0 zC, pa.2.2.2.1, pa.2.2.2.2.1, va_up pa.2.2.2.2.2.1 0 0, 0) p0 p1 p2 (li.1, li.2.1, li.2.2.1, li.2.2.2.1, li.2.2.2.2.1, li.2.2.2.2.2.1, li.2.2.2.2.2.2.1, li.2.2.2.2.2.2.2.1, 0, 0) (wi.1, wi.2.1, wi.2.2.1, wi.2.2.2.1, wi.2.2.2.2.1, wi.2.2.2.2.2.1, wi.2.2.2.2.2.2.1, wi.2.2.2.2.2.2.2.1, wi.2.2.2.2.2.2.2.2.1, 0, 0) mt ms ma mp mk mn ou) H := hP
    have hD : va_D A (WW ad cJ cI cZ (bm.1, bm.2.1, bm.2.2.1, 0) (va_up pa.1 0 zA, va_up pa.2.1 0 zB, va_up pa.2.2.1 0 zC, pa.2.2.2.1, pa.2.2.2.2.1, va_up pa.2.2.2.2.2.1 0 0, 0) p0 p1 p2 (li.1, li.2.1, li.2.2.1, li.2.2.2.1, li.2.2.2.2.1, li.2.2.2.2.2.1, li.2.2.2.2.2.2.1, li.2.2.2.2.2.2.2.1, 0, 0) (wi.1, wi.2.1, wi.2.2.1, wi.2.2.2.1, wi.2.2.2.2.1, wi.2.2.2.2.2.1, wi.2.2.2.2.2.2.1, wi.2.2.2.2.2.2.2.1, wi.2.2.2.2.2.2.2.2.1, 0, 0) mt ms ma mp mk mn ou) := hD
    refine lv_aload_n hx hb dX1_add_55 rfl (lv_at hl 0 rfl) ?_
    refine lv_dup hx hb dX1_add_56 rfl ?_
    refine va_get (D := D) (ci := 1) (v := .int (nI 0)) (C := RX1) (T := TX1) (N := 7) hx hb hts (inT inX1) hown hK hP 1 rfl rfl 6 (by decide) (hts (.fieldLink RX1 32 "BoardMoves$Parts" "count" "I") (by decide +kernel)) (fun _ h9 => h9) rfl dX1_add_57 ?_
    refine lv_iconst (v := nI 1) hx hb dX1_add_60 (by decide) ?_
    refine bm_nadd hx hb dX1_add_61 ?_
    refine va_put (D := D) (ci := 1) (v := .int (nI (0 + 1))) (ty := .int) (C := RX1) (T := TX1) (N := 7) hx hb hts (inT inX1) tyX1 tyX1_ok nmX1 hown hK hP hD hS 1 rfl rfl 6 (by decide) (hts (.fieldLink RX1 32 "BoardMoves$Parts" "count" "I") (by decide +kernel)) (fun _ h9 => h9) rfl (by decide +kernel) rfl rfl (Nat.le_of_ble_eq_true rfl) dX1_add_62 (fun H locs hP hD hS => ?_)
    have hP : va_P D vwCl (WW ad cJ cI cZ (bm.1, bm.2.1, bm.2.2.1, 0) (va_up pa.1 0 zA, va_up pa.2.1 0 zB, va_up pa.2.2.1 0 zC, pa.2.2.2.1, pa.2.2.2.2.1, va_up pa.2.2.2.2.2.1 0 0, 0 + 1) p0 p1 p2 (li.1, li.2.1, li.2.2.1, li.2.2.2.1, li.2.2.2.2.1, li.2.2.2.2.2.1, li.2.2.2.2.2.2.1, li.2.2.2.2.2.2.2.1, 0, 0) (wi.1, wi.2.1, wi.2.2.1, wi.2.2.2.1, wi.2.2.2.2.1, wi.2.2.2.2.2.1, wi.2.2.2.2.2.2.1, wi.2.2.2.2.2.2.2.1, wi.2.2.2.2.2.2.2.2.1, 0, 0) mt ms ma mp mk mn ou) H := hP
    have hD : va_D A (WW ad cJ cI cZ (bm.1, bm.2.1, bm.2.2.1, 0) (va_up pa.1 0 zA, va_up pa.2.1 0 zB, va_up pa.2.2.1 0 zC, pa.2.2.2.1, pa.2.2.2.2.1, va_up pa.2.2.2.2.2.1 0 0, 0 + 1) p0 p1 p2 (li.1, li.2.1, li.2.2.1, li.2.2.2.1, li.2.2.2.2.1, li.2.2.2.2.2.1, li.2.2.2.2.2.2.1, li.2.2.2.2.2.2.2.1, 0, 0) (wi.1, wi.2.1, wi.2.2.1, wi.2.2.2.1, wi.2.2.2.2.1, wi.2.2.2.2.2.1, wi.2.2.2.2.2.2.1, wi.2.2.2.2.2.2.2.1, wi.2.2.2.2.2.2.2.2.1, 0, 0) mt ms ma mp mk mn ou) := hD
    refine lv_aload_n hx hb dX1_add_65 rfl (lv_at hl 0 rfl) ?_
    refine va_get (D := D) (ci := 1) (v := .int (nI (0 + 1))) (C := RX1) (T := TX1) (N := 7) hx hb hts (inT inX1) hown hK hP 1 rfl rfl 6 (by decide) (hts (.fieldLink RX1 32 "BoardMoves$Parts" "count" "I") (by decide +kernel)) (fun _ h9 => h9) rfl dX1_add_66 ?_
    refine lv_iconst (v := nI 1) hx hb dX1_add_69 (by decide) ?_
    refine bm_nsub hx hb (by omega) dX1_add_70 ?_
    exact bm_iretW (v := (nI ((0 + 1) - 1))) hx hb hr hP hD hK hS ⟨rfl, rfl⟩ dX1_add_71 hlocks
  · exact absurd c_1 (by decide)

set_option maxHeartbeats 4000000 in
set_option maxRecDepth 100000 in
theorem k_part {l : Launch} {D : va_G} {ad : Nat → Nat} {cJ cI cZ : ClassId} {bm : gBM} {pa : gPA} {p0 p1 p2 : gPL} {li : gLI} {wi : gWI} {mt : Nat} {ms : gMS} {ma : gMA} {mp : gMP} {mk : gMK} {mn : gMN} {ou : Nat → Int64} {zA zB : Int64} {zC : Nat} (h1 : q_len zA = true) (h2 : q_len zB = true) (h3 : zC < 2) : bm_Wr l yX4_part wsX4_part ({ frames := 1, cells := 0, slots := 0, locals := 25 }) D vwCl [(cJ, .long), (cI, .int), (cZ, .boolean)] (WW ad cJ cI cZ (bm.1, bm.2.1, bm.2.2.1, 0) (pa.1, pa.2.1, pa.2.2.1, pa.2.2.2.1, pa.2.2.2.2.1, pa.2.2.2.2.2.1, 0) p0 p1 p2 (li.1, li.2.1, li.2.2.1, li.2.2.2.1, li.2.2.2.2.1, li.2.2.2.2.2.1, li.2.2.2.2.2.2.1, li.2.2.2.2.2.2.2.1, 0, 0) (wi.1, wi.2.1, wi.2.2.1, wi.2.2.2.1, wi.2.2.2.2.1, wi.2.2.2.2.2.1, wi.2.2.2.2.2.2.1, wi.2.2.2.2.2.2.2.1, wi.2.2.2.2.2.2.2.2.1, 0, 0) mt ms ma mp mk mn ou) [.ref (ad 0), .long zA, .long zB, .int (nI zC)] (WW ad cJ cI cZ (bm.1, bm.2.1, bm.2.2.1, 0) (va_up pa.1 0 zA, va_up pa.2.1 0 zB, va_up pa.2.2.1 0 zC, pa.2.2.2.1, pa.2.2.2.2.1, va_up pa.2.2.2.2.2.1 0 0, 0 + 1) p0 p1 p2 (li.1, li.2.1, li.2.2.1, li.2.2.2.1, li.2.2.2.2.1, li.2.2.2.2.2.1, li.2.2.2.2.2.2.1, li.2.2.2.2.2.2.2.1, 0, 0) (wi.1, wi.2.1, wi.2.2.1, wi.2.2.2.1, wi.2.2.2.2.1, wi.2.2.2.2.2.1, wi.2.2.2.2.2.2.1, wi.2.2.2.2.2.2.2.1, wi.2.2.2.2.2.2.2.2.1, 0, 0) mt ms ma mp mk mn ou) (some (.int (nI ((0 + 1) - 1)))) := by
  intro sz
  refine Met.ofW (cc := cX4_part) (maxL := 6) (ret := (some .int)) (by decide) rfl ?_
  intro p e s m args below meth c s₁ B hml hv
  obtain ⟨ha, hsz, hP, hK, hD0⟩ := hv
  have hx := B.exec
  have hb := B.bytes
  have hr := B.returns
  have hts := atoms_spec (ws := wsX4_part) B.pre
  have hown : s.vm.findClass RX4 = some m.cls := findClass_of_methodNamed B.named
  have hlocks := B.notSynchronized
  subst hsz
  have hD := hD0.self (sz := s.heap.size)
  generalize hAe : va_A (WW ad cJ cI cZ (bm.1, bm.2.1, bm.2.2.1, 0) (pa.1, pa.2.1, pa.2.2.1, pa.2.2.2.1, pa.2.2.2.2.1, pa.2.2.2.2.2.1, 0) p0 p1 p2 (li.1, li.2.1, li.2.2.1, li.2.2.2.1, li.2.2.2.2.1, li.2.2.2.2.2.1, li.2.2.2.2.2.2.1, li.2.2.2.2.2.2.2.1, 0, 0) (wi.1, wi.2.1, wi.2.2.1, wi.2.2.2.1, wi.2.2.2.2.1, wi.2.2.2.2.2.1, wi.2.2.2.2.2.2.1, wi.2.2.2.2.2.2.2.1, wi.2.2.2.2.2.2.2.2.1, 0, 0) mt ms ma mp mk mn ou) s.heap.size = A at hD ⊢
  have hA : ∀ q : Nat, s.heap.size ≤ q → A q := fun q h => by rw [← hAe]; exact Or.inr h
  have hS : va_S A s.heap s.heap [] := va_S.rf
  have hl := lv_entry ([.ref (ad 0), .long zA, .long zB, .int (nI zC)]) (n := 6) (Nat.le_of_ble_eq_true rfl)
  refine W.eq (g2 := entryFrame m ([.ref (ad 0), .long zA, .long zB, .int (nI zC)] : List Value).toArray 6) (by rw [ha]) ?_
  rw [lg_entry_eq]
  generalize (lg_sl ([.ref (ad 0), .long zA, .long zB, .int (nI zC)]) ++ List.replicate (6 - (lg_sl ([.ref (ad 0), .long zA, .long zB, .int (nI zC)])).length) Slot.unset).toArray = ls at hl ⊢
  have hl : lv_has ls 6 [(0, .ref (ad 0)), (1, .long zA), (3, .long zB), (5, .int (nI zC))] := hl
  refine lv_lload_n hx hb dX4_part_0 rfl (lv_at hl 1 rfl) ?_
  refine bm_rcallS (As := [.long zA]) (rest := []) ⟨hx, hb, hml, hown, hts⟩ (k_len) (cwS 1 hts (gdS (by decide +kernel) (by decide +kernel) (by decide +kernel) (by decide +kernel)) rfl rfl rfl (by decide +kernel) ⟨Nat.le_of_ble_eq_true rfl, Nat.le_of_ble_eq_true rfl⟩) hK hP rfl hl.1 rfl (Nat.le_of_ble_eq_true rfl) dX4_part_1 ⟨Nat.le_of_ble_eq_true rfl, Nat.le_of_ble_eq_true rfl⟩ ?_
  refine bm_zb_eq (x := (q_len zA)) (tgt := 25) hx hb dX4_part_4 (by decide) (fun c_1 => ?_) (fun c_1 => ?_)
  · exact absurd (h1.symm.trans c_1) (by decide)
  · refine lv_lload_n hx hb dX4_part_7 rfl (lv_at hl 2 rfl) ?_
    refine bm_rcallS (As := [.long zB]) (rest := []) ⟨hx, hb, hml, hown, hts⟩ (k_len) (cwS 1 hts (gdS (by decide +kernel) (by decide +kernel) (by decide +kernel) (by decide +kernel)) rfl rfl rfl (by decide +kernel) ⟨Nat.le_of_ble_eq_true rfl, Nat.le_of_ble_eq_true rfl⟩) hK hP rfl hl.1 rfl (Nat.le_of_ble_eq_true rfl) dX4_part_8 ⟨Nat.le_of_ble_eq_true rfl, Nat.le_of_ble_eq_true rfl⟩ ?_
    refine bm_zb_eq (x := (q_len zB)) (tgt := 25) hx hb dX4_part_11 (by decide) (fun c_2 => ?_) (fun c_2 => ?_)
    · exact absurd (h2.symm.trans c_2) (by decide)
    · refine lv_iload hx hb dX4_part_14 (lv_at hl 3 rfl) ?_
      refine lv_if_lt (x := (nI zC)) (tgt := 25) hx hb dX4_part_16 (by decide) (fun c_3 => ?_) (fun c_3 => ?_)
      · exact absurd c_3 (bx_nlt0 h3)
      · refine lv_iload hx hb dX4_part_19 (lv_at hl 3 rfl) ?_
        refine lv_iconst (v := nI 1) hx hb dX4_part_21 (by decide) ?_
        refine lv_icmp_le (x := (nI zC)) (y := (nI 1)) (tgt := 35) hx hb dX4_part_22 (by decide) (fun c_4 => ?_) (fun c_4 => ?_)
        · refine lv_aload_n hx hb dX4_part_35 rfl (lv_at hl 0 rfl) ?_
          refine va_get (D := D) (ci := 4) (v := .ref (ad 1)) (C := RX4) (T := TX4) (N := 10) hx hb hts (inT inX4) hown hK hP 0 rfl rfl 2 (by decide) (hts (.fieldLink RX4 12 "BoardMoves" "parts" "LBoardMoves$Parts;") (by decide +kernel)) (fun _ h9 => h9) rfl dX4_part_36 ?_
          refine lv_lload_n hx hb dX4_part_39 rfl (lv_at hl 1 rfl) ?_
          refine lv_lload_n hx hb dX4_part_40 rfl (lv_at hl 2 rfl) ?_
          refine lv_iload hx hb dX4_part_41 (lv_at hl 3 rfl) ?_
          refine bm_wcallV (As := [.long zA, .long zB, .int (nI zC)]) (rest := []) ⟨hx, hb, hml, hown, hts⟩ (k_add) (cwV 3 hts (gdV (by decide +kernel) (by decide +kernel) (by decide +kernel) (by decide +kernel) (by decide +kernel)) rfl rfl rfl (by decide +kernel) ⟨Nat.le_of_ble_eq_true rfl, Nat.le_of_ble_eq_true rfl⟩) hK hP hD hS hA 1 1 rfl rfl rfl hl.1 rfl (Nat.le_of_ble_eq_true rfl) dX4_part_43 ⟨Nat.le_of_ble_eq_true rfl, Nat.le_of_ble_eq_true rfl⟩ (fun H locs hP hD hS => ?_)
          have hP : va_P D vwCl (WW ad cJ cI cZ (bm.1, bm.2.1, bm.2.2.1, 0) (va_up pa.1 0 zA, va_up pa.2.1 0 zB, va_up pa.2.2.1 0 zC, pa.2.2.2.1, pa.2.2.2.2.1, va_up pa.2.2.2.2.2.1 0 0, 0 + 1) p0 p1 p2 (li.1, li.2.1, li.2.2.1, li.2.2.2.1, li.2.2.2.2.1, li.2.2.2.2.2.1, li.2.2.2.2.2.2.1, li.2.2.2.2.2.2.2.1, 0, 0) (wi.1, wi.2.1, wi.2.2.1, wi.2.2.2.1, wi.2.2.2.2.1, wi.2.2.2.2.2.1, wi.2.2.2.2.2.2.1, wi.2.2.2.2.2.2.2.1, wi.2.2.2.2.2.2.2.2.1, 0, 0) mt ms ma mp mk mn ou) H := hP
          have hD : va_D A (WW ad cJ cI cZ (bm.1, bm.2.1, bm.2.2.1, 0) (va_up pa.1 0 zA, va_up pa.2.1 0 zB, va_up pa.2.2.1 0 zC, pa.2.2.2.1, pa.2.2.2.2.1, va_up pa.2.2.2.2.2.1 0 0, 0 + 1) p0 p1 p2 (li.1, li.2.1, li.2.2.1, li.2.2.2.1, li.2.2.2.2.1, li.2.2.2.2.2.1, li.2.2.2.2.2.2.1, li.2.2.2.2.2.2.2.1, 0, 0) (wi.1, wi.2.1, wi.2.2.1, wi.2.2.2.1, wi.2.2.2.2.1, wi.2.2.2.2.2.1, wi.2.2.2.2.2.2.1, wi.2.2.2.2.2.2.2.1, wi.2.2.2.2.2.2.2.2.1, 0, 0) mt ms ma mp mk mn ou) := hD
          exact bm_iretW (v := (nI ((0 + 1) - 1))) hx hb hr hP hD hK hS ⟨rfl, rfl⟩ dX4_part_46 hlocks
        · exact absurd (bx_le1 h3) c_4
end
section
set_option maxHeartbeats 4000000 in
set_option maxRecDepth 100000 in
theorem k_partX {l : Launch} (hlt : l.stackTraces = false) {D : va_G} {ad : Nat → Nat} {cJ cI cZ : ClassId} {bm : gBM} {pa : gPA} {p0 p1 p2 : gPL} {li : gLI} {wi : gWI} {mt : Nat} {ms : gMS} {ma : gMA} {mp : gMP} {mk : gMK} {mn : gMN} {ou : Nat → Int64} {zA zB : Int64} {zC : Int32} (hv : q_pv zA zB zC = false) : bx_T l yX4_part wsX4_part ({ frames := 6, cells := 1, slots := 6, locals := 101 }) (bx_Tp D vwCl [(cJ, .long), (cI, .int), (cZ, .boolean)] (WW ad cJ cI cZ (bm.1, bm.2.1, bm.2.2.1, 0) (pa.1, pa.2.1, pa.2.2.1, pa.2.2.2.1, pa.2.2.2.2.1, pa.2.2.2.2.2.1, 0) p0 p1 p2 (li.1, li.2.1, li.2.2.1, li.2.2.2.1, li.2.2.2.2.1, li.2.2.2.2.2.1, li.2.2.2.2.2.2.1, li.2.2.2.2.2.2.2.1, 0, 0) (wi.1, wi.2.1, wi.2.2.1, wi.2.2.2.1, wi.2.2.2.2.1, wi.2.2.2.2.2.1, wi.2.2.2.2.2.2.1, wi.2.2.2.2.2.2.2.1, wi.2.2.2.2.2.2.2.2.1, 0, 0) mt ms ma mp mk mn ou) [.ref (ad 0), .long zA, .long zB, .int zC]) "java/lang/IllegalArgumentException" := by
  refine bx_ofW (cc := cX4_part) (maxL := 6) (ret := (some .int)) (by decide) rfl ?_
  intro p e s m args below meth c s₁ B hml hout hv
  obtain ⟨ha, hP, hK, hX, hZ⟩ := hv
  have hx := B.exec
  have hb := B.bytes
  have hr := B.returns
  have hts := atoms_spec (ws := wsX4_part) B.pre
  have hown : s.vm.findClass RX4 = some m.cls := findClass_of_methodNamed B.named
  have hlocks := B.notSynchronized
  have hl := lv_entry ([.ref (ad 0), .long zA, .long zB, .int zC]) (n := 6) (Nat.le_of_ble_eq_true rfl)
  refine W.eq (g2 := entryFrame m ([.ref (ad 0), .long zA, .long zB, .int zC] : List Value).toArray 6) (by rw [ha]) ?_
  rw [lg_entry_eq]
  generalize (lg_sl ([.ref (ad 0), .long zA, .long zB, .int zC]) ++ List.replicate (6 - (lg_sl ([.ref (ad 0), .long zA, .long zB, .int zC])).length) Slot.unset).toArray = ls at hl ⊢
  have hl : lv_has ls 6 [(0, .ref (ad 0)), (1, .long zA), (3, .long zB), (5, .int zC)] := hl
  refine lv_lload_n hx hb dX4_part_0 rfl (lv_at hl 1 rfl) ?_
  refine bm_rcallS (As := [.long zA]) (rest := []) ⟨hx, hb, hml, hown, hts⟩ (k_len) (cwS 1 hts (gdS (by decide +kernel) (by decide +kernel) (by decide +kernel) (by decide +kernel)) rfl rfl rfl (by decide +kernel) ⟨Nat.le_of_ble_eq_true rfl, Nat.le_of_ble_eq_true rfl⟩) hK hP rfl hl.1 rfl (Nat.le_of_ble_eq_true rfl) dX4_part_1 ⟨Nat.le_of_ble_eq_true rfl, Nat.le_of_ble_eq_true rfl⟩ ?_
  refine bm_zb_eq (x := (q_len zA)) (tgt := 25) hx hb dX4_part_4 (by decide) (fun c_1 => ?_) (fun c_1 => ?_)
  · obtain ⟨sa, hsa⟩ := hZ (77, "a part is 1 .. 65,536 wide and high, on side 0 or 1") (by decide +kernel)
    exact bx_throw (rest := []) (own := RX4) (cls := "java/lang/IllegalArgumentException") (text := "a part is 1 .. 65,536 wide and high, on side 0 or 1") (names := bxUp) (ik := 75) (is := 77) (ic := 79) hx hb hlt hown (by decide +kernel) (by decide +kernel) (hts (.classLink RX4 75 "java/lang/IllegalArgumentException") (by decide +kernel)) (hts (.initialized "java/lang/IllegalArgumentException") (by decide +kernel)) hsa (fun w hw => hX w (bx_in_79 w hw) _) (hl.1.trans hml.symm) dX4_part_25 dX4_part_28 dX4_part_29 dX4_part_31 dX4_part_34 hout (Nat.le_of_ble_eq_true rfl) (Nat.le_of_ble_eq_true rfl) (Nat.le_of_ble_eq_true rfl) (Nat.le_of_ble_eq_true rfl) hlocks
  · refine lv_lload_n hx hb dX4_part_7 rfl (lv_at hl 2 rfl) ?_
    refine bm_rcallS (As := [.long zB]) (rest := []) ⟨hx, hb, hml, hown, hts⟩ (k_len) (cwS 1 hts (gdS (by decide +kernel) (by decide +kernel) (by decide +kernel) (by decide +kernel)) rfl rfl rfl (by decide +kernel) ⟨Nat.le_of_ble_eq_true rfl, Nat.le_of_ble_eq_true rfl⟩) hK hP rfl hl.1 rfl (Nat.le_of_ble_eq_true rfl) dX4_part_8 ⟨Nat.le_of_ble_eq_true rfl, Nat.le_of_ble_eq_true rfl⟩ ?_
    refine bm_zb_eq (x := (q_len zB)) (tgt := 25) hx hb dX4_part_11 (by decide) (fun c_2 => ?_) (fun c_2 => ?_)
    · obtain ⟨sa, hsa⟩ := hZ (77, "a part is 1 .. 65,536 wide and high, on side 0 or 1") (by decide +kernel)
      exact bx_throw (rest := []) (own := RX4) (cls := "java/lang/IllegalArgumentException") (text := "a part is 1 .. 65,536 wide and high, on side 0 or 1") (names := bxUp) (ik := 75) (is := 77) (ic := 79) hx hb hlt hown (by decide +kernel) (by decide +kernel) (hts (.classLink RX4 75 "java/lang/IllegalArgumentException") (by decide +kernel)) (hts (.initialized "java/lang/IllegalArgumentException") (by decide +kernel)) hsa (fun w hw => hX w (bx_in_79 w hw) _) (hl.1.trans hml.symm) dX4_part_25 dX4_part_28 dX4_part_29 dX4_part_31 dX4_part_34 hout (Nat.le_of_ble_eq_true rfl) (Nat.le_of_ble_eq_true rfl) (Nat.le_of_ble_eq_true rfl) (Nat.le_of_ble_eq_true rfl) hlocks
    · refine lv_iload hx hb dX4_part_14 (lv_at hl 3 rfl) ?_
      refine lv_if_lt (x := zC) (tgt := 25) hx hb dX4_part_16 (by decide) (fun c_3 => ?_) (fun c_3 => ?_)
      · obtain ⟨sa, hsa⟩ := hZ (77, "a part is 1 .. 65,536 wide and high, on side 0 or 1") (by decide +kernel)
        exact bx_throw (rest := []) (own := RX4) (cls := "java/lang/IllegalArgumentException") (text := "a part is 1 .. 65,536 wide and high, on side 0 or 1") (names := bxUp) (ik := 75) (is := 77) (ic := 79) hx hb hlt hown (by decide +kernel) (by decide +kernel) (hts (.classLink RX4 75 "java/lang/IllegalArgumentException") (by decide +kernel)) (hts (.initialized "java/lang/IllegalArgumentException") (by decide +kernel)) hsa (fun w hw => hX w (bx_in_79 w hw) _) (hl.1.trans hml.symm) dX4_part_25 dX4_part_28 dX4_part_29 dX4_part_31 dX4_part_34 hout (Nat.le_of_ble_eq_true rfl) (Nat.le_of_ble_eq_true rfl) (Nat.le_of_ble_eq_true rfl) (Nat.le_of_ble_eq_true rfl) hlocks
      · refine lv_iload hx hb dX4_part_19 (lv_at hl 3 rfl) ?_
        refine lv_iconst (v := 1) hx hb dX4_part_21 (by decide) ?_
        refine lv_icmp_le (x := zC) (y := 1) (tgt := 35) hx hb dX4_part_22 (by decide) (fun c_4 => ?_) (fun c_4 => ?_)
        · exact absurd hv (by rcases bx_sd c_3 c_4 with h | h <;> simp [q_pv, c_1, c_2, h])
        · obtain ⟨sa, hsa⟩ := hZ (77, "a part is 1 .. 65,536 wide and high, on side 0 or 1") (by decide +kernel)
          exact bx_throw (rest := []) (own := RX4) (cls := "java/lang/IllegalArgumentException") (text := "a part is 1 .. 65,536 wide and high, on side 0 or 1") (names := bxUp) (ik := 75) (is := 77) (ic := 79) hx hb hlt hown (by decide +kernel) (by decide +kernel) (hts (.classLink RX4 75 "java/lang/IllegalArgumentException") (by decide +kernel)) (hts (.initialized "java/lang/IllegalArgumentException") (by decide +kernel)) hsa (fun w hw => hX w (bx_in_79 w hw) _) (hl.1.trans hml.symm) dX4_part_25 dX4_part_28 dX4_part_29 dX4_part_31 dX4_part_34 hout (Nat.le_of_ble_eq_true rfl) (Nat.le_of_ble_eq_true rfl) (Nat.le_of_ble_eq_true rfl) (Nat.le_of_ble_eq_true rfl) hlocks

set_option maxHeartbeats 4000000 in
set_option maxRecDepth 100000 in
theorem k_need {l : Launch} (hlt : l.stackTraces = false) {D : va_G} {ad : Nat → Nat} {cJ cI cZ : ClassId} {bm : gBM} {pa : gPA} {p0 p1 p2 : gPL} {li : gLI} {wi : gWI} {mt : Nat} {ms : gMS} {ma : gMA} {mp : gMP} {mk : gMK} {mn : gMN} {ou : Nat → Int64} {zA : Int32} : bx_T l yX4_needPart wsX4_needPart ({ frames := 6, cells := 1, slots := 6, locals := 101 }) (bx_Tp D vwCl [(cJ, .long), (cI, .int), (cZ, .boolean)] (WW ad cJ cI cZ (bm.1, bm.2.1, bm.2.2.1, 0) (pa.1, pa.2.1, pa.2.2.1, pa.2.2.2.1, pa.2.2.2.2.1, pa.2.2.2.2.2.1, 0) p0 p1 p2 (li.1, li.2.1, li.2.2.1, li.2.2.2.1, li.2.2.2.2.1, li.2.2.2.2.2.1, li.2.2.2.2.2.2.1, li.2.2.2.2.2.2.2.1, 0, 0) (wi.1, wi.2.1, wi.2.2.1, wi.2.2.2.1, wi.2.2.2.2.1, wi.2.2.2.2.2.1, wi.2.2.2.2.2.2.1, wi.2.2.2.2.2.2.2.1, wi.2.2.2.2.2.2.2.2.1, 0, 0) mt ms ma mp mk mn ou) [.ref (ad 0), .int zA]) "java/lang/IndexOutOfBoundsException" := by
  refine bx_ofW (cc := cX4_needPart) (maxL := 2) (ret := none) (by decide) rfl ?_
  intro p e s m args below meth c s₁ B hml hout hv
  obtain ⟨ha, hP, hK, hX, hZ⟩ := hv
  have hx := B.exec
  have hb := B.bytes
  have hr := B.returns
  have hts := atoms_spec (ws := wsX4_needPart) B.pre
  have hown : s.vm.findClass RX4 = some m.cls := findClass_of_methodNamed B.named
  have hlocks := B.notSynchronized
  have hl := lv_entry ([.ref (ad 0), .int zA]) (n := 2) (Nat.le_of_ble_eq_true rfl)
  refine W.eq (g2 := entryFrame m ([.ref (ad 0), .int zA] : List Value).toArray 2) (by rw [ha]) ?_
  rw [lg_entry_eq]
  generalize (lg_sl ([.ref (ad 0), .int zA]) ++ List.replicate (2 - (lg_sl ([.ref (ad 0), .int zA])).length) Slot.unset).toArray = ls at hl ⊢
  have hl : lv_has ls 2 [(0, .ref (ad 0)), (1, .int zA)] := hl
  refine lv_iload_n hx hb dX4_needPart_0 rfl (lv_at hl 1 rfl) ?_
  refine lv_if_lt (x := zA) (tgt := 15) hx hb dX4_needPart_1 (by decide) (fun c_1 => ?_) (fun c_1 => ?_)
  · obtain ⟨sa, hsa⟩ := hZ (238, "no such part") (by decide +kernel)
    exact bx_throw (rest := []) (own := RX4) (cls := "java/lang/IndexOutOfBoundsException") (text := "no such part") (names := bxUp) (ik := 143) (is := 238) (ic := 147) hx hb hlt hown (by decide +kernel) (by decide +kernel) (hts (.classLink RX4 143 "java/lang/IndexOutOfBoundsException") (by decide +kernel)) (hts (.initialized "java/lang/IndexOutOfBoundsException") (by decide +kernel)) hsa (fun w hw => hX w (bx_in_147 w hw) _) (hl.1.trans hml.symm) dX4_needPart_15 dX4_needPart_18 dX4_needPart_19 dX4_needPart_21 dX4_needPart_24 hout (Nat.le_of_ble_eq_true rfl) (Nat.le_of_ble_eq_true rfl) (Nat.le_of_ble_eq_true rfl) (Nat.le_of_ble_eq_true rfl) hlocks
  · refine lv_iload_n hx hb dX4_needPart_4 rfl (lv_at hl 1 rfl) ?_
    refine lv_aload_n hx hb dX4_needPart_5 rfl (lv_at hl 0 rfl) ?_
    refine va_get (D := D) (ci := 4) (v := .ref (ad 1)) (C := RX4) (T := TX4) (N := 10) hx hb hts (inT inX4) hown hK hP 0 rfl rfl 2 (by decide) (hts (.fieldLink RX4 12 "BoardMoves" "parts" "LBoardMoves$Parts;") (by decide +kernel)) (fun _ h9 => h9) rfl dX4_needPart_6 ?_
    refine va_get (D := D) (ci := 1) (v := .int (nI 0)) (C := RX1) (T := TX1) (N := 7) hx hb hts (inT inX1) hown hK hP 1 rfl rfl 6 (by decide) (hts (.fieldLink RX4 197 "BoardMoves$Parts" "count" "I") (by decide +kernel)) (fun _ h9 => h9) rfl dX4_needPart_9 ?_
    refine lv_icmp_lt (x := zA) (y := (nI 0)) (tgt := 25) hx hb dX4_needPart_12 (by decide) (fun c_2 => ?_) (fun c_2 => ?_)
    · exact absurd (show zA < 0 from c_2) c_1
    · obtain ⟨sa, hsa⟩ := hZ (238, "no such part") (by decide +kernel)
      exact bx_throw (rest := []) (own := RX4) (cls := "java/lang/IndexOutOfBoundsException") (text := "no such part") (names := bxUp) (ik := 143) (is := 238) (ic := 147) hx hb hlt hown (by decide +kernel) (by decide +kernel) (hts (.classLink RX4 143 "java/lang/IndexOutOfBoundsException") (by decide +kernel)) (hts (.initialized "java/lang/IndexOutOfBoundsException") (by decide +kernel)) hsa (fun w hw => hX w (bx_in_147 w hw) _) (hl.1.trans hml.symm) dX4_needPart_15 dX4_needPart_18 dX4_needPart_19 dX4_needPart_21 dX4_needPart_24 hout (Nat.le_of_ble_eq_true rfl) (Nat.le_of_ble_eq_true rfl) (Nat.le_of_ble_eq_true rfl) (Nat.le_of_ble_eq_true rfl) hlocks
end
section
set_option maxHeartbeats 4000000 in
set_option maxRecDepth 100000 in
theorem k_put {l : Launch} (hlt : l.stackTraces = false) {D : va_G} {ad : Nat → Nat} {cJ cI cZ : ClassId} {bm : gBM} {pa : gPA} {p0 p1 p2 : gPL} {li : gLI} {wi : gWI} {mt : Nat} {ms : gMS} {ma : gMA} {mp : gMP} {mk : gMK} {mn : gMN} {ou : Nat → Int64} {zA zD : Int32} {zB zC : Int64} : bx_T l yX4_put wsX4_put ({ frames := 7, cells := 1, slots := 6, locals := 122 }) (bx_Tp D vwCl [(cJ, .long), (cI, .int), (cZ, .boolean)] (WW ad cJ cI cZ (bm.1, bm.2.1, bm.2.2.1, 0) (pa.1, pa.2.1, pa.2.2.1, pa.2.2.2.1, pa.2.2.2.2.1, pa.2.2.2.2.2.1, 0) p0 p1 p2 (li.1, li.2.1, li.2.2.1, li.2.2.2.1, li.2.2.2.2.1, li.2.2.2.2.2.1, li.2.2.2.2.2.2.1, li.2.2.2.2.2.2.2.1, 0, 0) (wi.1, wi.2.1, wi.2.2.1, wi.2.2.2.1, wi.2.2.2.2.1, wi.2.2.2.2.2.1, wi.2.2.2.2.2.2.1, wi.2.2.2.2.2.2.2.1, wi.2.2.2.2.2.2.2.2.1, 0, 0) mt ms ma mp mk mn ou) [.ref (ad 0), .int zA, .long zB, .long zC, .int zD]) "java/lang/IndexOutOfBoundsException" := by
  refine bx_ofW (cc := cX4_put) (maxL := 7) (ret := (some .boolean)) (by decide) rfl ?_
  intro p e s m args below meth c s₁ B hml hout hv
  obtain ⟨ha, hP, hK, hX, hZ⟩ := hv
  have hx := B.exec
  have hb := B.bytes
  have hr := B.returns
  have hts := atoms_spec (ws := wsX4_put) B.pre
  have hown : s.vm.findClass RX4 = some m.cls := findClass_of_methodNamed B.named
  have hlocks := B.notSynchronized
  have hl := lv_entry ([.ref (ad 0), .int zA, .long zB, .long zC, .int zD]) (n := 7) (Nat.le_of_ble_eq_true rfl)
  refine W.eq (g2 := entryFrame m ([.ref (ad 0), .int zA, .long zB, .long zC, .int zD] : List Value).toArray 7) (by rw [ha]) ?_
  rw [lg_entry_eq]
  generalize (lg_sl ([.ref (ad 0), .int zA, .long zB, .long zC, .int zD]) ++ List.replicate (7 - (lg_sl ([.ref (ad 0), .int zA, .long zB, .long zC, .int zD])).length) Slot.unset).toArray = ls at hl ⊢
  have hl : lv_has ls 7 [(0, .ref (ad 0)), (1, .int zA), (2, .long zB), (4, .long zC), (6, .int zD)] := hl
  refine lv_aload_n hx hb dX4_put_0 rfl (lv_at hl 0 rfl) ?_
  refine lv_iload_n hx hb dX4_put_1 rfl (lv_at hl 1 rfl) ?_
  exact bx_leave (bx_tcallV (As := [.int zA]) (rest := []) ⟨hx, hb, hml, hown, hts⟩ (k_need hlt) (cwV 1 hts (gdV (by decide +kernel) (by decide +kernel) (by decide +kernel) (by decide +kernel) (by decide +kernel)) rfl rfl rfl (by decide +kernel) ⟨Nat.le_of_ble_eq_true rfl, Nat.le_of_ble_eq_true rfl⟩) hK hP hX hZ 0 4 rfl rfl rfl hl.1 rfl (Nat.le_of_ble_eq_true rfl) dX4_put_2 ⟨Nat.le_of_ble_eq_true rfl, Nat.le_of_ble_eq_true rfl⟩) hout hlocks

set_option maxHeartbeats 4000000 in
set_option maxRecDepth 100000 in
theorem k_lock {l : Launch} (hlt : l.stackTraces = false) {D : va_G} {ad : Nat → Nat} {cJ cI cZ : ClassId} {bm : gBM} {pa : gPA} {p0 p1 p2 : gPL} {li : gLI} {wi : gWI} {mt : Nat} {ms : gMS} {ma : gMA} {mp : gMP} {mk : gMK} {mn : gMN} {ou : Nat → Int64} {zA zB : Int32} : bx_T l yX4_lock wsX4_lock ({ frames := 7, cells := 1, slots := 6, locals := 122 }) (bx_Tp D vwCl [(cJ, .long), (cI, .int), (cZ, .boolean)] (WW ad cJ cI cZ (bm.1, bm.2.1, bm.2.2.1, 0) (pa.1, pa.2.1, pa.2.2.1, pa.2.2.2.1, pa.2.2.2.2.1, pa.2.2.2.2.2.1, 0) p0 p1 p2 (li.1, li.2.1, li.2.2.1, li.2.2.2.1, li.2.2.2.2.1, li.2.2.2.2.2.1, li.2.2.2.2.2.2.1, li.2.2.2.2.2.2.2.1, 0, 0) (wi.1, wi.2.1, wi.2.2.1, wi.2.2.2.1, wi.2.2.2.2.1, wi.2.2.2.2.2.1, wi.2.2.2.2.2.2.1, wi.2.2.2.2.2.2.2.1, wi.2.2.2.2.2.2.2.2.1, 0, 0) mt ms ma mp mk mn ou) [.ref (ad 0), .int zA, .int zB]) "java/lang/IndexOutOfBoundsException" := by
  refine bx_ofW (cc := cX4_lock) (maxL := 4) (ret := (some .boolean)) (by decide) rfl ?_
  intro p e s m args below meth c s₁ B hml hout hv
  obtain ⟨ha, hP, hK, hX, hZ⟩ := hv
  have hx := B.exec
  have hb := B.bytes
  have hr := B.returns
  have hts := atoms_spec (ws := wsX4_lock) B.pre
  have hown : s.vm.findClass RX4 = some m.cls := findClass_of_methodNamed B.named
  have hlocks := B.notSynchronized
  have hl := lv_entry ([.ref (ad 0), .int zA, .int zB]) (n := 4) (Nat.le_of_ble_eq_true rfl)
  refine W.eq (g2 := entryFrame m ([.ref (ad 0), .int zA, .int zB] : List Value).toArray 4) (by rw [ha]) ?_
  rw [lg_entry_eq]
  generalize (lg_sl ([.ref (ad 0), .int zA, .int zB]) ++ List.replicate (4 - (lg_sl ([.ref (ad 0), .int zA, .int zB])).length) Slot.unset).toArray = ls at hl ⊢
  have hl : lv_has ls 4 [(0, .ref (ad 0)), (1, .int zA), (2, .int zB)] := hl
  refine lv_aload_n hx hb dX4_lock_0 rfl (lv_at hl 0 rfl) ?_
  refine lv_iload_n hx hb dX4_lock_1 rfl (lv_at hl 1 rfl) ?_
  exact bx_leave (bx_tcallV (As := [.int zA]) (rest := []) ⟨hx, hb, hml, hown, hts⟩ (k_need hlt) (cwV 1 hts (gdV (by decide +kernel) (by decide +kernel) (by decide +kernel) (by decide +kernel) (by decide +kernel)) rfl rfl rfl (by decide +kernel) ⟨Nat.le_of_ble_eq_true rfl, Nat.le_of_ble_eq_true rfl⟩) hK hP hX hZ 0 4 rfl rfl rfl hl.1 rfl (Nat.le_of_ble_eq_true rfl) dX4_lock_2 ⟨Nat.le_of_ble_eq_true rfl, Nat.le_of_ble_eq_true rfl⟩) hout hlocks

set_option maxHeartbeats 4000000 in
set_option maxRecDepth 100000 in
theorem k_push {l : Launch} (hlt : l.stackTraces = false) {D : va_G} {ad : Nat → Nat} {cJ cI cZ : ClassId} {bm : gBM} {pa : gPA} {p0 p1 p2 : gPL} {li : gLI} {wi : gWI} {mt : Nat} {ms : gMS} {ma : gMA} {mp : gMP} {mk : gMK} {mn : gMN} {ou : Nat → Int64} {zA : Int32} {zB zC : Int64} : bx_T l yX4_push wsX4_push ({ frames := 7, cells := 1, slots := 6, locals := 122 }) (bx_Tp D vwCl [(cJ, .long), (cI, .int), (cZ, .boolean)] (WW ad cJ cI cZ (bm.1, bm.2.1, bm.2.2.1, 0) (pa.1, pa.2.1, pa.2.2.1, pa.2.2.2.1, pa.2.2.2.2.1, pa.2.2.2.2.2.1, 0) p0 p1 p2 (li.1, li.2.1, li.2.2.1, li.2.2.2.1, li.2.2.2.2.1, li.2.2.2.2.2.1, li.2.2.2.2.2.2.1, li.2.2.2.2.2.2.2.1, 0, 0) (wi.1, wi.2.1, wi.2.2.1, wi.2.2.2.1, wi.2.2.2.2.1, wi.2.2.2.2.2.1, wi.2.2.2.2.2.2.1, wi.2.2.2.2.2.2.2.1, wi.2.2.2.2.2.2.2.2.1, 0, 0) mt ms ma mp mk mn ou) [.ref (ad 0), .int zA, .long zB, .long zC]) "java/lang/IndexOutOfBoundsException" := by
  refine bx_ofW (cc := cX4_push) (maxL := 13) (ret := (some .int)) (by decide) rfl ?_
  intro p e s m args below meth c s₁ B hml hout hv
  obtain ⟨ha, hP, hK, hX, hZ⟩ := hv
  have hx := B.exec
  have hb := B.bytes
  have hr := B.returns
  have hts := atoms_spec (ws := wsX4_push) B.pre
  have hown : s.vm.findClass RX4 = some m.cls := findClass_of_methodNamed B.named
  have hlocks := B.notSynchronized
  have hl := lv_entry ([.ref (ad 0), .int zA, .long zB, .long zC]) (n := 13) (Nat.le_of_ble_eq_true rfl)
  refine W.eq (g2 := entryFrame m ([.ref (ad 0), .int zA, .long zB, .long zC] : List Value).toArray 13) (by rw [ha]) ?_
  rw [lg_entry_eq]
  generalize (lg_sl ([.ref (ad 0), .int zA, .long zB, .long zC]) ++ List.replicate (13 - (lg_sl ([.ref (ad 0), .int zA, .long zB, .long zC])).length) Slot.unset).toArray = ls at hl ⊢
  have hl : lv_has ls 13 [(0, .ref (ad 0)), (1, .int zA), (2, .long zB), (4, .long zC)] := hl
  refine lv_aload_n hx hb dX4_push_0 rfl (lv_at hl 0 rfl) ?_
  refine lv_iload_n hx hb dX4_push_1 rfl (lv_at hl 1 rfl) ?_
  exact bx_leave (bx_tcallV (As := [.int zA]) (rest := []) ⟨hx, hb, hml, hown, hts⟩ (k_need hlt) (cwV 1 hts (gdV (by decide +kernel) (by decide +kernel) (by decide +kernel) (by decide +kernel) (by decide +kernel)) rfl rfl rfl (by decide +kernel) ⟨Nat.le_of_ble_eq_true rfl, Nat.le_of_ble_eq_true rfl⟩) hK hP hX hZ 0 4 rfl rfl rfl hl.1 rfl (Nat.le_of_ble_eq_true rfl) dX4_push_2 ⟨Nat.le_of_ble_eq_true rfl, Nat.le_of_ble_eq_true rfl⟩) hout hlocks

set_option maxHeartbeats 4000000 in
set_option maxRecDepth 100000 in
theorem k_at {l : Launch} (hlt : l.stackTraces = false) {D : va_G} {ad : Nat → Nat} {cJ cI cZ : ClassId} {bm : gBM} {pa : gPA} {p0 p1 p2 : gPL} {li : gLI} {wi : gWI} {mt : Nat} {ms : gMS} {ma : gMA} {mp : gMP} {mk : gMK} {mn : gMN} {ou : Nat → Int64} {zA zB : Int32} : bx_T l yX4_at wsX4_at ({ frames := 7, cells := 1, slots := 6, locals := 122 }) (bx_Tp D vwCl [(cJ, .long), (cI, .int), (cZ, .boolean)] (WW ad cJ cI cZ (bm.1, bm.2.1, bm.2.2.1, 0) (pa.1, pa.2.1, pa.2.2.1, pa.2.2.2.1, pa.2.2.2.2.1, pa.2.2.2.2.2.1, 0) p0 p1 p2 (li.1, li.2.1, li.2.2.1, li.2.2.2.1, li.2.2.2.2.1, li.2.2.2.2.2.1, li.2.2.2.2.2.2.1, li.2.2.2.2.2.2.2.1, 0, 0) (wi.1, wi.2.1, wi.2.2.1, wi.2.2.2.1, wi.2.2.2.2.1, wi.2.2.2.2.2.1, wi.2.2.2.2.2.2.1, wi.2.2.2.2.2.2.2.1, wi.2.2.2.2.2.2.2.2.1, 0, 0) mt ms ma mp mk mn ou) [.ref (ad 0), .int zA, .int zB]) "java/lang/IndexOutOfBoundsException" := by
  refine bx_ofW (cc := cX4_at) (maxL := 3) (ret := (some .long)) (by decide) rfl ?_
  intro p e s m args below meth c s₁ B hml hout hv
  obtain ⟨ha, hP, hK, hX, hZ⟩ := hv
  have hx := B.exec
  have hb := B.bytes
  have hr := B.returns
  have hts := atoms_spec (ws := wsX4_at) B.pre
  have hown : s.vm.findClass RX4 = some m.cls := findClass_of_methodNamed B.named
  have hlocks := B.notSynchronized
  have hl := lv_entry ([.ref (ad 0), .int zA, .int zB]) (n := 3) (Nat.le_of_ble_eq_true rfl)
  refine W.eq (g2 := entryFrame m ([.ref (ad 0), .int zA, .int zB] : List Value).toArray 3) (by rw [ha]) ?_
  rw [lg_entry_eq]
  generalize (lg_sl ([.ref (ad 0), .int zA, .int zB]) ++ List.replicate (3 - (lg_sl ([.ref (ad 0), .int zA, .int zB])).length) Slot.unset).toArray = ls at hl ⊢
  have hl : lv_has ls 3 [(0, .ref (ad 0)), (1, .int zA), (2, .int zB)] := hl
  refine lv_aload_n hx hb dX4_at_0 rfl (lv_at hl 0 rfl) ?_
  refine lv_iload_n hx hb dX4_at_1 rfl (lv_at hl 1 rfl) ?_
  exact bx_leave (bx_tcallV (As := [.int zA]) (rest := []) ⟨hx, hb, hml, hown, hts⟩ (k_need hlt) (cwV 1 hts (gdV (by decide +kernel) (by decide +kernel) (by decide +kernel) (by decide +kernel) (by decide +kernel)) rfl rfl rfl (by decide +kernel) ⟨Nat.le_of_ble_eq_true rfl, Nat.le_of_ble_eq_true rfl⟩) hK hP hX hZ 0 4 rfl rfl rfl hl.1 rfl (Nat.le_of_ble_eq_true rfl) dX4_at_2 ⟨Nat.le_of_ble_eq_true rfl, Nat.le_of_ble_eq_true rfl⟩) hout hlocks

set_option maxHeartbeats 4000000 in
set_option maxRecDepth 100000 in
theorem k_near {l : Launch} (hlt : l.stackTraces = false) {D : va_G} {ad : Nat → Nat} {cJ cI cZ : ClassId} {bm : gBM} {pa : gPA} {p0 p1 p2 : gPL} {li : gLI} {wi : gWI} {mt : Nat} {ms : gMS} {ma : gMA} {mp : gMP} {mk : gMK} {mn : gMN} {ou : Nat → Int64} {zA zB : Int32} {zC : Int64} : bx_T l yX4_near wsX4_near ({ frames := 7, cells := 1, slots := 6, locals := 122 }) (bx_Tp D vwCl [(cJ, .long), (cI, .int), (cZ, .boolean)] (WW ad cJ cI cZ (bm.1, bm.2.1, bm.2.2.1, 0) (pa.1, pa.2.1, pa.2.2.1, pa.2.2.2.1, pa.2.2.2.2.1, pa.2.2.2.2.2.1, 0) p0 p1 p2 (li.1, li.2.1, li.2.2.1, li.2.2.2.1, li.2.2.2.2.1, li.2.2.2.2.2.1, li.2.2.2.2.2.2.1, li.2.2.2.2.2.2.2.1, 0, 0) (wi.1, wi.2.1, wi.2.2.1, wi.2.2.2.1, wi.2.2.2.2.1, wi.2.2.2.2.2.1, wi.2.2.2.2.2.2.1, wi.2.2.2.2.2.2.2.1, wi.2.2.2.2.2.2.2.2.1, 0, 0) mt ms ma mp mk mn ou) [.ref (ad 0), .int zA, .int zB, .long zC]) "java/lang/IndexOutOfBoundsException" := by
  refine bx_ofW (cc := cX4_near) (maxL := 5) (ret := (some .boolean)) (by decide) rfl ?_
  intro p e s m args below meth c s₁ B hml hout hv
  obtain ⟨ha, hP, hK, hX, hZ⟩ := hv
  have hx := B.exec
  have hb := B.bytes
  have hr := B.returns
  have hts := atoms_spec (ws := wsX4_near) B.pre
  have hown : s.vm.findClass RX4 = some m.cls := findClass_of_methodNamed B.named
  have hlocks := B.notSynchronized
  have hl := lv_entry ([.ref (ad 0), .int zA, .int zB, .long zC]) (n := 5) (Nat.le_of_ble_eq_true rfl)
  refine W.eq (g2 := entryFrame m ([.ref (ad 0), .int zA, .int zB, .long zC] : List Value).toArray 5) (by rw [ha]) ?_
  rw [lg_entry_eq]
  generalize (lg_sl ([.ref (ad 0), .int zA, .int zB, .long zC]) ++ List.replicate (5 - (lg_sl ([.ref (ad 0), .int zA, .int zB, .long zC])).length) Slot.unset).toArray = ls at hl ⊢
  have hl : lv_has ls 5 [(0, .ref (ad 0)), (1, .int zA), (2, .int zB), (3, .long zC)] := hl
  refine lv_aload_n hx hb dX4_near_0 rfl (lv_at hl 0 rfl) ?_
  refine lv_iload_n hx hb dX4_near_1 rfl (lv_at hl 1 rfl) ?_
  exact bx_leave (bx_tcallV (As := [.int zA]) (rest := []) ⟨hx, hb, hml, hown, hts⟩ (k_need hlt) (cwV 1 hts (gdV (by decide +kernel) (by decide +kernel) (by decide +kernel) (by decide +kernel) (by decide +kernel)) rfl rfl rfl (by decide +kernel) ⟨Nat.le_of_ble_eq_true rfl, Nat.le_of_ble_eq_true rfl⟩) hK hP hX hZ 0 4 rfl rfl rfl hl.1 rfl (Nat.le_of_ble_eq_true rfl) dX4_near_2 ⟨Nat.le_of_ble_eq_true rfl, Nat.le_of_ble_eq_true rfl⟩) hout hlocks

set_option maxHeartbeats 4000000 in
set_option maxRecDepth 100000 in
theorem k_group {l : Launch} (hlt : l.stackTraces = false) {D : va_G} {ad : Nat → Nat} {cJ cI cZ : ClassId} {bm : gBM} {pa : gPA} {p0 p1 p2 : gPL} {li : gLI} {wi : gWI} {mt : Nat} {ms : gMS} {ma : gMA} {mp : gMP} {mk : gMK} {mn : gMN} {ou : Nat → Int64} {zA zB : Int32} : bx_T l yX4_group wsX4_group ({ frames := 7, cells := 1, slots := 6, locals := 122 }) (bx_Tp D vwCl [(cJ, .long), (cI, .int), (cZ, .boolean)] (WW ad cJ cI cZ (bm.1, bm.2.1, bm.2.2.1, 0) (pa.1, pa.2.1, pa.2.2.1, pa.2.2.2.1, pa.2.2.2.2.1, pa.2.2.2.2.2.1, 0) p0 p1 p2 (li.1, li.2.1, li.2.2.1, li.2.2.2.1, li.2.2.2.2.1, li.2.2.2.2.2.1, li.2.2.2.2.2.2.1, li.2.2.2.2.2.2.2.1, 0, 0) (wi.1, wi.2.1, wi.2.2.1, wi.2.2.2.1, wi.2.2.2.2.1, wi.2.2.2.2.2.1, wi.2.2.2.2.2.2.1, wi.2.2.2.2.2.2.2.1, wi.2.2.2.2.2.2.2.2.1, 0, 0) mt ms ma mp mk mn ou) [.ref (ad 0), .int zA, .int zB]) "java/lang/IndexOutOfBoundsException" := by
  refine bx_ofW (cc := cX4_group) (maxL := 3) (ret := (some .int)) (by decide) rfl ?_
  intro p e s m args below meth c s₁ B hml hout hv
  obtain ⟨ha, hP, hK, hX, hZ⟩ := hv
  have hx := B.exec
  have hb := B.bytes
  have hr := B.returns
  have hts := atoms_spec (ws := wsX4_group) B.pre
  have hown : s.vm.findClass RX4 = some m.cls := findClass_of_methodNamed B.named
  have hlocks := B.notSynchronized
  have hl := lv_entry ([.ref (ad 0), .int zA, .int zB]) (n := 3) (Nat.le_of_ble_eq_true rfl)
  refine W.eq (g2 := entryFrame m ([.ref (ad 0), .int zA, .int zB] : List Value).toArray 3) (by rw [ha]) ?_
  rw [lg_entry_eq]
  generalize (lg_sl ([.ref (ad 0), .int zA, .int zB]) ++ List.replicate (3 - (lg_sl ([.ref (ad 0), .int zA, .int zB])).length) Slot.unset).toArray = ls at hl ⊢
  have hl : lv_has ls 3 [(0, .ref (ad 0)), (1, .int zA), (2, .int zB)] := hl
  refine lv_aload_n hx hb dX4_group_0 rfl (lv_at hl 0 rfl) ?_
  refine lv_iload_n hx hb dX4_group_1 rfl (lv_at hl 1 rfl) ?_
  exact bx_leave (bx_tcallV (As := [.int zA]) (rest := []) ⟨hx, hb, hml, hown, hts⟩ (k_need hlt) (cwV 1 hts (gdV (by decide +kernel) (by decide +kernel) (by decide +kernel) (by decide +kernel) (by decide +kernel)) rfl rfl rfl (by decide +kernel) ⟨Nat.le_of_ble_eq_true rfl, Nat.le_of_ble_eq_true rfl⟩) hK hP hX hZ 0 4 rfl rfl rfl hl.1 rfl (Nat.le_of_ble_eq_true rfl) dX4_group_2 ⟨Nat.le_of_ble_eq_true rfl, Nat.le_of_ble_eq_true rfl⟩) hout hlocks

set_option maxHeartbeats 4000000 in
set_option maxRecDepth 100000 in
theorem k_height {l : Launch} (hlt : l.stackTraces = false) {D : va_G} {ad : Nat → Nat} {cJ cI cZ : ClassId} {bm : gBM} {pa : gPA} {p0 p1 p2 : gPL} {li : gLI} {wi : gWI} {mt : Nat} {ms : gMS} {ma : gMA} {mp : gMP} {mk : gMK} {mn : gMN} {ou : Nat → Int64} {zA : Int32} {zB : Int64} : bx_T l yX4_height wsX4_height ({ frames := 7, cells := 1, slots := 6, locals := 122 }) (bx_Tp D vwCl [(cJ, .long), (cI, .int), (cZ, .boolean)] (WW ad cJ cI cZ (bm.1, bm.2.1, bm.2.2.1, 0) (pa.1, pa.2.1, pa.2.2.1, pa.2.2.2.1, pa.2.2.2.2.1, pa.2.2.2.2.2.1, 0) p0 p1 p2 (li.1, li.2.1, li.2.2.1, li.2.2.2.1, li.2.2.2.2.1, li.2.2.2.2.2.1, li.2.2.2.2.2.2.1, li.2.2.2.2.2.2.2.1, 0, 0) (wi.1, wi.2.1, wi.2.2.1, wi.2.2.2.1, wi.2.2.2.2.1, wi.2.2.2.2.2.1, wi.2.2.2.2.2.2.1, wi.2.2.2.2.2.2.2.1, wi.2.2.2.2.2.2.2.2.1, 0, 0) mt ms ma mp mk mn ou) [.ref (ad 0), .int zA, .long zB]) "java/lang/IndexOutOfBoundsException" := by
  refine bx_ofW (cc := cX4_height) (maxL := 6) (ret := (some .boolean)) (by decide) rfl ?_
  intro p e s m args below meth c s₁ B hml hout hv
  obtain ⟨ha, hP, hK, hX, hZ⟩ := hv
  have hx := B.exec
  have hb := B.bytes
  have hr := B.returns
  have hts := atoms_spec (ws := wsX4_height) B.pre
  have hown : s.vm.findClass RX4 = some m.cls := findClass_of_methodNamed B.named
  have hlocks := B.notSynchronized
  have hl := lv_entry ([.ref (ad 0), .int zA, .long zB]) (n := 6) (Nat.le_of_ble_eq_true rfl)
  refine W.eq (g2 := entryFrame m ([.ref (ad 0), .int zA, .long zB] : List Value).toArray 6) (by rw [ha]) ?_
  rw [lg_entry_eq]
  generalize (lg_sl ([.ref (ad 0), .int zA, .long zB]) ++ List.replicate (6 - (lg_sl ([.ref (ad 0), .int zA, .long zB])).length) Slot.unset).toArray = ls at hl ⊢
  have hl : lv_has ls 6 [(0, .ref (ad 0)), (1, .int zA), (2, .long zB)] := hl
  refine lv_aload_n hx hb dX4_height_0 rfl (lv_at hl 0 rfl) ?_
  refine lv_iload_n hx hb dX4_height_1 rfl (lv_at hl 1 rfl) ?_
  exact bx_leave (bx_tcallV (As := [.int zA]) (rest := []) ⟨hx, hb, hml, hown, hts⟩ (k_need hlt) (cwV 1 hts (gdV (by decide +kernel) (by decide +kernel) (by decide +kernel) (by decide +kernel) (by decide +kernel)) rfl rfl rfl (by decide +kernel) ⟨Nat.le_of_ble_eq_true rfl, Nat.le_of_ble_eq_true rfl⟩) hK hP hX hZ 0 4 rfl rfl rfl hl.1 rfl (Nat.le_of_ble_eq_true rfl) dX4_height_2 ⟨Nat.le_of_ble_eq_true rfl, Nat.le_of_ble_eq_true rfl⟩) hout hlocks

set_option maxHeartbeats 4000000 in
set_option maxRecDepth 100000 in
theorem k_side {l : Launch} (hlt : l.stackTraces = false) {D : va_G} {ad : Nat → Nat} {cJ cI cZ : ClassId} {bm : gBM} {pa : gPA} {p0 p1 p2 : gPL} {li : gLI} {wi : gWI} {mt : Nat} {ms : gMS} {ma : gMA} {mp : gMP} {mk : gMK} {mn : gMN} {ou : Nat → Int64} {zA : Int32} : bx_T l yX4_side wsX4_side ({ frames := 7, cells := 1, slots := 6, locals := 122 }) (bx_Tp D vwCl [(cJ, .long), (cI, .int), (cZ, .boolean)] (WW ad cJ cI cZ (bm.1, bm.2.1, bm.2.2.1, 0) (pa.1, pa.2.1, pa.2.2.1, pa.2.2.2.1, pa.2.2.2.2.1, pa.2.2.2.2.2.1, 0) p0 p1 p2 (li.1, li.2.1, li.2.2.1, li.2.2.2.1, li.2.2.2.2.1, li.2.2.2.2.2.1, li.2.2.2.2.2.2.1, li.2.2.2.2.2.2.2.1, 0, 0) (wi.1, wi.2.1, wi.2.2.1, wi.2.2.2.1, wi.2.2.2.2.1, wi.2.2.2.2.2.1, wi.2.2.2.2.2.2.1, wi.2.2.2.2.2.2.2.1, wi.2.2.2.2.2.2.2.2.1, 0, 0) mt ms ma mp mk mn ou) [.ref (ad 0), .int zA]) "java/lang/IndexOutOfBoundsException" := by
  refine bx_ofW (cc := cX4_side) (maxL := 2) (ret := (some .int)) (by decide) rfl ?_
  intro p e s m args below meth c s₁ B hml hout hv
  obtain ⟨ha, hP, hK, hX, hZ⟩ := hv
  have hx := B.exec
  have hb := B.bytes
  have hr := B.returns
  have hts := atoms_spec (ws := wsX4_side) B.pre
  have hown : s.vm.findClass RX4 = some m.cls := findClass_of_methodNamed B.named
  have hlocks := B.notSynchronized
  have hl := lv_entry ([.ref (ad 0), .int zA]) (n := 2) (Nat.le_of_ble_eq_true rfl)
  refine W.eq (g2 := entryFrame m ([.ref (ad 0), .int zA] : List Value).toArray 2) (by rw [ha]) ?_
  rw [lg_entry_eq]
  generalize (lg_sl ([.ref (ad 0), .int zA]) ++ List.replicate (2 - (lg_sl ([.ref (ad 0), .int zA])).length) Slot.unset).toArray = ls at hl ⊢
  have hl : lv_has ls 2 [(0, .ref (ad 0)), (1, .int zA)] := hl
  refine lv_aload_n hx hb dX4_side_0 rfl (lv_at hl 0 rfl) ?_
  refine lv_iload_n hx hb dX4_side_1 rfl (lv_at hl 1 rfl) ?_
  exact bx_leave (bx_tcallV (As := [.int zA]) (rest := []) ⟨hx, hb, hml, hown, hts⟩ (k_need hlt) (cwV 1 hts (gdV (by decide +kernel) (by decide +kernel) (by decide +kernel) (by decide +kernel) (by decide +kernel)) rfl rfl rfl (by decide +kernel) ⟨Nat.le_of_ble_eq_true rfl, Nat.le_of_ble_eq_true rfl⟩) hK hP hX hZ 0 4 rfl rfl rfl hl.1 rfl (Nat.le_of_ble_eq_true rfl) dX4_side_2 ⟨Nat.le_of_ble_eq_true rfl, Nat.le_of_ble_eq_true rfl⟩) hout hlocks
end
section
set_option maxHeartbeats 4000000 in
set_option maxRecDepth 100000 in
theorem k_pin {l : Launch} (hlt : l.stackTraces = false) {D : va_G} {ad : Nat → Nat} {cJ cI cZ : ClassId} {bm : gBM} {pa : gPA} {p0 p1 p2 : gPL} {li : gLI} {wi : gWI} {mt : Nat} {ms : gMS} {ma : gMA} {mp : gMP} {mk : gMK} {mn : gMN} {ou : Nat → Int64} {zA zB : Int32} {zC zD : Int64} : bx_T l yX4_pin wsX4_pin ({ frames := 6, cells := 1, slots := 6, locals := 101 }) (bx_Tp D vwCl [(cJ, .long), (cI, .int), (cZ, .boolean)] (WW ad cJ cI cZ (bm.1, bm.2.1, bm.2.2.1, 0) (pa.1, pa.2.1, pa.2.2.1, pa.2.2.2.1, pa.2.2.2.2.1, pa.2.2.2.2.2.1, 0) p0 p1 p2 (li.1, li.2.1, li.2.2.1, li.2.2.2.1, li.2.2.2.2.1, li.2.2.2.2.2.1, li.2.2.2.2.2.2.1, li.2.2.2.2.2.2.2.1, 0, 0) (wi.1, wi.2.1, wi.2.2.1, wi.2.2.2.1, wi.2.2.2.2.1, wi.2.2.2.2.2.1, wi.2.2.2.2.2.2.1, wi.2.2.2.2.2.2.2.1, wi.2.2.2.2.2.2.2.2.1, 0, 0) mt ms ma mp mk mn ou) [.ref (ad 0), .int zA, .int zB, .long zC, .long zD]) "java/lang/IndexOutOfBoundsException" := by
  refine bx_ofW (cc := cX4_pin) (maxL := 7) (ret := (some .boolean)) (by decide) rfl ?_
  intro p e s m args below meth c s₁ B hml hout hv
  obtain ⟨ha, hP, hK, hX, hZ⟩ := hv
  have hx := B.exec
  have hb := B.bytes
  have hr := B.returns
  have hts := atoms_spec (ws := wsX4_pin) B.pre
  have hown : s.vm.findClass RX4 = some m.cls := findClass_of_methodNamed B.named
  have hlocks := B.notSynchronized
  have hl := lv_entry ([.ref (ad 0), .int zA, .int zB, .long zC, .long zD]) (n := 7) (Nat.le_of_ble_eq_true rfl)
  refine W.eq (g2 := entryFrame m ([.ref (ad 0), .int zA, .int zB, .long zC, .long zD] : List Value).toArray 7) (by rw [ha]) ?_
  rw [lg_entry_eq]
  generalize (lg_sl ([.ref (ad 0), .int zA, .int zB, .long zC, .long zD]) ++ List.replicate (7 - (lg_sl ([.ref (ad 0), .int zA, .int zB, .long zC, .long zD])).length) Slot.unset).toArray = ls at hl ⊢
  have hl : lv_has ls 7 [(0, .ref (ad 0)), (1, .int zA), (2, .int zB), (3, .long zC), (5, .long zD)] := hl
  refine lv_iload_n hx hb dX4_pin_0 rfl (lv_at hl 1 rfl) ?_
  refine lv_if_lt (x := zA) (tgt := 15) hx hb dX4_pin_1 (by decide) (fun c_1 => ?_) (fun c_1 => ?_)
  · obtain ⟨sa, hsa⟩ := hZ (145, "no such net") (by decide +kernel)
    exact bx_throw (rest := []) (own := RX4) (cls := "java/lang/IndexOutOfBoundsException") (text := "no such net") (names := bxUp) (ik := 143) (is := 145) (ic := 147) hx hb hlt hown (by decide +kernel) (by decide +kernel) (hts (.classLink RX4 143 "java/lang/IndexOutOfBoundsException") (by decide +kernel)) (hts (.initialized "java/lang/IndexOutOfBoundsException") (by decide +kernel)) hsa (fun w hw => hX w (bx_in_147 w hw) _) (hl.1.trans hml.symm) dX4_pin_15 dX4_pin_18 dX4_pin_19 dX4_pin_21 dX4_pin_24 hout (Nat.le_of_ble_eq_true rfl) (Nat.le_of_ble_eq_true rfl) (Nat.le_of_ble_eq_true rfl) (Nat.le_of_ble_eq_true rfl) hlocks
  · refine lv_iload_n hx hb dX4_pin_4 rfl (lv_at hl 1 rfl) ?_
    refine lv_aload_n hx hb dX4_pin_5 rfl (lv_at hl 0 rfl) ?_
    refine va_get (D := D) (ci := 4) (v := .ref (ad 32)) (C := RX4) (T := TX4) (N := 10) hx hb hts (inT inX4) hown hK hP 0 rfl rfl 4 (by decide) (hts (.fieldLink RX4 30 "BoardMoves" "wiring" "LBoardMoves$Wiring;") (by decide +kernel)) (fun _ h9 => h9) rfl dX4_pin_6 ?_
    refine va_get (D := D) (ci := 3) (v := .int (nI 0)) (C := RX3) (T := TX3) (N := 12) hx hb hts (inT inX3) hown hK hP 32 rfl rfl 10 (by decide) (hts (.fieldLink RX4 139 "BoardMoves$Wiring" "nets" "I") (by decide +kernel)) (fun _ h9 => h9) rfl dX4_pin_9 ?_
    refine lv_icmp_lt (x := zA) (y := (nI 0)) (tgt := 25) hx hb dX4_pin_12 (by decide) (fun c_2 => ?_) (fun c_2 => ?_)
    · exact absurd (show zA < 0 from c_2) c_1
    · obtain ⟨sa, hsa⟩ := hZ (145, "no such net") (by decide +kernel)
      exact bx_throw (rest := []) (own := RX4) (cls := "java/lang/IndexOutOfBoundsException") (text := "no such net") (names := bxUp) (ik := 143) (is := 145) (ic := 147) hx hb hlt hown (by decide +kernel) (by decide +kernel) (hts (.classLink RX4 143 "java/lang/IndexOutOfBoundsException") (by decide +kernel)) (hts (.initialized "java/lang/IndexOutOfBoundsException") (by decide +kernel)) hsa (fun w hw => hX w (bx_in_147 w hw) _) (hl.1.trans hml.symm) dX4_pin_15 dX4_pin_18 dX4_pin_19 dX4_pin_21 dX4_pin_24 hout (Nat.le_of_ble_eq_true rfl) (Nat.le_of_ble_eq_true rfl) (Nat.le_of_ble_eq_true rfl) (Nat.le_of_ble_eq_true rfl) hlocks

set_option maxHeartbeats 4000000 in
set_option maxRecDepth 100000 in
theorem k_run {l : Launch} {D : va_G} {ad : Nat → Nat} {cJ cI cZ : ClassId} {bm : gBM} {pa : gPA} {p0 p1 p2 : gPL} {li : gLI} {wi : gWI} {mt : Nat} {ms : gMS} {ma : gMA} {mp : gMP} {mk : gMK} {mn : gMN} {ou : Nat → Int64} {zA : Int64} (hv : q_rn zA = true) : bm_Rd l yX4_run wsX4_run ({ frames := 0, cells := 0, slots := 0, locals := 0 }) D vwCl [(cJ, .long), (cI, .int), (cZ, .boolean)] (WW ad cJ cI cZ (bm.1, bm.2.1, bm.2.2.1, 0) (pa.1, pa.2.1, pa.2.2.1, pa.2.2.2.1, pa.2.2.2.2.1, pa.2.2.2.2.2.1, 0) p0 p1 p2 (li.1, li.2.1, li.2.2.1, li.2.2.2.1, li.2.2.2.2.1, li.2.2.2.2.2.1, li.2.2.2.2.2.2.1, li.2.2.2.2.2.2.2.1, 0, 0) (wi.1, wi.2.1, wi.2.2.1, wi.2.2.2.1, wi.2.2.2.2.1, wi.2.2.2.2.2.1, wi.2.2.2.2.2.2.1, wi.2.2.2.2.2.2.2.1, wi.2.2.2.2.2.2.2.2.1, 0, 0) mt ms ma mp mk mn ou) [.ref (ad 0), .long zA] (.int (nI 0)) := by
  refine Met.ofW (cc := cX4_run) (maxL := 10) (ret := (some .int)) (by decide) rfl ?_
  intro p e s m args below meth c s₁ B hml hv
  obtain ⟨ha, hP, hK⟩ := hv
  have hx := B.exec
  have hb := B.bytes
  have hr := B.returns
  have hts := atoms_spec (ws := wsX4_run) B.pre
  have hown : s.vm.findClass RX4 = some m.cls := findClass_of_methodNamed B.named
  have hlocks := B.notSynchronized
  have hl := lv_entry ([.ref (ad 0), .long zA]) (n := 10) (Nat.le_of_ble_eq_true rfl)
  refine W.eq (g2 := entryFrame m ([.ref (ad 0), .long zA] : List Value).toArray 10) (by rw [ha]) ?_
  rw [lg_entry_eq]
  generalize (lg_sl ([.ref (ad 0), .long zA]) ++ List.replicate (10 - (lg_sl ([.ref (ad 0), .long zA])).length) Slot.unset).toArray = ls at hl ⊢
  have hl : lv_has ls 10 [(0, .ref (ad 0)), (1, .long zA)] := hl
  refine lv_lload_n hx hb dX4_run_0 rfl (lv_at hl 1 rfl) ?_
  refine lv_lconst (v := 0) hx hb dX4_run_1 (by decide) ?_
  refine bm_lc_lt (x := zA) (y := 0) (tgt := 14) hx hb dX4_run_2 dX4_run_3 (by decide) (fun c_1 => ?_) (fun c_1 => ?_)
  · exact absurd hv (by simp [q_rn, c_1])
  · refine lv_lload_n hx hb dX4_run_6 rfl (lv_at hl 1 rfl) ?_
    refine lv_ldc2 (v := 2000) hx hb hown (hts (.constantLong RX4 193 2000) (by decide +kernel)) dX4_run_7 ?_
    refine bm_lc_le (x := zA) (y := 2000) (tgt := 24) hx hb dX4_run_10 dX4_run_11 (by decide) (fun c_2 => ?_) (fun c_2 => ?_)
    · refine lv_aload_n hx hb dX4_run_24 rfl (lv_at hl 0 rfl) ?_
      refine va_get (D := D) (ci := 4) (v := .ref (ad 1)) (C := RX4) (T := TX4) (N := 10) hx hb hts (inT inX4) hown hK hP 0 rfl rfl 2 (by decide) (hts (.fieldLink RX4 12 "BoardMoves" "parts" "LBoardMoves$Parts;") (by decide +kernel)) (fun _ h9 => h9) rfl dX4_run_25 ?_
      refine va_get (D := D) (ci := 1) (v := .int (nI 0)) (C := RX1) (T := TX1) (N := 7) hx hb hts (inT inX1) hown hK hP 1 rfl rfl 6 (by decide) (hts (.fieldLink RX4 197 "BoardMoves$Parts" "count" "I") (by decide +kernel)) (fun _ h9 => h9) rfl dX4_run_28 ?_
      refine bm_nz_eq (x := 0) (tgt := 40) hx hb (by decide) dX4_run_31 (by decide) (fun c_3 => ?_) (fun c_3 => ?_)
      · refine lv_iconst (v := nI 0) hx hb dX4_run_40 (by decide) ?_
        exact bm_iretR (v := (nI 0)) hx hb hr rfl dX4_run_41 hlocks
      · exact absurd c_3 (by decide)
    · exact absurd hv (by simp [q_rn, c_2])

set_option maxHeartbeats 4000000 in
set_option maxRecDepth 100000 in
theorem k_runX {l : Launch} (hlt : l.stackTraces = false) {D : va_G} {ad : Nat → Nat} {cJ cI cZ : ClassId} {bm : gBM} {pa : gPA} {p0 p1 p2 : gPL} {li : gLI} {wi : gWI} {mt : Nat} {ms : gMS} {ma : gMA} {mp : gMP} {mk : gMK} {mn : gMN} {ou : Nat → Int64} {zA : Int64} (hv : q_rn zA = false) : bx_T l yX4_run wsX4_run ({ frames := 6, cells := 1, slots := 6, locals := 101 }) (bx_Tp D vwCl [(cJ, .long), (cI, .int), (cZ, .boolean)] (WW ad cJ cI cZ (bm.1, bm.2.1, bm.2.2.1, 0) (pa.1, pa.2.1, pa.2.2.1, pa.2.2.2.1, pa.2.2.2.2.1, pa.2.2.2.2.2.1, 0) p0 p1 p2 (li.1, li.2.1, li.2.2.1, li.2.2.2.1, li.2.2.2.2.1, li.2.2.2.2.2.1, li.2.2.2.2.2.2.1, li.2.2.2.2.2.2.2.1, 0, 0) (wi.1, wi.2.1, wi.2.2.1, wi.2.2.2.1, wi.2.2.2.2.1, wi.2.2.2.2.2.1, wi.2.2.2.2.2.2.1, wi.2.2.2.2.2.2.2.1, wi.2.2.2.2.2.2.2.2.1, 0, 0) mt ms ma mp mk mn ou) [.ref (ad 0), .long zA]) "java/lang/IllegalArgumentException" := by
  refine bx_ofW (cc := cX4_run) (maxL := 10) (ret := (some .int)) (by decide) rfl ?_
  intro p e s m args below meth c s₁ B hml hout hv
  obtain ⟨ha, hP, hK, hX, hZ⟩ := hv
  have hx := B.exec
  have hb := B.bytes
  have hr := B.returns
  have hts := atoms_spec (ws := wsX4_run) B.pre
  have hown : s.vm.findClass RX4 = some m.cls := findClass_of_methodNamed B.named
  have hlocks := B.notSynchronized
  have hl := lv_entry ([.ref (ad 0), .long zA]) (n := 10) (Nat.le_of_ble_eq_true rfl)
  refine W.eq (g2 := entryFrame m ([.ref (ad 0), .long zA] : List Value).toArray 10) (by rw [ha]) ?_
  rw [lg_entry_eq]
  generalize (lg_sl ([.ref (ad 0), .long zA]) ++ List.replicate (10 - (lg_sl ([.ref (ad 0), .long zA])).length) Slot.unset).toArray = ls at hl ⊢
  have hl : lv_has ls 10 [(0, .ref (ad 0)), (1, .long zA)] := hl
  refine lv_lload_n hx hb dX4_run_0 rfl (lv_at hl 1 rfl) ?_
  refine lv_lconst (v := 0) hx hb dX4_run_1 (by decide) ?_
  refine bm_lc_lt (x := zA) (y := 0) (tgt := 14) hx hb dX4_run_2 dX4_run_3 (by decide) (fun c_1 => ?_) (fun c_1 => ?_)
  · obtain ⟨sa, hsa⟩ := hZ (195, "steps are 0 .. 2,000") (by decide +kernel)
    exact bx_throw (rest := []) (own := RX4) (cls := "java/lang/IllegalArgumentException") (text := "steps are 0 .. 2,000") (names := bxUp) (ik := 75) (is := 195) (ic := 79) hx hb hlt hown (by decide +kernel) (by decide +kernel) (hts (.classLink RX4 75 "java/lang/IllegalArgumentException") (by decide +kernel)) (hts (.initialized "java/lang/IllegalArgumentException") (by decide +kernel)) hsa (fun w hw => hX w (bx_in_79 w hw) _) (hl.1.trans hml.symm) dX4_run_14 dX4_run_17 dX4_run_18 dX4_run_20 dX4_run_23 hout (Nat.le_of_ble_eq_true rfl) (Nat.le_of_ble_eq_true rfl) (Nat.le_of_ble_eq_true rfl) (Nat.le_of_ble_eq_true rfl) hlocks
  · refine lv_lload_n hx hb dX4_run_6 rfl (lv_at hl 1 rfl) ?_
    refine lv_ldc2 (v := 2000) hx hb hown (hts (.constantLong RX4 193 2000) (by decide +kernel)) dX4_run_7 ?_
    refine bm_lc_le (x := zA) (y := 2000) (tgt := 24) hx hb dX4_run_10 dX4_run_11 (by decide) (fun c_2 => ?_) (fun c_2 => ?_)
    · exact absurd hv (by simp [q_rn, c_1, c_2])
    · obtain ⟨sa, hsa⟩ := hZ (195, "steps are 0 .. 2,000") (by decide +kernel)
      exact bx_throw (rest := []) (own := RX4) (cls := "java/lang/IllegalArgumentException") (text := "steps are 0 .. 2,000") (names := bxUp) (ik := 75) (is := 195) (ic := 79) hx hb hlt hown (by decide +kernel) (by decide +kernel) (hts (.classLink RX4 75 "java/lang/IllegalArgumentException") (by decide +kernel)) (hts (.initialized "java/lang/IllegalArgumentException") (by decide +kernel)) hsa (fun w hw => hX w (bx_in_79 w hw) _) (hl.1.trans hml.symm) dX4_run_14 dX4_run_17 dX4_run_18 dX4_run_20 dX4_run_23 hout (Nat.le_of_ble_eq_true rfl) (Nat.le_of_ble_eq_true rfl) (Nat.le_of_ble_eq_true rfl) (Nat.le_of_ble_eq_true rfl) hlocks

set_option maxHeartbeats 4000000 in
set_option maxRecDepth 100000 in
theorem k_all {l : Launch} {D : va_G} {ad : Nat → Nat} {cJ cI cZ : ClassId} {bm : gBM} {pa : gPA} {p0 p1 p2 : gPL} {li : gLI} {wi : gWI} {mt : Nat} {ms : gMS} {ma : gMA} {mp : gMP} {mk : gMK} {mn : gMN} {ou : Nat → Int64}  : bm_Rd l yX4_allStandWell wsX4_allStandWell ({ frames := 0, cells := 0, slots := 0, locals := 0 }) D vwCl [(cJ, .long), (cI, .int), (cZ, .boolean)] (WW ad cJ cI cZ bm (pa.1, pa.2.1, pa.2.2.1, pa.2.2.2.1, pa.2.2.2.2.1, pa.2.2.2.2.2.1, 0) p0 p1 p2 li wi mt ms ma mp mk mn ou) [.ref (ad 0)] (.int (bm_b true)) := by
  refine Met.ofW (cc := cX4_allStandWell) (maxL := 2) (ret := (some .boolean)) (by decide) rfl ?_
  intro p e s m args below meth c s₁ B hml hv
  obtain ⟨ha, hP, hK⟩ := hv
  have hx := B.exec
  have hb := B.bytes
  have hr := B.returns
  have hts := atoms_spec (ws := wsX4_allStandWell) B.pre
  have hown : s.vm.findClass RX4 = some m.cls := findClass_of_methodNamed B.named
  have hlocks := B.notSynchronized
  have hl := lv_entry ([.ref (ad 0)]) (n := 2) (Nat.le_of_ble_eq_true rfl)
  refine W.eq (g2 := entryFrame m ([.ref (ad 0)] : List Value).toArray 2) (by rw [ha]) ?_
  rw [lg_entry_eq]
  generalize (lg_sl ([.ref (ad 0)]) ++ List.replicate (2 - (lg_sl ([.ref (ad 0)])).length) Slot.unset).toArray = ls at hl ⊢
  have hl : lv_has ls 2 [(0, .ref (ad 0))] := hl
  refine lv_iconst (v := nI 0) hx hb dX4_allStandWell_0 (by decide) ?_
  refine lv_istore_n (lv' := [(1, .int (nI 0)), (0, .ref (ad 0))]) hx hb dX4_allStandWell_1 rfl hl (by decide) rfl (fun ls hl => ?_)
  refine lv_iload_n hx hb dX4_allStandWell_2 rfl (lv_at hl 0 rfl) ?_
  refine lv_aload_n hx hb dX4_allStandWell_3 rfl (lv_at hl 1 rfl) ?_
  refine va_get (D := D) (ci := 4) (v := .ref (ad 1)) (C := RX4) (T := TX4) (N := 10) hx hb hts (inT inX4) hown hK hP 0 rfl rfl 2 (by decide) (hts (.fieldLink RX4 12 "BoardMoves" "parts" "LBoardMoves$Parts;") (by decide +kernel)) (fun _ h9 => h9) rfl dX4_allStandWell_4 ?_
  refine va_get (D := D) (ci := 1) (v := .int (nI 0)) (C := RX1) (T := TX1) (N := 7) hx hb hts (inT inX1) hown hK hP 1 rfl rfl 6 (by decide) (hts (.fieldLink RX4 197 "BoardMoves$Parts" "count" "I") (by decide +kernel)) (fun _ h9 => h9) rfl dX4_allStandWell_7 ?_
  refine bm_ni_ge (x := 0) (y := 0) (tgt := 29) hx hb (by decide) (by decide) dX4_allStandWell_10 (by decide) (fun c_1 => ?_) (fun c_1 => ?_)
  · refine lv_iconst (v := bm_b true) hx hb dX4_allStandWell_29 (by decide) ?_
    exact bm_zretR (v := true) hx hb hr rfl dX4_allStandWell_30 hlocks
  · exact absurd c_1 (by decide)

set_option maxHeartbeats 4000000 in
set_option maxRecDepth 100000 in
theorem k_clear {l : Launch} {D : va_G} {ad : Nat → Nat} {cJ cI cZ : ClassId} {bm : gBM} {pa : gPA} {p0 p1 p2 : gPL} {li : gLI} {wi : gWI} {mt : Nat} {ms : gMS} {ma : gMA} {mp : gMP} {mk : gMK} {mn : gMN} {ou : Nat → Int64}  : bm_Rd l yX4_clear2 wsX4_clear2 ({ frames := 1, cells := 0, slots := 0, locals := 21 }) D vwCl [(cJ, .long), (cI, .int), (cZ, .boolean)] (WW ad cJ cI cZ (bm.1, bm.2.1, bm.2.2.1, 0) (pa.1, pa.2.1, pa.2.2.1, pa.2.2.2.1, pa.2.2.2.2.1, pa.2.2.2.2.2.1, 0) p0 p1 p2 (li.1, li.2.1, li.2.2.1, li.2.2.2.1, li.2.2.2.2.1, li.2.2.2.2.2.1, li.2.2.2.2.2.2.1, li.2.2.2.2.2.2.2.1, 0, 0) (wi.1, wi.2.1, wi.2.2.1, wi.2.2.2.1, wi.2.2.2.2.1, wi.2.2.2.2.2.1, wi.2.2.2.2.2.2.1, wi.2.2.2.2.2.2.2.1, wi.2.2.2.2.2.2.2.2.1, 0, 0) mt ms ma mp mk mn ou) [.ref (ad 0)] (.int (bm_b true)) := by
  refine Met.ofW (cc := cX4_clear2) (maxL := 1) (ret := (some .boolean)) (by decide) rfl ?_
  intro p e s m args below meth c s₁ B hml hv
  obtain ⟨ha, hP, hK⟩ := hv
  have hx := B.exec
  have hb := B.bytes
  have hr := B.returns
  have hts := atoms_spec (ws := wsX4_clear2) B.pre
  have hown : s.vm.findClass RX4 = some m.cls := findClass_of_methodNamed B.named
  have hlocks := B.notSynchronized
  have hl := lv_entry ([.ref (ad 0)]) (n := 1) (Nat.le_of_ble_eq_true rfl)
  refine W.eq (g2 := entryFrame m ([.ref (ad 0)] : List Value).toArray 1) (by rw [ha]) ?_
  rw [lg_entry_eq]
  generalize (lg_sl ([.ref (ad 0)]) ++ List.replicate (1 - (lg_sl ([.ref (ad 0)])).length) Slot.unset).toArray = ls at hl ⊢
  have hl : lv_has ls 1 [(0, .ref (ad 0))] := hl
  refine lv_aload_n hx hb dX4_clear2_0 rfl (lv_at hl 0 rfl) ?_
  refine bm_rcallV (As := []) (rest := []) ⟨hx, hb, hml, hown, hts⟩ (k_all) (cwV 0 hts (gdV (by decide +kernel) (by decide +kernel) (by decide +kernel) (by decide +kernel) (by decide +kernel)) rfl rfl rfl (by decide +kernel) ⟨Nat.le_of_ble_eq_true rfl, Nat.le_of_ble_eq_true rfl⟩) hK hP 0 4 rfl rfl rfl hl.1 rfl (Nat.le_of_ble_eq_true rfl) dX4_clear2_1 ⟨Nat.le_of_ble_eq_true rfl, Nat.le_of_ble_eq_true rfl⟩ ?_
  exact bm_zretR (v := true) hx hb hr rfl dX4_clear2_4 hlocks
end
section
set_option maxHeartbeats 4000000 in
set_option maxRecDepth 100000 in
theorem k_addKO {l : Launch} {D : va_G} {ad : Nat → Nat} {cJ cI cZ : ClassId} {bm : gBM} {pa : gPA} {p0 p1 p2 : gPL} {li : gLI} {wi : gWI} {mt : Nat} {ms : gMS} {ma : gMA} {mp : gMP} {mk : gMK} {mn : gMN} {ou : Nat → Int64} {zA zB zC zD zE : Int64} : bm_Wr l yX0_addKeepOut wsX0_addKeepOut ({ frames := 0, cells := 0, slots := 0, locals := 0 }) D vwCl [(cJ, .long), (cI, .int), (cZ, .boolean)] (WW ad cJ cI cZ (bm.1, bm.2.1, bm.2.2.1, 0) (pa.1, pa.2.1, pa.2.2.1, pa.2.2.2.1, pa.2.2.2.2.1, pa.2.2.2.2.2.1, 0) p0 p1 p2 (li.1, li.2.1, li.2.2.1, li.2.2.2.1, li.2.2.2.2.1, li.2.2.2.2.2.1, li.2.2.2.2.2.2.1, li.2.2.2.2.2.2.2.1, 0, 0) (wi.1, wi.2.1, wi.2.2.1, wi.2.2.2.1, wi.2.2.2.2.1, wi.2.2.2.2.2.1, wi.2.2.2.2.2.2.1, wi.2.2.2.2.2.2.2.1, wi.2.2.2.2.2.2.2.2.1, 0, 0) mt ms ma mp mk mn ou) [.ref (ad 23), .long zA, .long zB, .long zC, .long zD, .long zE] (WW ad cJ cI cZ (bm.1, bm.2.1, bm.2.2.1, 0) (pa.1, pa.2.1, pa.2.2.1, pa.2.2.2.1, pa.2.2.2.2.1, pa.2.2.2.2.2.1, 0) p0 p1 p2 (va_up li.1 0 zA, va_up li.2.1 0 zB, va_up li.2.2.1 0 zC, va_up li.2.2.2.1 0 zD, va_up li.2.2.2.2.1 0 zE, li.2.2.2.2.2.1, li.2.2.2.2.2.2.1, li.2.2.2.2.2.2.2.1, 0 + 1, 0) (wi.1, wi.2.1, wi.2.2.1, wi.2.2.2.1, wi.2.2.2.2.1, wi.2.2.2.2.2.1, wi.2.2.2.2.2.2.1, wi.2.2.2.2.2.2.2.1, wi.2.2.2.2.2.2.2.2.1, 0, 0) mt ms ma mp mk mn ou) (some (.int (bm_b true))) := by
  intro sz
  refine Met.ofW (cc := cX0_addKeepOut) (maxL := 11) (ret := (some .boolean)) (by decide) rfl ?_
  intro p e s m args below meth c s₁ B hml hv
  obtain ⟨ha, hsz, hP, hK, hD0⟩ := hv
  have hx := B.exec
  have hb := B.bytes
  have hr := B.returns
  have hts := atoms_spec (ws := wsX0_addKeepOut) B.pre
  have hown : s.vm.findClass RX0 = some m.cls := findClass_of_methodNamed B.named
  have hlocks := B.notSynchronized
  subst hsz
  have hD := hD0.self (sz := s.heap.size)
  generalize hAe : va_A (WW ad cJ cI cZ (bm.1, bm.2.1, bm.2.2.1, 0) (pa.1, pa.2.1, pa.2.2.1, pa.2.2.2.1, pa.2.2.2.2.1, pa.2.2.2.2.2.1, 0) p0 p1 p2 (li.1, li.2.1, li.2.2.1, li.2.2.2.1, li.2.2.2.2.1, li.2.2.2.2.2.1, li.2.2.2.2.2.2.1, li.2.2.2.2.2.2.2.1, 0, 0) (wi.1, wi.2.1, wi.2.2.1, wi.2.2.2.1, wi.2.2.2.2.1, wi.2.2.2.2.2.1, wi.2.2.2.2.2.2.1, wi.2.2.2.2.2.2.2.1, wi.2.2.2.2.2.2.2.2.1, 0, 0) mt ms ma mp mk mn ou) s.heap.size = A at hD ⊢
  have hA : ∀ q : Nat, s.heap.size ≤ q → A q := fun q h => by rw [← hAe]; exact Or.inr h
  have hS : va_S A s.heap s.heap [] := va_S.rf
  have hl := lv_entry ([.ref (ad 23), .long zA, .long zB, .long zC, .long zD, .long zE]) (n := 11) (Nat.le_of_ble_eq_true rfl)
  refine W.eq (g2 := entryFrame m ([.ref (ad 23), .long zA, .long zB, .long zC, .long zD, .long zE] : List Value).toArray 11) (by rw [ha]) ?_
  rw [lg_entry_eq]
  generalize (lg_sl ([.ref (ad 23), .long zA, .long zB, .long zC, .long zD, .long zE]) ++ List.replicate (11 - (lg_sl ([.ref (ad 23), .long zA, .long zB, .long zC, .long zD, .long zE])).length) Slot.unset).toArray = ls at hl ⊢
  have hl : lv_has ls 11 [(0, .ref (ad 23)), (1, .long zA), (3, .long zB), (5, .long zC), (7, .long zD), (9, .long zE)] := hl
  refine lv_aload_n hx hb dX0_addKeepOut_0 rfl (lv_at hl 0 rfl) ?_
  refine va_get (D := D) (ci := 0) (v := .int (nI 0)) (C := RX0) (T := TX0) (N := 11) hx hb hts (inT inX0) hown hK hP 23 rfl rfl 9 (by decide) (hts (.fieldLink RX0 37 "BoardMoves$Limits" "keepOuts" "I") (by decide +kernel)) (fun _ h9 => h9) rfl dX0_addKeepOut_1 ?_
  refine lv_bipush (v := nI 10) hx hb dX0_addKeepOut_4 (by decide) ?_
  refine bm_ni_lt (x := 0) (y := 10) (tgt := 11) hx hb (by decide) (by decide) dX0_addKeepOut_6 (by decide) (fun c_1 => ?_) (fun c_1 => ?_)
  · refine lv_aload_n hx hb dX0_addKeepOut_11 rfl (lv_at hl 0 rfl) ?_
    refine va_get (D := D) (ci := 0) (v := .ref (ad 24)) (C := RX0) (T := TX0) (N := 11) hx hb hts (inT inX0) hown hK hP 23 rfl rfl 1 (by decide) (hts (.fieldLink RX0 9 "BoardMoves$Limits" "x0" "[J") (by decide +kernel)) (fun _ h9 => h9) rfl dX0_addKeepOut_12 ?_
    refine lv_aload_n hx hb dX0_addKeepOut_15 rfl (lv_at hl 0 rfl) ?_
    refine va_get (D := D) (ci := 0) (v := .int (nI 0)) (C := RX0) (T := TX0) (N := 11) hx hb hts (inT inX0) hown hK hP 23 rfl rfl 9 (by decide) (hts (.fieldLink RX0 37 "BoardMoves$Limits" "keepOuts" "I") (by decide +kernel)) (fun _ h9 => h9) rfl dX0_addKeepOut_16 ?_
    refine lv_lload_n hx hb dX0_addKeepOut_19 rfl (lv_at hl 1 rfl) ?_
    refine bm_last (f := li.1) hx hb hK hP hD hS 24 0 rfl rfl (j := 0) (x := zA) (by omega) (by decide) dX0_addKeepOut_20 (fun H locs hP hD hS => ?_)
    have hP : va_P D vwCl (WW ad cJ cI cZ (bm.1, bm.2.1, bm.2.2.1, 0) (pa.1, pa.2.1, pa.2.2.1, pa.2.2.2.1, pa.2.2.2.2.1, pa.2.2.2.2.2.1, 0) p0 p1 p2 (va_up li.1 0 zA, li.2.1, li.2.2.1, li.2.2.2.1, li.2.2.2.2.1, li.2.2.2.2.2.1, li.2.2.2.2.2.2.1, li.2.2.2.2.2.2.2.1, 0, 0) (wi.1, wi.2.1, wi.2.2.1, wi.2.2.2.1, wi.2.2.2.2.1, wi.2.2.2.2.2.1, wi.2.2.2.2.2.2.1, wi.2.2.2.2.2.2.2.1, wi.2.2.2.2.2.2.2.2.1, 0, 0) mt ms ma mp mk mn ou) H := hP
    have hD : va_D A (WW ad cJ cI cZ (bm.1, bm.2.1, bm.2.2.1, 0) (pa.1, pa.2.1, pa.2.2.1, pa.2.2.2.1, pa.2.2.2.2.1, pa.2.2.2.2.2.1, 0) p0 p1 p2 (va_up li.1 0 zA, li.2.1, li.2.2.1, li.2.2.2.1, li.2.2.2.2.1, li.2.2.2.2.2.1, li.2.2.2.2.2.2.1, li.2.2.2.2.2.2.2.1, 0, 0) (wi.1, wi.2.1, wi.2.2.1, wi.2.2.2.1, wi.2.2.2.2.1, wi.2.2.2.2.2.1, wi.2.2.2.2.2.2.1, wi.2.2.2.2.2.2.2.1, wi.2.2.2.2.2.2.2.2.1, 0, 0) mt ms ma mp mk mn ou) := hD
    refine lv_aload_n hx hb dX0_addKeepOut_21 rfl (lv_at hl 0 rfl) ?_
    refine va_get (D := D) (ci := 0) (v := .ref (ad 25)) (C := RX0) (T := TX0) (N := 11) hx hb hts (inT inX0) hown hK hP 23 rfl rfl 2 (by decide) (hts (.fieldLink RX0 15 "BoardMoves$Limits" "y0" "[J") (by decide +kernel)) (fun _ h9 => h9) rfl dX0_addKeepOut_22 ?_
    refine lv_aload_n hx hb dX0_addKeepOut_25 rfl (lv_at hl 0 rfl) ?_
    refine va_get (D := D) (ci := 0) (v := .int (nI 0)) (C := RX0) (T := TX0) (N := 11) hx hb hts (inT inX0) hown hK hP 23 rfl rfl 9 (by decide) (hts (.fieldLink RX0 37 "BoardMoves$Limits" "keepOuts" "I") (by decide +kernel)) (fun _ h9 => h9) rfl dX0_addKeepOut_26 ?_
    refine lv_lload_n hx hb dX0_addKeepOut_29 rfl (lv_at hl 2 rfl) ?_
    refine bm_last (f := li.2.1) hx hb hK hP hD hS 25 0 rfl rfl (j := 0) (x := zB) (by omega) (by decide) dX0_addKeepOut_30 (fun H locs hP hD hS => ?_)
    have hP : va_P D vwCl (WW ad cJ cI cZ (bm.1, bm.2.1, bm.2.2.1, 0) (pa.1, pa.2.1, pa.2.2.1, pa.2.2.2.1, pa.2.2.2.2.1, pa.2.2.2.2.2.1, 0) p0 p1 p2 (va_up li.1 0 zA, va_up li.2.1 0 zB, li.2.2.1, li.2.2.2.1, li.2.2.2.2.1, li.2.2.2.2.2.1, li.2.2.2.2.2.2.1, li.2.2.2.2.2.2.2.1, 0, 0) (wi.1, wi.2.1, wi.2.2.1, wi.2.2.2.1, wi.2.2.2.2.1, wi.2.2.2.2.2.1, wi.2.2.2.2.2.2.1, wi.2.2.2.2.2.2.2.1, wi.2.2.2.2.2.2.2.2.1, 0, 0) mt ms ma mp mk mn ou) H := hP
    have hD : va_D A (WW ad cJ cI cZ (bm.1, bm.2.1, bm.2.2.1, 0) (pa.1, pa.2.1, pa.2.2.1, pa.2.2.2.1, pa.2.2.2.2.1, pa.2.2.2.2.2.1, 0) p0 p1 p2 (va_up li.1 0 zA, va_up li.2.1 0 zB, li.2.2.1, li.2.2.2.1, li.2.2.2.2.1, li.2.2.2.2.2.1, li.2.2.2.2.2.2.1, li.2.2.2.2.2.2.2.1, 0, 0) (wi.1, wi.2.1, wi.2.2.1, wi.2.2.2.1, wi.2.2.2.2.1, wi.2.2.2.2.2.1, wi.2.2.2.2.2.2.1, wi.2.2.2.2.2.2.2.1, wi.2.2.2.2.2.2.2.2.1, 0, 0) mt ms ma mp mk mn ou) := hD
    refine lv_aload_n hx hb dX0_addKeepOut_31 rfl (lv_at hl 0 rfl) ?_
    refine va_get (D := D) (ci := 0) (v := .ref (ad 26)) (C := RX0) (T := TX0) (N := 11) hx hb hts (inT inX0) hown hK hP 23 rfl rfl 3 (by decide) (hts (.fieldLink RX0 18 "BoardMoves$Limits" "x1" "[J") (by decide +kernel)) (fun _ h9 => h9) rfl dX0_addKeepOut_32 ?_
    refine lv_aload_n hx hb dX0_addKeepOut_35 rfl (lv_at hl 0 rfl) ?_
    refine va_get (D := D) (ci := 0) (v := .int (nI 0)) (C := RX0) (T := TX0) (N := 11) hx hb hts (inT inX0) hown hK hP 23 rfl rfl 9 (by decide) (hts (.fieldLink RX0 37 "BoardMoves$Limits" "keepOuts" "I") (by decide +kernel)) (fun _ h9 => h9) rfl dX0_addKeepOut_36 ?_
    refine lv_lload hx hb dX0_addKeepOut_39 (lv_at hl 3 rfl) ?_
    refine bm_last (f := li.2.2.1) hx hb hK hP hD hS 26 0 rfl rfl (j := 0) (x := zC) (by omega) (by decide) dX0_addKeepOut_41 (fun H locs hP hD hS => ?_)
    have hP : va_P D vwCl (WW ad cJ cI cZ (bm.1, bm.2.1, bm.2.2.1, 0) (pa.1, pa.2.1, pa.2.2.1, pa.2.2.2.1, pa.2.2.2.2.1, pa.2.2.2.2.2.1, 0) p0 p1 p2 (va_up li.1 0 zA, va_up li.2.1 0 zB, va_up li.2.2.1 0 zC, li.2.2.2.1, li.2.2.2.2.1, li.2.2.2.2.2.1, li.2.2.2.2.2.2.1, li.2.2.2.2.2.2.2.1, 0, 0) (wi.1, wi.2.1, wi.2.2.1, wi.2.2.2.1, wi.2.2.2.2.1, wi.2.2.2.2.2.1, wi.2.2.2.2.2.2.1, wi.2.2.2.2.2.2.2.1, wi.2.2.2.2.2.2.2.2.1, 0, 0) mt ms ma mp mk mn ou) H := hP
    have hD : va_D A (WW ad cJ cI cZ (bm.1, bm.2.1, bm.2.2.1, 0) (pa.1, pa.2.1, pa.2.2.1, pa.2.2.2.1, pa.2.2.2.2.1, pa.2.2.2.2.2.1, 0) p0 p1 p2 (va_up li.1 0 zA, va_up li.2.1 0 zB, va_up li.2.2.1 0 zC, li.2.2.2.1, li.2.2.2.2.1, li.2.2.2.2.2.1, li.2.2.2.2.2.2.1, li.2.2.2.2.2.2.2.1, 0, 0) (wi.1, wi.2.1, wi.2.2.1, wi.2.2.2.1, wi.2.2.2.2.1, wi.2.2.2.2.2.1, wi.2.2.2.2.2.2.1, wi.2.2.2.2.2.2.2.1, wi.2.2.2.2.2.2.2.2.1, 0, 0) mt ms ma mp mk mn ou) := hD
    refine lv_aload_n hx hb dX0_addKeepOut_42 rfl (lv_at hl 0 rfl) ?_
    refine va_get (D := D) (ci := 0) (v := .ref (ad 27)) (C := RX0) (T := TX0) (N := 11) hx hb hts (inT inX0) hown hK hP 23 rfl rfl 4 (by decide) (hts (.fieldLink RX0 21 "BoardMoves$Limits" "y1" "[J") (by decide +kernel)) (fun _ h9 => h9) rfl dX0_addKeepOut_43 ?_
    refine lv_aload_n hx hb dX0_addKeepOut_46 rfl (lv_at hl 0 rfl) ?_
    refine va_get (D := D) (ci := 0) (v := .int (nI 0)) (C := RX0) (T := TX0) (N := 11) hx hb hts (inT inX0) hown hK hP 23 rfl rfl 9 (by decide) (hts (.fieldLink RX0 37 "BoardMoves$Limits" "keepOuts" "I") (by decide +kernel)) (fun _ h9 => h9) rfl dX0_addKeepOut_47 ?_
    refine lv_lload hx hb dX0_addKeepOut_50 (lv_at hl 4 rfl) ?_
    refine bm_last (f := li.2.2.2.1) hx hb hK hP hD hS 27 0 rfl rfl (j := 0) (x := zD) (by omega) (by decide) dX0_addKeepOut_52 (fun H locs hP hD hS => ?_)
    have hP : va_P D vwCl (WW ad cJ cI cZ (bm.1, bm.2.1, bm.2.2.1, 0) (pa.1, pa.2.1, pa.2.2.1, pa.2.2.2.1, pa.2.2.2.2.1, pa.2.2.2.2.2.1, 0) p0 p1 p2 (va_up li.1 0 zA, va_up li.2.1 0 zB, va_up li.2.2.1 0 zC, va_up li.2.2.2.1 0 zD, li.2.2.2.2.1, li.2.2.2.2.2.1, li.2.2.2.2.2.2.1, li.2.2.2.2.2.2.2.1, 0, 0) (wi.1, wi.2.1, wi.2.2.1, wi.2.2.2.1, wi.2.2.2.2.1, wi.2.2.2.2.2.1, wi.2.2.2.2.2.2.1, wi.2.2.2.2.2.2.2.1, wi.2.2.2.2.2.2.2.2.1, 0, 0) mt ms ma mp mk mn ou) H := hP
    have hD : va_D A (WW ad cJ cI cZ (bm.1, bm.2.1, bm.2.2.1, 0) (pa.1, pa.2.1, pa.2.2.1, pa.2.2.2.1, pa.2.2.2.2.1, pa.2.2.2.2.2.1, 0) p0 p1 p2 (va_up li.1 0 zA, va_up li.2.1 0 zB, va_up li.2.2.1 0 zC, va_up li.2.2.2.1 0 zD, li.2.2.2.2.1, li.2.2.2.2.2.1, li.2.2.2.2.2.2.1, li.2.2.2.2.2.2.2.1, 0, 0) (wi.1, wi.2.1, wi.2.2.1, wi.2.2.2.1, wi.2.2.2.2.1, wi.2.2.2.2.2.1, wi.2.2.2.2.2.2.1, wi.2.2.2.2.2.2.2.1, wi.2.2.2.2.2.2.2.2.1, 0, 0) mt ms ma mp mk mn ou) := hD
    refine lv_aload_n hx hb dX0_addKeepOut_53 rfl (lv_at hl 0 rfl) ?_
    refine va_get (D := D) (ci := 0) (v := .ref (ad 28)) (C := RX0) (T := TX0) (N := 11) hx hb hts (inT inX0) hown hK hP 23 rfl rfl 5 (by decide) (hts (.fieldLink RX0 24 "BoardMoves$Limits" "tallest" "[J") (by decide +kernel)) (fun _ h9 => h9) rfl dX0_addKeepOut_54 ?_
    refine lv_aload_n hx hb dX0_addKeepOut_57 rfl (lv_at hl 0 rfl) ?_
    refine va_get (D := D) (ci := 0) (v := .int (nI 0)) (C := RX0) (T := TX0) (N := 11) hx hb hts (inT inX0) hown hK hP 23 rfl rfl 9 (by decide) (hts (.fieldLink RX0 37 "BoardMoves$Limits" "keepOuts" "I") (by decide +kernel)) (fun _ h9 => h9) rfl dX0_addKeepOut_58 ?_
    refine lv_lload hx hb dX0_addKeepOut_61 (lv_at hl 5 rfl) ?_
    refine bm_last (f := li.2.2.2.2.1) hx hb hK hP hD hS 28 0 rfl rfl (j := 0) (x := zE) (by omega) (by decide) dX0_addKeepOut_63 (fun H locs hP hD hS => ?_)
    have hP : va_P D vwCl (WW ad cJ cI cZ (bm.1, bm.2.1, bm.2.2.1, 0) (pa.1, pa.2.1, pa.2.2.1, pa.2.2.2.1, pa.2.2.2.2.1, pa.2.2.2.2.2.1, 0) p0 p1 p2 (va_up li.1 0 zA, va_up li.2.1 0 zB, va_up li.2.2.1 0 zC, va_up li.2.2.2.1 0 zD, va_up li.2.2.2.2.1 0 zE, li.2.2.2.2.2.1, li.2.2.2.2.2.2.1, li.2.2.2.2.2.2.2.1, 0, 0) (wi.1, wi.2.1, wi.2.2.1, wi.2.2.2.1, wi.2.2.2.2.1, wi.2.2.2.2.2.1, wi.2.2.2.2.2.2.1, wi.2.2.2.2.2.2.2.1, wi.2.2.2.2.2.2.2.2.1, 0, 0) mt ms ma mp mk mn ou) H := hP
    have hD : va_D A (WW ad cJ cI cZ (bm.1, bm.2.1, bm.2.2.1, 0) (pa.1, pa.2.1, pa.2.2.1, pa.2.2.2.1, pa.2.2.2.2.1, pa.2.2.2.2.2.1, 0) p0 p1 p2 (va_up li.1 0 zA, va_up li.2.1 0 zB, va_up li.2.2.1 0 zC, va_up li.2.2.2.1 0 zD, va_up li.2.2.2.2.1 0 zE, li.2.2.2.2.2.1, li.2.2.2.2.2.2.1, li.2.2.2.2.2.2.2.1, 0, 0) (wi.1, wi.2.1, wi.2.2.1, wi.2.2.2.1, wi.2.2.2.2.1, wi.2.2.2.2.2.1, wi.2.2.2.2.2.2.1, wi.2.2.2.2.2.2.2.1, wi.2.2.2.2.2.2.2.2.1, 0, 0) mt ms ma mp mk mn ou) := hD
    refine lv_aload_n hx hb dX0_addKeepOut_64 rfl (lv_at hl 0 rfl) ?_
    refine lv_dup hx hb dX0_addKeepOut_65 rfl ?_
    refine va_get (D := D) (ci := 0) (v := .int (nI 0)) (C := RX0) (T := TX0) (N := 11) hx hb hts (inT inX0) hown hK hP 23 rfl rfl 9 (by decide) (hts (.fieldLink RX0 37 "BoardMoves$Limits" "keepOuts" "I") (by decide +kernel)) (fun _ h9 => h9) rfl dX0_addKeepOut_66 ?_
    refine lv_iconst (v := nI 1) hx hb dX0_addKeepOut_69 (by decide) ?_
    refine bm_nadd hx hb dX0_addKeepOut_70 ?_
    refine va_put (D := D) (ci := 0) (v := .int (nI (0 + 1))) (ty := .int) (C := RX0) (T := TX0) (N := 11) hx hb hts (inT inX0) tyX0 tyX0_ok nmX0 hown hK hP hD hS 23 rfl rfl 9 (by decide) (hts (.fieldLink RX0 37 "BoardMoves$Limits" "keepOuts" "I") (by decide +kernel)) (fun _ h9 => h9) rfl (by decide +kernel) rfl rfl (Nat.le_of_ble_eq_true rfl) dX0_addKeepOut_71 (fun H locs hP hD hS => ?_)
    have hP : va_P D vwCl (WW ad cJ cI cZ (bm.1, bm.2.1, bm.2.2.1, 0) (pa.1, pa.2.1, pa.2.2.1, pa.2.2.2.1, pa.2.2.2.2.1, pa.2.2.2.2.2.1, 0) p0 p1 p2 (va_up li.1 0 zA, va_up li.2.1 0 zB, va_up li.2.2.1 0 zC, va_up li.2.2.2.1 0 zD, va_up li.2.2.2.2.1 0 zE, li.2.2.2.2.2.1, li.2.2.2.2.2.2.1, li.2.2.2.2.2.2.2.1, 0 + 1, 0) (wi.1, wi.2.1, wi.2.2.1, wi.2.2.2.1, wi.2.2.2.2.1, wi.2.2.2.2.2.1, wi.2.2.2.2.2.2.1, wi.2.2.2.2.2.2.2.1, wi.2.2.2.2.2.2.2.2.1, 0, 0) mt ms ma mp mk mn ou) H := hP
    have hD : va_D A (WW ad cJ cI cZ (bm.1, bm.2.1, bm.2.2.1, 0) (pa.1, pa.2.1, pa.2.2.1, pa.2.2.2.1, pa.2.2.2.2.1, pa.2.2.2.2.2.1, 0) p0 p1 p2 (va_up li.1 0 zA, va_up li.2.1 0 zB, va_up li.2.2.1 0 zC, va_up li.2.2.2.1 0 zD, va_up li.2.2.2.2.1 0 zE, li.2.2.2.2.2.1, li.2.2.2.2.2.2.1, li.2.2.2.2.2.2.2.1, 0 + 1, 0) (wi.1, wi.2.1, wi.2.2.1, wi.2.2.2.1, wi.2.2.2.2.1, wi.2.2.2.2.2.1, wi.2.2.2.2.2.2.1, wi.2.2.2.2.2.2.2.1, wi.2.2.2.2.2.2.2.2.1, 0, 0) mt ms ma mp mk mn ou) := hD
    refine lv_iconst (v := bm_b true) hx hb dX0_addKeepOut_74 (by decide) ?_
    exact bm_zretW (v := true) hx hb hr hP hD hK hS ⟨rfl, rfl⟩ dX0_addKeepOut_75 hlocks
  · exact absurd c_1 (by decide)

set_option maxHeartbeats 4000000 in
set_option maxRecDepth 100000 in
theorem k_koX {l : Launch} (hlt : l.stackTraces = false) {D : va_G} {ad : Nat → Nat} {cJ cI cZ : ClassId} {bm : gBM} {pa : gPA} {p0 p1 p2 : gPL} {li : gLI} {wi : gWI} {mt : Nat} {ms : gMS} {ma : gMA} {mp : gMP} {mk : gMK} {mn : gMN} {ou : Nat → Int64} {zA zB zC zD zE : Int64} (hv : zE < 0) : bx_T l yX4_keepOut wsX4_keepOut ({ frames := 6, cells := 1, slots := 6, locals := 101 }) (bx_Tp D vwCl [(cJ, .long), (cI, .int), (cZ, .boolean)] (WW ad cJ cI cZ (bm.1, bm.2.1, bm.2.2.1, 0) (pa.1, pa.2.1, pa.2.2.1, pa.2.2.2.1, pa.2.2.2.2.1, pa.2.2.2.2.2.1, 0) p0 p1 p2 (li.1, li.2.1, li.2.2.1, li.2.2.2.1, li.2.2.2.2.1, li.2.2.2.2.2.1, li.2.2.2.2.2.2.1, li.2.2.2.2.2.2.2.1, 0, 0) (wi.1, wi.2.1, wi.2.2.1, wi.2.2.2.1, wi.2.2.2.2.1, wi.2.2.2.2.2.1, wi.2.2.2.2.2.2.1, wi.2.2.2.2.2.2.2.1, wi.2.2.2.2.2.2.2.2.1, 0, 0) mt ms ma mp mk mn ou) [.ref (ad 0), .long zA, .long zB, .long zC, .long zD, .long zE]) "java/lang/IllegalArgumentException" := by
  refine bx_ofW (cc := cX4_keepOut) (maxL := 11) (ret := (some .boolean)) (by decide) rfl ?_
  intro p e s m args below meth c s₁ B hml hout hv
  obtain ⟨ha, hP, hK, hX, hZ⟩ := hv
  have hx := B.exec
  have hb := B.bytes
  have hr := B.returns
  have hts := atoms_spec (ws := wsX4_keepOut) B.pre
  have hown : s.vm.findClass RX4 = some m.cls := findClass_of_methodNamed B.named
  have hlocks := B.notSynchronized
  have hl := lv_entry ([.ref (ad 0), .long zA, .long zB, .long zC, .long zD, .long zE]) (n := 11) (Nat.le_of_ble_eq_true rfl)
  refine W.eq (g2 := entryFrame m ([.ref (ad 0), .long zA, .long zB, .long zC, .long zD, .long zE] : List Value).toArray 11) (by rw [ha]) ?_
  rw [lg_entry_eq]
  generalize (lg_sl ([.ref (ad 0), .long zA, .long zB, .long zC, .long zD, .long zE]) ++ List.replicate (11 - (lg_sl ([.ref (ad 0), .long zA, .long zB, .long zC, .long zD, .long zE])).length) Slot.unset).toArray = ls at hl ⊢
  have hl : lv_has ls 11 [(0, .ref (ad 0)), (1, .long zA), (3, .long zB), (5, .long zC), (7, .long zD), (9, .long zE)] := hl
  refine lv_lload hx hb dX4_keepOut_0 (lv_at hl 5 rfl) ?_
  refine lv_lconst (v := 0) hx hb dX4_keepOut_2 (by decide) ?_
  refine bm_lc_ge (x := zE) (y := 0) (tgt := 17) hx hb dX4_keepOut_3 dX4_keepOut_4 (by decide) (fun c_1 => ?_) (fun c_1 => ?_)
  · exact absurd hv c_1
  · obtain ⟨sa, hsa⟩ := hZ (223, "a height is not below 0") (by decide +kernel)
    exact bx_throw (rest := []) (own := RX4) (cls := "java/lang/IllegalArgumentException") (text := "a height is not below 0") (names := bxUp) (ik := 75) (is := 223) (ic := 79) hx hb hlt hown (by decide +kernel) (by decide +kernel) (hts (.classLink RX4 75 "java/lang/IllegalArgumentException") (by decide +kernel)) (hts (.initialized "java/lang/IllegalArgumentException") (by decide +kernel)) hsa (fun w hw => hX w (bx_in_79 w hw) _) (hl.1.trans hml.symm) dX4_keepOut_7 dX4_keepOut_10 dX4_keepOut_11 dX4_keepOut_13 dX4_keepOut_16 hout (Nat.le_of_ble_eq_true rfl) (Nat.le_of_ble_eq_true rfl) (Nat.le_of_ble_eq_true rfl) (Nat.le_of_ble_eq_true rfl) hlocks

set_option maxHeartbeats 4000000 in
set_option maxRecDepth 100000 in
theorem k_koN {l : Launch} {D : va_G} {ad : Nat → Nat} {cJ cI cZ : ClassId} {bm : gBM} {pa : gPA} {p0 p1 p2 : gPL} {li : gLI} {wi : gWI} {mt : Nat} {ms : gMS} {ma : gMA} {mp : gMP} {mk : gMK} {mn : gMN} {ou : Nat → Int64} {zA zB zC zD zE : Int64} (hv : ¬ zE < 0) (h1 : q_tr zA zB zC zD = true) : bm_Rd l yX4_keepOut wsX4_keepOut ({ frames := 0, cells := 0, slots := 0, locals := 0 }) D vwCl [(cJ, .long), (cI, .int), (cZ, .boolean)] (WW ad cJ cI cZ (bm.1, bm.2.1, bm.2.2.1, 0) (pa.1, pa.2.1, pa.2.2.1, pa.2.2.2.1, pa.2.2.2.2.1, pa.2.2.2.2.2.1, 0) p0 p1 p2 (li.1, li.2.1, li.2.2.1, li.2.2.2.1, li.2.2.2.2.1, li.2.2.2.2.2.1, li.2.2.2.2.2.2.1, li.2.2.2.2.2.2.2.1, 0, 0) (wi.1, wi.2.1, wi.2.2.1, wi.2.2.2.1, wi.2.2.2.2.1, wi.2.2.2.2.2.1, wi.2.2.2.2.2.2.1, wi.2.2.2.2.2.2.2.1, wi.2.2.2.2.2.2.2.2.1, 0, 0) mt ms ma mp mk mn ou) [.ref (ad 0), .long zA, .long zB, .long zC, .long zD, .long zE] (.int (bm_b false)) := by
  refine Met.ofW (cc := cX4_keepOut) (maxL := 11) (ret := (some .boolean)) (by decide) rfl ?_
  intro p e s m args below meth c s₁ B hml hv
  obtain ⟨ha, hP, hK⟩ := hv
  have hx := B.exec
  have hb := B.bytes
  have hr := B.returns
  have hts := atoms_spec (ws := wsX4_keepOut) B.pre
  have hown : s.vm.findClass RX4 = some m.cls := findClass_of_methodNamed B.named
  have hlocks := B.notSynchronized
  have hl := lv_entry ([.ref (ad 0), .long zA, .long zB, .long zC, .long zD, .long zE]) (n := 11) (Nat.le_of_ble_eq_true rfl)
  refine W.eq (g2 := entryFrame m ([.ref (ad 0), .long zA, .long zB, .long zC, .long zD, .long zE] : List Value).toArray 11) (by rw [ha]) ?_
  rw [lg_entry_eq]
  generalize (lg_sl ([.ref (ad 0), .long zA, .long zB, .long zC, .long zD, .long zE]) ++ List.replicate (11 - (lg_sl ([.ref (ad 0), .long zA, .long zB, .long zC, .long zD, .long zE])).length) Slot.unset).toArray = ls at hl ⊢
  have hl : lv_has ls 11 [(0, .ref (ad 0)), (1, .long zA), (3, .long zB), (5, .long zC), (7, .long zD), (9, .long zE)] := hl
  refine lv_lload hx hb dX4_keepOut_0 (lv_at hl 5 rfl) ?_
  refine lv_lconst (v := 0) hx hb dX4_keepOut_2 (by decide) ?_
  refine bm_lc_ge (x := zE) (y := 0) (tgt := 17) hx hb dX4_keepOut_3 dX4_keepOut_4 (by decide) (fun c_1 => ?_) (fun c_1 => ?_)
  · refine lv_lload_n hx hb dX4_keepOut_17 rfl (lv_at hl 1 rfl) ?_
    refine lv_lload hx hb dX4_keepOut_18 (lv_at hl 3 rfl) ?_
    refine bm_lc_ge (x := zA) (y := zC) (tgt := 49) hx hb dX4_keepOut_20 dX4_keepOut_21 (by decide) (fun c_2 => ?_) (fun c_2 => ?_)
    · refine lv_iconst (v := bm_b false) hx hb dX4_keepOut_49 (by decide) ?_
      exact bm_zretR (v := false) hx hb hr rfl dX4_keepOut_50 hlocks
    · refine lv_lload_n hx hb dX4_keepOut_24 rfl (lv_at hl 2 rfl) ?_
      refine lv_lload hx hb dX4_keepOut_25 (lv_at hl 4 rfl) ?_
      refine bm_lc_ge (x := zB) (y := zD) (tgt := 49) hx hb dX4_keepOut_27 dX4_keepOut_28 (by decide) (fun c_3 => ?_) (fun c_3 => ?_)
      · refine lv_iconst (v := bm_b false) hx hb dX4_keepOut_49 (by decide) ?_
        exact bm_zretR (v := false) hx hb hr rfl dX4_keepOut_50 hlocks
      · exact absurd h1 (by simp [q_tr, c_2, c_3])
  · exact absurd c_1 hv

set_option maxHeartbeats 4000000 in
set_option maxRecDepth 100000 in
theorem k_koY {l : Launch} {D : va_G} {ad : Nat → Nat} {cJ cI cZ : ClassId} {bm : gBM} {pa : gPA} {p0 p1 p2 : gPL} {li : gLI} {wi : gWI} {mt : Nat} {ms : gMS} {ma : gMA} {mp : gMP} {mk : gMK} {mn : gMN} {ou : Nat → Int64} {zA zB zC zD zE : Int64} (hv : ¬ zE < 0) (h1 : q_tr zA zB zC zD = false) : bm_Wr l yX4_keepOut wsX4_keepOut ({ frames := 1, cells := 0, slots := 0, locals := 30 }) D vwCl [(cJ, .long), (cI, .int), (cZ, .boolean)] (WW ad cJ cI cZ (bm.1, bm.2.1, bm.2.2.1, 0) (pa.1, pa.2.1, pa.2.2.1, pa.2.2.2.1, pa.2.2.2.2.1, pa.2.2.2.2.2.1, 0) p0 p1 p2 (li.1, li.2.1, li.2.2.1, li.2.2.2.1, li.2.2.2.2.1, li.2.2.2.2.2.1, li.2.2.2.2.2.2.1, li.2.2.2.2.2.2.2.1, 0, 0) (wi.1, wi.2.1, wi.2.2.1, wi.2.2.2.1, wi.2.2.2.2.1, wi.2.2.2.2.2.1, wi.2.2.2.2.2.2.1, wi.2.2.2.2.2.2.2.1, wi.2.2.2.2.2.2.2.2.1, 0, 0) mt ms ma mp mk mn ou) [.ref (ad 0), .long zA, .long zB, .long zC, .long zD, .long zE] (WW ad cJ cI cZ (bm.1, bm.2.1, bm.2.2.1, 0) (pa.1, pa.2.1, pa.2.2.1, pa.2.2.2.1, pa.2.2.2.2.1, pa.2.2.2.2.2.1, 0) p0 p1 p2 (va_up li.1 0 zA, va_up li.2.1 0 zB, va_up li.2.2.1 0 zC, va_up li.2.2.2.1 0 zD, va_up li.2.2.2.2.1 0 zE, li.2.2.2.2.2.1, li.2.2.2.2.2.2.1, li.2.2.2.2.2.2.2.1, 0 + 1, 0) (wi.1, wi.2.1, wi.2.2.1, wi.2.2.2.1, wi.2.2.2.2.1, wi.2.2.2.2.2.1, wi.2.2.2.2.2.2.1, wi.2.2.2.2.2.2.2.1, wi.2.2.2.2.2.2.2.2.1, 0, 0) mt ms ma mp mk mn ou) (some (.int (bm_b true))) := by
  intro sz
  refine Met.ofW (cc := cX4_keepOut) (maxL := 11) (ret := (some .boolean)) (by decide) rfl ?_
  intro p e s m args below meth c s₁ B hml hv
  obtain ⟨ha, hsz, hP, hK, hD0⟩ := hv
  have hx := B.exec
  have hb := B.bytes
  have hr := B.returns
  have hts := atoms_spec (ws := wsX4_keepOut) B.pre
  have hown : s.vm.findClass RX4 = some m.cls := findClass_of_methodNamed B.named
  have hlocks := B.notSynchronized
  subst hsz
  have hD := hD0.self (sz := s.heap.size)
  generalize hAe : va_A (WW ad cJ cI cZ (bm.1, bm.2.1, bm.2.2.1, 0) (pa.1, pa.2.1, pa.2.2.1, pa.2.2.2.1, pa.2.2.2.2.1, pa.2.2.2.2.2.1, 0) p0 p1 p2 (li.1, li.2.1, li.2.2.1, li.2.2.2.1, li.2.2.2.2.1, li.2.2.2.2.2.1, li.2.2.2.2.2.2.1, li.2.2.2.2.2.2.2.1, 0, 0) (wi.1, wi.2.1, wi.2.2.1, wi.2.2.2.1, wi.2.2.2.2.1, wi.2.2.2.2.2.1, wi.2.2.2.2.2.2.1, wi.2.2.2.2.2.2.2.1, wi.2.2.2.2.2.2.2.2.1, 0, 0) mt ms ma mp mk mn ou) s.heap.size = A at hD ⊢
  have hA : ∀ q : Nat, s.heap.size ≤ q → A q := fun q h => by rw [← hAe]; exact Or.inr h
  have hS : va_S A s.heap s.heap [] := va_S.rf
  have hl := lv_entry ([.ref (ad 0), .long zA, .long zB, .long zC, .long zD, .long zE]) (n := 11) (Nat.le_of_ble_eq_true rfl)
  refine W.eq (g2 := entryFrame m ([.ref (ad 0), .long zA, .long zB, .long zC, .long zD, .long zE] : List Value).toArray 11) (by rw [ha]) ?_
  rw [lg_entry_eq]
  generalize (lg_sl ([.ref (ad 0), .long zA, .long zB, .long zC, .long zD, .long zE]) ++ List.replicate (11 - (lg_sl ([.ref (ad 0), .long zA, .long zB, .long zC, .long zD, .long zE])).length) Slot.unset).toArray = ls at hl ⊢
  have hl : lv_has ls 11 [(0, .ref (ad 0)), (1, .long zA), (3, .long zB), (5, .long zC), (7, .long zD), (9, .long zE)] := hl
  refine lv_lload hx hb dX4_keepOut_0 (lv_at hl 5 rfl) ?_
  refine lv_lconst (v := 0) hx hb dX4_keepOut_2 (by decide) ?_
  refine bm_lc_ge (x := zE) (y := 0) (tgt := 17) hx hb dX4_keepOut_3 dX4_keepOut_4 (by decide) (fun c_1 => ?_) (fun c_1 => ?_)
  · refine lv_lload_n hx hb dX4_keepOut_17 rfl (lv_at hl 1 rfl) ?_
    refine lv_lload hx hb dX4_keepOut_18 (lv_at hl 3 rfl) ?_
    refine bm_lc_ge (x := zA) (y := zC) (tgt := 49) hx hb dX4_keepOut_20 dX4_keepOut_21 (by decide) (fun c_2 => ?_) (fun c_2 => ?_)
    · exact absurd h1 (by simp [q_tr, c_2])
    · refine lv_lload_n hx hb dX4_keepOut_24 rfl (lv_at hl 2 rfl) ?_
      refine lv_lload hx hb dX4_keepOut_25 (lv_at hl 4 rfl) ?_
      refine bm_lc_ge (x := zB) (y := zD) (tgt := 49) hx hb dX4_keepOut_27 dX4_keepOut_28 (by decide) (fun c_3 => ?_) (fun c_3 => ?_)
      · exact absurd h1 (by simp [q_tr, c_3])
      · refine lv_aload_n hx hb dX4_keepOut_31 rfl (lv_at hl 0 rfl) ?_
        refine va_get (D := D) (ci := 4) (v := .ref (ad 23)) (C := RX4) (T := TX4) (N := 10) hx hb hts (inT inX4) hown hK hP 0 rfl rfl 3 (by decide) (hts (.fieldLink RX4 23 "BoardMoves" "limits" "LBoardMoves$Limits;") (by decide +kernel)) (fun _ h9 => h9) rfl dX4_keepOut_32 ?_
        refine lv_lload_n hx hb dX4_keepOut_35 rfl (lv_at hl 1 rfl) ?_
        refine lv_lload_n hx hb dX4_keepOut_36 rfl (lv_at hl 2 rfl) ?_
        refine lv_lload hx hb dX4_keepOut_37 (lv_at hl 3 rfl) ?_
        refine lv_lload hx hb dX4_keepOut_39 (lv_at hl 4 rfl) ?_
        refine lv_lload hx hb dX4_keepOut_41 (lv_at hl 5 rfl) ?_
        refine bm_wcallV (As := [.long zA, .long zB, .long zC, .long zD, .long zE]) (rest := []) ⟨hx, hb, hml, hown, hts⟩ (k_addKO) (cwV 5 hts (gdV (by decide +kernel) (by decide +kernel) (by decide +kernel) (by decide +kernel) (by decide +kernel)) rfl rfl rfl (by decide +kernel) ⟨Nat.le_of_ble_eq_true rfl, Nat.le_of_ble_eq_true rfl⟩) hK hP hD hS hA 23 0 rfl rfl rfl hl.1 rfl (Nat.le_of_ble_eq_true rfl) dX4_keepOut_43 ⟨Nat.le_of_ble_eq_true rfl, Nat.le_of_ble_eq_true rfl⟩ (fun H locs hP hD hS => ?_)
        have hP : va_P D vwCl (WW ad cJ cI cZ (bm.1, bm.2.1, bm.2.2.1, 0) (pa.1, pa.2.1, pa.2.2.1, pa.2.2.2.1, pa.2.2.2.2.1, pa.2.2.2.2.2.1, 0) p0 p1 p2 (va_up li.1 0 zA, va_up li.2.1 0 zB, va_up li.2.2.1 0 zC, va_up li.2.2.2.1 0 zD, va_up li.2.2.2.2.1 0 zE, li.2.2.2.2.2.1, li.2.2.2.2.2.2.1, li.2.2.2.2.2.2.2.1, 0 + 1, 0) (wi.1, wi.2.1, wi.2.2.1, wi.2.2.2.1, wi.2.2.2.2.1, wi.2.2.2.2.2.1, wi.2.2.2.2.2.2.1, wi.2.2.2.2.2.2.2.1, wi.2.2.2.2.2.2.2.2.1, 0, 0) mt ms ma mp mk mn ou) H := hP
        have hD : va_D A (WW ad cJ cI cZ (bm.1, bm.2.1, bm.2.2.1, 0) (pa.1, pa.2.1, pa.2.2.1, pa.2.2.2.1, pa.2.2.2.2.1, pa.2.2.2.2.2.1, 0) p0 p1 p2 (va_up li.1 0 zA, va_up li.2.1 0 zB, va_up li.2.2.1 0 zC, va_up li.2.2.2.1 0 zD, va_up li.2.2.2.2.1 0 zE, li.2.2.2.2.2.1, li.2.2.2.2.2.2.1, li.2.2.2.2.2.2.2.1, 0 + 1, 0) (wi.1, wi.2.1, wi.2.2.1, wi.2.2.2.1, wi.2.2.2.2.1, wi.2.2.2.2.2.1, wi.2.2.2.2.2.2.1, wi.2.2.2.2.2.2.2.1, wi.2.2.2.2.2.2.2.2.1, 0, 0) mt ms ma mp mk mn ou) := hD
        refine bm_zb_ne (x := true) (tgt := 51) hx hb dX4_keepOut_46 (by decide) (fun c_4 => ?_) (fun c_4 => ?_)
        · refine lv_aload_n hx hb dX4_keepOut_51 rfl (lv_at hl 0 rfl) ?_
          refine bm_rcallV (As := []) (rest := []) ⟨hx, hb, hml, hown, hts⟩ (k_all) (cwV 0 hts (gdV (by decide +kernel) (by decide +kernel) (by decide +kernel) (by decide +kernel) (by decide +kernel)) rfl rfl rfl (by decide +kernel) ⟨Nat.le_of_ble_eq_true rfl, Nat.le_of_ble_eq_true rfl⟩) hK hP 0 4 rfl rfl rfl hl.1 rfl (Nat.le_of_ble_eq_true rfl) dX4_keepOut_52 ⟨Nat.le_of_ble_eq_true rfl, Nat.le_of_ble_eq_true rfl⟩ ?_
          refine bm_zb_ne (x := true) (tgt := 67) hx hb dX4_keepOut_55 (by decide) (fun c_5 => ?_) (fun c_5 => ?_)
          · refine lv_iconst (v := bm_b true) hx hb dX4_keepOut_67 (by decide) ?_
            exact bm_zretW (v := true) hx hb hr hP hD hK hS ⟨rfl, rfl⟩ dX4_keepOut_68 hlocks
          · exact absurd c_5 (by decide)
        · exact absurd c_4 (by decide)
  · exact absurd c_1 hv
end
section
set_option maxHeartbeats 4000000 in
set_option maxRecDepth 100000 in
theorem k_addNet {l : Launch} {D : va_G} {ad : Nat → Nat} {cJ cI cZ : ClassId} {bm : gBM} {pa : gPA} {p0 p1 p2 : gPL} {li : gLI} {wi : gWI} {mt : Nat} {ms : gMS} {ma : gMA} {mp : gMP} {mk : gMK} {mn : gMN} {ou : Nat → Int64}  : bm_Wr l yX3_addNet wsX3_addNet ({ frames := 0, cells := 0, slots := 0, locals := 0 }) D vwCl [(cJ, .long), (cI, .int), (cZ, .boolean)] (WW ad cJ cI cZ (bm.1, bm.2.1, bm.2.2.1, 0) (pa.1, pa.2.1, pa.2.2.1, pa.2.2.2.1, pa.2.2.2.2.1, pa.2.2.2.2.2.1, 0) p0 p1 p2 (li.1, li.2.1, li.2.2.1, li.2.2.2.1, li.2.2.2.2.1, li.2.2.2.2.2.1, li.2.2.2.2.2.2.1, li.2.2.2.2.2.2.2.1, 0, 0) (wi.1, wi.2.1, wi.2.2.1, wi.2.2.2.1, wi.2.2.2.2.1, wi.2.2.2.2.2.1, wi.2.2.2.2.2.2.1, wi.2.2.2.2.2.2.2.1, wi.2.2.2.2.2.2.2.2.1, 0, 0) mt ms ma mp mk mn ou) [.ref (ad 32)] (WW ad cJ cI cZ (bm.1, bm.2.1, bm.2.2.1, 0) (pa.1, pa.2.1, pa.2.2.1, pa.2.2.2.1, pa.2.2.2.2.1, pa.2.2.2.2.2.1, 0) p0 p1 p2 (li.1, li.2.1, li.2.2.1, li.2.2.2.1, li.2.2.2.2.1, li.2.2.2.2.2.1, li.2.2.2.2.2.2.1, li.2.2.2.2.2.2.2.1, 0, 0) (wi.1, wi.2.1, wi.2.2.1, wi.2.2.2.1, wi.2.2.2.2.1, wi.2.2.2.2.2.1, wi.2.2.2.2.2.2.1, wi.2.2.2.2.2.2.2.1, wi.2.2.2.2.2.2.2.2.1, 0 + 1, 0) mt ms ma mp mk mn ou) (some (.int (nI ((0 + 1) - 1)))) := by
  intro sz
  refine Met.ofW (cc := cX3_addNet) (maxL := 1) (ret := (some .int)) (by decide) rfl ?_
  intro p e s m args below meth c s₁ B hml hv
  obtain ⟨ha, hsz, hP, hK, hD0⟩ := hv
  have hx := B.exec
  have hb := B.bytes
  have hr := B.returns
  have hts := atoms_spec (ws := wsX3_addNet) B.pre
  have hown : s.vm.findClass RX3 = some m.cls := findClass_of_methodNamed B.named
  have hlocks := B.notSynchronized
  subst hsz
  have hD := hD0.self (sz := s.heap.size)
  generalize hAe : va_A (WW ad cJ cI cZ (bm.1, bm.2.1, bm.2.2.1, 0) (pa.1, pa.2.1, pa.2.2.1, pa.2.2.2.1, pa.2.2.2.2.1, pa.2.2.2.2.2.1, 0) p0 p1 p2 (li.1, li.2.1, li.2.2.1, li.2.2.2.1, li.2.2.2.2.1, li.2.2.2.2.2.1, li.2.2.2.2.2.2.1, li.2.2.2.2.2.2.2.1, 0, 0) (wi.1, wi.2.1, wi.2.2.1, wi.2.2.2.1, wi.2.2.2.2.1, wi.2.2.2.2.2.1, wi.2.2.2.2.2.2.1, wi.2.2.2.2.2.2.2.1, wi.2.2.2.2.2.2.2.2.1, 0, 0) mt ms ma mp mk mn ou) s.heap.size = A at hD ⊢
  have hA : ∀ q : Nat, s.heap.size ≤ q → A q := fun q h => by rw [← hAe]; exact Or.inr h
  have hS : va_S A s.heap s.heap [] := va_S.rf
  have hl := lv_entry ([.ref (ad 32)]) (n := 1) (Nat.le_of_ble_eq_true rfl)
  refine W.eq (g2 := entryFrame m ([.ref (ad 32)] : List Value).toArray 1) (by rw [ha]) ?_
  rw [lg_entry_eq]
  generalize (lg_sl ([.ref (ad 32)]) ++ List.replicate (1 - (lg_sl ([.ref (ad 32)])).length) Slot.unset).toArray = ls at hl ⊢
  have hl : lv_has ls 1 [(0, .ref (ad 32))] := hl
  refine lv_aload_n hx hb dX3_addNet_0 rfl (lv_at hl 0 rfl) ?_
  refine va_get (D := D) (ci := 3) (v := .int (nI 0)) (C := RX3) (T := TX3) (N := 12) hx hb hts (inT inX3) hown hK hP 32 rfl rfl 10 (by decide) (hts (.fieldLink RX3 41 "BoardMoves$Wiring" "nets" "I") (by decide +kernel)) (fun _ h9 => h9) rfl dX3_addNet_1 ?_
  refine lv_bipush (v := nI 40) hx hb dX3_addNet_4 (by decide) ?_
  refine bm_ni_lt (x := 0) (y := 40) (tgt := 11) hx hb (by decide) (by decide) dX3_addNet_6 (by decide) (fun c_1 => ?_) (fun c_1 => ?_)
  · refine lv_aload_n hx hb dX3_addNet_11 rfl (lv_at hl 0 rfl) ?_
    refine lv_dup hx hb dX3_addNet_12 rfl ?_
    refine va_get (D := D) (ci := 3) (v := .int (nI 0)) (C := RX3) (T := TX3) (N := 12) hx hb hts (inT inX3) hown hK hP 32 rfl rfl 10 (by decide) (hts (.fieldLink RX3 41 "BoardMoves$Wiring" "nets" "I") (by decide +kernel)) (fun _ h9 => h9) rfl dX3_addNet_13 ?_
    refine lv_iconst (v := nI 1) hx hb dX3_addNet_16 (by decide) ?_
    refine bm_nadd hx hb dX3_addNet_17 ?_
    refine va_put (D := D) (ci := 3) (v := .int (nI (0 + 1))) (ty := .int) (C := RX3) (T := TX3) (N := 12) hx hb hts (inT inX3) tyX3 tyX3_ok nmX3 hown hK hP hD hS 32 rfl rfl 10 (by decide) (hts (.fieldLink RX3 41 "BoardMoves$Wiring" "nets" "I") (by decide +kernel)) (fun _ h9 => h9) rfl (by decide +kernel) rfl rfl (Nat.le_of_ble_eq_true rfl) dX3_addNet_18 (fun H locs hP hD hS => ?_)
    have hP : va_P D vwCl (WW ad cJ cI cZ (bm.1, bm.2.1, bm.2.2.1, 0) (pa.1, pa.2.1, pa.2.2.1, pa.2.2.2.1, pa.2.2.2.2.1, pa.2.2.2.2.2.1, 0) p0 p1 p2 (li.1, li.2.1, li.2.2.1, li.2.2.2.1, li.2.2.2.2.1, li.2.2.2.2.2.1, li.2.2.2.2.2.2.1, li.2.2.2.2.2.2.2.1, 0, 0) (wi.1, wi.2.1, wi.2.2.1, wi.2.2.2.1, wi.2.2.2.2.1, wi.2.2.2.2.2.1, wi.2.2.2.2.2.2.1, wi.2.2.2.2.2.2.2.1, wi.2.2.2.2.2.2.2.2.1, 0 + 1, 0) mt ms ma mp mk mn ou) H := hP
    have hD : va_D A (WW ad cJ cI cZ (bm.1, bm.2.1, bm.2.2.1, 0) (pa.1, pa.2.1, pa.2.2.1, pa.2.2.2.1, pa.2.2.2.2.1, pa.2.2.2.2.2.1, 0) p0 p1 p2 (li.1, li.2.1, li.2.2.1, li.2.2.2.1, li.2.2.2.2.1, li.2.2.2.2.2.1, li.2.2.2.2.2.2.1, li.2.2.2.2.2.2.2.1, 0, 0) (wi.1, wi.2.1, wi.2.2.1, wi.2.2.2.1, wi.2.2.2.2.1, wi.2.2.2.2.2.1, wi.2.2.2.2.2.2.1, wi.2.2.2.2.2.2.2.1, wi.2.2.2.2.2.2.2.2.1, 0 + 1, 0) mt ms ma mp mk mn ou) := hD
    refine lv_aload_n hx hb dX3_addNet_21 rfl (lv_at hl 0 rfl) ?_
    refine va_get (D := D) (ci := 3) (v := .int (nI (0 + 1))) (C := RX3) (T := TX3) (N := 12) hx hb hts (inT inX3) hown hK hP 32 rfl rfl 10 (by decide) (hts (.fieldLink RX3 41 "BoardMoves$Wiring" "nets" "I") (by decide +kernel)) (fun _ h9 => h9) rfl dX3_addNet_22 ?_
    refine lv_iconst (v := nI 1) hx hb dX3_addNet_25 (by decide) ?_
    refine bm_nsub hx hb (by omega) dX3_addNet_26 ?_
    exact bm_iretW (v := (nI ((0 + 1) - 1))) hx hb hr hP hD hK hS ⟨rfl, rfl⟩ dX3_addNet_27 hlocks
  · exact absurd c_1 (by decide)

set_option maxHeartbeats 4000000 in
set_option maxRecDepth 100000 in
theorem k_net {l : Launch} {D : va_G} {ad : Nat → Nat} {cJ cI cZ : ClassId} {bm : gBM} {pa : gPA} {p0 p1 p2 : gPL} {li : gLI} {wi : gWI} {mt : Nat} {ms : gMS} {ma : gMA} {mp : gMP} {mk : gMK} {mn : gMN} {ou : Nat → Int64}  : bm_Wr l yX4_net wsX4_net ({ frames := 1, cells := 0, slots := 0, locals := 20 }) D vwCl [(cJ, .long), (cI, .int), (cZ, .boolean)] (WW ad cJ cI cZ (bm.1, bm.2.1, bm.2.2.1, 0) (pa.1, pa.2.1, pa.2.2.1, pa.2.2.2.1, pa.2.2.2.2.1, pa.2.2.2.2.2.1, 0) p0 p1 p2 (li.1, li.2.1, li.2.2.1, li.2.2.2.1, li.2.2.2.2.1, li.2.2.2.2.2.1, li.2.2.2.2.2.2.1, li.2.2.2.2.2.2.2.1, 0, 0) (wi.1, wi.2.1, wi.2.2.1, wi.2.2.2.1, wi.2.2.2.2.1, wi.2.2.2.2.2.1, wi.2.2.2.2.2.2.1, wi.2.2.2.2.2.2.2.1, wi.2.2.2.2.2.2.2.2.1, 0, 0) mt ms ma mp mk mn ou) [.ref (ad 0)] (WW ad cJ cI cZ (bm.1, bm.2.1, bm.2.2.1, 0) (pa.1, pa.2.1, pa.2.2.1, pa.2.2.2.1, pa.2.2.2.2.1, pa.2.2.2.2.2.1, 0) p0 p1 p2 (li.1, li.2.1, li.2.2.1, li.2.2.2.1, li.2.2.2.2.1, li.2.2.2.2.2.1, li.2.2.2.2.2.2.1, li.2.2.2.2.2.2.2.1, 0, 0) (wi.1, wi.2.1, wi.2.2.1, wi.2.2.2.1, wi.2.2.2.2.1, wi.2.2.2.2.2.1, wi.2.2.2.2.2.2.1, wi.2.2.2.2.2.2.2.1, wi.2.2.2.2.2.2.2.2.1, 0 + 1, 0) mt ms ma mp mk mn ou) (some (.int (nI ((0 + 1) - 1)))) := by
  intro sz
  refine Met.ofW (cc := cX4_net) (maxL := 1) (ret := (some .int)) (by decide) rfl ?_
  intro p e s m args below meth c s₁ B hml hv
  obtain ⟨ha, hsz, hP, hK, hD0⟩ := hv
  have hx := B.exec
  have hb := B.bytes
  have hr := B.returns
  have hts := atoms_spec (ws := wsX4_net) B.pre
  have hown : s.vm.findClass RX4 = some m.cls := findClass_of_methodNamed B.named
  have hlocks := B.notSynchronized
  subst hsz
  have hD := hD0.self (sz := s.heap.size)
  generalize hAe : va_A (WW ad cJ cI cZ (bm.1, bm.2.1, bm.2.2.1, 0) (pa.1, pa.2.1, pa.2.2.1, pa.2.2.2.1, pa.2.2.2.2.1, pa.2.2.2.2.2.1, 0) p0 p1 p2 (li.1, li.2.1, li.2.2.1, li.2.2.2.1, li.2.2.2.2.1, li.2.2.2.2.2.1, li.2.2.2.2.2.2.1, li.2.2.2.2.2.2.2.1, 0, 0) (wi.1, wi.2.1, wi.2.2.1, wi.2.2.2.1, wi.2.2.2.2.1, wi.2.2.2.2.2.1, wi.2.2.2.2.2.2.1, wi.2.2.2.2.2.2.2.1, wi.2.2.2.2.2.2.2.2.1, 0, 0) mt ms ma mp mk mn ou) s.heap.size = A at hD ⊢
  have hA : ∀ q : Nat, s.heap.size ≤ q → A q := fun q h => by rw [← hAe]; exact Or.inr h
  have hS : va_S A s.heap s.heap [] := va_S.rf
  have hl := lv_entry ([.ref (ad 0)]) (n := 1) (Nat.le_of_ble_eq_true rfl)
  refine W.eq (g2 := entryFrame m ([.ref (ad 0)] : List Value).toArray 1) (by rw [ha]) ?_
  rw [lg_entry_eq]
  generalize (lg_sl ([.ref (ad 0)]) ++ List.replicate (1 - (lg_sl ([.ref (ad 0)])).length) Slot.unset).toArray = ls at hl ⊢
  have hl : lv_has ls 1 [(0, .ref (ad 0))] := hl
  refine lv_aload_n hx hb dX4_net_0 rfl (lv_at hl 0 rfl) ?_
  refine va_get (D := D) (ci := 4) (v := .ref (ad 32)) (C := RX4) (T := TX4) (N := 10) hx hb hts (inT inX4) hown hK hP 0 rfl rfl 4 (by decide) (hts (.fieldLink RX4 30 "BoardMoves" "wiring" "LBoardMoves$Wiring;") (by decide +kernel)) (fun _ h9 => h9) rfl dX4_net_1 ?_
  refine bm_wcallV (As := []) (rest := []) ⟨hx, hb, hml, hown, hts⟩ (k_addNet) (cwV 0 hts (gdV (by decide +kernel) (by decide +kernel) (by decide +kernel) (by decide +kernel) (by decide +kernel)) rfl rfl rfl (by decide +kernel) ⟨Nat.le_of_ble_eq_true rfl, Nat.le_of_ble_eq_true rfl⟩) hK hP hD hS hA 32 3 rfl rfl rfl hl.1 rfl (Nat.le_of_ble_eq_true rfl) dX4_net_4 ⟨Nat.le_of_ble_eq_true rfl, Nat.le_of_ble_eq_true rfl⟩ (fun H locs hP hD hS => ?_)
  have hP : va_P D vwCl (WW ad cJ cI cZ (bm.1, bm.2.1, bm.2.2.1, 0) (pa.1, pa.2.1, pa.2.2.1, pa.2.2.2.1, pa.2.2.2.2.1, pa.2.2.2.2.2.1, 0) p0 p1 p2 (li.1, li.2.1, li.2.2.1, li.2.2.2.1, li.2.2.2.2.1, li.2.2.2.2.2.1, li.2.2.2.2.2.2.1, li.2.2.2.2.2.2.2.1, 0, 0) (wi.1, wi.2.1, wi.2.2.1, wi.2.2.2.1, wi.2.2.2.2.1, wi.2.2.2.2.2.1, wi.2.2.2.2.2.2.1, wi.2.2.2.2.2.2.2.1, wi.2.2.2.2.2.2.2.2.1, 0 + 1, 0) mt ms ma mp mk mn ou) H := hP
  have hD : va_D A (WW ad cJ cI cZ (bm.1, bm.2.1, bm.2.2.1, 0) (pa.1, pa.2.1, pa.2.2.1, pa.2.2.2.1, pa.2.2.2.2.1, pa.2.2.2.2.2.1, 0) p0 p1 p2 (li.1, li.2.1, li.2.2.1, li.2.2.2.1, li.2.2.2.2.1, li.2.2.2.2.2.1, li.2.2.2.2.2.2.1, li.2.2.2.2.2.2.2.1, 0, 0) (wi.1, wi.2.1, wi.2.2.1, wi.2.2.2.1, wi.2.2.2.2.1, wi.2.2.2.2.2.1, wi.2.2.2.2.2.2.1, wi.2.2.2.2.2.2.2.1, wi.2.2.2.2.2.2.2.2.1, 0 + 1, 0) mt ms ma mp mk mn ou) := hD
  exact bm_iretW (v := (nI ((0 + 1) - 1))) hx hb hr hP hD hK hS ⟨rfl, rfl⟩ dX4_net_7 hlocks

set_option maxHeartbeats 4000000 in
set_option maxRecDepth 100000 in
theorem k_wire {l : Launch} {D : va_G} {ad : Nat → Nat} {cJ cI cZ : ClassId} {bm : gBM} {pa : gPA} {p0 p1 p2 : gPL} {li : gLI} {wi : gWI} {mt : Nat} {ms : gMS} {ma : gMA} {mp : gMP} {mk : gMK} {mn : gMN} {ou : Nat → Int64}  : bm_Rd l yX4_wire wsX4_wire ({ frames := 0, cells := 0, slots := 0, locals := 0 }) D vwCl [(cJ, .long), (cI, .int), (cZ, .boolean)] (WW ad cJ cI cZ (bm.1, bm.2.1, bm.2.2.1, 0) (pa.1, pa.2.1, pa.2.2.1, pa.2.2.2.1, pa.2.2.2.2.1, pa.2.2.2.2.2.1, 0) p0 p1 p2 (li.1, li.2.1, li.2.2.1, li.2.2.2.1, li.2.2.2.2.1, li.2.2.2.2.2.1, li.2.2.2.2.2.2.1, li.2.2.2.2.2.2.2.1, 0, 0) (wi.1, wi.2.1, wi.2.2.1, wi.2.2.2.1, wi.2.2.2.2.1, wi.2.2.2.2.2.1, wi.2.2.2.2.2.2.1, wi.2.2.2.2.2.2.2.1, wi.2.2.2.2.2.2.2.2.1, 0, 0) mt ms ma mp mk mn ou) [.ref (ad 0)] (.long 0) := by
  refine Met.ofW (cc := cX4_wire) (maxL := 1) (ret := (some .long)) (by decide) rfl ?_
  intro p e s m args below meth c s₁ B hml hv
  obtain ⟨ha, hP, hK⟩ := hv
  have hx := B.exec
  have hb := B.bytes
  have hr := B.returns
  have hts := atoms_spec (ws := wsX4_wire) B.pre
  have hown : s.vm.findClass RX4 = some m.cls := findClass_of_methodNamed B.named
  have hlocks := B.notSynchronized
  have hl := lv_entry ([.ref (ad 0)]) (n := 1) (Nat.le_of_ble_eq_true rfl)
  refine W.eq (g2 := entryFrame m ([.ref (ad 0)] : List Value).toArray 1) (by rw [ha]) ?_
  rw [lg_entry_eq]
  generalize (lg_sl ([.ref (ad 0)]) ++ List.replicate (1 - (lg_sl ([.ref (ad 0)])).length) Slot.unset).toArray = ls at hl ⊢
  have hl : lv_has ls 1 [(0, .ref (ad 0))] := hl
  refine lv_aload_n hx hb dX4_wire_0 rfl (lv_at hl 0 rfl) ?_
  refine va_get (D := D) (ci := 4) (v := .long 0) (C := RX4) (T := TX4) (N := 10) hx hb hts (inT inX4) hown hK hP 0 rfl rfl 9 (by decide) (hts (.fieldLink RX4 47 "BoardMoves" "keptWire" "J") (by decide +kernel)) (fun _ h9 => h9) rfl dX4_wire_1 ?_
  exact bm_lretR (v := 0) hx hb hr rfl dX4_wire_4 hlocks

set_option maxHeartbeats 4000000 in
set_option maxRecDepth 100000 in
theorem k_meas {l : Launch} {D : va_G} {ad : Nat → Nat} {cJ cI cZ : ClassId} {bm : gBM} {pa : gPA} {p0 p1 p2 : gPL} {li : gLI} {wi : gWI} {mt : Nat} {ms : gMS} {ma : gMA} {mp : gMP} {mk : gMK} {mn : gMN} {ou : Nat → Int64}  : bm_Rd l yX3_measure wsX3_measure ({ frames := 0, cells := 0, slots := 0, locals := 0 }) D vwCl [(cJ, .long), (cI, .int), (cZ, .boolean)] (WW ad cJ cI cZ (bm.1, bm.2.1, bm.2.2.1, 0) (pa.1, pa.2.1, pa.2.2.1, pa.2.2.2.1, pa.2.2.2.2.1, pa.2.2.2.2.2.1, 0) p0 p1 p2 (li.1, li.2.1, li.2.2.1, li.2.2.2.1, li.2.2.2.2.1, li.2.2.2.2.2.1, li.2.2.2.2.2.2.1, li.2.2.2.2.2.2.2.1, 0, 0) (wi.1, wi.2.1, wi.2.2.1, wi.2.2.2.1, wi.2.2.2.2.1, wi.2.2.2.2.2.1, wi.2.2.2.2.2.2.1, wi.2.2.2.2.2.2.2.1, wi.2.2.2.2.2.2.2.2.1, 0, 0) mt ms ma mp mk mn ou) [.ref (ad 32), .ref (ad 8)] (.long 0) := by
  refine Met.ofW (cc := cX3_measure) (maxL := 5) (ret := (some .long)) (by decide) rfl ?_
  intro p e s m args below meth c s₁ B hml hv
  obtain ⟨ha, hP, hK⟩ := hv
  have hx := B.exec
  have hb := B.bytes
  have hr := B.returns
  have hts := atoms_spec (ws := wsX3_measure) B.pre
  have hown : s.vm.findClass RX3 = some m.cls := findClass_of_methodNamed B.named
  have hlocks := B.notSynchronized
  have hl := lv_entry ([.ref (ad 32), .ref (ad 8)]) (n := 5) (Nat.le_of_ble_eq_true rfl)
  refine W.eq (g2 := entryFrame m ([.ref (ad 32), .ref (ad 8)] : List Value).toArray 5) (by rw [ha]) ?_
  rw [lg_entry_eq]
  generalize (lg_sl ([.ref (ad 32), .ref (ad 8)]) ++ List.replicate (5 - (lg_sl ([.ref (ad 32), .ref (ad 8)])).length) Slot.unset).toArray = ls at hl ⊢
  have hl : lv_has ls 5 [(0, .ref (ad 32)), (1, .ref (ad 8))] := hl
  refine lv_iconst (v := nI 0) hx hb dX3_measure_0 (by decide) ?_
  refine lv_istore_n (lv' := [(2, .int (nI 0)), (0, .ref (ad 32)), (1, .ref (ad 8))]) hx hb dX3_measure_1 rfl hl (by decide) rfl (fun ls hl => ?_)
  refine lv_iload_n hx hb dX3_measure_2 rfl (lv_at hl 0 rfl) ?_
  refine lv_aload_n hx hb dX3_measure_3 rfl (lv_at hl 1 rfl) ?_
  refine va_get (D := D) (ci := 3) (v := .int (nI 0)) (C := RX3) (T := TX3) (N := 12) hx hb hts (inT inX3) hown hK hP 32 rfl rfl 10 (by decide) (hts (.fieldLink RX3 41 "BoardMoves$Wiring" "nets" "I") (by decide +kernel)) (fun _ h9 => h9) rfl dX3_measure_4 ?_
  refine bm_ni_ge (x := 0) (y := 0) (tgt := 23) hx hb (by decide) (by decide) dX3_measure_7 (by decide) (fun c_1 => ?_) (fun c_1 => ?_)
  · refine lv_iconst (v := nI 0) hx hb dX3_measure_23 (by decide) ?_
    refine lv_istore_n (lv' := [(2, .int (nI 0)), (0, .ref (ad 32)), (1, .ref (ad 8))]) hx hb dX3_measure_24 rfl hl (by decide) rfl (fun ls hl => ?_)
    refine lv_iload_n hx hb dX3_measure_25 rfl (lv_at hl 0 rfl) ?_
    refine lv_aload_n hx hb dX3_measure_26 rfl (lv_at hl 1 rfl) ?_
    refine va_get (D := D) (ci := 3) (v := .int (nI 0)) (C := RX3) (T := TX3) (N := 12) hx hb hts (inT inX3) hown hK hP 32 rfl rfl 11 (by decide) (hts (.fieldLink RX3 45 "BoardMoves$Wiring" "pins" "I") (by decide +kernel)) (fun _ h9 => h9) rfl dX3_measure_27 ?_
    refine bm_ni_ge (x := 0) (y := 0) (tgt := 103) hx hb (by decide) (by decide) dX3_measure_30 (by decide) (fun c_2 => ?_) (fun c_2 => ?_)
    · refine lv_lconst (v := 0) hx hb dX3_measure_103 (by decide) ?_
      refine lv_lstore_n (lv' := [(2, .long 0), (0, .ref (ad 32)), (1, .ref (ad 8))]) hx hb dX3_measure_104 rfl hl (by decide) rfl (fun ls hl => ?_)
      refine lv_iconst (v := nI 0) hx hb dX3_measure_105 (by decide) ?_
      refine lv_istore (lv' := [(4, .int (nI 0)), (2, .long 0), (0, .ref (ad 32)), (1, .ref (ad 8))]) hx hb dX3_measure_106 hl (by decide) rfl (fun ls hl => ?_)
      refine lv_iload hx hb dX3_measure_108 (lv_at hl 0 rfl) ?_
      refine lv_aload_n hx hb dX3_measure_110 rfl (lv_at hl 2 rfl) ?_
      refine va_get (D := D) (ci := 3) (v := .int (nI 0)) (C := RX3) (T := TX3) (N := 12) hx hb hts (inT inX3) hown hK hP 32 rfl rfl 10 (by decide) (hts (.fieldLink RX3 41 "BoardMoves$Wiring" "nets" "I") (by decide +kernel)) (fun _ h9 => h9) rfl dX3_measure_111 ?_
      refine bm_ni_ge (x := 0) (y := 0) (tgt := 167) hx hb (by decide) (by decide) dX3_measure_114 (by decide) (fun c_3 => ?_) (fun c_3 => ?_)
      · refine lv_lload_n hx hb dX3_measure_167 rfl (lv_at hl 1 rfl) ?_
        exact bm_lretR (v := 0) hx hb hr rfl dX3_measure_168 hlocks
      · exact absurd c_3 (by decide)
    · exact absurd c_2 (by decide)
  · exact absurd c_1 (by decide)

set_option maxHeartbeats 4000000 in
set_option maxRecDepth 100000 in
theorem k_full {l : Launch} {D : va_G} {ad : Nat → Nat} {cJ cI cZ : ClassId} {bm : gBM} {pa : gPA} {p0 p1 p2 : gPL} {li : gLI} {wi : gWI} {mt : Nat} {ms : gMS} {ma : gMA} {mp : gMP} {mk : gMK} {mn : gMN} {ou : Nat → Int64}  : bm_Rd l yX4_full wsX4_full ({ frames := 1, cells := 0, slots := 0, locals := 24 }) D vwCl [(cJ, .long), (cI, .int), (cZ, .boolean)] (WW ad cJ cI cZ (bm.1, bm.2.1, bm.2.2.1, 0) (pa.1, pa.2.1, pa.2.2.1, pa.2.2.2.1, pa.2.2.2.2.1, pa.2.2.2.2.2.1, 0) p0 p1 p2 (li.1, li.2.1, li.2.2.1, li.2.2.2.1, li.2.2.2.2.1, li.2.2.2.2.2.1, li.2.2.2.2.2.2.1, li.2.2.2.2.2.2.2.1, 0, 0) (wi.1, wi.2.1, wi.2.2.1, wi.2.2.2.1, wi.2.2.2.2.1, wi.2.2.2.2.2.1, wi.2.2.2.2.2.2.1, wi.2.2.2.2.2.2.2.1, wi.2.2.2.2.2.2.2.2.1, 0, 0) mt ms ma mp mk mn ou) [.ref (ad 0)] (.long 0) := by
  refine Met.ofW (cc := cX4_full) (maxL := 1) (ret := (some .long)) (by decide) rfl ?_
  intro p e s m args below meth c s₁ B hml hv
  obtain ⟨ha, hP, hK⟩ := hv
  have hx := B.exec
  have hb := B.bytes
  have hr := B.returns
  have hts := atoms_spec (ws := wsX4_full) B.pre
  have hown : s.vm.findClass RX4 = some m.cls := findClass_of_methodNamed B.named
  have hlocks := B.notSynchronized
  have hl := lv_entry ([.ref (ad 0)]) (n := 1) (Nat.le_of_ble_eq_true rfl)
  refine W.eq (g2 := entryFrame m ([.ref (ad 0)] : List Value).toArray 1) (by rw [ha]) ?_
  rw [lg_entry_eq]
  generalize (lg_sl ([.ref (ad 0)]) ++ List.replicate (1 - (lg_sl ([.ref (ad 0)])).length) Slot.unset).toArray = ls at hl ⊢
  have hl : lv_has ls 1 [(0, .ref (ad 0))] := hl
  refine lv_aload_n hx hb dX4_full_0 rfl (lv_at hl 0 rfl) ?_
  refine va_get (D := D) (ci := 4) (v := .ref (ad 32)) (C := RX4) (T := TX4) (N := 10) hx hb hts (inT inX4) hown hK hP 0 rfl rfl 4 (by decide) (hts (.fieldLink RX4 30 "BoardMoves" "wiring" "LBoardMoves$Wiring;") (by decide +kernel)) (fun _ h9 => h9) rfl dX4_full_1 ?_
  refine lv_aload_n hx hb dX4_full_4 rfl (lv_at hl 0 rfl) ?_
  refine va_get (D := D) (ci := 4) (v := .ref (ad 8)) (C := RX4) (T := TX4) (N := 10) hx hb hts (inT inX4) hown hK hP 0 rfl rfl 5 (by decide) (hts (.fieldLink RX4 37 "BoardMoves" "now" "LBoardMoves$Placement;") (by decide +kernel)) (fun _ h9 => h9) rfl dX4_full_5 ?_
  refine bm_rcallV (As := [.ref (ad 8)]) (rest := []) ⟨hx, hb, hml, hown, hts⟩ (k_meas) (cwV 1 hts (gdV (by decide +kernel) (by decide +kernel) (by decide +kernel) (by decide +kernel) (by decide +kernel)) rfl rfl rfl (by decide +kernel) ⟨Nat.le_of_ble_eq_true rfl, Nat.le_of_ble_eq_true rfl⟩) hK hP 32 3 rfl rfl rfl hl.1 rfl (Nat.le_of_ble_eq_true rfl) dX4_full_8 ⟨Nat.le_of_ble_eq_true rfl, Nat.le_of_ble_eq_true rfl⟩ ?_
  exact bm_lretR (v := 0) hx hb hr rfl dX4_full_11 hlocks
end
section
set_option maxHeartbeats 4000000 in
set_option maxRecDepth 100000 in
theorem m_thrown {l : Launch} {D : va_G} {ad : Nat → Nat} {cJ cI cZ : ClassId} {bm : gBM} {pa : gPA} {p0 p1 p2 : gPL} {li : gLI} {wi : gWI} {mt : Nat} {ms : gMS} {ma : gMA} {mp : gMP} {mk : gMK} {mn : gMN} {ou : Nat → Int64}  : bm_Rd l yX5_thrown wsX5_thrown ({ frames := 0, cells := 0, slots := 0, locals := 0 }) D vwCl [(cJ, .long), (cI, .int), (cZ, .boolean)] (WW ad cJ cI cZ bm pa p0 p1 p2 li wi mt ms ma mp mk mn ou) [.ref (ad 42)] (.int (nI mt)) := by
  refine Met.ofW (cc := cX5_thrown) (maxL := 1) (ret := (some .int)) (by decide) rfl ?_
  intro p e s m args below meth c s₁ B hml hv
  obtain ⟨ha, hP, hK⟩ := hv
  have hx := B.exec
  have hb := B.bytes
  have hr := B.returns
  have hts := atoms_spec (ws := wsX5_thrown) B.pre
  have hown : s.vm.findClass RX5 = some m.cls := findClass_of_methodNamed B.named
  have hlocks := B.notSynchronized
  have hl := lv_entry ([.ref (ad 42)]) (n := 1) (Nat.le_of_ble_eq_true rfl)
  refine W.eq (g2 := entryFrame m ([.ref (ad 42)] : List Value).toArray 1) (by rw [ha]) ?_
  rw [lg_entry_eq]
  generalize (lg_sl ([.ref (ad 42)]) ++ List.replicate (1 - (lg_sl ([.ref (ad 42)])).length) Slot.unset).toArray = ls at hl ⊢
  have hl : lv_has ls 1 [(0, .ref (ad 42))] := hl
  refine lv_aload_n hx hb dX5_thrown_0 rfl (lv_at hl 0 rfl) ?_
  refine va_get (D := D) (ci := 5) (v := .int (nI mt)) (C := RX5) (T := TX5) (N := 28) hx hb hts (inT inX5) hown hK hP 42 rfl rfl 0 (by decide) (hts (.fieldLink RX5 81 "BoardMovesModel" "thrown" "I") (by decide +kernel)) (fun _ h9 => h9) rfl dX5_thrown_1 ?_
  exact bm_iretR (v := (nI mt)) hx hb hr rfl dX5_thrown_4 hlocks

set_option maxHeartbeats 4000000 in
set_option maxRecDepth 100000 in
theorem m_size {l : Launch} {D : va_G} {ad : Nat → Nat} {cJ cI cZ : ClassId} {bm : gBM} {pa : gPA} {p0 p1 p2 : gPL} {li : gLI} {wi : gWI} {mt : Nat} {ms : gMS} {ma : gMA} {mp : gMP} {mk : gMK} {mn : gMN} {ou : Nat → Int64} {zA : Int64} : bm_Rd l yX5_isSize wsX5_isSize ({ frames := 0, cells := 0, slots := 0, locals := 0 }) D vwCl [(cJ, .long), (cI, .int), (cZ, .boolean)] (WW ad cJ cI cZ bm pa p0 p1 p2 li wi mt ms ma mp mk mn ou) [.long zA] (.int (bm_b (q_len zA))) := by
  refine Met.ofW (cc := cX5_isSize) (maxL := 2) (ret := (some .boolean)) (by decide) rfl ?_
  intro p e s m args below meth c s₁ B hml hv
  obtain ⟨ha, hP, hK⟩ := hv
  have hx := B.exec
  have hb := B.bytes
  have hr := B.returns
  have hts := atoms_spec (ws := wsX5_isSize) B.pre
  have hown : s.vm.findClass RX5 = some m.cls := findClass_of_methodNamed B.named
  have hlocks := B.notSynchronized
  have hl := lv_entry ([.long zA]) (n := 2) (Nat.le_of_ble_eq_true rfl)
  refine W.eq (g2 := entryFrame m ([.long zA] : List Value).toArray 2) (by rw [ha]) ?_
  rw [lg_entry_eq]
  generalize (lg_sl ([.long zA]) ++ List.replicate (2 - (lg_sl ([.long zA])).length) Slot.unset).toArray = ls at hl ⊢
  have hl : lv_has ls 2 [(0, .long zA)] := hl
  refine lv_lload_n hx hb dX5_isSize_0 rfl (lv_at hl 0 rfl) ?_
  refine lv_lconst (v := 1) hx hb dX5_isSize_1 (by decide) ?_
  refine bm_lc_lt (x := zA) (y := 1) (tgt := 18) hx hb dX5_isSize_2 dX5_isSize_3 (by decide) (fun c_1 => ?_) (fun c_1 => ?_)
  · refine lv_iconst (v := bm_b false) hx hb dX5_isSize_18 (by decide) ?_
    exact bm_zretR (v := false) hx hb hr (by simp [q_len, c_1]) dX5_isSize_19 hlocks
  · refine lv_lload_n hx hb dX5_isSize_6 rfl (lv_at hl 0 rfl) ?_
    refine lv_ldc2 (v := 65536) hx hb hown (hts (.constantLong RX5 69 65536) (by decide +kernel)) dX5_isSize_7 ?_
    refine bm_lc_gt (x := zA) (y := 65536) (tgt := 18) hx hb dX5_isSize_10 dX5_isSize_11 (by decide) (fun c_2 => ?_) (fun c_2 => ?_)
    · refine lv_iconst (v := bm_b false) hx hb dX5_isSize_18 (by decide) ?_
      exact bm_zretR (v := false) hx hb hr (by simp [q_len, c_1, c_2]) dX5_isSize_19 hlocks
    · refine lv_iconst (v := bm_b true) hx hb dX5_isSize_14 (by decide) ?_
      refine lv_goto (tgt := 19) hx hb dX5_isSize_15 (by decide) ?_
      exact bm_zretR (v := true) hx hb hr (by simp [q_len, c_1, c_2]) dX5_isSize_19 hlocks

set_option maxHeartbeats 4000000 in
set_option maxRecDepth 100000 in
theorem m_isPart {l : Launch} {D : va_G} {ad : Nat → Nat} {cJ cI cZ : ClassId} {bm : gBM} {pa : gPA} {p0 p1 p2 : gPL} {li : gLI} {wi : gWI} {mt : Nat} {ms : gMS} {ma : gMA} {mp : gMP} {mk : gMK} {mn : gMN} {ou : Nat → Int64} {zA : Int32} : bm_Rd l yX5_isPart wsX5_isPart ({ frames := 0, cells := 0, slots := 0, locals := 0 }) D vwCl [(cJ, .long), (cI, .int), (cZ, .boolean)] (WW ad cJ cI cZ bm pa p0 p1 p2 li wi mt (ms.1, ms.2.1, 0, 0, 0, 0, 0, ms.2.2.2.2.2.2.2) ma mp mk mn ou) [.ref (ad 42), .int zA] (.int (bm_b false)) := by
  refine Met.ofW (cc := cX5_isPart) (maxL := 2) (ret := (some .boolean)) (by decide) rfl ?_
  intro p e s m args below meth c s₁ B hml hv
  obtain ⟨ha, hP, hK⟩ := hv
  have hx := B.exec
  have hb := B.bytes
  have hr := B.returns
  have hts := atoms_spec (ws := wsX5_isPart) B.pre
  have hown : s.vm.findClass RX5 = some m.cls := findClass_of_methodNamed B.named
  have hlocks := B.notSynchronized
  have hl := lv_entry ([.ref (ad 42), .int zA]) (n := 2) (Nat.le_of_ble_eq_true rfl)
  refine W.eq (g2 := entryFrame m ([.ref (ad 42), .int zA] : List Value).toArray 2) (by rw [ha]) ?_
  rw [lg_entry_eq]
  generalize (lg_sl ([.ref (ad 42), .int zA]) ++ List.replicate (2 - (lg_sl ([.ref (ad 42), .int zA])).length) Slot.unset).toArray = ls at hl ⊢
  have hl : lv_has ls 2 [(0, .ref (ad 42)), (1, .int zA)] := hl
  refine lv_iload_n hx hb dX5_isPart_0 rfl (lv_at hl 1 rfl) ?_
  refine lv_if_lt (x := zA) (tgt := 16) hx hb dX5_isPart_1 (by decide) (fun c_1 => ?_) (fun c_1 => ?_)
  · refine lv_iconst (v := bm_b false) hx hb dX5_isPart_16 (by decide) ?_
    exact bm_zretR (v := false) hx hb hr rfl dX5_isPart_17 hlocks
  · refine lv_iload_n hx hb dX5_isPart_4 rfl (lv_at hl 1 rfl) ?_
    refine lv_aload_n hx hb dX5_isPart_5 rfl (lv_at hl 0 rfl) ?_
    refine va_get (D := D) (ci := 5) (v := .int (nI 0)) (C := RX5) (T := TX5) (N := 28) hx hb hts (inT inX5) hown hK hP 42 rfl rfl 3 (by decide) (hts (.fieldLink RX5 85 "BoardMovesModel" "parts" "I") (by decide +kernel)) (fun _ h9 => h9) rfl dX5_isPart_6 ?_
    refine lv_icmp_ge (x := zA) (y := (nI 0)) (tgt := 16) hx hb dX5_isPart_9 (by decide) (fun c_2 => ?_) (fun c_2 => ?_)
    · refine lv_iconst (v := bm_b false) hx hb dX5_isPart_16 (by decide) ?_
      exact bm_zretR (v := false) hx hb hr rfl dX5_isPart_17 hlocks
    · exact absurd (Int32.not_lt.mp c_1) (show ¬ (0 : Int32) ≤ zA from c_2)

set_option maxHeartbeats 4000000 in
set_option maxRecDepth 100000 in
theorem m_part {l : Launch} {D : va_G} {ad : Nat → Nat} {cJ cI cZ : ClassId} {bm : gBM} {pa : gPA} {p0 p1 p2 : gPL} {li : gLI} {wi : gWI} {mt : Nat} {ms : gMS} {ma : gMA} {mp : gMP} {mk : gMK} {mn : gMN} {ou : Nat → Int64} {zA zB : Int64} {zC : Nat} (h1 : q_len zA = true) (h2 : q_len zB = true) (h3 : zC < 2) : bm_Wr l yX5_part wsX5_part ({ frames := 1, cells := 0, slots := 0, locals := 21 }) D vwCl [(cJ, .long), (cI, .int), (cZ, .boolean)] (WW ad cJ cI cZ bm pa p0 p1 p2 li wi mt (ms.1, ms.2.1, 0, 0, 0, 0, 0, ms.2.2.2.2.2.2.2) ma mp mk mn ou) [.ref (ad 42), .long zA, .long zB, .int (nI zC)] (WW ad cJ cI cZ bm pa p0 p1 p2 li wi (0) (ms.1, ms.2.1, 0 + 1, 0, 0, 0, 0, ms.2.2.2.2.2.2.2) (va_up ma.1 0 zA, va_up ma.2.1 0 zB, va_up ma.2.2.1 0 zC, ma.2.2.2.1, ma.2.2.2.2.1, va_up ma.2.2.2.2.2.1 0 0, ma.2.2.2.2.2.2) mp mk mn ou) (some (.int (nI ((0 + 1) - 1)))) := by
  intro sz
  refine Met.ofW (cc := cX5_part) (maxL := 6) (ret := (some .int)) (by decide) rfl ?_
  intro p e s m args below meth c s₁ B hml hv
  obtain ⟨ha, hsz, hP, hK, hD0⟩ := hv
  have hx := B.exec
  have hb := B.bytes
  have hr := B.returns
  have hts := atoms_spec (ws := wsX5_part) B.pre
  have hown : s.vm.findClass RX5 = some m.cls := findClass_of_methodNamed B.named
  have hlocks := B.notSynchronized
  subst hsz
  have hD := hD0.self (sz := s.heap.size)
  generalize hAe : va_A (WW ad cJ cI cZ bm pa p0 p1 p2 li wi mt (ms.1, ms.2.1, 0, 0, 0, 0, 0, ms.2.2.2.2.2.2.2) ma mp mk mn ou) s.heap.size = A at hD ⊢
  have hA : ∀ q : Nat, s.heap.size ≤ q → A q := fun q h => by rw [← hAe]; exact Or.inr h
  have hS : va_S A s.heap s.heap [] := va_S.rf
  have hl := lv_entry ([.ref (ad 42), .long zA, .long zB, .int (nI zC)]) (n := 6) (Nat.le_of_ble_eq_true rfl)
  refine W.eq (g2 := entryFrame m ([.ref (ad 42), .long zA, .long zB, .int (nI zC)] : List Value).toArray 6) (by rw [ha]) ?_
  rw [lg_entry_eq]
  generalize (lg_sl ([.ref (ad 42), .long zA, .long zB, .int (nI zC)]) ++ List.replicate (6 - (lg_sl ([.ref (ad 42), .long zA, .long zB, .int (nI zC)])).length) Slot.unset).toArray = ls at hl ⊢
  have hl : lv_has ls 6 [(0, .ref (ad 42)), (1, .long zA), (3, .long zB), (5, .int (nI zC))] := hl
  refine lv_aload_n hx hb dX5_part_0 rfl (lv_at hl 0 rfl) ?_
  refine lv_lload_n hx hb dX5_part_1 rfl (lv_at hl 1 rfl) ?_
  refine bm_rcallS (As := [.long zA]) (rest := [.ref (ad 42)]) ⟨hx, hb, hml, hown, hts⟩ (m_size) (cwS 1 hts (gdS (by decide +kernel) (by decide +kernel) (by decide +kernel) (by decide +kernel)) rfl rfl rfl (by decide +kernel) ⟨Nat.le_of_ble_eq_true rfl, Nat.le_of_ble_eq_true rfl⟩) hK hP rfl hl.1 rfl (Nat.le_of_ble_eq_true rfl) dX5_part_2 ⟨Nat.le_of_ble_eq_true rfl, Nat.le_of_ble_eq_true rfl⟩ ?_
  refine bm_zb_eq (x := (q_len zA)) (tgt := 30) hx hb dX5_part_5 (by decide) (fun c_1 => ?_) (fun c_1 => ?_)
  · exact absurd (h1.symm.trans c_1) (by decide)
  · refine lv_lload_n hx hb dX5_part_8 rfl (lv_at hl 2 rfl) ?_
    refine bm_rcallS (As := [.long zB]) (rest := [.ref (ad 42)]) ⟨hx, hb, hml, hown, hts⟩ (m_size) (cwS 1 hts (gdS (by decide +kernel) (by decide +kernel) (by decide +kernel) (by decide +kernel)) rfl rfl rfl (by decide +kernel) ⟨Nat.le_of_ble_eq_true rfl, Nat.le_of_ble_eq_true rfl⟩) hK hP rfl hl.1 rfl (Nat.le_of_ble_eq_true rfl) dX5_part_9 ⟨Nat.le_of_ble_eq_true rfl, Nat.le_of_ble_eq_true rfl⟩ ?_
    refine bm_zb_eq (x := (q_len zB)) (tgt := 30) hx hb dX5_part_12 (by decide) (fun c_2 => ?_) (fun c_2 => ?_)
    · exact absurd (h2.symm.trans c_2) (by decide)
    · refine lv_iload hx hb dX5_part_15 (lv_at hl 3 rfl) ?_
      refine bm_nz_eq (x := zC) (tgt := 26) hx hb (by omega) dX5_part_17 (by decide) (fun c_3 => ?_) (fun c_3 => ?_)
      · refine lv_iconst (v := nI 0) hx hb dX5_part_26 (by decide) ?_
        refine lv_goto (tgt := 31) hx hb dX5_part_27 (by decide) ?_
        refine va_put (D := D) (ci := 5) (v := .int (nI 0)) (ty := .int) (C := RX5) (T := TX5) (N := 28) hx hb hts (inT inX5) tyX5 tyX5_ok nmX5 hown hK hP hD hS 42 rfl rfl 0 (by decide) (hts (.fieldLink RX5 81 "BoardMovesModel" "thrown" "I") (by decide +kernel)) (fun _ h9 => h9) rfl (by decide +kernel) rfl rfl (Nat.le_of_ble_eq_true rfl) dX5_part_31 (fun H locs hP hD hS => ?_)
        have hP : va_P D vwCl (WW ad cJ cI cZ bm pa p0 p1 p2 li wi (0) (ms.1, ms.2.1, 0, 0, 0, 0, 0, ms.2.2.2.2.2.2.2) ma mp mk mn ou) H := hP
        have hD : va_D A (WW ad cJ cI cZ bm pa p0 p1 p2 li wi (0) (ms.1, ms.2.1, 0, 0, 0, 0, 0, ms.2.2.2.2.2.2.2) ma mp mk mn ou) := hD
        refine lv_aload_n hx hb dX5_part_34 rfl (lv_at hl 0 rfl) ?_
        refine va_get (D := D) (ci := 5) (v := .int (nI 0)) (C := RX5) (T := TX5) (N := 28) hx hb hts (inT inX5) hown hK hP 42 rfl rfl 0 (by decide) (hts (.fieldLink RX5 81 "BoardMovesModel" "thrown" "I") (by decide +kernel)) (fun _ h9 => h9) rfl dX5_part_35 ?_
        refine bm_nz_eq (x := 0) (tgt := 43) hx hb (by decide) dX5_part_38 (by decide) (fun c_4 => ?_) (fun c_4 => ?_)
        · refine lv_aload_n hx hb dX5_part_43 rfl (lv_at hl 0 rfl) ?_
          refine va_get (D := D) (ci := 5) (v := .int (nI 0)) (C := RX5) (T := TX5) (N := 28) hx hb hts (inT inX5) hown hK hP 42 rfl rfl 3 (by decide) (hts (.fieldLink RX5 85 "BoardMovesModel" "parts" "I") (by decide +kernel)) (fun _ h9 => h9) rfl dX5_part_44 ?_
          refine lv_bipush (v := nI 40) hx hb dX5_part_47 (by decide) ?_
          refine bm_ni_ne (x := 0) (y := 40) (tgt := 54) hx hb (by decide) (by decide) dX5_part_49 (by decide) (fun c_5 => ?_) (fun c_5 => ?_)
          · refine lv_aload_n hx hb dX5_part_54 rfl (lv_at hl 0 rfl) ?_
            refine va_get (D := D) (ci := 5) (v := .ref (ad 43)) (C := RX5) (T := TX5) (N := 28) hx hb hts (inT inX5) hown hK hP 42 rfl rfl 4 (by decide) (hts (.fieldLink RX5 7 "BoardMovesModel" "wide" "[J") (by decide +kernel)) (fun _ h9 => h9) rfl dX5_part_55 ?_
            refine lv_aload_n hx hb dX5_part_58 rfl (lv_at hl 0 rfl) ?_
            refine va_get (D := D) (ci := 5) (v := .int (nI 0)) (C := RX5) (T := TX5) (N := 28) hx hb hts (inT inX5) hown hK hP 42 rfl rfl 3 (by decide) (hts (.fieldLink RX5 85 "BoardMovesModel" "parts" "I") (by decide +kernel)) (fun _ h9 => h9) rfl dX5_part_59 ?_
            refine lv_lload_n hx hb dX5_part_62 rfl (lv_at hl 1 rfl) ?_
            refine bm_last (f := ma.1) hx hb hK hP hD hS 43 0 rfl rfl (j := 0) (x := zA) (by omega) (by decide) dX5_part_63 (fun H locs hP hD hS => ?_)
            have hP : va_P D vwCl (WW ad cJ cI cZ bm pa p0 p1 p2 li wi (0) (ms.1, ms.2.1, 0, 0, 0, 0, 0, ms.2.2.2.2.2.2.2) (va_up ma.1 0 zA, ma.2.1, ma.2.2.1, ma.2.2.2.1, ma.2.2.2.2.1, ma.2.2.2.2.2.1, ma.2.2.2.2.2.2) mp mk mn ou) H := hP
            have hD : va_D A (WW ad cJ cI cZ bm pa p0 p1 p2 li wi (0) (ms.1, ms.2.1, 0, 0, 0, 0, 0, ms.2.2.2.2.2.2.2) (va_up ma.1 0 zA, ma.2.1, ma.2.2.1, ma.2.2.2.1, ma.2.2.2.2.1, ma.2.2.2.2.2.1, ma.2.2.2.2.2.2) mp mk mn ou) := hD
            refine lv_aload_n hx hb dX5_part_64 rfl (lv_at hl 0 rfl) ?_
            refine va_get (D := D) (ci := 5) (v := .ref (ad 44)) (C := RX5) (T := TX5) (N := 28) hx hb hts (inT inX5) hown hK hP 42 rfl rfl 5 (by decide) (hts (.fieldLink RX5 13 "BoardMovesModel" "high" "[J") (by decide +kernel)) (fun _ h9 => h9) rfl dX5_part_65 ?_
            refine lv_aload_n hx hb dX5_part_68 rfl (lv_at hl 0 rfl) ?_
            refine va_get (D := D) (ci := 5) (v := .int (nI 0)) (C := RX5) (T := TX5) (N := 28) hx hb hts (inT inX5) hown hK hP 42 rfl rfl 3 (by decide) (hts (.fieldLink RX5 85 "BoardMovesModel" "parts" "I") (by decide +kernel)) (fun _ h9 => h9) rfl dX5_part_69 ?_
            refine lv_lload_n hx hb dX5_part_72 rfl (lv_at hl 2 rfl) ?_
            refine bm_last (f := ma.2.1) hx hb hK hP hD hS 44 0 rfl rfl (j := 0) (x := zB) (by omega) (by decide) dX5_part_73 (fun H locs hP hD hS => ?_)
            have hP : va_P D vwCl (WW ad cJ cI cZ bm pa p0 p1 p2 li wi (0) (ms.1, ms.2.1, 0, 0, 0, 0, 0, ms.2.2.2.2.2.2.2) (va_up ma.1 0 zA, va_up ma.2.1 0 zB, ma.2.2.1, ma.2.2.2.1, ma.2.2.2.2.1, ma.2.2.2.2.2.1, ma.2.2.2.2.2.2) mp mk mn ou) H := hP
            have hD : va_D A (WW ad cJ cI cZ bm pa p0 p1 p2 li wi (0) (ms.1, ms.2.1, 0, 0, 0, 0, 0, ms.2.2.2.2.2.2.2) (va_up ma.1 0 zA, va_up ma.2.1 0 zB, ma.2.2.1, ma.2.2.2.1, ma.2.2.2.2.1, ma.2.2.2.2.2.1, ma.2.2.2.2.2.2) mp mk mn ou) := hD
            refine lv_aload_n hx hb dX5_part_74 rfl (lv_at hl 0 rfl) ?_
            refine va_get (D := D) (ci := 5) (v := .ref (ad 45)) (C := RX5) (T := TX5) (N := 28) hx hb hts (inT inX5) hown hK hP 42 rfl rfl 6 (by decide) (hts (.fieldLink RX5 16 "BoardMovesModel" "sides" "[I") (by decide +kernel)) (fun _ h9 => h9) rfl dX5_part_75 ?_
            refine lv_aload_n hx hb dX5_part_78 rfl (lv_at hl 0 rfl) ?_
            refine va_get (D := D) (ci := 5) (v := .int (nI 0)) (C := RX5) (T := TX5) (N := 28) hx hb hts (inT inX5) hown hK hP 42 rfl rfl 3 (by decide) (hts (.fieldLink RX5 85 "BoardMovesModel" "parts" "I") (by decide +kernel)) (fun _ h9 => h9) rfl dX5_part_79 ?_
            refine lv_iload hx hb dX5_part_82 (lv_at hl 3 rfl) ?_
            refine bm_nast (f := ma.2.2.1) hx hb hK hP hD hS 45 1 rfl rfl (j := 0) (x := zC) (by omega) (by decide) dX5_part_84 (fun H locs hP hD hS => ?_)
            have hP : va_P D vwCl (WW ad cJ cI cZ bm pa p0 p1 p2 li wi (0) (ms.1, ms.2.1, 0, 0, 0, 0, 0, ms.2.2.2.2.2.2.2) (va_up ma.1 0 zA, va_up ma.2.1 0 zB, va_up ma.2.2.1 0 zC, ma.2.2.2.1, ma.2.2.2.2.1, ma.2.2.2.2.2.1, ma.2.2.2.2.2.2) mp mk mn ou) H := hP
            have hD : va_D A (WW ad cJ cI cZ bm pa p0 p1 p2 li wi (0) (ms.1, ms.2.1, 0, 0, 0, 0, 0, ms.2.2.2.2.2.2.2) (va_up ma.1 0 zA, va_up ma.2.1 0 zB, va_up ma.2.2.1 0 zC, ma.2.2.2.1, ma.2.2.2.2.1, ma.2.2.2.2.2.1, ma.2.2.2.2.2.2) mp mk mn ou) := hD
            refine lv_aload_n hx hb dX5_part_85 rfl (lv_at hl 0 rfl) ?_
            refine va_get (D := D) (ci := 5) (v := .ref (ad 48)) (C := RX5) (T := TX5) (N := 28) hx hb hts (inT inX5) hown hK hP 42 rfl rfl 9 (by decide) (hts (.fieldLink RX5 27 "BoardMovesModel" "groups" "[I") (by decide +kernel)) (fun _ h9 => h9) rfl dX5_part_86 ?_
            refine lv_aload_n hx hb dX5_part_89 rfl (lv_at hl 0 rfl) ?_
            refine va_get (D := D) (ci := 5) (v := .int (nI 0)) (C := RX5) (T := TX5) (N := 28) hx hb hts (inT inX5) hown hK hP 42 rfl rfl 3 (by decide) (hts (.fieldLink RX5 85 "BoardMovesModel" "parts" "I") (by decide +kernel)) (fun _ h9 => h9) rfl dX5_part_90 ?_
            refine lv_aload_n hx hb dX5_part_93 rfl (lv_at hl 0 rfl) ?_
            refine va_get (D := D) (ci := 5) (v := .int (nI 0)) (C := RX5) (T := TX5) (N := 28) hx hb hts (inT inX5) hown hK hP 42 rfl rfl 3 (by decide) (hts (.fieldLink RX5 85 "BoardMovesModel" "parts" "I") (by decide +kernel)) (fun _ h9 => h9) rfl dX5_part_94 ?_
            refine bm_nast (f := ma.2.2.2.2.2.1) hx hb hK hP hD hS 48 1 rfl rfl (j := 0) (x := 0) (by omega) (by decide) dX5_part_97 (fun H locs hP hD hS => ?_)
            have hP : va_P D vwCl (WW ad cJ cI cZ bm pa p0 p1 p2 li wi (0) (ms.1, ms.2.1, 0, 0, 0, 0, 0, ms.2.2.2.2.2.2.2) (va_up ma.1 0 zA, va_up ma.2.1 0 zB, va_up ma.2.2.1 0 zC, ma.2.2.2.1, ma.2.2.2.2.1, va_up ma.2.2.2.2.2.1 0 0, ma.2.2.2.2.2.2) mp mk mn ou) H := hP
            have hD : va_D A (WW ad cJ cI cZ bm pa p0 p1 p2 li wi (0) (ms.1, ms.2.1, 0, 0, 0, 0, 0, ms.2.2.2.2.2.2.2) (va_up ma.1 0 zA, va_up ma.2.1 0 zB, va_up ma.2.2.1 0 zC, ma.2.2.2.1, ma.2.2.2.2.1, va_up ma.2.2.2.2.2.1 0 0, ma.2.2.2.2.2.2) mp mk mn ou) := hD
            refine lv_aload_n hx hb dX5_part_98 rfl (lv_at hl 0 rfl) ?_
            refine lv_dup hx hb dX5_part_99 rfl ?_
            refine va_get (D := D) (ci := 5) (v := .int (nI 0)) (C := RX5) (T := TX5) (N := 28) hx hb hts (inT inX5) hown hK hP 42 rfl rfl 3 (by decide) (hts (.fieldLink RX5 85 "BoardMovesModel" "parts" "I") (by decide +kernel)) (fun _ h9 => h9) rfl dX5_part_100 ?_
            refine lv_iconst (v := nI 1) hx hb dX5_part_103 (by decide) ?_
            refine bm_nadd hx hb dX5_part_104 ?_
            refine va_put (D := D) (ci := 5) (v := .int (nI (0 + 1))) (ty := .int) (C := RX5) (T := TX5) (N := 28) hx hb hts (inT inX5) tyX5 tyX5_ok nmX5 hown hK hP hD hS 42 rfl rfl 3 (by decide) (hts (.fieldLink RX5 85 "BoardMovesModel" "parts" "I") (by decide +kernel)) (fun _ h9 => h9) rfl (by decide +kernel) rfl rfl (Nat.le_of_ble_eq_true rfl) dX5_part_105 (fun H locs hP hD hS => ?_)
            have hP : va_P D vwCl (WW ad cJ cI cZ bm pa p0 p1 p2 li wi (0) (ms.1, ms.2.1, 0 + 1, 0, 0, 0, 0, ms.2.2.2.2.2.2.2) (va_up ma.1 0 zA, va_up ma.2.1 0 zB, va_up ma.2.2.1 0 zC, ma.2.2.2.1, ma.2.2.2.2.1, va_up ma.2.2.2.2.2.1 0 0, ma.2.2.2.2.2.2) mp mk mn ou) H := hP
            have hD : va_D A (WW ad cJ cI cZ bm pa p0 p1 p2 li wi (0) (ms.1, ms.2.1, 0 + 1, 0, 0, 0, 0, ms.2.2.2.2.2.2.2) (va_up ma.1 0 zA, va_up ma.2.1 0 zB, va_up ma.2.2.1 0 zC, ma.2.2.2.1, ma.2.2.2.2.1, va_up ma.2.2.2.2.2.1 0 0, ma.2.2.2.2.2.2) mp mk mn ou) := hD
            refine lv_aload_n hx hb dX5_part_108 rfl (lv_at hl 0 rfl) ?_
            refine va_get (D := D) (ci := 5) (v := .int (nI (0 + 1))) (C := RX5) (T := TX5) (N := 28) hx hb hts (inT inX5) hown hK hP 42 rfl rfl 3 (by decide) (hts (.fieldLink RX5 85 "BoardMovesModel" "parts" "I") (by decide +kernel)) (fun _ h9 => h9) rfl dX5_part_109 ?_
            refine lv_iconst (v := nI 1) hx hb dX5_part_112 (by decide) ?_
            refine bm_nsub hx hb (by omega) dX5_part_113 ?_
            exact bm_iretW (v := (nI ((0 + 1) - 1))) hx hb hr hP hD hK hS ⟨rfl, rfl⟩ dX5_part_114 hlocks
          · exact absurd c_5 (by decide)
        · exact absurd c_4 (by decide)
      · refine lv_iload hx hb dX5_part_20 (lv_at hl 3 rfl) ?_
        refine lv_iconst (v := nI 1) hx hb dX5_part_22 (by decide) ?_
        refine bm_ni_ne (x := zC) (y := 1) (tgt := 30) hx hb (by omega) (by omega) dX5_part_23 (by decide) (fun c_6 => ?_) (fun c_6 => ?_)
        · exact absurd (show zC = 1 by omega) c_6
        · refine lv_iconst (v := nI 0) hx hb dX5_part_26 (by decide) ?_
          refine lv_goto (tgt := 31) hx hb dX5_part_27 (by decide) ?_
          refine va_put (D := D) (ci := 5) (v := .int (nI 0)) (ty := .int) (C := RX5) (T := TX5) (N := 28) hx hb hts (inT inX5) tyX5 tyX5_ok nmX5 hown hK hP hD hS 42 rfl rfl 0 (by decide) (hts (.fieldLink RX5 81 "BoardMovesModel" "thrown" "I") (by decide +kernel)) (fun _ h9 => h9) rfl (by decide +kernel) rfl rfl (Nat.le_of_ble_eq_true rfl) dX5_part_31 (fun H locs hP hD hS => ?_)
          have hP : va_P D vwCl (WW ad cJ cI cZ bm pa p0 p1 p2 li wi (0) (ms.1, ms.2.1, 0, 0, 0, 0, 0, ms.2.2.2.2.2.2.2) ma mp mk mn ou) H := hP
          have hD : va_D A (WW ad cJ cI cZ bm pa p0 p1 p2 li wi (0) (ms.1, ms.2.1, 0, 0, 0, 0, 0, ms.2.2.2.2.2.2.2) ma mp mk mn ou) := hD
          refine lv_aload_n hx hb dX5_part_34 rfl (lv_at hl 0 rfl) ?_
          refine va_get (D := D) (ci := 5) (v := .int (nI 0)) (C := RX5) (T := TX5) (N := 28) hx hb hts (inT inX5) hown hK hP 42 rfl rfl 0 (by decide) (hts (.fieldLink RX5 81 "BoardMovesModel" "thrown" "I") (by decide +kernel)) (fun _ h9 => h9) rfl dX5_part_35 ?_
          refine bm_nz_eq (x := 0) (tgt := 43) hx hb (by decide) dX5_part_38 (by decide) (fun c_7 => ?_) (fun c_7 => ?_)
          · refine lv_aload_n hx hb dX5_part_43 rfl (lv_at hl 0 rfl) ?_
            refine va_get (D := D) (ci := 5) (v := .int (nI 0)) (C := RX5) (T := TX5) (N := 28) hx hb hts (inT inX5) hown hK hP 42 rfl rfl 3 (by decide) (hts (.fieldLink RX5 85 "BoardMovesModel" "parts" "I") (by decide +kernel)) (fun _ h9 => h9) rfl dX5_part_44 ?_
            refine lv_bipush (v := nI 40) hx hb dX5_part_47 (by decide) ?_
            refine bm_ni_ne (x := 0) (y := 40) (tgt := 54) hx hb (by decide) (by decide) dX5_part_49 (by decide) (fun c_8 => ?_) (fun c_8 => ?_)
            · refine lv_aload_n hx hb dX5_part_54 rfl (lv_at hl 0 rfl) ?_
              refine va_get (D := D) (ci := 5) (v := .ref (ad 43)) (C := RX5) (T := TX5) (N := 28) hx hb hts (inT inX5) hown hK hP 42 rfl rfl 4 (by decide) (hts (.fieldLink RX5 7 "BoardMovesModel" "wide" "[J") (by decide +kernel)) (fun _ h9 => h9) rfl dX5_part_55 ?_
              refine lv_aload_n hx hb dX5_part_58 rfl (lv_at hl 0 rfl) ?_
              refine va_get (D := D) (ci := 5) (v := .int (nI 0)) (C := RX5) (T := TX5) (N := 28) hx hb hts (inT inX5) hown hK hP 42 rfl rfl 3 (by decide) (hts (.fieldLink RX5 85 "BoardMovesModel" "parts" "I") (by decide +kernel)) (fun _ h9 => h9) rfl dX5_part_59 ?_
              refine lv_lload_n hx hb dX5_part_62 rfl (lv_at hl 1 rfl) ?_
              refine bm_last (f := ma.1) hx hb hK hP hD hS 43 0 rfl rfl (j := 0) (x := zA) (by omega) (by decide) dX5_part_63 (fun H locs hP hD hS => ?_)
              have hP : va_P D vwCl (WW ad cJ cI cZ bm pa p0 p1 p2 li wi (0) (ms.1, ms.2.1, 0, 0, 0, 0, 0, ms.2.2.2.2.2.2.2) (va_up ma.1 0 zA, ma.2.1, ma.2.2.1, ma.2.2.2.1, ma.2.2.2.2.1, ma.2.2.2.2.2.1, ma.2.2.2.2.2.2) mp mk mn ou) H := hP
              have hD : va_D A (WW ad cJ cI cZ bm pa p0 p1 p2 li wi (0) (ms.1, ms.2.1, 0, 0, 0, 0, 0, ms.2.2.2.2.2.2.2) (va_up ma.1 0 zA, ma.2.1, ma.2.2.1, ma.2.2.2.1, ma.2.2.2.2.1, ma.2.2.2.2.2.1, ma.2.2.2.2.2.2) mp mk mn ou) := hD
              refine lv_aload_n hx hb dX5_part_64 rfl (lv_at hl 0 rfl) ?_
              refine va_get (D := D) (ci := 5) (v := .ref (ad 44)) (C := RX5) (T := TX5) (N := 28) hx hb hts (inT inX5) hown hK hP 42 rfl rfl 5 (by decide) (hts (.fieldLink RX5 13 "BoardMovesModel" "high" "[J") (by decide +kernel)) (fun _ h9 => h9) rfl dX5_part_65 ?_
              refine lv_aload_n hx hb dX5_part_68 rfl (lv_at hl 0 rfl) ?_
              refine va_get (D := D) (ci := 5) (v := .int (nI 0)) (C := RX5) (T := TX5) (N := 28) hx hb hts (inT inX5) hown hK hP 42 rfl rfl 3 (by decide) (hts (.fieldLink RX5 85 "BoardMovesModel" "parts" "I") (by decide +kernel)) (fun _ h9 => h9) rfl dX5_part_69 ?_
              refine lv_lload_n hx hb dX5_part_72 rfl (lv_at hl 2 rfl) ?_
              refine bm_last (f := ma.2.1) hx hb hK hP hD hS 44 0 rfl rfl (j := 0) (x := zB) (by omega) (by decide) dX5_part_73 (fun H locs hP hD hS => ?_)
              have hP : va_P D vwCl (WW ad cJ cI cZ bm pa p0 p1 p2 li wi (0) (ms.1, ms.2.1, 0, 0, 0, 0, 0, ms.2.2.2.2.2.2.2) (va_up ma.1 0 zA, va_up ma.2.1 0 zB, ma.2.2.1, ma.2.2.2.1, ma.2.2.2.2.1, ma.2.2.2.2.2.1, ma.2.2.2.2.2.2) mp mk mn ou) H := hP
              have hD : va_D A (WW ad cJ cI cZ bm pa p0 p1 p2 li wi (0) (ms.1, ms.2.1, 0, 0, 0, 0, 0, ms.2.2.2.2.2.2.2) (va_up ma.1 0 zA, va_up ma.2.1 0 zB, ma.2.2.1, ma.2.2.2.1, ma.2.2.2.2.1, ma.2.2.2.2.2.1, ma.2.2.2.2.2.2) mp mk mn ou) := hD
              refine lv_aload_n hx hb dX5_part_74 rfl (lv_at hl 0 rfl) ?_
              refine va_get (D := D) (ci := 5) (v := .ref (ad 45)) (C := RX5) (T := TX5) (N := 28) hx hb hts (inT inX5) hown hK hP 42 rfl rfl 6 (by decide) (hts (.fieldLink RX5 16 "BoardMovesModel" "sides" "[I") (by decide +kernel)) (fun _ h9 => h9) rfl dX5_part_75 ?_
              refine lv_aload_n hx hb dX5_part_78 rfl (lv_at hl 0 rfl) ?_
              refine va_get (D := D) (ci := 5) (v := .int (nI 0)) (C := RX5) (T := TX5) (N := 28) hx hb hts (inT inX5) hown hK hP 42 rfl rfl 3 (by decide) (hts (.fieldLink RX5 85 "BoardMovesModel" "parts" "I") (by decide +kernel)) (fun _ h9 => h9) rfl dX5_part_79 ?_
              refine lv_iload hx hb dX5_part_82 (lv_at hl 3 rfl) ?_
              refine bm_nast (f := ma.2.2.1) hx hb hK hP hD hS 45 1 rfl rfl (j := 0) (x := zC) (by omega) (by decide) dX5_part_84 (fun H locs hP hD hS => ?_)
              have hP : va_P D vwCl (WW ad cJ cI cZ bm pa p0 p1 p2 li wi (0) (ms.1, ms.2.1, 0, 0, 0, 0, 0, ms.2.2.2.2.2.2.2) (va_up ma.1 0 zA, va_up ma.2.1 0 zB, va_up ma.2.2.1 0 zC, ma.2.2.2.1, ma.2.2.2.2.1, ma.2.2.2.2.2.1, ma.2.2.2.2.2.2) mp mk mn ou) H := hP
              have hD : va_D A (WW ad cJ cI cZ bm pa p0 p1 p2 li wi (0) (ms.1, ms.2.1, 0, 0, 0, 0, 0, ms.2.2.2.2.2.2.2) (va_up ma.1 0 zA, va_up ma.2.1 0 zB, va_up ma.2.2.1 0 zC, ma.2.2.2.1, ma.2.2.2.2.1, ma.2.2.2.2.2.1, ma.2.2.2.2.2.2) mp mk mn ou) := hD
              refine lv_aload_n hx hb dX5_part_85 rfl (lv_at hl 0 rfl) ?_
              refine va_get (D := D) (ci := 5) (v := .ref (ad 48)) (C := RX5) (T := TX5) (N := 28) hx hb hts (inT inX5) hown hK hP 42 rfl rfl 9 (by decide) (hts (.fieldLink RX5 27 "BoardMovesModel" "groups" "[I") (by decide +kernel)) (fun _ h9 => h9) rfl dX5_part_86 ?_
              refine lv_aload_n hx hb dX5_part_89 rfl (lv_at hl 0 rfl) ?_
              refine va_get (D := D) (ci := 5) (v := .int (nI 0)) (C := RX5) (T := TX5) (N := 28) hx hb hts (inT inX5) hown hK hP 42 rfl rfl 3 (by decide) (hts (.fieldLink RX5 85 "BoardMovesModel" "parts" "I") (by decide +kernel)) (fun _ h9 => h9) rfl dX5_part_90 ?_
              refine lv_aload_n hx hb dX5_part_93 rfl (lv_at hl 0 rfl) ?_
              refine va_get (D := D) (ci := 5) (v := .int (nI 0)) (C := RX5) (T := TX5) (N := 28) hx hb hts (inT inX5) hown hK hP 42 rfl rfl 3 (by decide) (hts (.fieldLink RX5 85 "BoardMovesModel" "parts" "I") (by decide +kernel)) (fun _ h9 => h9) rfl dX5_part_94 ?_
              refine bm_nast (f := ma.2.2.2.2.2.1) hx hb hK hP hD hS 48 1 rfl rfl (j := 0) (x := 0) (by omega) (by decide) dX5_part_97 (fun H locs hP hD hS => ?_)
              have hP : va_P D vwCl (WW ad cJ cI cZ bm pa p0 p1 p2 li wi (0) (ms.1, ms.2.1, 0, 0, 0, 0, 0, ms.2.2.2.2.2.2.2) (va_up ma.1 0 zA, va_up ma.2.1 0 zB, va_up ma.2.2.1 0 zC, ma.2.2.2.1, ma.2.2.2.2.1, va_up ma.2.2.2.2.2.1 0 0, ma.2.2.2.2.2.2) mp mk mn ou) H := hP
              have hD : va_D A (WW ad cJ cI cZ bm pa p0 p1 p2 li wi (0) (ms.1, ms.2.1, 0, 0, 0, 0, 0, ms.2.2.2.2.2.2.2) (va_up ma.1 0 zA, va_up ma.2.1 0 zB, va_up ma.2.2.1 0 zC, ma.2.2.2.1, ma.2.2.2.2.1, va_up ma.2.2.2.2.2.1 0 0, ma.2.2.2.2.2.2) mp mk mn ou) := hD
              refine lv_aload_n hx hb dX5_part_98 rfl (lv_at hl 0 rfl) ?_
              refine lv_dup hx hb dX5_part_99 rfl ?_
              refine va_get (D := D) (ci := 5) (v := .int (nI 0)) (C := RX5) (T := TX5) (N := 28) hx hb hts (inT inX5) hown hK hP 42 rfl rfl 3 (by decide) (hts (.fieldLink RX5 85 "BoardMovesModel" "parts" "I") (by decide +kernel)) (fun _ h9 => h9) rfl dX5_part_100 ?_
              refine lv_iconst (v := nI 1) hx hb dX5_part_103 (by decide) ?_
              refine bm_nadd hx hb dX5_part_104 ?_
              refine va_put (D := D) (ci := 5) (v := .int (nI (0 + 1))) (ty := .int) (C := RX5) (T := TX5) (N := 28) hx hb hts (inT inX5) tyX5 tyX5_ok nmX5 hown hK hP hD hS 42 rfl rfl 3 (by decide) (hts (.fieldLink RX5 85 "BoardMovesModel" "parts" "I") (by decide +kernel)) (fun _ h9 => h9) rfl (by decide +kernel) rfl rfl (Nat.le_of_ble_eq_true rfl) dX5_part_105 (fun H locs hP hD hS => ?_)
              have hP : va_P D vwCl (WW ad cJ cI cZ bm pa p0 p1 p2 li wi (0) (ms.1, ms.2.1, 0 + 1, 0, 0, 0, 0, ms.2.2.2.2.2.2.2) (va_up ma.1 0 zA, va_up ma.2.1 0 zB, va_up ma.2.2.1 0 zC, ma.2.2.2.1, ma.2.2.2.2.1, va_up ma.2.2.2.2.2.1 0 0, ma.2.2.2.2.2.2) mp mk mn ou) H := hP
              have hD : va_D A (WW ad cJ cI cZ bm pa p0 p1 p2 li wi (0) (ms.1, ms.2.1, 0 + 1, 0, 0, 0, 0, ms.2.2.2.2.2.2.2) (va_up ma.1 0 zA, va_up ma.2.1 0 zB, va_up ma.2.2.1 0 zC, ma.2.2.2.1, ma.2.2.2.2.1, va_up ma.2.2.2.2.2.1 0 0, ma.2.2.2.2.2.2) mp mk mn ou) := hD
              refine lv_aload_n hx hb dX5_part_108 rfl (lv_at hl 0 rfl) ?_
              refine va_get (D := D) (ci := 5) (v := .int (nI (0 + 1))) (C := RX5) (T := TX5) (N := 28) hx hb hts (inT inX5) hown hK hP 42 rfl rfl 3 (by decide) (hts (.fieldLink RX5 85 "BoardMovesModel" "parts" "I") (by decide +kernel)) (fun _ h9 => h9) rfl dX5_part_109 ?_
              refine lv_iconst (v := nI 1) hx hb dX5_part_112 (by decide) ?_
              refine bm_nsub hx hb (by omega) dX5_part_113 ?_
              exact bm_iretW (v := (nI ((0 + 1) - 1))) hx hb hr hP hD hK hS ⟨rfl, rfl⟩ dX5_part_114 hlocks
            · exact absurd c_8 (by decide)
          · exact absurd c_7 (by decide)

set_option maxHeartbeats 4000000 in
set_option maxRecDepth 100000 in
theorem m_partX {l : Launch} {D : va_G} {ad : Nat → Nat} {cJ cI cZ : ClassId} {bm : gBM} {pa : gPA} {p0 p1 p2 : gPL} {li : gLI} {wi : gWI} {mt : Nat} {ms : gMS} {ma : gMA} {mp : gMP} {mk : gMK} {mn : gMN} {ou : Nat → Int64} {zA zB : Int64} {zC : Int32} (hv : q_pv zA zB zC = false) : bm_Wr l yX5_part wsX5_part ({ frames := 1, cells := 0, slots := 0, locals := 21 }) D vwCl [(cJ, .long), (cI, .int), (cZ, .boolean)] (WW ad cJ cI cZ bm pa p0 p1 p2 li wi mt (ms.1, ms.2.1, 0, 0, 0, 0, 0, ms.2.2.2.2.2.2.2) ma mp mk mn ou) [.ref (ad 42), .long zA, .long zB, .int zC] (WW ad cJ cI cZ bm pa p0 p1 p2 li wi (1) (ms.1, ms.2.1, 0, 0, 0, 0, 0, ms.2.2.2.2.2.2.2) ma mp mk mn ou) (some (.int (nI 0))) := by
  intro sz
  refine Met.ofW (cc := cX5_part) (maxL := 6) (ret := (some .int)) (by decide) rfl ?_
  intro p e s m args below meth c s₁ B hml hv
  obtain ⟨ha, hsz, hP, hK, hD0⟩ := hv
  have hx := B.exec
  have hb := B.bytes
  have hr := B.returns
  have hts := atoms_spec (ws := wsX5_part) B.pre
  have hown : s.vm.findClass RX5 = some m.cls := findClass_of_methodNamed B.named
  have hlocks := B.notSynchronized
  subst hsz
  have hD := hD0.self (sz := s.heap.size)
  generalize hAe : va_A (WW ad cJ cI cZ bm pa p0 p1 p2 li wi mt (ms.1, ms.2.1, 0, 0, 0, 0, 0, ms.2.2.2.2.2.2.2) ma mp mk mn ou) s.heap.size = A at hD ⊢
  have hA : ∀ q : Nat, s.heap.size ≤ q → A q := fun q h => by rw [← hAe]; exact Or.inr h
  have hS : va_S A s.heap s.heap [] := va_S.rf
  have hl := lv_entry ([.ref (ad 42), .long zA, .long zB, .int zC]) (n := 6) (Nat.le_of_ble_eq_true rfl)
  refine W.eq (g2 := entryFrame m ([.ref (ad 42), .long zA, .long zB, .int zC] : List Value).toArray 6) (by rw [ha]) ?_
  rw [lg_entry_eq]
  generalize (lg_sl ([.ref (ad 42), .long zA, .long zB, .int zC]) ++ List.replicate (6 - (lg_sl ([.ref (ad 42), .long zA, .long zB, .int zC])).length) Slot.unset).toArray = ls at hl ⊢
  have hl : lv_has ls 6 [(0, .ref (ad 42)), (1, .long zA), (3, .long zB), (5, .int zC)] := hl
  refine lv_aload_n hx hb dX5_part_0 rfl (lv_at hl 0 rfl) ?_
  refine lv_lload_n hx hb dX5_part_1 rfl (lv_at hl 1 rfl) ?_
  refine bm_rcallS (As := [.long zA]) (rest := [.ref (ad 42)]) ⟨hx, hb, hml, hown, hts⟩ (m_size) (cwS 1 hts (gdS (by decide +kernel) (by decide +kernel) (by decide +kernel) (by decide +kernel)) rfl rfl rfl (by decide +kernel) ⟨Nat.le_of_ble_eq_true rfl, Nat.le_of_ble_eq_true rfl⟩) hK hP rfl hl.1 rfl (Nat.le_of_ble_eq_true rfl) dX5_part_2 ⟨Nat.le_of_ble_eq_true rfl, Nat.le_of_ble_eq_true rfl⟩ ?_
  refine bm_zb_eq (x := (q_len zA)) (tgt := 30) hx hb dX5_part_5 (by decide) (fun c_1 => ?_) (fun c_1 => ?_)
  · refine lv_iconst (v := nI 1) hx hb dX5_part_30 (by decide) ?_
    refine va_put (D := D) (ci := 5) (v := .int (nI 1)) (ty := .int) (C := RX5) (T := TX5) (N := 28) hx hb hts (inT inX5) tyX5 tyX5_ok nmX5 hown hK hP hD hS 42 rfl rfl 0 (by decide) (hts (.fieldLink RX5 81 "BoardMovesModel" "thrown" "I") (by decide +kernel)) (fun _ h9 => h9) rfl (by decide +kernel) rfl rfl (Nat.le_of_ble_eq_true rfl) dX5_part_31 (fun H locs hP hD hS => ?_)
    have hP : va_P D vwCl (WW ad cJ cI cZ bm pa p0 p1 p2 li wi (1) (ms.1, ms.2.1, 0, 0, 0, 0, 0, ms.2.2.2.2.2.2.2) ma mp mk mn ou) H := hP
    have hD : va_D A (WW ad cJ cI cZ bm pa p0 p1 p2 li wi (1) (ms.1, ms.2.1, 0, 0, 0, 0, 0, ms.2.2.2.2.2.2.2) ma mp mk mn ou) := hD
    refine lv_aload_n hx hb dX5_part_34 rfl (lv_at hl 0 rfl) ?_
    refine va_get (D := D) (ci := 5) (v := .int (nI 1)) (C := RX5) (T := TX5) (N := 28) hx hb hts (inT inX5) hown hK hP 42 rfl rfl 0 (by decide) (hts (.fieldLink RX5 81 "BoardMovesModel" "thrown" "I") (by decide +kernel)) (fun _ h9 => h9) rfl dX5_part_35 ?_
    refine bm_nz_eq (x := 1) (tgt := 43) hx hb (by decide) dX5_part_38 (by decide) (fun c_2 => ?_) (fun c_2 => ?_)
    · exact absurd c_2 (by decide)
    · refine lv_iconst (v := nI 0) hx hb dX5_part_41 (by decide) ?_
      exact bm_iretW (v := (nI 0)) hx hb hr hP hD hK hS ⟨rfl, rfl⟩ dX5_part_42 hlocks
  · refine lv_lload_n hx hb dX5_part_8 rfl (lv_at hl 2 rfl) ?_
    refine bm_rcallS (As := [.long zB]) (rest := [.ref (ad 42)]) ⟨hx, hb, hml, hown, hts⟩ (m_size) (cwS 1 hts (gdS (by decide +kernel) (by decide +kernel) (by decide +kernel) (by decide +kernel)) rfl rfl rfl (by decide +kernel) ⟨Nat.le_of_ble_eq_true rfl, Nat.le_of_ble_eq_true rfl⟩) hK hP rfl hl.1 rfl (Nat.le_of_ble_eq_true rfl) dX5_part_9 ⟨Nat.le_of_ble_eq_true rfl, Nat.le_of_ble_eq_true rfl⟩ ?_
    refine bm_zb_eq (x := (q_len zB)) (tgt := 30) hx hb dX5_part_12 (by decide) (fun c_3 => ?_) (fun c_3 => ?_)
    · refine lv_iconst (v := nI 1) hx hb dX5_part_30 (by decide) ?_
      refine va_put (D := D) (ci := 5) (v := .int (nI 1)) (ty := .int) (C := RX5) (T := TX5) (N := 28) hx hb hts (inT inX5) tyX5 tyX5_ok nmX5 hown hK hP hD hS 42 rfl rfl 0 (by decide) (hts (.fieldLink RX5 81 "BoardMovesModel" "thrown" "I") (by decide +kernel)) (fun _ h9 => h9) rfl (by decide +kernel) rfl rfl (Nat.le_of_ble_eq_true rfl) dX5_part_31 (fun H locs hP hD hS => ?_)
      have hP : va_P D vwCl (WW ad cJ cI cZ bm pa p0 p1 p2 li wi (1) (ms.1, ms.2.1, 0, 0, 0, 0, 0, ms.2.2.2.2.2.2.2) ma mp mk mn ou) H := hP
      have hD : va_D A (WW ad cJ cI cZ bm pa p0 p1 p2 li wi (1) (ms.1, ms.2.1, 0, 0, 0, 0, 0, ms.2.2.2.2.2.2.2) ma mp mk mn ou) := hD
      refine lv_aload_n hx hb dX5_part_34 rfl (lv_at hl 0 rfl) ?_
      refine va_get (D := D) (ci := 5) (v := .int (nI 1)) (C := RX5) (T := TX5) (N := 28) hx hb hts (inT inX5) hown hK hP 42 rfl rfl 0 (by decide) (hts (.fieldLink RX5 81 "BoardMovesModel" "thrown" "I") (by decide +kernel)) (fun _ h9 => h9) rfl dX5_part_35 ?_
      refine bm_nz_eq (x := 1) (tgt := 43) hx hb (by decide) dX5_part_38 (by decide) (fun c_4 => ?_) (fun c_4 => ?_)
      · exact absurd c_4 (by decide)
      · refine lv_iconst (v := nI 0) hx hb dX5_part_41 (by decide) ?_
        exact bm_iretW (v := (nI 0)) hx hb hr hP hD hK hS ⟨rfl, rfl⟩ dX5_part_42 hlocks
    · refine lv_iload hx hb dX5_part_15 (lv_at hl 3 rfl) ?_
      refine lv_if_eq (x := zC) (tgt := 26) hx hb dX5_part_17 (by decide) (fun c_5 => ?_) (fun c_5 => ?_)
      · exact absurd hv (by simp [q_pv, c_1, c_3, c_5])
      · refine lv_iload hx hb dX5_part_20 (lv_at hl 3 rfl) ?_
        refine lv_iconst (v := 1) hx hb dX5_part_22 (by decide) ?_
        refine lv_icmp_ne (x := zC) (y := 1) (tgt := 30) hx hb dX5_part_23 (by decide) (fun c_6 => ?_) (fun c_6 => ?_)
        · refine lv_iconst (v := nI 1) hx hb dX5_part_30 (by decide) ?_
          refine va_put (D := D) (ci := 5) (v := .int (nI 1)) (ty := .int) (C := RX5) (T := TX5) (N := 28) hx hb hts (inT inX5) tyX5 tyX5_ok nmX5 hown hK hP hD hS 42 rfl rfl 0 (by decide) (hts (.fieldLink RX5 81 "BoardMovesModel" "thrown" "I") (by decide +kernel)) (fun _ h9 => h9) rfl (by decide +kernel) rfl rfl (Nat.le_of_ble_eq_true rfl) dX5_part_31 (fun H locs hP hD hS => ?_)
          have hP : va_P D vwCl (WW ad cJ cI cZ bm pa p0 p1 p2 li wi (1) (ms.1, ms.2.1, 0, 0, 0, 0, 0, ms.2.2.2.2.2.2.2) ma mp mk mn ou) H := hP
          have hD : va_D A (WW ad cJ cI cZ bm pa p0 p1 p2 li wi (1) (ms.1, ms.2.1, 0, 0, 0, 0, 0, ms.2.2.2.2.2.2.2) ma mp mk mn ou) := hD
          refine lv_aload_n hx hb dX5_part_34 rfl (lv_at hl 0 rfl) ?_
          refine va_get (D := D) (ci := 5) (v := .int (nI 1)) (C := RX5) (T := TX5) (N := 28) hx hb hts (inT inX5) hown hK hP 42 rfl rfl 0 (by decide) (hts (.fieldLink RX5 81 "BoardMovesModel" "thrown" "I") (by decide +kernel)) (fun _ h9 => h9) rfl dX5_part_35 ?_
          refine bm_nz_eq (x := 1) (tgt := 43) hx hb (by decide) dX5_part_38 (by decide) (fun c_7 => ?_) (fun c_7 => ?_)
          · exact absurd c_7 (by decide)
          · refine lv_iconst (v := nI 0) hx hb dX5_part_41 (by decide) ?_
            exact bm_iretW (v := (nI 0)) hx hb hr hP hD hK hS ⟨rfl, rfl⟩ dX5_part_42 hlocks
        · exact absurd hv (by simp [q_pv, c_1, c_3, c_5, c_6])
end
section
set_option maxHeartbeats 4000000 in
set_option maxRecDepth 100000 in
theorem m_put {l : Launch} {D : va_G} {ad : Nat → Nat} {cJ cI cZ : ClassId} {bm : gBM} {pa : gPA} {p0 p1 p2 : gPL} {li : gLI} {wi : gWI} {mt : Nat} {ms : gMS} {ma : gMA} {mp : gMP} {mk : gMK} {mn : gMN} {ou : Nat → Int64} {zA zD : Int32} {zB zC : Int64} : bm_Wr l yX5_put wsX5_put ({ frames := 1, cells := 0, slots := 0, locals := 21 }) D vwCl [(cJ, .long), (cI, .int), (cZ, .boolean)] (WW ad cJ cI cZ bm pa p0 p1 p2 li wi mt (ms.1, ms.2.1, 0, 0, 0, 0, 0, ms.2.2.2.2.2.2.2) ma mp mk mn ou) [.ref (ad 42), .int zA, .long zB, .long zC, .int zD] (WW ad cJ cI cZ bm pa p0 p1 p2 li wi (1) (ms.1, ms.2.1, 0, 0, 0, 0, 0, ms.2.2.2.2.2.2.2) ma mp mk mn ou) (some (.int (bm_b false))) := by
  intro sz
  refine Met.ofW (cc := cX5_put) (maxL := 8) (ret := (some .boolean)) (by decide) rfl ?_
  intro p e s m args below meth c s₁ B hml hv
  obtain ⟨ha, hsz, hP, hK, hD0⟩ := hv
  have hx := B.exec
  have hb := B.bytes
  have hr := B.returns
  have hts := atoms_spec (ws := wsX5_put) B.pre
  have hown : s.vm.findClass RX5 = some m.cls := findClass_of_methodNamed B.named
  have hlocks := B.notSynchronized
  subst hsz
  have hD := hD0.self (sz := s.heap.size)
  generalize hAe : va_A (WW ad cJ cI cZ bm pa p0 p1 p2 li wi mt (ms.1, ms.2.1, 0, 0, 0, 0, 0, ms.2.2.2.2.2.2.2) ma mp mk mn ou) s.heap.size = A at hD ⊢
  have hA : ∀ q : Nat, s.heap.size ≤ q → A q := fun q h => by rw [← hAe]; exact Or.inr h
  have hS : va_S A s.heap s.heap [] := va_S.rf
  have hl := lv_entry ([.ref (ad 42), .int zA, .long zB, .long zC, .int zD]) (n := 8) (Nat.le_of_ble_eq_true rfl)
  refine W.eq (g2 := entryFrame m ([.ref (ad 42), .int zA, .long zB, .long zC, .int zD] : List Value).toArray 8) (by rw [ha]) ?_
  rw [lg_entry_eq]
  generalize (lg_sl ([.ref (ad 42), .int zA, .long zB, .long zC, .int zD]) ++ List.replicate (8 - (lg_sl ([.ref (ad 42), .int zA, .long zB, .long zC, .int zD])).length) Slot.unset).toArray = ls at hl ⊢
  have hl : lv_has ls 8 [(0, .ref (ad 42)), (1, .int zA), (2, .long zB), (4, .long zC), (6, .int zD)] := hl
  refine lv_aload_n hx hb dX5_put_0 rfl (lv_at hl 0 rfl) ?_
  refine lv_aload_n hx hb dX5_put_1 rfl (lv_at hl 0 rfl) ?_
  refine lv_iload_n hx hb dX5_put_2 rfl (lv_at hl 1 rfl) ?_
  refine bm_rcallV (As := [.int zA]) (rest := [.ref (ad 42)]) ⟨hx, hb, hml, hown, hts⟩ (m_isPart) (cwV 1 hts (gdV (by decide +kernel) (by decide +kernel) (by decide +kernel) (by decide +kernel) (by decide +kernel)) rfl rfl rfl (by decide +kernel) ⟨Nat.le_of_ble_eq_true rfl, Nat.le_of_ble_eq_true rfl⟩) hK hP 42 5 rfl rfl rfl hl.1 rfl (Nat.le_of_ble_eq_true rfl) dX5_put_3 ⟨Nat.le_of_ble_eq_true rfl, Nat.le_of_ble_eq_true rfl⟩ ?_
  refine bm_zb_ne (x := false) (tgt := 13) hx hb dX5_put_6 (by decide) (fun c_1 => ?_) (fun c_1 => ?_)
  · exact absurd c_1 (by decide)
  · refine lv_iconst (v := nI 1) hx hb dX5_put_9 (by decide) ?_
    refine lv_goto (tgt := 29) hx hb dX5_put_10 (by decide) ?_
    refine va_put (D := D) (ci := 5) (v := .int (nI 1)) (ty := .int) (C := RX5) (T := TX5) (N := 28) hx hb hts (inT inX5) tyX5 tyX5_ok nmX5 hown hK hP hD hS 42 rfl rfl 0 (by decide) (hts (.fieldLink RX5 81 "BoardMovesModel" "thrown" "I") (by decide +kernel)) (fun _ h9 => h9) rfl (by decide +kernel) rfl rfl (Nat.le_of_ble_eq_true rfl) dX5_put_29 (fun H locs hP hD hS => ?_)
    have hP : va_P D vwCl (WW ad cJ cI cZ bm pa p0 p1 p2 li wi (1) (ms.1, ms.2.1, 0, 0, 0, 0, 0, ms.2.2.2.2.2.2.2) ma mp mk mn ou) H := hP
    have hD : va_D A (WW ad cJ cI cZ bm pa p0 p1 p2 li wi (1) (ms.1, ms.2.1, 0, 0, 0, 0, 0, ms.2.2.2.2.2.2.2) ma mp mk mn ou) := hD
    refine lv_aload_n hx hb dX5_put_32 rfl (lv_at hl 0 rfl) ?_
    refine va_get (D := D) (ci := 5) (v := .int (nI 1)) (C := RX5) (T := TX5) (N := 28) hx hb hts (inT inX5) hown hK hP 42 rfl rfl 0 (by decide) (hts (.fieldLink RX5 81 "BoardMovesModel" "thrown" "I") (by decide +kernel)) (fun _ h9 => h9) rfl dX5_put_33 ?_
    refine bm_nz_eq (x := 1) (tgt := 41) hx hb (by decide) dX5_put_36 (by decide) (fun c_2 => ?_) (fun c_2 => ?_)
    · exact absurd c_2 (by decide)
    · refine lv_iconst (v := bm_b false) hx hb dX5_put_39 (by decide) ?_
      exact bm_zretW (v := false) hx hb hr hP hD hK hS ⟨rfl, rfl⟩ dX5_put_40 hlocks

set_option maxHeartbeats 4000000 in
set_option maxRecDepth 100000 in
theorem m_lock {l : Launch} {D : va_G} {ad : Nat → Nat} {cJ cI cZ : ClassId} {bm : gBM} {pa : gPA} {p0 p1 p2 : gPL} {li : gLI} {wi : gWI} {mt : Nat} {ms : gMS} {ma : gMA} {mp : gMP} {mk : gMK} {mn : gMN} {ou : Nat → Int64} {zA zB : Int32} : bm_Wr l yX5_lock wsX5_lock ({ frames := 1, cells := 0, slots := 0, locals := 21 }) D vwCl [(cJ, .long), (cI, .int), (cZ, .boolean)] (WW ad cJ cI cZ bm pa p0 p1 p2 li wi mt (ms.1, ms.2.1, 0, 0, 0, 0, 0, ms.2.2.2.2.2.2.2) ma mp mk mn ou) [.ref (ad 42), .int zA, .int zB] (WW ad cJ cI cZ bm pa p0 p1 p2 li wi (1) (ms.1, ms.2.1, 0, 0, 0, 0, 0, ms.2.2.2.2.2.2.2) ma mp mk mn ou) (some (.int (bm_b false))) := by
  intro sz
  refine Met.ofW (cc := cX5_lock) (maxL := 4) (ret := (some .boolean)) (by decide) rfl ?_
  intro p e s m args below meth c s₁ B hml hv
  obtain ⟨ha, hsz, hP, hK, hD0⟩ := hv
  have hx := B.exec
  have hb := B.bytes
  have hr := B.returns
  have hts := atoms_spec (ws := wsX5_lock) B.pre
  have hown : s.vm.findClass RX5 = some m.cls := findClass_of_methodNamed B.named
  have hlocks := B.notSynchronized
  subst hsz
  have hD := hD0.self (sz := s.heap.size)
  generalize hAe : va_A (WW ad cJ cI cZ bm pa p0 p1 p2 li wi mt (ms.1, ms.2.1, 0, 0, 0, 0, 0, ms.2.2.2.2.2.2.2) ma mp mk mn ou) s.heap.size = A at hD ⊢
  have hA : ∀ q : Nat, s.heap.size ≤ q → A q := fun q h => by rw [← hAe]; exact Or.inr h
  have hS : va_S A s.heap s.heap [] := va_S.rf
  have hl := lv_entry ([.ref (ad 42), .int zA, .int zB]) (n := 4) (Nat.le_of_ble_eq_true rfl)
  refine W.eq (g2 := entryFrame m ([.ref (ad 42), .int zA, .int zB] : List Value).toArray 4) (by rw [ha]) ?_
  rw [lg_entry_eq]
  generalize (lg_sl ([.ref (ad 42), .int zA, .int zB]) ++ List.replicate (4 - (lg_sl ([.ref (ad 42), .int zA, .int zB])).length) Slot.unset).toArray = ls at hl ⊢
  have hl : lv_has ls 4 [(0, .ref (ad 42)), (1, .int zA), (2, .int zB)] := hl
  refine lv_aload_n hx hb dX5_lock_0 rfl (lv_at hl 0 rfl) ?_
  refine lv_aload_n hx hb dX5_lock_1 rfl (lv_at hl 0 rfl) ?_
  refine lv_iload_n hx hb dX5_lock_2 rfl (lv_at hl 1 rfl) ?_
  refine bm_rcallV (As := [.int zA]) (rest := [.ref (ad 42)]) ⟨hx, hb, hml, hown, hts⟩ (m_isPart) (cwV 1 hts (gdV (by decide +kernel) (by decide +kernel) (by decide +kernel) (by decide +kernel) (by decide +kernel)) rfl rfl rfl (by decide +kernel) ⟨Nat.le_of_ble_eq_true rfl, Nat.le_of_ble_eq_true rfl⟩) hK hP 42 5 rfl rfl rfl hl.1 rfl (Nat.le_of_ble_eq_true rfl) dX5_lock_3 ⟨Nat.le_of_ble_eq_true rfl, Nat.le_of_ble_eq_true rfl⟩ ?_
  refine bm_zb_eq (x := false) (tgt := 13) hx hb dX5_lock_6 (by decide) (fun c_1 => ?_) (fun c_1 => ?_)
  · refine lv_iconst (v := nI 1) hx hb dX5_lock_13 (by decide) ?_
    refine va_put (D := D) (ci := 5) (v := .int (nI 1)) (ty := .int) (C := RX5) (T := TX5) (N := 28) hx hb hts (inT inX5) tyX5 tyX5_ok nmX5 hown hK hP hD hS 42 rfl rfl 0 (by decide) (hts (.fieldLink RX5 81 "BoardMovesModel" "thrown" "I") (by decide +kernel)) (fun _ h9 => h9) rfl (by decide +kernel) rfl rfl (Nat.le_of_ble_eq_true rfl) dX5_lock_14 (fun H locs hP hD hS => ?_)
    have hP : va_P D vwCl (WW ad cJ cI cZ bm pa p0 p1 p2 li wi (1) (ms.1, ms.2.1, 0, 0, 0, 0, 0, ms.2.2.2.2.2.2.2) ma mp mk mn ou) H := hP
    have hD : va_D A (WW ad cJ cI cZ bm pa p0 p1 p2 li wi (1) (ms.1, ms.2.1, 0, 0, 0, 0, 0, ms.2.2.2.2.2.2.2) ma mp mk mn ou) := hD
    refine lv_aload_n hx hb dX5_lock_17 rfl (lv_at hl 0 rfl) ?_
    refine va_get (D := D) (ci := 5) (v := .int (nI 1)) (C := RX5) (T := TX5) (N := 28) hx hb hts (inT inX5) hown hK hP 42 rfl rfl 0 (by decide) (hts (.fieldLink RX5 81 "BoardMovesModel" "thrown" "I") (by decide +kernel)) (fun _ h9 => h9) rfl dX5_lock_18 ?_
    refine bm_nz_eq (x := 1) (tgt := 26) hx hb (by decide) dX5_lock_21 (by decide) (fun c_2 => ?_) (fun c_2 => ?_)
    · exact absurd c_2 (by decide)
    · refine lv_iconst (v := bm_b false) hx hb dX5_lock_24 (by decide) ?_
      exact bm_zretW (v := false) hx hb hr hP hD hK hS ⟨rfl, rfl⟩ dX5_lock_25 hlocks
  · exact absurd c_1 (by decide)

set_option maxHeartbeats 4000000 in
set_option maxRecDepth 100000 in
theorem m_push {l : Launch} {D : va_G} {ad : Nat → Nat} {cJ cI cZ : ClassId} {bm : gBM} {pa : gPA} {p0 p1 p2 : gPL} {li : gLI} {wi : gWI} {mt : Nat} {ms : gMS} {ma : gMA} {mp : gMP} {mk : gMK} {mn : gMN} {ou : Nat → Int64} {zA : Int32} {zB zC : Int64} : bm_Wr l yX5_push wsX5_push ({ frames := 1, cells := 0, slots := 0, locals := 21 }) D vwCl [(cJ, .long), (cI, .int), (cZ, .boolean)] (WW ad cJ cI cZ bm pa p0 p1 p2 li wi mt (ms.1, ms.2.1, 0, 0, 0, 0, 0, ms.2.2.2.2.2.2.2) ma mp mk mn ou) [.ref (ad 42), .int zA, .long zB, .long zC] (WW ad cJ cI cZ bm pa p0 p1 p2 li wi (1) (ms.1, ms.2.1, 0, 0, 0, 0, 0, ms.2.2.2.2.2.2.2) ma mp mk mn ou) (some (.int (nI 0))) := by
  intro sz
  refine Met.ofW (cc := cX5_push) (maxL := 13) (ret := (some .int)) (by decide) rfl ?_
  intro p e s m args below meth c s₁ B hml hv
  obtain ⟨ha, hsz, hP, hK, hD0⟩ := hv
  have hx := B.exec
  have hb := B.bytes
  have hr := B.returns
  have hts := atoms_spec (ws := wsX5_push) B.pre
  have hown : s.vm.findClass RX5 = some m.cls := findClass_of_methodNamed B.named
  have hlocks := B.notSynchronized
  subst hsz
  have hD := hD0.self (sz := s.heap.size)
  generalize hAe : va_A (WW ad cJ cI cZ bm pa p0 p1 p2 li wi mt (ms.1, ms.2.1, 0, 0, 0, 0, 0, ms.2.2.2.2.2.2.2) ma mp mk mn ou) s.heap.size = A at hD ⊢
  have hA : ∀ q : Nat, s.heap.size ≤ q → A q := fun q h => by rw [← hAe]; exact Or.inr h
  have hS : va_S A s.heap s.heap [] := va_S.rf
  have hl := lv_entry ([.ref (ad 42), .int zA, .long zB, .long zC]) (n := 13) (Nat.le_of_ble_eq_true rfl)
  refine W.eq (g2 := entryFrame m ([.ref (ad 42), .int zA, .long zB, .long zC] : List Value).toArray 13) (by rw [ha]) ?_
  rw [lg_entry_eq]
  generalize (lg_sl ([.ref (ad 42), .int zA, .long zB, .long zC]) ++ List.replicate (13 - (lg_sl ([.ref (ad 42), .int zA, .long zB, .long zC])).length) Slot.unset).toArray = ls at hl ⊢
  have hl : lv_has ls 13 [(0, .ref (ad 42)), (1, .int zA), (2, .long zB), (4, .long zC)] := hl
  refine lv_aload_n hx hb dX5_push_0 rfl (lv_at hl 0 rfl) ?_
  refine lv_aload_n hx hb dX5_push_1 rfl (lv_at hl 0 rfl) ?_
  refine lv_iload_n hx hb dX5_push_2 rfl (lv_at hl 1 rfl) ?_
  refine bm_rcallV (As := [.int zA]) (rest := [.ref (ad 42)]) ⟨hx, hb, hml, hown, hts⟩ (m_isPart) (cwV 1 hts (gdV (by decide +kernel) (by decide +kernel) (by decide +kernel) (by decide +kernel) (by decide +kernel)) rfl rfl rfl (by decide +kernel) ⟨Nat.le_of_ble_eq_true rfl, Nat.le_of_ble_eq_true rfl⟩) hK hP 42 5 rfl rfl rfl hl.1 rfl (Nat.le_of_ble_eq_true rfl) dX5_push_3 ⟨Nat.le_of_ble_eq_true rfl, Nat.le_of_ble_eq_true rfl⟩ ?_
  refine bm_zb_ne (x := false) (tgt := 13) hx hb dX5_push_6 (by decide) (fun c_1 => ?_) (fun c_1 => ?_)
  · exact absurd c_1 (by decide)
  · refine lv_iconst (v := nI 1) hx hb dX5_push_9 (by decide) ?_
    refine lv_goto (tgt := 27) hx hb dX5_push_10 (by decide) ?_
    refine va_put (D := D) (ci := 5) (v := .int (nI 1)) (ty := .int) (C := RX5) (T := TX5) (N := 28) hx hb hts (inT inX5) tyX5 tyX5_ok nmX5 hown hK hP hD hS 42 rfl rfl 0 (by decide) (hts (.fieldLink RX5 81 "BoardMovesModel" "thrown" "I") (by decide +kernel)) (fun _ h9 => h9) rfl (by decide +kernel) rfl rfl (Nat.le_of_ble_eq_true rfl) dX5_push_27 (fun H locs hP hD hS => ?_)
    have hP : va_P D vwCl (WW ad cJ cI cZ bm pa p0 p1 p2 li wi (1) (ms.1, ms.2.1, 0, 0, 0, 0, 0, ms.2.2.2.2.2.2.2) ma mp mk mn ou) H := hP
    have hD : va_D A (WW ad cJ cI cZ bm pa p0 p1 p2 li wi (1) (ms.1, ms.2.1, 0, 0, 0, 0, 0, ms.2.2.2.2.2.2.2) ma mp mk mn ou) := hD
    refine lv_aload_n hx hb dX5_push_30 rfl (lv_at hl 0 rfl) ?_
    refine va_get (D := D) (ci := 5) (v := .int (nI 1)) (C := RX5) (T := TX5) (N := 28) hx hb hts (inT inX5) hown hK hP 42 rfl rfl 0 (by decide) (hts (.fieldLink RX5 81 "BoardMovesModel" "thrown" "I") (by decide +kernel)) (fun _ h9 => h9) rfl dX5_push_31 ?_
    refine bm_nz_eq (x := 1) (tgt := 39) hx hb (by decide) dX5_push_34 (by decide) (fun c_2 => ?_) (fun c_2 => ?_)
    · exact absurd c_2 (by decide)
    · refine lv_iconst (v := nI 0) hx hb dX5_push_37 (by decide) ?_
      exact bm_iretW (v := (nI 0)) hx hb hr hP hD hK hS ⟨rfl, rfl⟩ dX5_push_38 hlocks

set_option maxHeartbeats 4000000 in
set_option maxRecDepth 100000 in
theorem m_at {l : Launch} {D : va_G} {ad : Nat → Nat} {cJ cI cZ : ClassId} {bm : gBM} {pa : gPA} {p0 p1 p2 : gPL} {li : gLI} {wi : gWI} {mt : Nat} {ms : gMS} {ma : gMA} {mp : gMP} {mk : gMK} {mn : gMN} {ou : Nat → Int64} {zA zB : Int32} : bm_Wr l yX5_at wsX5_at ({ frames := 1, cells := 0, slots := 0, locals := 21 }) D vwCl [(cJ, .long), (cI, .int), (cZ, .boolean)] (WW ad cJ cI cZ bm pa p0 p1 p2 li wi mt (ms.1, ms.2.1, 0, 0, 0, 0, 0, ms.2.2.2.2.2.2.2) ma mp mk mn ou) [.ref (ad 42), .int zA, .int zB] (WW ad cJ cI cZ bm pa p0 p1 p2 li wi (1) (ms.1, ms.2.1, 0, 0, 0, 0, 0, ms.2.2.2.2.2.2.2) ma mp mk mn ou) (some (.long 0)) := by
  intro sz
  refine Met.ofW (cc := cX5_at) (maxL := 3) (ret := (some .long)) (by decide) rfl ?_
  intro p e s m args below meth c s₁ B hml hv
  obtain ⟨ha, hsz, hP, hK, hD0⟩ := hv
  have hx := B.exec
  have hb := B.bytes
  have hr := B.returns
  have hts := atoms_spec (ws := wsX5_at) B.pre
  have hown : s.vm.findClass RX5 = some m.cls := findClass_of_methodNamed B.named
  have hlocks := B.notSynchronized
  subst hsz
  have hD := hD0.self (sz := s.heap.size)
  generalize hAe : va_A (WW ad cJ cI cZ bm pa p0 p1 p2 li wi mt (ms.1, ms.2.1, 0, 0, 0, 0, 0, ms.2.2.2.2.2.2.2) ma mp mk mn ou) s.heap.size = A at hD ⊢
  have hA : ∀ q : Nat, s.heap.size ≤ q → A q := fun q h => by rw [← hAe]; exact Or.inr h
  have hS : va_S A s.heap s.heap [] := va_S.rf
  have hl := lv_entry ([.ref (ad 42), .int zA, .int zB]) (n := 3) (Nat.le_of_ble_eq_true rfl)
  refine W.eq (g2 := entryFrame m ([.ref (ad 42), .int zA, .int zB] : List Value).toArray 3) (by rw [ha]) ?_
  rw [lg_entry_eq]
  generalize (lg_sl ([.ref (ad 42), .int zA, .int zB]) ++ List.replicate (3 - (lg_sl ([.ref (ad 42), .int zA, .int zB])).length) Slot.unset).toArray = ls at hl ⊢
  have hl : lv_has ls 3 [(0, .ref (ad 42)), (1, .int zA), (2, .int zB)] := hl
  refine lv_aload_n hx hb dX5_at_0 rfl (lv_at hl 0 rfl) ?_
  refine lv_aload_n hx hb dX5_at_1 rfl (lv_at hl 0 rfl) ?_
  refine lv_iload_n hx hb dX5_at_2 rfl (lv_at hl 1 rfl) ?_
  refine bm_rcallV (As := [.int zA]) (rest := [.ref (ad 42)]) ⟨hx, hb, hml, hown, hts⟩ (m_isPart) (cwV 1 hts (gdV (by decide +kernel) (by decide +kernel) (by decide +kernel) (by decide +kernel) (by decide +kernel)) rfl rfl rfl (by decide +kernel) ⟨Nat.le_of_ble_eq_true rfl, Nat.le_of_ble_eq_true rfl⟩) hK hP 42 5 rfl rfl rfl hl.1 rfl (Nat.le_of_ble_eq_true rfl) dX5_at_3 ⟨Nat.le_of_ble_eq_true rfl, Nat.le_of_ble_eq_true rfl⟩ ?_
  refine bm_zb_eq (x := false) (tgt := 23) hx hb dX5_at_6 (by decide) (fun c_1 => ?_) (fun c_1 => ?_)
  · refine lv_iconst (v := nI 1) hx hb dX5_at_23 (by decide) ?_
    refine va_put (D := D) (ci := 5) (v := .int (nI 1)) (ty := .int) (C := RX5) (T := TX5) (N := 28) hx hb hts (inT inX5) tyX5 tyX5_ok nmX5 hown hK hP hD hS 42 rfl rfl 0 (by decide) (hts (.fieldLink RX5 81 "BoardMovesModel" "thrown" "I") (by decide +kernel)) (fun _ h9 => h9) rfl (by decide +kernel) rfl rfl (Nat.le_of_ble_eq_true rfl) dX5_at_24 (fun H locs hP hD hS => ?_)
    have hP : va_P D vwCl (WW ad cJ cI cZ bm pa p0 p1 p2 li wi (1) (ms.1, ms.2.1, 0, 0, 0, 0, 0, ms.2.2.2.2.2.2.2) ma mp mk mn ou) H := hP
    have hD : va_D A (WW ad cJ cI cZ bm pa p0 p1 p2 li wi (1) (ms.1, ms.2.1, 0, 0, 0, 0, 0, ms.2.2.2.2.2.2.2) ma mp mk mn ou) := hD
    refine lv_aload_n hx hb dX5_at_27 rfl (lv_at hl 0 rfl) ?_
    refine va_get (D := D) (ci := 5) (v := .int (nI 1)) (C := RX5) (T := TX5) (N := 28) hx hb hts (inT inX5) hown hK hP 42 rfl rfl 0 (by decide) (hts (.fieldLink RX5 81 "BoardMovesModel" "thrown" "I") (by decide +kernel)) (fun _ h9 => h9) rfl dX5_at_28 ?_
    refine bm_nz_eq (x := 1) (tgt := 36) hx hb (by decide) dX5_at_31 (by decide) (fun c_2 => ?_) (fun c_2 => ?_)
    · exact absurd c_2 (by decide)
    · refine lv_lconst (v := 0) hx hb dX5_at_34 (by decide) ?_
      exact bm_lretW (v := 0) hx hb hr hP hD hK hS ⟨rfl, rfl⟩ dX5_at_35 hlocks
  · exact absurd c_1 (by decide)

set_option maxHeartbeats 4000000 in
set_option maxRecDepth 100000 in
theorem m_near {l : Launch} {D : va_G} {ad : Nat → Nat} {cJ cI cZ : ClassId} {bm : gBM} {pa : gPA} {p0 p1 p2 : gPL} {li : gLI} {wi : gWI} {mt : Nat} {ms : gMS} {ma : gMA} {mp : gMP} {mk : gMK} {mn : gMN} {ou : Nat → Int64} {zA zB : Int32} {zC : Int64} : bm_Wr l yX5_near wsX5_near ({ frames := 1, cells := 0, slots := 0, locals := 21 }) D vwCl [(cJ, .long), (cI, .int), (cZ, .boolean)] (WW ad cJ cI cZ bm pa p0 p1 p2 li wi mt (ms.1, ms.2.1, 0, 0, 0, 0, 0, ms.2.2.2.2.2.2.2) ma mp mk mn ou) [.ref (ad 42), .int zA, .int zB, .long zC] (WW ad cJ cI cZ bm pa p0 p1 p2 li wi (1) (ms.1, ms.2.1, 0, 0, 0, 0, 0, ms.2.2.2.2.2.2.2) ma mp mk mn ou) (some (.int (bm_b false))) := by
  intro sz
  refine Met.ofW (cc := cX5_near) (maxL := 5) (ret := (some .boolean)) (by decide) rfl ?_
  intro p e s m args below meth c s₁ B hml hv
  obtain ⟨ha, hsz, hP, hK, hD0⟩ := hv
  have hx := B.exec
  have hb := B.bytes
  have hr := B.returns
  have hts := atoms_spec (ws := wsX5_near) B.pre
  have hown : s.vm.findClass RX5 = some m.cls := findClass_of_methodNamed B.named
  have hlocks := B.notSynchronized
  subst hsz
  have hD := hD0.self (sz := s.heap.size)
  generalize hAe : va_A (WW ad cJ cI cZ bm pa p0 p1 p2 li wi mt (ms.1, ms.2.1, 0, 0, 0, 0, 0, ms.2.2.2.2.2.2.2) ma mp mk mn ou) s.heap.size = A at hD ⊢
  have hA : ∀ q : Nat, s.heap.size ≤ q → A q := fun q h => by rw [← hAe]; exact Or.inr h
  have hS : va_S A s.heap s.heap [] := va_S.rf
  have hl := lv_entry ([.ref (ad 42), .int zA, .int zB, .long zC]) (n := 5) (Nat.le_of_ble_eq_true rfl)
  refine W.eq (g2 := entryFrame m ([.ref (ad 42), .int zA, .int zB, .long zC] : List Value).toArray 5) (by rw [ha]) ?_
  rw [lg_entry_eq]
  generalize (lg_sl ([.ref (ad 42), .int zA, .int zB, .long zC]) ++ List.replicate (5 - (lg_sl ([.ref (ad 42), .int zA, .int zB, .long zC])).length) Slot.unset).toArray = ls at hl ⊢
  have hl : lv_has ls 5 [(0, .ref (ad 42)), (1, .int zA), (2, .int zB), (3, .long zC)] := hl
  refine lv_aload_n hx hb dX5_near_0 rfl (lv_at hl 0 rfl) ?_
  refine lv_aload_n hx hb dX5_near_1 rfl (lv_at hl 0 rfl) ?_
  refine lv_iload_n hx hb dX5_near_2 rfl (lv_at hl 1 rfl) ?_
  refine bm_rcallV (As := [.int zA]) (rest := [.ref (ad 42)]) ⟨hx, hb, hml, hown, hts⟩ (m_isPart) (cwV 1 hts (gdV (by decide +kernel) (by decide +kernel) (by decide +kernel) (by decide +kernel) (by decide +kernel)) rfl rfl rfl (by decide +kernel) ⟨Nat.le_of_ble_eq_true rfl, Nat.le_of_ble_eq_true rfl⟩) hK hP 42 5 rfl rfl rfl hl.1 rfl (Nat.le_of_ble_eq_true rfl) dX5_near_3 ⟨Nat.le_of_ble_eq_true rfl, Nat.le_of_ble_eq_true rfl⟩ ?_
  refine bm_zb_eq (x := false) (tgt := 17) hx hb dX5_near_6 (by decide) (fun c_1 => ?_) (fun c_1 => ?_)
  · refine lv_iconst (v := nI 1) hx hb dX5_near_17 (by decide) ?_
    refine lv_goto (tgt := 32) hx hb dX5_near_18 (by decide) ?_
    refine va_put (D := D) (ci := 5) (v := .int (nI 1)) (ty := .int) (C := RX5) (T := TX5) (N := 28) hx hb hts (inT inX5) tyX5 tyX5_ok nmX5 hown hK hP hD hS 42 rfl rfl 0 (by decide) (hts (.fieldLink RX5 81 "BoardMovesModel" "thrown" "I") (by decide +kernel)) (fun _ h9 => h9) rfl (by decide +kernel) rfl rfl (Nat.le_of_ble_eq_true rfl) dX5_near_32 (fun H locs hP hD hS => ?_)
    have hP : va_P D vwCl (WW ad cJ cI cZ bm pa p0 p1 p2 li wi (1) (ms.1, ms.2.1, 0, 0, 0, 0, 0, ms.2.2.2.2.2.2.2) ma mp mk mn ou) H := hP
    have hD : va_D A (WW ad cJ cI cZ bm pa p0 p1 p2 li wi (1) (ms.1, ms.2.1, 0, 0, 0, 0, 0, ms.2.2.2.2.2.2.2) ma mp mk mn ou) := hD
    refine lv_aload_n hx hb dX5_near_35 rfl (lv_at hl 0 rfl) ?_
    refine va_get (D := D) (ci := 5) (v := .int (nI 1)) (C := RX5) (T := TX5) (N := 28) hx hb hts (inT inX5) hown hK hP 42 rfl rfl 0 (by decide) (hts (.fieldLink RX5 81 "BoardMovesModel" "thrown" "I") (by decide +kernel)) (fun _ h9 => h9) rfl dX5_near_36 ?_
    refine bm_nz_ne (x := 1) (tgt := 56) hx hb (by decide) dX5_near_39 (by decide) (fun c_2 => ?_) (fun c_2 => ?_)
    · refine lv_iconst (v := bm_b false) hx hb dX5_near_56 (by decide) ?_
      exact bm_zretW (v := false) hx hb hr hP hD hK hS ⟨rfl, rfl⟩ dX5_near_57 hlocks
    · exact absurd c_2 (by decide)
  · exact absurd c_1 (by decide)

set_option maxHeartbeats 4000000 in
set_option maxRecDepth 100000 in
theorem m_group {l : Launch} {D : va_G} {ad : Nat → Nat} {cJ cI cZ : ClassId} {bm : gBM} {pa : gPA} {p0 p1 p2 : gPL} {li : gLI} {wi : gWI} {mt : Nat} {ms : gMS} {ma : gMA} {mp : gMP} {mk : gMK} {mn : gMN} {ou : Nat → Int64} {zA zB : Int32} : bm_Wr l yX5_group wsX5_group ({ frames := 1, cells := 0, slots := 0, locals := 21 }) D vwCl [(cJ, .long), (cI, .int), (cZ, .boolean)] (WW ad cJ cI cZ bm pa p0 p1 p2 li wi mt (ms.1, ms.2.1, 0, 0, 0, 0, 0, ms.2.2.2.2.2.2.2) ma mp mk mn ou) [.ref (ad 42), .int zA, .int zB] (WW ad cJ cI cZ bm pa p0 p1 p2 li wi (1) (ms.1, ms.2.1, 0, 0, 0, 0, 0, ms.2.2.2.2.2.2.2) ma mp mk mn ou) (some (.int (nI 0))) := by
  intro sz
  refine Met.ofW (cc := cX5_group) (maxL := 7) (ret := (some .int)) (by decide) rfl ?_
  intro p e s m args below meth c s₁ B hml hv
  obtain ⟨ha, hsz, hP, hK, hD0⟩ := hv
  have hx := B.exec
  have hb := B.bytes
  have hr := B.returns
  have hts := atoms_spec (ws := wsX5_group) B.pre
  have hown : s.vm.findClass RX5 = some m.cls := findClass_of_methodNamed B.named
  have hlocks := B.notSynchronized
  subst hsz
  have hD := hD0.self (sz := s.heap.size)
  generalize hAe : va_A (WW ad cJ cI cZ bm pa p0 p1 p2 li wi mt (ms.1, ms.2.1, 0, 0, 0, 0, 0, ms.2.2.2.2.2.2.2) ma mp mk mn ou) s.heap.size = A at hD ⊢
  have hA : ∀ q : Nat, s.heap.size ≤ q → A q := fun q h => by rw [← hAe]; exact Or.inr h
  have hS : va_S A s.heap s.heap [] := va_S.rf
  have hl := lv_entry ([.ref (ad 42), .int zA, .int zB]) (n := 7) (Nat.le_of_ble_eq_true rfl)
  refine W.eq (g2 := entryFrame m ([.ref (ad 42), .int zA, .int zB] : List Value).toArray 7) (by rw [ha]) ?_
  rw [lg_entry_eq]
  generalize (lg_sl ([.ref (ad 42), .int zA, .int zB]) ++ List.replicate (7 - (lg_sl ([.ref (ad 42), .int zA, .int zB])).length) Slot.unset).toArray = ls at hl ⊢
  have hl : lv_has ls 7 [(0, .ref (ad 42)), (1, .int zA), (2, .int zB)] := hl
  refine lv_aload_n hx hb dX5_group_0 rfl (lv_at hl 0 rfl) ?_
  refine lv_aload_n hx hb dX5_group_1 rfl (lv_at hl 0 rfl) ?_
  refine lv_iload_n hx hb dX5_group_2 rfl (lv_at hl 1 rfl) ?_
  refine bm_rcallV (As := [.int zA]) (rest := [.ref (ad 42)]) ⟨hx, hb, hml, hown, hts⟩ (m_isPart) (cwV 1 hts (gdV (by decide +kernel) (by decide +kernel) (by decide +kernel) (by decide +kernel) (by decide +kernel)) rfl rfl rfl (by decide +kernel) ⟨Nat.le_of_ble_eq_true rfl, Nat.le_of_ble_eq_true rfl⟩) hK hP 42 5 rfl rfl rfl hl.1 rfl (Nat.le_of_ble_eq_true rfl) dX5_group_3 ⟨Nat.le_of_ble_eq_true rfl, Nat.le_of_ble_eq_true rfl⟩ ?_
  refine bm_zb_eq (x := false) (tgt := 21) hx hb dX5_group_6 (by decide) (fun c_1 => ?_) (fun c_1 => ?_)
  · refine lv_iconst (v := nI 1) hx hb dX5_group_21 (by decide) ?_
    refine va_put (D := D) (ci := 5) (v := .int (nI 1)) (ty := .int) (C := RX5) (T := TX5) (N := 28) hx hb hts (inT inX5) tyX5 tyX5_ok nmX5 hown hK hP hD hS 42 rfl rfl 0 (by decide) (hts (.fieldLink RX5 81 "BoardMovesModel" "thrown" "I") (by decide +kernel)) (fun _ h9 => h9) rfl (by decide +kernel) rfl rfl (Nat.le_of_ble_eq_true rfl) dX5_group_22 (fun H locs hP hD hS => ?_)
    have hP : va_P D vwCl (WW ad cJ cI cZ bm pa p0 p1 p2 li wi (1) (ms.1, ms.2.1, 0, 0, 0, 0, 0, ms.2.2.2.2.2.2.2) ma mp mk mn ou) H := hP
    have hD : va_D A (WW ad cJ cI cZ bm pa p0 p1 p2 li wi (1) (ms.1, ms.2.1, 0, 0, 0, 0, 0, ms.2.2.2.2.2.2.2) ma mp mk mn ou) := hD
    refine lv_aload_n hx hb dX5_group_25 rfl (lv_at hl 0 rfl) ?_
    refine va_get (D := D) (ci := 5) (v := .int (nI 1)) (C := RX5) (T := TX5) (N := 28) hx hb hts (inT inX5) hown hK hP 42 rfl rfl 0 (by decide) (hts (.fieldLink RX5 81 "BoardMovesModel" "thrown" "I") (by decide +kernel)) (fun _ h9 => h9) rfl dX5_group_26 ?_
    refine bm_nz_eq (x := 1) (tgt := 34) hx hb (by decide) dX5_group_29 (by decide) (fun c_2 => ?_) (fun c_2 => ?_)
    · exact absurd c_2 (by decide)
    · refine lv_iconst (v := nI 0) hx hb dX5_group_32 (by decide) ?_
      exact bm_iretW (v := (nI 0)) hx hb hr hP hD hK hS ⟨rfl, rfl⟩ dX5_group_33 hlocks
  · exact absurd c_1 (by decide)

set_option maxHeartbeats 4000000 in
set_option maxRecDepth 100000 in
theorem m_height {l : Launch} {D : va_G} {ad : Nat → Nat} {cJ cI cZ : ClassId} {bm : gBM} {pa : gPA} {p0 p1 p2 : gPL} {li : gLI} {wi : gWI} {mt : Nat} {ms : gMS} {ma : gMA} {mp : gMP} {mk : gMK} {mn : gMN} {ou : Nat → Int64} {zA : Int32} {zB : Int64} : bm_Wr l yX5_height wsX5_height ({ frames := 1, cells := 0, slots := 0, locals := 21 }) D vwCl [(cJ, .long), (cI, .int), (cZ, .boolean)] (WW ad cJ cI cZ bm pa p0 p1 p2 li wi mt (ms.1, ms.2.1, 0, 0, 0, 0, 0, ms.2.2.2.2.2.2.2) ma mp mk mn ou) [.ref (ad 42), .int zA, .long zB] (WW ad cJ cI cZ bm pa p0 p1 p2 li wi (1) (ms.1, ms.2.1, 0, 0, 0, 0, 0, ms.2.2.2.2.2.2.2) ma mp mk mn ou) (some (.int (bm_b false))) := by
  intro sz
  refine Met.ofW (cc := cX5_height) (maxL := 6) (ret := (some .boolean)) (by decide) rfl ?_
  intro p e s m args below meth c s₁ B hml hv
  obtain ⟨ha, hsz, hP, hK, hD0⟩ := hv
  have hx := B.exec
  have hb := B.bytes
  have hr := B.returns
  have hts := atoms_spec (ws := wsX5_height) B.pre
  have hown : s.vm.findClass RX5 = some m.cls := findClass_of_methodNamed B.named
  have hlocks := B.notSynchronized
  subst hsz
  have hD := hD0.self (sz := s.heap.size)
  generalize hAe : va_A (WW ad cJ cI cZ bm pa p0 p1 p2 li wi mt (ms.1, ms.2.1, 0, 0, 0, 0, 0, ms.2.2.2.2.2.2.2) ma mp mk mn ou) s.heap.size = A at hD ⊢
  have hA : ∀ q : Nat, s.heap.size ≤ q → A q := fun q h => by rw [← hAe]; exact Or.inr h
  have hS : va_S A s.heap s.heap [] := va_S.rf
  have hl := lv_entry ([.ref (ad 42), .int zA, .long zB]) (n := 6) (Nat.le_of_ble_eq_true rfl)
  refine W.eq (g2 := entryFrame m ([.ref (ad 42), .int zA, .long zB] : List Value).toArray 6) (by rw [ha]) ?_
  rw [lg_entry_eq]
  generalize (lg_sl ([.ref (ad 42), .int zA, .long zB]) ++ List.replicate (6 - (lg_sl ([.ref (ad 42), .int zA, .long zB])).length) Slot.unset).toArray = ls at hl ⊢
  have hl : lv_has ls 6 [(0, .ref (ad 42)), (1, .int zA), (2, .long zB)] := hl
  refine lv_aload_n hx hb dX5_height_0 rfl (lv_at hl 0 rfl) ?_
  refine lv_aload_n hx hb dX5_height_1 rfl (lv_at hl 0 rfl) ?_
  refine lv_iload_n hx hb dX5_height_2 rfl (lv_at hl 1 rfl) ?_
  refine bm_rcallV (As := [.int zA]) (rest := [.ref (ad 42)]) ⟨hx, hb, hml, hown, hts⟩ (m_isPart) (cwV 1 hts (gdV (by decide +kernel) (by decide +kernel) (by decide +kernel) (by decide +kernel) (by decide +kernel)) rfl rfl rfl (by decide +kernel) ⟨Nat.le_of_ble_eq_true rfl, Nat.le_of_ble_eq_true rfl⟩) hK hP 42 5 rfl rfl rfl hl.1 rfl (Nat.le_of_ble_eq_true rfl) dX5_height_3 ⟨Nat.le_of_ble_eq_true rfl, Nat.le_of_ble_eq_true rfl⟩ ?_
  refine bm_zb_ne (x := false) (tgt := 13) hx hb dX5_height_6 (by decide) (fun c_1 => ?_) (fun c_1 => ?_)
  · exact absurd c_1 (by decide)
  · refine lv_iconst (v := nI 1) hx hb dX5_height_9 (by decide) ?_
    refine lv_goto (tgt := 32) hx hb dX5_height_10 (by decide) ?_
    refine va_put (D := D) (ci := 5) (v := .int (nI 1)) (ty := .int) (C := RX5) (T := TX5) (N := 28) hx hb hts (inT inX5) tyX5 tyX5_ok nmX5 hown hK hP hD hS 42 rfl rfl 0 (by decide) (hts (.fieldLink RX5 81 "BoardMovesModel" "thrown" "I") (by decide +kernel)) (fun _ h9 => h9) rfl (by decide +kernel) rfl rfl (Nat.le_of_ble_eq_true rfl) dX5_height_32 (fun H locs hP hD hS => ?_)
    have hP : va_P D vwCl (WW ad cJ cI cZ bm pa p0 p1 p2 li wi (1) (ms.1, ms.2.1, 0, 0, 0, 0, 0, ms.2.2.2.2.2.2.2) ma mp mk mn ou) H := hP
    have hD : va_D A (WW ad cJ cI cZ bm pa p0 p1 p2 li wi (1) (ms.1, ms.2.1, 0, 0, 0, 0, 0, ms.2.2.2.2.2.2.2) ma mp mk mn ou) := hD
    refine lv_aload_n hx hb dX5_height_35 rfl (lv_at hl 0 rfl) ?_
    refine va_get (D := D) (ci := 5) (v := .int (nI 1)) (C := RX5) (T := TX5) (N := 28) hx hb hts (inT inX5) hown hK hP 42 rfl rfl 0 (by decide) (hts (.fieldLink RX5 81 "BoardMovesModel" "thrown" "I") (by decide +kernel)) (fun _ h9 => h9) rfl dX5_height_36 ?_
    refine bm_nz_eq (x := 1) (tgt := 44) hx hb (by decide) dX5_height_39 (by decide) (fun c_2 => ?_) (fun c_2 => ?_)
    · exact absurd c_2 (by decide)
    · refine lv_iconst (v := bm_b false) hx hb dX5_height_42 (by decide) ?_
      exact bm_zretW (v := false) hx hb hr hP hD hK hS ⟨rfl, rfl⟩ dX5_height_43 hlocks

set_option maxHeartbeats 4000000 in
set_option maxRecDepth 100000 in
theorem m_side {l : Launch} {D : va_G} {ad : Nat → Nat} {cJ cI cZ : ClassId} {bm : gBM} {pa : gPA} {p0 p1 p2 : gPL} {li : gLI} {wi : gWI} {mt : Nat} {ms : gMS} {ma : gMA} {mp : gMP} {mk : gMK} {mn : gMN} {ou : Nat → Int64} {zA : Int32} : bm_Wr l yX5_side wsX5_side ({ frames := 1, cells := 0, slots := 0, locals := 21 }) D vwCl [(cJ, .long), (cI, .int), (cZ, .boolean)] (WW ad cJ cI cZ bm pa p0 p1 p2 li wi mt (ms.1, ms.2.1, 0, 0, 0, 0, 0, ms.2.2.2.2.2.2.2) ma mp mk mn ou) [.ref (ad 42), .int zA] (WW ad cJ cI cZ bm pa p0 p1 p2 li wi (1) (ms.1, ms.2.1, 0, 0, 0, 0, 0, ms.2.2.2.2.2.2.2) ma mp mk mn ou) (some (.int (nI 0))) := by
  intro sz
  refine Met.ofW (cc := cX5_side) (maxL := 2) (ret := (some .int)) (by decide) rfl ?_
  intro p e s m args below meth c s₁ B hml hv
  obtain ⟨ha, hsz, hP, hK, hD0⟩ := hv
  have hx := B.exec
  have hb := B.bytes
  have hr := B.returns
  have hts := atoms_spec (ws := wsX5_side) B.pre
  have hown : s.vm.findClass RX5 = some m.cls := findClass_of_methodNamed B.named
  have hlocks := B.notSynchronized
  subst hsz
  have hD := hD0.self (sz := s.heap.size)
  generalize hAe : va_A (WW ad cJ cI cZ bm pa p0 p1 p2 li wi mt (ms.1, ms.2.1, 0, 0, 0, 0, 0, ms.2.2.2.2.2.2.2) ma mp mk mn ou) s.heap.size = A at hD ⊢
  have hA : ∀ q : Nat, s.heap.size ≤ q → A q := fun q h => by rw [← hAe]; exact Or.inr h
  have hS : va_S A s.heap s.heap [] := va_S.rf
  have hl := lv_entry ([.ref (ad 42), .int zA]) (n := 2) (Nat.le_of_ble_eq_true rfl)
  refine W.eq (g2 := entryFrame m ([.ref (ad 42), .int zA] : List Value).toArray 2) (by rw [ha]) ?_
  rw [lg_entry_eq]
  generalize (lg_sl ([.ref (ad 42), .int zA]) ++ List.replicate (2 - (lg_sl ([.ref (ad 42), .int zA])).length) Slot.unset).toArray = ls at hl ⊢
  have hl : lv_has ls 2 [(0, .ref (ad 42)), (1, .int zA)] := hl
  refine lv_aload_n hx hb dX5_side_0 rfl (lv_at hl 0 rfl) ?_
  refine lv_aload_n hx hb dX5_side_1 rfl (lv_at hl 0 rfl) ?_
  refine lv_iload_n hx hb dX5_side_2 rfl (lv_at hl 1 rfl) ?_
  refine bm_rcallV (As := [.int zA]) (rest := [.ref (ad 42)]) ⟨hx, hb, hml, hown, hts⟩ (m_isPart) (cwV 1 hts (gdV (by decide +kernel) (by decide +kernel) (by decide +kernel) (by decide +kernel) (by decide +kernel)) rfl rfl rfl (by decide +kernel) ⟨Nat.le_of_ble_eq_true rfl, Nat.le_of_ble_eq_true rfl⟩) hK hP 42 5 rfl rfl rfl hl.1 rfl (Nat.le_of_ble_eq_true rfl) dX5_side_3 ⟨Nat.le_of_ble_eq_true rfl, Nat.le_of_ble_eq_true rfl⟩ ?_
  refine bm_zb_eq (x := false) (tgt := 13) hx hb dX5_side_6 (by decide) (fun c_1 => ?_) (fun c_1 => ?_)
  · refine lv_iconst (v := nI 1) hx hb dX5_side_13 (by decide) ?_
    refine va_put (D := D) (ci := 5) (v := .int (nI 1)) (ty := .int) (C := RX5) (T := TX5) (N := 28) hx hb hts (inT inX5) tyX5 tyX5_ok nmX5 hown hK hP hD hS 42 rfl rfl 0 (by decide) (hts (.fieldLink RX5 81 "BoardMovesModel" "thrown" "I") (by decide +kernel)) (fun _ h9 => h9) rfl (by decide +kernel) rfl rfl (Nat.le_of_ble_eq_true rfl) dX5_side_14 (fun H locs hP hD hS => ?_)
    have hP : va_P D vwCl (WW ad cJ cI cZ bm pa p0 p1 p2 li wi (1) (ms.1, ms.2.1, 0, 0, 0, 0, 0, ms.2.2.2.2.2.2.2) ma mp mk mn ou) H := hP
    have hD : va_D A (WW ad cJ cI cZ bm pa p0 p1 p2 li wi (1) (ms.1, ms.2.1, 0, 0, 0, 0, 0, ms.2.2.2.2.2.2.2) ma mp mk mn ou) := hD
    refine lv_aload_n hx hb dX5_side_17 rfl (lv_at hl 0 rfl) ?_
    refine va_get (D := D) (ci := 5) (v := .int (nI 1)) (C := RX5) (T := TX5) (N := 28) hx hb hts (inT inX5) hown hK hP 42 rfl rfl 0 (by decide) (hts (.fieldLink RX5 81 "BoardMovesModel" "thrown" "I") (by decide +kernel)) (fun _ h9 => h9) rfl dX5_side_18 ?_
    refine bm_nz_ne (x := 1) (tgt := 33) hx hb (by decide) dX5_side_21 (by decide) (fun c_2 => ?_) (fun c_2 => ?_)
    · refine lv_iconst (v := nI 0) hx hb dX5_side_33 (by decide) ?_
      exact bm_iretW (v := (nI 0)) hx hb hr hP hD hK hS ⟨rfl, rfl⟩ dX5_side_34 hlocks
    · exact absurd c_2 (by decide)
  · exact absurd c_1 (by decide)
end
section
set_option maxHeartbeats 4000000 in
set_option maxRecDepth 100000 in
theorem m_net {l : Launch} {D : va_G} {ad : Nat → Nat} {cJ cI cZ : ClassId} {bm : gBM} {pa : gPA} {p0 p1 p2 : gPL} {li : gLI} {wi : gWI} {mt : Nat} {ms : gMS} {ma : gMA} {mp : gMP} {mk : gMK} {mn : gMN} {ou : Nat → Int64}  : bm_Wr l yX5_net wsX5_net ({ frames := 0, cells := 0, slots := 0, locals := 0 }) D vwCl [(cJ, .long), (cI, .int), (cZ, .boolean)] (WW ad cJ cI cZ bm pa p0 p1 p2 li wi mt (ms.1, ms.2.1, 0, 0, 0, 0, 0, ms.2.2.2.2.2.2.2) ma mp mk mn ou) [.ref (ad 42)] (WW ad cJ cI cZ bm pa p0 p1 p2 li wi (0) (ms.1, ms.2.1, 0, 0, 0, 0 + 1, 0, ms.2.2.2.2.2.2.2) ma mp mk mn ou) (some (.int (nI ((0 + 1) - 1)))) := by
  intro sz
  refine Met.ofW (cc := cX5_net) (maxL := 1) (ret := (some .int)) (by decide) rfl ?_
  intro p e s m args below meth c s₁ B hml hv
  obtain ⟨ha, hsz, hP, hK, hD0⟩ := hv
  have hx := B.exec
  have hb := B.bytes
  have hr := B.returns
  have hts := atoms_spec (ws := wsX5_net) B.pre
  have hown : s.vm.findClass RX5 = some m.cls := findClass_of_methodNamed B.named
  have hlocks := B.notSynchronized
  subst hsz
  have hD := hD0.self (sz := s.heap.size)
  generalize hAe : va_A (WW ad cJ cI cZ bm pa p0 p1 p2 li wi mt (ms.1, ms.2.1, 0, 0, 0, 0, 0, ms.2.2.2.2.2.2.2) ma mp mk mn ou) s.heap.size = A at hD ⊢
  have hA : ∀ q : Nat, s.heap.size ≤ q → A q := fun q h => by rw [← hAe]; exact Or.inr h
  have hS : va_S A s.heap s.heap [] := va_S.rf
  have hl := lv_entry ([.ref (ad 42)]) (n := 1) (Nat.le_of_ble_eq_true rfl)
  refine W.eq (g2 := entryFrame m ([.ref (ad 42)] : List Value).toArray 1) (by rw [ha]) ?_
  rw [lg_entry_eq]
  generalize (lg_sl ([.ref (ad 42)]) ++ List.replicate (1 - (lg_sl ([.ref (ad 42)])).length) Slot.unset).toArray = ls at hl ⊢
  have hl : lv_has ls 1 [(0, .ref (ad 42))] := hl
  refine lv_aload_n hx hb dX5_net_0 rfl (lv_at hl 0 rfl) ?_
  refine lv_iconst (v := nI 0) hx hb dX5_net_1 (by decide) ?_
  refine va_put (D := D) (ci := 5) (v := .int (nI 0)) (ty := .int) (C := RX5) (T := TX5) (N := 28) hx hb hts (inT inX5) tyX5 tyX5_ok nmX5 hown hK hP hD hS 42 rfl rfl 0 (by decide) (hts (.fieldLink RX5 81 "BoardMovesModel" "thrown" "I") (by decide +kernel)) (fun _ h9 => h9) rfl (by decide +kernel) rfl rfl (Nat.le_of_ble_eq_true rfl) dX5_net_2 (fun H locs hP hD hS => ?_)
  have hP : va_P D vwCl (WW ad cJ cI cZ bm pa p0 p1 p2 li wi (0) (ms.1, ms.2.1, 0, 0, 0, 0, 0, ms.2.2.2.2.2.2.2) ma mp mk mn ou) H := hP
  have hD : va_D A (WW ad cJ cI cZ bm pa p0 p1 p2 li wi (0) (ms.1, ms.2.1, 0, 0, 0, 0, 0, ms.2.2.2.2.2.2.2) ma mp mk mn ou) := hD
  refine lv_aload_n hx hb dX5_net_5 rfl (lv_at hl 0 rfl) ?_
  refine va_get (D := D) (ci := 5) (v := .int (nI 0)) (C := RX5) (T := TX5) (N := 28) hx hb hts (inT inX5) hown hK hP 42 rfl rfl 20 (by decide) (hts (.fieldLink RX5 160 "BoardMovesModel" "nets" "I") (by decide +kernel)) (fun _ h9 => h9) rfl dX5_net_6 ?_
  refine lv_bipush (v := nI 40) hx hb dX5_net_9 (by decide) ?_
  refine bm_ni_ne (x := 0) (y := 40) (tgt := 16) hx hb (by decide) (by decide) dX5_net_11 (by decide) (fun c_1 => ?_) (fun c_1 => ?_)
  · refine lv_aload_n hx hb dX5_net_16 rfl (lv_at hl 0 rfl) ?_
    refine lv_dup hx hb dX5_net_17 rfl ?_
    refine va_get (D := D) (ci := 5) (v := .int (nI 0)) (C := RX5) (T := TX5) (N := 28) hx hb hts (inT inX5) hown hK hP 42 rfl rfl 20 (by decide) (hts (.fieldLink RX5 160 "BoardMovesModel" "nets" "I") (by decide +kernel)) (fun _ h9 => h9) rfl dX5_net_18 ?_
    refine lv_iconst (v := nI 1) hx hb dX5_net_21 (by decide) ?_
    refine bm_nadd hx hb dX5_net_22 ?_
    refine va_put (D := D) (ci := 5) (v := .int (nI (0 + 1))) (ty := .int) (C := RX5) (T := TX5) (N := 28) hx hb hts (inT inX5) tyX5 tyX5_ok nmX5 hown hK hP hD hS 42 rfl rfl 20 (by decide) (hts (.fieldLink RX5 160 "BoardMovesModel" "nets" "I") (by decide +kernel)) (fun _ h9 => h9) rfl (by decide +kernel) rfl rfl (Nat.le_of_ble_eq_true rfl) dX5_net_23 (fun H locs hP hD hS => ?_)
    have hP : va_P D vwCl (WW ad cJ cI cZ bm pa p0 p1 p2 li wi (0) (ms.1, ms.2.1, 0, 0, 0, 0 + 1, 0, ms.2.2.2.2.2.2.2) ma mp mk mn ou) H := hP
    have hD : va_D A (WW ad cJ cI cZ bm pa p0 p1 p2 li wi (0) (ms.1, ms.2.1, 0, 0, 0, 0 + 1, 0, ms.2.2.2.2.2.2.2) ma mp mk mn ou) := hD
    refine lv_aload_n hx hb dX5_net_26 rfl (lv_at hl 0 rfl) ?_
    refine va_get (D := D) (ci := 5) (v := .int (nI (0 + 1))) (C := RX5) (T := TX5) (N := 28) hx hb hts (inT inX5) hown hK hP 42 rfl rfl 20 (by decide) (hts (.fieldLink RX5 160 "BoardMovesModel" "nets" "I") (by decide +kernel)) (fun _ h9 => h9) rfl dX5_net_27 ?_
    refine lv_iconst (v := nI 1) hx hb dX5_net_30 (by decide) ?_
    refine bm_nsub hx hb (by omega) dX5_net_31 ?_
    exact bm_iretW (v := (nI ((0 + 1) - 1))) hx hb hr hP hD hK hS ⟨rfl, rfl⟩ dX5_net_32 hlocks
  · exact absurd c_1 (by decide)

set_option maxHeartbeats 4000000 in
set_option maxRecDepth 100000 in
theorem m_pin {l : Launch} {D : va_G} {ad : Nat → Nat} {cJ cI cZ : ClassId} {bm : gBM} {pa : gPA} {p0 p1 p2 : gPL} {li : gLI} {wi : gWI} {mt : Nat} {ms : gMS} {ma : gMA} {mp : gMP} {mk : gMK} {mn : gMN} {ou : Nat → Int64} {zA zB : Int32} {zC zD : Int64} : bm_Wr l yX5_pin wsX5_pin ({ frames := 0, cells := 0, slots := 0, locals := 0 }) D vwCl [(cJ, .long), (cI, .int), (cZ, .boolean)] (WW ad cJ cI cZ bm pa p0 p1 p2 li wi mt (ms.1, ms.2.1, 0, 0, 0, 0, 0, ms.2.2.2.2.2.2.2) ma mp mk mn ou) [.ref (ad 42), .int zA, .int zB, .long zC, .long zD] (WW ad cJ cI cZ bm pa p0 p1 p2 li wi (1) (ms.1, ms.2.1, 0, 0, 0, 0, 0, ms.2.2.2.2.2.2.2) ma mp mk mn ou) (some (.int (bm_b false))) := by
  intro sz
  refine Met.ofW (cc := cX5_pin) (maxL := 9) (ret := (some .boolean)) (by decide) rfl ?_
  intro p e s m args below meth c s₁ B hml hv
  obtain ⟨ha, hsz, hP, hK, hD0⟩ := hv
  have hx := B.exec
  have hb := B.bytes
  have hr := B.returns
  have hts := atoms_spec (ws := wsX5_pin) B.pre
  have hown : s.vm.findClass RX5 = some m.cls := findClass_of_methodNamed B.named
  have hlocks := B.notSynchronized
  subst hsz
  have hD := hD0.self (sz := s.heap.size)
  generalize hAe : va_A (WW ad cJ cI cZ bm pa p0 p1 p2 li wi mt (ms.1, ms.2.1, 0, 0, 0, 0, 0, ms.2.2.2.2.2.2.2) ma mp mk mn ou) s.heap.size = A at hD ⊢
  have hA : ∀ q : Nat, s.heap.size ≤ q → A q := fun q h => by rw [← hAe]; exact Or.inr h
  have hS : va_S A s.heap s.heap [] := va_S.rf
  have hl := lv_entry ([.ref (ad 42), .int zA, .int zB, .long zC, .long zD]) (n := 9) (Nat.le_of_ble_eq_true rfl)
  refine W.eq (g2 := entryFrame m ([.ref (ad 42), .int zA, .int zB, .long zC, .long zD] : List Value).toArray 9) (by rw [ha]) ?_
  rw [lg_entry_eq]
  generalize (lg_sl ([.ref (ad 42), .int zA, .int zB, .long zC, .long zD]) ++ List.replicate (9 - (lg_sl ([.ref (ad 42), .int zA, .int zB, .long zC, .long zD])).length) Slot.unset).toArray = ls at hl ⊢
  have hl : lv_has ls 9 [(0, .ref (ad 42)), (1, .int zA), (2, .int zB), (3, .long zC), (5, .long zD)] := hl
  refine lv_iload_n hx hb dX5_pin_0 rfl (lv_at hl 1 rfl) ?_
  refine lv_if_lt (x := zA) (tgt := 24) hx hb dX5_pin_1 (by decide) (fun c_1 => ?_) (fun c_1 => ?_)
  · refine lv_iconst (v := bm_b false) hx hb dX5_pin_24 (by decide) ?_
    refine lv_istore (lv' := [(7, .int (bm_b false)), (0, .ref (ad 42)), (1, .int zA), (2, .int zB), (3, .long zC), (5, .long zD)]) hx hb dX5_pin_25 hl (by decide) rfl (fun ls hl => ?_)
    refine lv_iload hx hb dX5_pin_27 (lv_at hl 0 rfl) ?_
    refine bm_zb_eq (x := false) (tgt := 72) hx hb dX5_pin_29 (by decide) (fun c_2 => ?_) (fun c_2 => ?_)
    · refine lv_iconst (v := bm_b false) hx hb dX5_pin_72 (by decide) ?_
      refine lv_istore (lv' := [(8, .int (bm_b false)), (7, .int (bm_b false)), (0, .ref (ad 42)), (1, .int zA), (2, .int zB), (3, .long zC), (5, .long zD)]) hx hb dX5_pin_73 hl (by decide) rfl (fun ls hl => ?_)
      refine lv_aload_n hx hb dX5_pin_75 rfl (lv_at hl 2 rfl) ?_
      refine lv_iload hx hb dX5_pin_76 (lv_at hl 1 rfl) ?_
      refine bm_zb_ne (x := false) (tgt := 85) hx hb dX5_pin_78 (by decide) (fun c_3 => ?_) (fun c_3 => ?_)
      · exact absurd c_3 (by decide)
      · refine lv_iconst (v := nI 1) hx hb dX5_pin_81 (by decide) ?_
        refine lv_goto (tgt := 95) hx hb dX5_pin_82 (by decide) ?_
        refine va_put (D := D) (ci := 5) (v := .int (nI 1)) (ty := .int) (C := RX5) (T := TX5) (N := 28) hx hb hts (inT inX5) tyX5 tyX5_ok nmX5 hown hK hP hD hS 42 rfl rfl 0 (by decide) (hts (.fieldLink RX5 81 "BoardMovesModel" "thrown" "I") (by decide +kernel)) (fun _ h9 => h9) rfl (by decide +kernel) rfl rfl (Nat.le_of_ble_eq_true rfl) dX5_pin_95 (fun H locs hP hD hS => ?_)
        have hP : va_P D vwCl (WW ad cJ cI cZ bm pa p0 p1 p2 li wi (1) (ms.1, ms.2.1, 0, 0, 0, 0, 0, ms.2.2.2.2.2.2.2) ma mp mk mn ou) H := hP
        have hD : va_D A (WW ad cJ cI cZ bm pa p0 p1 p2 li wi (1) (ms.1, ms.2.1, 0, 0, 0, 0, 0, ms.2.2.2.2.2.2.2) ma mp mk mn ou) := hD
        refine lv_aload_n hx hb dX5_pin_98 rfl (lv_at hl 2 rfl) ?_
        refine va_get (D := D) (ci := 5) (v := .int (nI 1)) (C := RX5) (T := TX5) (N := 28) hx hb hts (inT inX5) hown hK hP 42 rfl rfl 0 (by decide) (hts (.fieldLink RX5 81 "BoardMovesModel" "thrown" "I") (by decide +kernel)) (fun _ h9 => h9) rfl dX5_pin_99 ?_
        refine bm_nz_ne (x := 1) (tgt := 114) hx hb (by decide) dX5_pin_102 (by decide) (fun c_4 => ?_) (fun c_4 => ?_)
        · refine lv_iconst (v := bm_b false) hx hb dX5_pin_114 (by decide) ?_
          exact bm_zretW (v := false) hx hb hr hP hD hK hS ⟨rfl, rfl⟩ dX5_pin_115 hlocks
        · exact absurd c_4 (by decide)
    · exact absurd c_2 (by decide)
  · refine lv_iload_n hx hb dX5_pin_4 rfl (lv_at hl 1 rfl) ?_
    refine lv_aload_n hx hb dX5_pin_5 rfl (lv_at hl 0 rfl) ?_
    refine va_get (D := D) (ci := 5) (v := .int (nI 0)) (C := RX5) (T := TX5) (N := 28) hx hb hts (inT inX5) hown hK hP 42 rfl rfl 20 (by decide) (hts (.fieldLink RX5 160 "BoardMovesModel" "nets" "I") (by decide +kernel)) (fun _ h9 => h9) rfl dX5_pin_6 ?_
    refine lv_icmp_ge (x := zA) (y := (nI 0)) (tgt := 24) hx hb dX5_pin_9 (by decide) (fun c_5 => ?_) (fun c_5 => ?_)
    · refine lv_iconst (v := bm_b false) hx hb dX5_pin_24 (by decide) ?_
      refine lv_istore (lv' := [(7, .int (bm_b false)), (0, .ref (ad 42)), (1, .int zA), (2, .int zB), (3, .long zC), (5, .long zD)]) hx hb dX5_pin_25 hl (by decide) rfl (fun ls hl => ?_)
      refine lv_iload hx hb dX5_pin_27 (lv_at hl 0 rfl) ?_
      refine bm_zb_eq (x := false) (tgt := 72) hx hb dX5_pin_29 (by decide) (fun c_6 => ?_) (fun c_6 => ?_)
      · refine lv_iconst (v := bm_b false) hx hb dX5_pin_72 (by decide) ?_
        refine lv_istore (lv' := [(8, .int (bm_b false)), (7, .int (bm_b false)), (0, .ref (ad 42)), (1, .int zA), (2, .int zB), (3, .long zC), (5, .long zD)]) hx hb dX5_pin_73 hl (by decide) rfl (fun ls hl => ?_)
        refine lv_aload_n hx hb dX5_pin_75 rfl (lv_at hl 2 rfl) ?_
        refine lv_iload hx hb dX5_pin_76 (lv_at hl 1 rfl) ?_
        refine bm_zb_ne (x := false) (tgt := 85) hx hb dX5_pin_78 (by decide) (fun c_7 => ?_) (fun c_7 => ?_)
        · exact absurd c_7 (by decide)
        · refine lv_iconst (v := nI 1) hx hb dX5_pin_81 (by decide) ?_
          refine lv_goto (tgt := 95) hx hb dX5_pin_82 (by decide) ?_
          refine va_put (D := D) (ci := 5) (v := .int (nI 1)) (ty := .int) (C := RX5) (T := TX5) (N := 28) hx hb hts (inT inX5) tyX5 tyX5_ok nmX5 hown hK hP hD hS 42 rfl rfl 0 (by decide) (hts (.fieldLink RX5 81 "BoardMovesModel" "thrown" "I") (by decide +kernel)) (fun _ h9 => h9) rfl (by decide +kernel) rfl rfl (Nat.le_of_ble_eq_true rfl) dX5_pin_95 (fun H locs hP hD hS => ?_)
          have hP : va_P D vwCl (WW ad cJ cI cZ bm pa p0 p1 p2 li wi (1) (ms.1, ms.2.1, 0, 0, 0, 0, 0, ms.2.2.2.2.2.2.2) ma mp mk mn ou) H := hP
          have hD : va_D A (WW ad cJ cI cZ bm pa p0 p1 p2 li wi (1) (ms.1, ms.2.1, 0, 0, 0, 0, 0, ms.2.2.2.2.2.2.2) ma mp mk mn ou) := hD
          refine lv_aload_n hx hb dX5_pin_98 rfl (lv_at hl 2 rfl) ?_
          refine va_get (D := D) (ci := 5) (v := .int (nI 1)) (C := RX5) (T := TX5) (N := 28) hx hb hts (inT inX5) hown hK hP 42 rfl rfl 0 (by decide) (hts (.fieldLink RX5 81 "BoardMovesModel" "thrown" "I") (by decide +kernel)) (fun _ h9 => h9) rfl dX5_pin_99 ?_
          refine bm_nz_ne (x := 1) (tgt := 114) hx hb (by decide) dX5_pin_102 (by decide) (fun c_8 => ?_) (fun c_8 => ?_)
          · refine lv_iconst (v := bm_b false) hx hb dX5_pin_114 (by decide) ?_
            exact bm_zretW (v := false) hx hb hr hP hD hK hS ⟨rfl, rfl⟩ dX5_pin_115 hlocks
          · exact absurd c_8 (by decide)
      · exact absurd c_6 (by decide)
    · exact absurd (Int32.not_lt.mp c_1) (show ¬ (0 : Int32) ≤ zA from c_5)

set_option maxHeartbeats 4000000 in
set_option maxRecDepth 100000 in
theorem m_run {l : Launch} {D : va_G} {ad : Nat → Nat} {cJ cI cZ : ClassId} {bm : gBM} {pa : gPA} {p0 p1 p2 : gPL} {li : gLI} {wi : gWI} {mt : Nat} {ms : gMS} {ma : gMA} {mp : gMP} {mk : gMK} {mn : gMN} {ou : Nat → Int64} {zA : Int64} (hv : q_rn zA = true) : bm_Wr l yX5_run wsX5_run ({ frames := 0, cells := 0, slots := 0, locals := 0 }) D vwCl [(cJ, .long), (cI, .int), (cZ, .boolean)] (WW ad cJ cI cZ bm pa p0 p1 p2 li wi mt (ms.1, ms.2.1, 0, 0, 0, 0, 0, ms.2.2.2.2.2.2.2) ma mp mk mn ou) [.ref (ad 42), .long zA] (WW ad cJ cI cZ bm pa p0 p1 p2 li wi (0) (ms.1, ms.2.1, 0, 0, 0, 0, 0, ms.2.2.2.2.2.2.2) ma mp mk mn ou) (some (.int (nI 0))) := by
  intro sz
  refine Met.ofW (cc := cX5_run) (maxL := 23) (ret := (some .int)) (by decide) rfl ?_
  intro p e s m args below meth c s₁ B hml hv
  obtain ⟨ha, hsz, hP, hK, hD0⟩ := hv
  have hx := B.exec
  have hb := B.bytes
  have hr := B.returns
  have hts := atoms_spec (ws := wsX5_run) B.pre
  have hown : s.vm.findClass RX5 = some m.cls := findClass_of_methodNamed B.named
  have hlocks := B.notSynchronized
  subst hsz
  have hD := hD0.self (sz := s.heap.size)
  generalize hAe : va_A (WW ad cJ cI cZ bm pa p0 p1 p2 li wi mt (ms.1, ms.2.1, 0, 0, 0, 0, 0, ms.2.2.2.2.2.2.2) ma mp mk mn ou) s.heap.size = A at hD ⊢
  have hA : ∀ q : Nat, s.heap.size ≤ q → A q := fun q h => by rw [← hAe]; exact Or.inr h
  have hS : va_S A s.heap s.heap [] := va_S.rf
  have hl := lv_entry ([.ref (ad 42), .long zA]) (n := 23) (Nat.le_of_ble_eq_true rfl)
  refine W.eq (g2 := entryFrame m ([.ref (ad 42), .long zA] : List Value).toArray 23) (by rw [ha]) ?_
  rw [lg_entry_eq]
  generalize (lg_sl ([.ref (ad 42), .long zA]) ++ List.replicate (23 - (lg_sl ([.ref (ad 42), .long zA])).length) Slot.unset).toArray = ls at hl ⊢
  have hl : lv_has ls 23 [(0, .ref (ad 42)), (1, .long zA)] := hl
  refine lv_aload_n hx hb dX5_run_0 rfl (lv_at hl 0 rfl) ?_
  refine lv_lload_n hx hb dX5_run_1 rfl (lv_at hl 1 rfl) ?_
  refine lv_lconst (v := 0) hx hb dX5_run_2 (by decide) ?_
  refine bm_lc_lt (x := zA) (y := 0) (tgt := 19) hx hb dX5_run_3 dX5_run_4 (by decide) (fun c_1 => ?_) (fun c_1 => ?_)
  · exact absurd hv (by simp [q_rn, c_1])
  · refine lv_lload_n hx hb dX5_run_7 rfl (lv_at hl 1 rfl) ?_
    refine lv_ldc2 (v := 2000) hx hb hown (hts (.constantLong RX5 203 2000) (by decide +kernel)) dX5_run_8 ?_
    refine bm_lc_gt (x := zA) (y := 2000) (tgt := 19) hx hb dX5_run_11 dX5_run_12 (by decide) (fun c_2 => ?_) (fun c_2 => ?_)
    · exact absurd hv (by simp [q_rn, c_2])
    · refine lv_iconst (v := nI 0) hx hb dX5_run_15 (by decide) ?_
      refine lv_goto (tgt := 20) hx hb dX5_run_16 (by decide) ?_
      refine va_put (D := D) (ci := 5) (v := .int (nI 0)) (ty := .int) (C := RX5) (T := TX5) (N := 28) hx hb hts (inT inX5) tyX5 tyX5_ok nmX5 hown hK hP hD hS 42 rfl rfl 0 (by decide) (hts (.fieldLink RX5 81 "BoardMovesModel" "thrown" "I") (by decide +kernel)) (fun _ h9 => h9) rfl (by decide +kernel) rfl rfl (Nat.le_of_ble_eq_true rfl) dX5_run_20 (fun H locs hP hD hS => ?_)
      have hP : va_P D vwCl (WW ad cJ cI cZ bm pa p0 p1 p2 li wi (0) (ms.1, ms.2.1, 0, 0, 0, 0, 0, ms.2.2.2.2.2.2.2) ma mp mk mn ou) H := hP
      have hD : va_D A (WW ad cJ cI cZ bm pa p0 p1 p2 li wi (0) (ms.1, ms.2.1, 0, 0, 0, 0, 0, ms.2.2.2.2.2.2.2) ma mp mk mn ou) := hD
      refine lv_aload_n hx hb dX5_run_23 rfl (lv_at hl 0 rfl) ?_
      refine va_get (D := D) (ci := 5) (v := .int (nI 0)) (C := RX5) (T := TX5) (N := 28) hx hb hts (inT inX5) hown hK hP 42 rfl rfl 0 (by decide) (hts (.fieldLink RX5 81 "BoardMovesModel" "thrown" "I") (by decide +kernel)) (fun _ h9 => h9) rfl dX5_run_24 ?_
      refine bm_nz_ne (x := 0) (tgt := 37) hx hb (by decide) dX5_run_27 (by decide) (fun c_3 => ?_) (fun c_3 => ?_)
      · exact absurd c_3 (by decide)
      · refine lv_aload_n hx hb dX5_run_30 rfl (lv_at hl 0 rfl) ?_
        refine va_get (D := D) (ci := 5) (v := .int (nI 0)) (C := RX5) (T := TX5) (N := 28) hx hb hts (inT inX5) hown hK hP 42 rfl rfl 3 (by decide) (hts (.fieldLink RX5 85 "BoardMovesModel" "parts" "I") (by decide +kernel)) (fun _ h9 => h9) rfl dX5_run_31 ?_
        refine bm_nz_ne (x := 0) (tgt := 39) hx hb (by decide) dX5_run_34 (by decide) (fun c_4 => ?_) (fun c_4 => ?_)
        · exact absurd c_4 (by decide)
        · refine lv_iconst (v := nI 0) hx hb dX5_run_37 (by decide) ?_
          exact bm_iretW (v := (nI 0)) hx hb hr hP hD hK hS ⟨rfl, rfl⟩ dX5_run_38 hlocks

set_option maxHeartbeats 4000000 in
set_option maxRecDepth 100000 in
theorem m_runX {l : Launch} {D : va_G} {ad : Nat → Nat} {cJ cI cZ : ClassId} {bm : gBM} {pa : gPA} {p0 p1 p2 : gPL} {li : gLI} {wi : gWI} {mt : Nat} {ms : gMS} {ma : gMA} {mp : gMP} {mk : gMK} {mn : gMN} {ou : Nat → Int64} {zA : Int64} (hv : q_rn zA = false) : bm_Wr l yX5_run wsX5_run ({ frames := 0, cells := 0, slots := 0, locals := 0 }) D vwCl [(cJ, .long), (cI, .int), (cZ, .boolean)] (WW ad cJ cI cZ bm pa p0 p1 p2 li wi mt (ms.1, ms.2.1, 0, 0, 0, 0, 0, ms.2.2.2.2.2.2.2) ma mp mk mn ou) [.ref (ad 42), .long zA] (WW ad cJ cI cZ bm pa p0 p1 p2 li wi (1) (ms.1, ms.2.1, 0, 0, 0, 0, 0, ms.2.2.2.2.2.2.2) ma mp mk mn ou) (some (.int (nI 0))) := by
  intro sz
  refine Met.ofW (cc := cX5_run) (maxL := 23) (ret := (some .int)) (by decide) rfl ?_
  intro p e s m args below meth c s₁ B hml hv
  obtain ⟨ha, hsz, hP, hK, hD0⟩ := hv
  have hx := B.exec
  have hb := B.bytes
  have hr := B.returns
  have hts := atoms_spec (ws := wsX5_run) B.pre
  have hown : s.vm.findClass RX5 = some m.cls := findClass_of_methodNamed B.named
  have hlocks := B.notSynchronized
  subst hsz
  have hD := hD0.self (sz := s.heap.size)
  generalize hAe : va_A (WW ad cJ cI cZ bm pa p0 p1 p2 li wi mt (ms.1, ms.2.1, 0, 0, 0, 0, 0, ms.2.2.2.2.2.2.2) ma mp mk mn ou) s.heap.size = A at hD ⊢
  have hA : ∀ q : Nat, s.heap.size ≤ q → A q := fun q h => by rw [← hAe]; exact Or.inr h
  have hS : va_S A s.heap s.heap [] := va_S.rf
  have hl := lv_entry ([.ref (ad 42), .long zA]) (n := 23) (Nat.le_of_ble_eq_true rfl)
  refine W.eq (g2 := entryFrame m ([.ref (ad 42), .long zA] : List Value).toArray 23) (by rw [ha]) ?_
  rw [lg_entry_eq]
  generalize (lg_sl ([.ref (ad 42), .long zA]) ++ List.replicate (23 - (lg_sl ([.ref (ad 42), .long zA])).length) Slot.unset).toArray = ls at hl ⊢
  have hl : lv_has ls 23 [(0, .ref (ad 42)), (1, .long zA)] := hl
  refine lv_aload_n hx hb dX5_run_0 rfl (lv_at hl 0 rfl) ?_
  refine lv_lload_n hx hb dX5_run_1 rfl (lv_at hl 1 rfl) ?_
  refine lv_lconst (v := 0) hx hb dX5_run_2 (by decide) ?_
  refine bm_lc_lt (x := zA) (y := 0) (tgt := 19) hx hb dX5_run_3 dX5_run_4 (by decide) (fun c_1 => ?_) (fun c_1 => ?_)
  · refine lv_iconst (v := nI 1) hx hb dX5_run_19 (by decide) ?_
    refine va_put (D := D) (ci := 5) (v := .int (nI 1)) (ty := .int) (C := RX5) (T := TX5) (N := 28) hx hb hts (inT inX5) tyX5 tyX5_ok nmX5 hown hK hP hD hS 42 rfl rfl 0 (by decide) (hts (.fieldLink RX5 81 "BoardMovesModel" "thrown" "I") (by decide +kernel)) (fun _ h9 => h9) rfl (by decide +kernel) rfl rfl (Nat.le_of_ble_eq_true rfl) dX5_run_20 (fun H locs hP hD hS => ?_)
    have hP : va_P D vwCl (WW ad cJ cI cZ bm pa p0 p1 p2 li wi (1) (ms.1, ms.2.1, 0, 0, 0, 0, 0, ms.2.2.2.2.2.2.2) ma mp mk mn ou) H := hP
    have hD : va_D A (WW ad cJ cI cZ bm pa p0 p1 p2 li wi (1) (ms.1, ms.2.1, 0, 0, 0, 0, 0, ms.2.2.2.2.2.2.2) ma mp mk mn ou) := hD
    refine lv_aload_n hx hb dX5_run_23 rfl (lv_at hl 0 rfl) ?_
    refine va_get (D := D) (ci := 5) (v := .int (nI 1)) (C := RX5) (T := TX5) (N := 28) hx hb hts (inT inX5) hown hK hP 42 rfl rfl 0 (by decide) (hts (.fieldLink RX5 81 "BoardMovesModel" "thrown" "I") (by decide +kernel)) (fun _ h9 => h9) rfl dX5_run_24 ?_
    refine bm_nz_ne (x := 1) (tgt := 37) hx hb (by decide) dX5_run_27 (by decide) (fun c_2 => ?_) (fun c_2 => ?_)
    · refine lv_iconst (v := nI 0) hx hb dX5_run_37 (by decide) ?_
      exact bm_iretW (v := (nI 0)) hx hb hr hP hD hK hS ⟨rfl, rfl⟩ dX5_run_38 hlocks
    · exact absurd c_2 (by decide)
  · refine lv_lload_n hx hb dX5_run_7 rfl (lv_at hl 1 rfl) ?_
    refine lv_ldc2 (v := 2000) hx hb hown (hts (.constantLong RX5 203 2000) (by decide +kernel)) dX5_run_8 ?_
    refine bm_lc_gt (x := zA) (y := 2000) (tgt := 19) hx hb dX5_run_11 dX5_run_12 (by decide) (fun c_3 => ?_) (fun c_3 => ?_)
    · refine lv_iconst (v := nI 1) hx hb dX5_run_19 (by decide) ?_
      refine va_put (D := D) (ci := 5) (v := .int (nI 1)) (ty := .int) (C := RX5) (T := TX5) (N := 28) hx hb hts (inT inX5) tyX5 tyX5_ok nmX5 hown hK hP hD hS 42 rfl rfl 0 (by decide) (hts (.fieldLink RX5 81 "BoardMovesModel" "thrown" "I") (by decide +kernel)) (fun _ h9 => h9) rfl (by decide +kernel) rfl rfl (Nat.le_of_ble_eq_true rfl) dX5_run_20 (fun H locs hP hD hS => ?_)
      have hP : va_P D vwCl (WW ad cJ cI cZ bm pa p0 p1 p2 li wi (1) (ms.1, ms.2.1, 0, 0, 0, 0, 0, ms.2.2.2.2.2.2.2) ma mp mk mn ou) H := hP
      have hD : va_D A (WW ad cJ cI cZ bm pa p0 p1 p2 li wi (1) (ms.1, ms.2.1, 0, 0, 0, 0, 0, ms.2.2.2.2.2.2.2) ma mp mk mn ou) := hD
      refine lv_aload_n hx hb dX5_run_23 rfl (lv_at hl 0 rfl) ?_
      refine va_get (D := D) (ci := 5) (v := .int (nI 1)) (C := RX5) (T := TX5) (N := 28) hx hb hts (inT inX5) hown hK hP 42 rfl rfl 0 (by decide) (hts (.fieldLink RX5 81 "BoardMovesModel" "thrown" "I") (by decide +kernel)) (fun _ h9 => h9) rfl dX5_run_24 ?_
      refine bm_nz_ne (x := 1) (tgt := 37) hx hb (by decide) dX5_run_27 (by decide) (fun c_4 => ?_) (fun c_4 => ?_)
      · refine lv_iconst (v := nI 0) hx hb dX5_run_37 (by decide) ?_
        exact bm_iretW (v := (nI 0)) hx hb hr hP hD hK hS ⟨rfl, rfl⟩ dX5_run_38 hlocks
      · exact absurd c_4 (by decide)
    · exact absurd hv (by simp [q_rn, c_1, c_3])

set_option maxHeartbeats 4000000 in
set_option maxRecDepth 100000 in
theorem m_wireOf {l : Launch} {D : va_G} {ad : Nat → Nat} {cJ cI cZ : ClassId} {bm : gBM} {pa : gPA} {p0 p1 p2 : gPL} {li : gLI} {wi : gWI} {mt : Nat} {ms : gMS} {ma : gMA} {mp : gMP} {mk : gMK} {mn : gMN} {ou : Nat → Int64}  : bm_Rd l yX5_wireOf wsX5_wireOf ({ frames := 0, cells := 0, slots := 0, locals := 0 }) D vwCl [(cJ, .long), (cI, .int), (cZ, .boolean)] (WW ad cJ cI cZ bm pa p0 p1 p2 li wi mt (ms.1, ms.2.1, 0, 0, 0, 0, 0, ms.2.2.2.2.2.2.2) ma mp mk mn ou) [.ref (ad 42), .int (nI 0)] (.long 0) := by
  refine Met.ofW (cc := cX5_wireOf) (maxL := 5) (ret := (some .long)) (by decide) rfl ?_
  intro p e s m args below meth c s₁ B hml hv
  obtain ⟨ha, hP, hK⟩ := hv
  have hx := B.exec
  have hb := B.bytes
  have hr := B.returns
  have hts := atoms_spec (ws := wsX5_wireOf) B.pre
  have hown : s.vm.findClass RX5 = some m.cls := findClass_of_methodNamed B.named
  have hlocks := B.notSynchronized
  have hl := lv_entry ([.ref (ad 42), .int (nI 0)]) (n := 5) (Nat.le_of_ble_eq_true rfl)
  refine W.eq (g2 := entryFrame m ([.ref (ad 42), .int (nI 0)] : List Value).toArray 5) (by rw [ha]) ?_
  rw [lg_entry_eq]
  generalize (lg_sl ([.ref (ad 42), .int (nI 0)]) ++ List.replicate (5 - (lg_sl ([.ref (ad 42), .int (nI 0)])).length) Slot.unset).toArray = ls at hl ⊢
  have hl : lv_has ls 5 [(0, .ref (ad 42)), (1, .int (nI 0))] := hl
  refine lv_lconst (v := 0) hx hb dX5_wireOf_0 (by decide) ?_
  refine lv_lstore_n (lv' := [(2, .long 0), (0, .ref (ad 42)), (1, .int (nI 0))]) hx hb dX5_wireOf_1 rfl hl (by decide) rfl (fun ls hl => ?_)
  refine lv_iconst (v := nI 0) hx hb dX5_wireOf_2 (by decide) ?_
  refine lv_istore (lv' := [(4, .int (nI 0)), (2, .long 0), (0, .ref (ad 42)), (1, .int (nI 0))]) hx hb dX5_wireOf_3 hl (by decide) rfl (fun ls hl => ?_)
  refine lv_iload hx hb dX5_wireOf_5 (lv_at hl 0 rfl) ?_
  refine lv_aload_n hx hb dX5_wireOf_7 rfl (lv_at hl 2 rfl) ?_
  refine va_get (D := D) (ci := 5) (v := .int (nI 0)) (C := RX5) (T := TX5) (N := 28) hx hb hts (inT inX5) hown hK hP 42 rfl rfl 20 (by decide) (hts (.fieldLink RX5 160 "BoardMovesModel" "nets" "I") (by decide +kernel)) (fun _ h9 => h9) rfl dX5_wireOf_8 ?_
  refine bm_ni_ge (x := 0) (y := 0) (tgt := 40) hx hb (by decide) (by decide) dX5_wireOf_11 (by decide) (fun c_1 => ?_) (fun c_1 => ?_)
  · refine lv_lload_n hx hb dX5_wireOf_40 rfl (lv_at hl 1 rfl) ?_
    exact bm_lretR (v := 0) hx hb hr rfl dX5_wireOf_41 hlocks
  · exact absurd c_1 (by decide)

set_option maxHeartbeats 4000000 in
set_option maxRecDepth 100000 in
theorem m_wire {l : Launch} {D : va_G} {ad : Nat → Nat} {cJ cI cZ : ClassId} {bm : gBM} {pa : gPA} {p0 p1 p2 : gPL} {li : gLI} {wi : gWI} {mt : Nat} {ms : gMS} {ma : gMA} {mp : gMP} {mk : gMK} {mn : gMN} {ou : Nat → Int64}  : bm_Wr l yX5_wire wsX5_wire ({ frames := 1, cells := 0, slots := 0, locals := 24 }) D vwCl [(cJ, .long), (cI, .int), (cZ, .boolean)] (WW ad cJ cI cZ bm pa p0 p1 p2 li wi mt (ms.1, ms.2.1, 0, 0, 0, 0, 0, ms.2.2.2.2.2.2.2) ma mp mk mn ou) [.ref (ad 42)] (WW ad cJ cI cZ bm pa p0 p1 p2 li wi (0) (ms.1, ms.2.1, 0, 0, 0, 0, 0, ms.2.2.2.2.2.2.2) ma mp mk mn ou) (some (.long 0)) := by
  intro sz
  refine Met.ofW (cc := cX5_wire) (maxL := 1) (ret := (some .long)) (by decide) rfl ?_
  intro p e s m args below meth c s₁ B hml hv
  obtain ⟨ha, hsz, hP, hK, hD0⟩ := hv
  have hx := B.exec
  have hb := B.bytes
  have hr := B.returns
  have hts := atoms_spec (ws := wsX5_wire) B.pre
  have hown : s.vm.findClass RX5 = some m.cls := findClass_of_methodNamed B.named
  have hlocks := B.notSynchronized
  subst hsz
  have hD := hD0.self (sz := s.heap.size)
  generalize hAe : va_A (WW ad cJ cI cZ bm pa p0 p1 p2 li wi mt (ms.1, ms.2.1, 0, 0, 0, 0, 0, ms.2.2.2.2.2.2.2) ma mp mk mn ou) s.heap.size = A at hD ⊢
  have hA : ∀ q : Nat, s.heap.size ≤ q → A q := fun q h => by rw [← hAe]; exact Or.inr h
  have hS : va_S A s.heap s.heap [] := va_S.rf
  have hl := lv_entry ([.ref (ad 42)]) (n := 1) (Nat.le_of_ble_eq_true rfl)
  refine W.eq (g2 := entryFrame m ([.ref (ad 42)] : List Value).toArray 1) (by rw [ha]) ?_
  rw [lg_entry_eq]
  generalize (lg_sl ([.ref (ad 42)]) ++ List.replicate (1 - (lg_sl ([.ref (ad 42)])).length) Slot.unset).toArray = ls at hl ⊢
  have hl : lv_has ls 1 [(0, .ref (ad 42))] := hl
  refine lv_aload_n hx hb dX5_wire_0 rfl (lv_at hl 0 rfl) ?_
  refine lv_iconst (v := nI 0) hx hb dX5_wire_1 (by decide) ?_
  refine va_put (D := D) (ci := 5) (v := .int (nI 0)) (ty := .int) (C := RX5) (T := TX5) (N := 28) hx hb hts (inT inX5) tyX5 tyX5_ok nmX5 hown hK hP hD hS 42 rfl rfl 0 (by decide) (hts (.fieldLink RX5 81 "BoardMovesModel" "thrown" "I") (by decide +kernel)) (fun _ h9 => h9) rfl (by decide +kernel) rfl rfl (Nat.le_of_ble_eq_true rfl) dX5_wire_2 (fun H locs hP hD hS => ?_)
  have hP : va_P D vwCl (WW ad cJ cI cZ bm pa p0 p1 p2 li wi (0) (ms.1, ms.2.1, 0, 0, 0, 0, 0, ms.2.2.2.2.2.2.2) ma mp mk mn ou) H := hP
  have hD : va_D A (WW ad cJ cI cZ bm pa p0 p1 p2 li wi (0) (ms.1, ms.2.1, 0, 0, 0, 0, 0, ms.2.2.2.2.2.2.2) ma mp mk mn ou) := hD
  refine lv_aload_n hx hb dX5_wire_5 rfl (lv_at hl 0 rfl) ?_
  refine lv_iconst (v := nI 0) hx hb dX5_wire_6 (by decide) ?_
  refine bm_rcallV (As := [.int (nI 0)]) (rest := []) ⟨hx, hb, hml, hown, hts⟩ (m_wireOf) (cwV 1 hts (gdV (by decide +kernel) (by decide +kernel) (by decide +kernel) (by decide +kernel) (by decide +kernel)) rfl rfl rfl (by decide +kernel) ⟨Nat.le_of_ble_eq_true rfl, Nat.le_of_ble_eq_true rfl⟩) hK hP 42 5 rfl rfl rfl hl.1 rfl (Nat.le_of_ble_eq_true rfl) dX5_wire_7 ⟨Nat.le_of_ble_eq_true rfl, Nat.le_of_ble_eq_true rfl⟩ ?_
  exact bm_lretW (v := 0) hx hb hr hP hD hK hS ⟨rfl, rfl⟩ dX5_wire_10 hlocks

set_option maxHeartbeats 4000000 in
set_option maxRecDepth 100000 in
theorem m_full {l : Launch} {D : va_G} {ad : Nat → Nat} {cJ cI cZ : ClassId} {bm : gBM} {pa : gPA} {p0 p1 p2 : gPL} {li : gLI} {wi : gWI} {mt : Nat} {ms : gMS} {ma : gMA} {mp : gMP} {mk : gMK} {mn : gMN} {ou : Nat → Int64}  : bm_Wr l yX5_full wsX5_full ({ frames := 1, cells := 0, slots := 0, locals := 24 }) D vwCl [(cJ, .long), (cI, .int), (cZ, .boolean)] (WW ad cJ cI cZ bm pa p0 p1 p2 li wi mt (ms.1, ms.2.1, 0, 0, 0, 0, 0, ms.2.2.2.2.2.2.2) ma mp mk mn ou) [.ref (ad 42)] (WW ad cJ cI cZ bm pa p0 p1 p2 li wi (0) (ms.1, ms.2.1, 0, 0, 0, 0, 0, ms.2.2.2.2.2.2.2) ma mp mk mn ou) (some (.long 0)) := by
  intro sz
  refine Met.ofW (cc := cX5_full) (maxL := 1) (ret := (some .long)) (by decide) rfl ?_
  intro p e s m args below meth c s₁ B hml hv
  obtain ⟨ha, hsz, hP, hK, hD0⟩ := hv
  have hx := B.exec
  have hb := B.bytes
  have hr := B.returns
  have hts := atoms_spec (ws := wsX5_full) B.pre
  have hown : s.vm.findClass RX5 = some m.cls := findClass_of_methodNamed B.named
  have hlocks := B.notSynchronized
  subst hsz
  have hD := hD0.self (sz := s.heap.size)
  generalize hAe : va_A (WW ad cJ cI cZ bm pa p0 p1 p2 li wi mt (ms.1, ms.2.1, 0, 0, 0, 0, 0, ms.2.2.2.2.2.2.2) ma mp mk mn ou) s.heap.size = A at hD ⊢
  have hA : ∀ q : Nat, s.heap.size ≤ q → A q := fun q h => by rw [← hAe]; exact Or.inr h
  have hS : va_S A s.heap s.heap [] := va_S.rf
  have hl := lv_entry ([.ref (ad 42)]) (n := 1) (Nat.le_of_ble_eq_true rfl)
  refine W.eq (g2 := entryFrame m ([.ref (ad 42)] : List Value).toArray 1) (by rw [ha]) ?_
  rw [lg_entry_eq]
  generalize (lg_sl ([.ref (ad 42)]) ++ List.replicate (1 - (lg_sl ([.ref (ad 42)])).length) Slot.unset).toArray = ls at hl ⊢
  have hl : lv_has ls 1 [(0, .ref (ad 42))] := hl
  refine lv_aload_n hx hb dX5_full_0 rfl (lv_at hl 0 rfl) ?_
  refine lv_iconst (v := nI 0) hx hb dX5_full_1 (by decide) ?_
  refine va_put (D := D) (ci := 5) (v := .int (nI 0)) (ty := .int) (C := RX5) (T := TX5) (N := 28) hx hb hts (inT inX5) tyX5 tyX5_ok nmX5 hown hK hP hD hS 42 rfl rfl 0 (by decide) (hts (.fieldLink RX5 81 "BoardMovesModel" "thrown" "I") (by decide +kernel)) (fun _ h9 => h9) rfl (by decide +kernel) rfl rfl (Nat.le_of_ble_eq_true rfl) dX5_full_2 (fun H locs hP hD hS => ?_)
  have hP : va_P D vwCl (WW ad cJ cI cZ bm pa p0 p1 p2 li wi (0) (ms.1, ms.2.1, 0, 0, 0, 0, 0, ms.2.2.2.2.2.2.2) ma mp mk mn ou) H := hP
  have hD : va_D A (WW ad cJ cI cZ bm pa p0 p1 p2 li wi (0) (ms.1, ms.2.1, 0, 0, 0, 0, 0, ms.2.2.2.2.2.2.2) ma mp mk mn ou) := hD
  refine lv_aload_n hx hb dX5_full_5 rfl (lv_at hl 0 rfl) ?_
  refine lv_iconst (v := nI 0) hx hb dX5_full_6 (by decide) ?_
  refine bm_rcallV (As := [.int (nI 0)]) (rest := []) ⟨hx, hb, hml, hown, hts⟩ (m_wireOf) (cwV 1 hts (gdV (by decide +kernel) (by decide +kernel) (by decide +kernel) (by decide +kernel) (by decide +kernel)) rfl rfl rfl (by decide +kernel) ⟨Nat.le_of_ble_eq_true rfl, Nat.le_of_ble_eq_true rfl⟩) hK hP 42 5 rfl rfl rfl hl.1 rfl (Nat.le_of_ble_eq_true rfl) dX5_full_7 ⟨Nat.le_of_ble_eq_true rfl, Nat.le_of_ble_eq_true rfl⟩ ?_
  exact bm_lretW (v := 0) hx hb hr hP hD hK hS ⟨rfl, rfl⟩ dX5_full_10 hlocks

set_option maxHeartbeats 4000000 in
set_option maxRecDepth 100000 in
theorem m_clear {l : Launch} {D : va_G} {ad : Nat → Nat} {cJ cI cZ : ClassId} {bm : gBM} {pa : gPA} {p0 p1 p2 : gPL} {li : gLI} {wi : gWI} {mt : Nat} {ms : gMS} {ma : gMA} {mp : gMP} {mk : gMK} {mn : gMN} {ou : Nat → Int64}  : bm_Wr l yX5_clear2 wsX5_clear2 ({ frames := 0, cells := 0, slots := 0, locals := 0 }) D vwCl [(cJ, .long), (cI, .int), (cZ, .boolean)] (WW ad cJ cI cZ bm pa p0 p1 p2 li wi mt (ms.1, ms.2.1, 0, 0, 0, 0, 0, ms.2.2.2.2.2.2.2) ma mp mk mn ou) [.ref (ad 42)] (WW ad cJ cI cZ bm pa p0 p1 p2 li wi (0) (ms.1, ms.2.1, 0, 0, 0, 0, 0, ms.2.2.2.2.2.2.2) ma mp mk mn ou) (some (.int (bm_b true))) := by
  intro sz
  refine Met.ofW (cc := cX5_clear2) (maxL := 1) (ret := (some .boolean)) (by decide) rfl ?_
  intro p e s m args below meth c s₁ B hml hv
  obtain ⟨ha, hsz, hP, hK, hD0⟩ := hv
  have hx := B.exec
  have hb := B.bytes
  have hr := B.returns
  have hts := atoms_spec (ws := wsX5_clear2) B.pre
  have hown : s.vm.findClass RX5 = some m.cls := findClass_of_methodNamed B.named
  have hlocks := B.notSynchronized
  subst hsz
  have hD := hD0.self (sz := s.heap.size)
  generalize hAe : va_A (WW ad cJ cI cZ bm pa p0 p1 p2 li wi mt (ms.1, ms.2.1, 0, 0, 0, 0, 0, ms.2.2.2.2.2.2.2) ma mp mk mn ou) s.heap.size = A at hD ⊢
  have hA : ∀ q : Nat, s.heap.size ≤ q → A q := fun q h => by rw [← hAe]; exact Or.inr h
  have hS : va_S A s.heap s.heap [] := va_S.rf
  have hl := lv_entry ([.ref (ad 42)]) (n := 1) (Nat.le_of_ble_eq_true rfl)
  refine W.eq (g2 := entryFrame m ([.ref (ad 42)] : List Value).toArray 1) (by rw [ha]) ?_
  rw [lg_entry_eq]
  generalize (lg_sl ([.ref (ad 42)]) ++ List.replicate (1 - (lg_sl ([.ref (ad 42)])).length) Slot.unset).toArray = ls at hl ⊢
  have hl : lv_has ls 1 [(0, .ref (ad 42))] := hl
  refine lv_aload_n hx hb dX5_clear2_0 rfl (lv_at hl 0 rfl) ?_
  refine lv_iconst (v := nI 0) hx hb dX5_clear2_1 (by decide) ?_
  refine va_put (D := D) (ci := 5) (v := .int (nI 0)) (ty := .int) (C := RX5) (T := TX5) (N := 28) hx hb hts (inT inX5) tyX5 tyX5_ok nmX5 hown hK hP hD hS 42 rfl rfl 0 (by decide) (hts (.fieldLink RX5 81 "BoardMovesModel" "thrown" "I") (by decide +kernel)) (fun _ h9 => h9) rfl (by decide +kernel) rfl rfl (Nat.le_of_ble_eq_true rfl) dX5_clear2_2 (fun H locs hP hD hS => ?_)
  have hP : va_P D vwCl (WW ad cJ cI cZ bm pa p0 p1 p2 li wi (0) (ms.1, ms.2.1, 0, 0, 0, 0, 0, ms.2.2.2.2.2.2.2) ma mp mk mn ou) H := hP
  have hD : va_D A (WW ad cJ cI cZ bm pa p0 p1 p2 li wi (0) (ms.1, ms.2.1, 0, 0, 0, 0, 0, ms.2.2.2.2.2.2.2) ma mp mk mn ou) := hD
  refine lv_iconst (v := bm_b true) hx hb dX5_clear2_5 (by decide) ?_
  exact bm_zretW (v := true) hx hb hr hP hD hK hS ⟨rfl, rfl⟩ dX5_clear2_6 hlocks
end
section
set_option maxHeartbeats 4000000 in
set_option maxRecDepth 100000 in
theorem m_isWell {l : Launch} {D : va_G} {ad : Nat → Nat} {cJ cI cZ : ClassId} {bm : gBM} {pa : gPA} {p0 p1 p2 : gPL} {li : gLI} {wi : gWI} {mt : Nat} {ms : gMS} {ma : gMA} {mp : gMP} {mk : gMK} {mn : gMN} {ou : Nat → Int64}  : bm_Rd l yX5_isWell wsX5_isWell ({ frames := 0, cells := 0, slots := 0, locals := 0 }) D vwCl [(cJ, .long), (cI, .int), (cZ, .boolean)] (WW ad cJ cI cZ bm pa p0 p1 p2 li wi mt (ms.1, ms.2.1, 0, 0 + 1, 0, 0, 0, ms.2.2.2.2.2.2.2) ma mp mk mn ou) [.ref (ad 42), .int (nI 0)] (.int (bm_b true)) := by
  refine Met.ofW (cc := cX5_isWell) (maxL := 4) (ret := (some .boolean)) (by decide) rfl ?_
  intro p e s m args below meth c s₁ B hml hv
  obtain ⟨ha, hP, hK⟩ := hv
  have hx := B.exec
  have hb := B.bytes
  have hr := B.returns
  have hts := atoms_spec (ws := wsX5_isWell) B.pre
  have hown : s.vm.findClass RX5 = some m.cls := findClass_of_methodNamed B.named
  have hlocks := B.notSynchronized
  have hl := lv_entry ([.ref (ad 42), .int (nI 0)]) (n := 4) (Nat.le_of_ble_eq_true rfl)
  refine W.eq (g2 := entryFrame m ([.ref (ad 42), .int (nI 0)] : List Value).toArray 4) (by rw [ha]) ?_
  rw [lg_entry_eq]
  generalize (lg_sl ([.ref (ad 42), .int (nI 0)]) ++ List.replicate (4 - (lg_sl ([.ref (ad 42), .int (nI 0)])).length) Slot.unset).toArray = ls at hl ⊢
  have hl : lv_has ls 4 [(0, .ref (ad 42)), (1, .int (nI 0))] := hl
  refine lv_iconst (v := nI 0) hx hb dX5_isWell_0 (by decide) ?_
  refine lv_istore_n (lv' := [(2, .int (nI 0)), (0, .ref (ad 42)), (1, .int (nI 0))]) hx hb dX5_isWell_1 rfl hl (by decide) rfl (fun ls hl => ?_)
  refine lv_iload_n hx hb dX5_isWell_2 rfl (lv_at hl 0 rfl) ?_
  refine lv_aload_n hx hb dX5_isWell_3 rfl (lv_at hl 1 rfl) ?_
  refine va_get (D := D) (ci := 5) (v := .int (nI 0)) (C := RX5) (T := TX5) (N := 28) hx hb hts (inT inX5) hown hK hP 42 rfl rfl 3 (by decide) (hts (.fieldLink RX5 85 "BoardMovesModel" "parts" "I") (by decide +kernel)) (fun _ h9 => h9) rfl dX5_isWell_4 ?_
  refine bm_ni_ge (x := 0) (y := 0) (tgt := 97) hx hb (by decide) (by decide) dX5_isWell_7 (by decide) (fun c_1 => ?_) (fun c_1 => ?_)
  · refine lv_iconst (v := bm_b true) hx hb dX5_isWell_97 (by decide) ?_
    refine lv_istore_n (lv' := [(2, .int (bm_b true)), (0, .ref (ad 42)), (1, .int (nI 0))]) hx hb dX5_isWell_98 rfl hl (by decide) rfl (fun ls hl => ?_)
    refine lv_iconst (v := nI 0) hx hb dX5_isWell_99 (by decide) ?_
    refine lv_istore_n (lv' := [(3, .int (nI 0)), (2, .int (bm_b true)), (0, .ref (ad 42)), (1, .int (nI 0))]) hx hb dX5_isWell_100 rfl hl (by decide) rfl (fun ls hl => ?_)
    refine lv_iload_n hx hb dX5_isWell_101 rfl (lv_at hl 0 rfl) ?_
    refine lv_aload_n hx hb dX5_isWell_102 rfl (lv_at hl 2 rfl) ?_
    refine va_get (D := D) (ci := 5) (v := .int (nI 0)) (C := RX5) (T := TX5) (N := 28) hx hb hts (inT inX5) hown hK hP 42 rfl rfl 16 (by decide) (hts (.fieldLink RX5 126 "BoardMovesModel" "nears" "I") (by decide +kernel)) (fun _ h9 => h9) rfl dX5_isWell_103 ?_
    refine bm_ni_ge (x := 0) (y := 0) (tgt := 134) hx hb (by decide) (by decide) dX5_isWell_106 (by decide) (fun c_2 => ?_) (fun c_2 => ?_)
    · refine lv_iload_n hx hb dX5_isWell_134 rfl (lv_at hl 1 rfl) ?_
      exact bm_zretR (v := true) hx hb hr rfl dX5_isWell_135 hlocks
    · exact absurd c_2 (by decide)
  · exact absurd c_1 (by decide)

set_option maxHeartbeats 4000000 in
set_option maxRecDepth 100000 in
theorem m_koX {l : Launch} {D : va_G} {ad : Nat → Nat} {cJ cI cZ : ClassId} {bm : gBM} {pa : gPA} {p0 p1 p2 : gPL} {li : gLI} {wi : gWI} {mt : Nat} {ms : gMS} {ma : gMA} {mp : gMP} {mk : gMK} {mn : gMN} {ou : Nat → Int64} {zA zB zC zD zE : Int64} (hv : zE < 0) : bm_Wr l yX5_keepOut wsX5_keepOut ({ frames := 0, cells := 0, slots := 0, locals := 0 }) D vwCl [(cJ, .long), (cI, .int), (cZ, .boolean)] (WW ad cJ cI cZ bm pa p0 p1 p2 li wi mt (ms.1, ms.2.1, 0, 0, 0, 0, 0, ms.2.2.2.2.2.2.2) ma mp mk mn ou) [.ref (ad 42), .long zA, .long zB, .long zC, .long zD, .long zE] (WW ad cJ cI cZ bm pa p0 p1 p2 li wi (1) (ms.1, ms.2.1, 0, 0, 0, 0, 0, ms.2.2.2.2.2.2.2) ma mp mk mn ou) (some (.int (bm_b false))) := by
  intro sz
  refine Met.ofW (cc := cX5_keepOut) (maxL := 12) (ret := (some .boolean)) (by decide) rfl ?_
  intro p e s m args below meth c s₁ B hml hv
  obtain ⟨ha, hsz, hP, hK, hD0⟩ := hv
  have hx := B.exec
  have hb := B.bytes
  have hr := B.returns
  have hts := atoms_spec (ws := wsX5_keepOut) B.pre
  have hown : s.vm.findClass RX5 = some m.cls := findClass_of_methodNamed B.named
  have hlocks := B.notSynchronized
  subst hsz
  have hD := hD0.self (sz := s.heap.size)
  generalize hAe : va_A (WW ad cJ cI cZ bm pa p0 p1 p2 li wi mt (ms.1, ms.2.1, 0, 0, 0, 0, 0, ms.2.2.2.2.2.2.2) ma mp mk mn ou) s.heap.size = A at hD ⊢
  have hA : ∀ q : Nat, s.heap.size ≤ q → A q := fun q h => by rw [← hAe]; exact Or.inr h
  have hS : va_S A s.heap s.heap [] := va_S.rf
  have hl := lv_entry ([.ref (ad 42), .long zA, .long zB, .long zC, .long zD, .long zE]) (n := 12) (Nat.le_of_ble_eq_true rfl)
  refine W.eq (g2 := entryFrame m ([.ref (ad 42), .long zA, .long zB, .long zC, .long zD, .long zE] : List Value).toArray 12) (by rw [ha]) ?_
  rw [lg_entry_eq]
  generalize (lg_sl ([.ref (ad 42), .long zA, .long zB, .long zC, .long zD, .long zE]) ++ List.replicate (12 - (lg_sl ([.ref (ad 42), .long zA, .long zB, .long zC, .long zD, .long zE])).length) Slot.unset).toArray = ls at hl ⊢
  have hl : lv_has ls 12 [(0, .ref (ad 42)), (1, .long zA), (3, .long zB), (5, .long zC), (7, .long zD), (9, .long zE)] := hl
  refine lv_aload_n hx hb dX5_keepOut_0 rfl (lv_at hl 0 rfl) ?_
  refine lv_lload hx hb dX5_keepOut_1 (lv_at hl 5 rfl) ?_
  refine lv_lconst (v := 0) hx hb dX5_keepOut_3 (by decide) ?_
  refine bm_lc_ge (x := zE) (y := 0) (tgt := 12) hx hb dX5_keepOut_4 dX5_keepOut_5 (by decide) (fun c_1 => ?_) (fun c_1 => ?_)
  · exact absurd hv c_1
  · refine lv_iconst (v := nI 1) hx hb dX5_keepOut_8 (by decide) ?_
    refine lv_goto (tgt := 13) hx hb dX5_keepOut_9 (by decide) ?_
    refine va_put (D := D) (ci := 5) (v := .int (nI 1)) (ty := .int) (C := RX5) (T := TX5) (N := 28) hx hb hts (inT inX5) tyX5 tyX5_ok nmX5 hown hK hP hD hS 42 rfl rfl 0 (by decide) (hts (.fieldLink RX5 81 "BoardMovesModel" "thrown" "I") (by decide +kernel)) (fun _ h9 => h9) rfl (by decide +kernel) rfl rfl (Nat.le_of_ble_eq_true rfl) dX5_keepOut_13 (fun H locs hP hD hS => ?_)
    have hP : va_P D vwCl (WW ad cJ cI cZ bm pa p0 p1 p2 li wi (1) (ms.1, ms.2.1, 0, 0, 0, 0, 0, ms.2.2.2.2.2.2.2) ma mp mk mn ou) H := hP
    have hD : va_D A (WW ad cJ cI cZ bm pa p0 p1 p2 li wi (1) (ms.1, ms.2.1, 0, 0, 0, 0, 0, ms.2.2.2.2.2.2.2) ma mp mk mn ou) := hD
    refine lv_aload_n hx hb dX5_keepOut_16 rfl (lv_at hl 0 rfl) ?_
    refine va_get (D := D) (ci := 5) (v := .int (nI 1)) (C := RX5) (T := TX5) (N := 28) hx hb hts (inT inX5) hown hK hP 42 rfl rfl 0 (by decide) (hts (.fieldLink RX5 81 "BoardMovesModel" "thrown" "I") (by decide +kernel)) (fun _ h9 => h9) rfl dX5_keepOut_17 ?_
    refine bm_nz_ne (x := 1) (tgt := 46) hx hb (by decide) dX5_keepOut_20 (by decide) (fun c_2 => ?_) (fun c_2 => ?_)
    · refine lv_iconst (v := bm_b false) hx hb dX5_keepOut_46 (by decide) ?_
      exact bm_zretW (v := false) hx hb hr hP hD hK hS ⟨rfl, rfl⟩ dX5_keepOut_47 hlocks
    · exact absurd c_2 (by decide)

set_option maxHeartbeats 4000000 in
set_option maxRecDepth 100000 in
theorem m_koN {l : Launch} {D : va_G} {ad : Nat → Nat} {cJ cI cZ : ClassId} {bm : gBM} {pa : gPA} {p0 p1 p2 : gPL} {li : gLI} {wi : gWI} {mt : Nat} {ms : gMS} {ma : gMA} {mp : gMP} {mk : gMK} {mn : gMN} {ou : Nat → Int64} {zA zB zC zD zE : Int64} (hv : ¬ zE < 0) (h1 : q_tr zA zB zC zD = true) : bm_Wr l yX5_keepOut wsX5_keepOut ({ frames := 0, cells := 0, slots := 0, locals := 0 }) D vwCl [(cJ, .long), (cI, .int), (cZ, .boolean)] (WW ad cJ cI cZ bm pa p0 p1 p2 li wi mt (ms.1, ms.2.1, 0, 0, 0, 0, 0, ms.2.2.2.2.2.2.2) ma mp mk mn ou) [.ref (ad 42), .long zA, .long zB, .long zC, .long zD, .long zE] (WW ad cJ cI cZ bm pa p0 p1 p2 li wi (0) (ms.1, ms.2.1, 0, 0, 0, 0, 0, ms.2.2.2.2.2.2.2) ma mp mk mn ou) (some (.int (bm_b false))) := by
  intro sz
  refine Met.ofW (cc := cX5_keepOut) (maxL := 12) (ret := (some .boolean)) (by decide) rfl ?_
  intro p e s m args below meth c s₁ B hml hv
  obtain ⟨ha, hsz, hP, hK, hD0⟩ := hv
  have hx := B.exec
  have hb := B.bytes
  have hr := B.returns
  have hts := atoms_spec (ws := wsX5_keepOut) B.pre
  have hown : s.vm.findClass RX5 = some m.cls := findClass_of_methodNamed B.named
  have hlocks := B.notSynchronized
  subst hsz
  have hD := hD0.self (sz := s.heap.size)
  generalize hAe : va_A (WW ad cJ cI cZ bm pa p0 p1 p2 li wi mt (ms.1, ms.2.1, 0, 0, 0, 0, 0, ms.2.2.2.2.2.2.2) ma mp mk mn ou) s.heap.size = A at hD ⊢
  have hA : ∀ q : Nat, s.heap.size ≤ q → A q := fun q h => by rw [← hAe]; exact Or.inr h
  have hS : va_S A s.heap s.heap [] := va_S.rf
  have hl := lv_entry ([.ref (ad 42), .long zA, .long zB, .long zC, .long zD, .long zE]) (n := 12) (Nat.le_of_ble_eq_true rfl)
  refine W.eq (g2 := entryFrame m ([.ref (ad 42), .long zA, .long zB, .long zC, .long zD, .long zE] : List Value).toArray 12) (by rw [ha]) ?_
  rw [lg_entry_eq]
  generalize (lg_sl ([.ref (ad 42), .long zA, .long zB, .long zC, .long zD, .long zE]) ++ List.replicate (12 - (lg_sl ([.ref (ad 42), .long zA, .long zB, .long zC, .long zD, .long zE])).length) Slot.unset).toArray = ls at hl ⊢
  have hl : lv_has ls 12 [(0, .ref (ad 42)), (1, .long zA), (3, .long zB), (5, .long zC), (7, .long zD), (9, .long zE)] := hl
  refine lv_aload_n hx hb dX5_keepOut_0 rfl (lv_at hl 0 rfl) ?_
  refine lv_lload hx hb dX5_keepOut_1 (lv_at hl 5 rfl) ?_
  refine lv_lconst (v := 0) hx hb dX5_keepOut_3 (by decide) ?_
  refine bm_lc_ge (x := zE) (y := 0) (tgt := 12) hx hb dX5_keepOut_4 dX5_keepOut_5 (by decide) (fun c_1 => ?_) (fun c_1 => ?_)
  · refine lv_iconst (v := nI 0) hx hb dX5_keepOut_12 (by decide) ?_
    refine va_put (D := D) (ci := 5) (v := .int (nI 0)) (ty := .int) (C := RX5) (T := TX5) (N := 28) hx hb hts (inT inX5) tyX5 tyX5_ok nmX5 hown hK hP hD hS 42 rfl rfl 0 (by decide) (hts (.fieldLink RX5 81 "BoardMovesModel" "thrown" "I") (by decide +kernel)) (fun _ h9 => h9) rfl (by decide +kernel) rfl rfl (Nat.le_of_ble_eq_true rfl) dX5_keepOut_13 (fun H locs hP hD hS => ?_)
    have hP : va_P D vwCl (WW ad cJ cI cZ bm pa p0 p1 p2 li wi (0) (ms.1, ms.2.1, 0, 0, 0, 0, 0, ms.2.2.2.2.2.2.2) ma mp mk mn ou) H := hP
    have hD : va_D A (WW ad cJ cI cZ bm pa p0 p1 p2 li wi (0) (ms.1, ms.2.1, 0, 0, 0, 0, 0, ms.2.2.2.2.2.2.2) ma mp mk mn ou) := hD
    refine lv_aload_n hx hb dX5_keepOut_16 rfl (lv_at hl 0 rfl) ?_
    refine va_get (D := D) (ci := 5) (v := .int (nI 0)) (C := RX5) (T := TX5) (N := 28) hx hb hts (inT inX5) hown hK hP 42 rfl rfl 0 (by decide) (hts (.fieldLink RX5 81 "BoardMovesModel" "thrown" "I") (by decide +kernel)) (fun _ h9 => h9) rfl dX5_keepOut_17 ?_
    refine bm_nz_ne (x := 0) (tgt := 46) hx hb (by decide) dX5_keepOut_20 (by decide) (fun c_2 => ?_) (fun c_2 => ?_)
    · exact absurd c_2 (by decide)
    · refine lv_aload_n hx hb dX5_keepOut_23 rfl (lv_at hl 0 rfl) ?_
      refine va_get (D := D) (ci := 5) (v := .int (nI 0)) (C := RX5) (T := TX5) (N := 28) hx hb hts (inT inX5) hown hK hP 42 rfl rfl 14 (by decide) (hts (.fieldLink RX5 109 "BoardMovesModel" "outs" "I") (by decide +kernel)) (fun _ h9 => h9) rfl dX5_keepOut_24 ?_
      refine lv_bipush (v := nI 10) hx hb dX5_keepOut_27 (by decide) ?_
      refine bm_ni_eq (x := 0) (y := 10) (tgt := 46) hx hb (by decide) (by decide) dX5_keepOut_29 (by decide) (fun c_3 => ?_) (fun c_3 => ?_)
      · exact absurd c_3 (by decide)
      · refine lv_lload_n hx hb dX5_keepOut_32 rfl (lv_at hl 1 rfl) ?_
        refine lv_lload hx hb dX5_keepOut_33 (lv_at hl 3 rfl) ?_
        refine bm_lc_ge (x := zA) (y := zC) (tgt := 46) hx hb dX5_keepOut_35 dX5_keepOut_36 (by decide) (fun c_4 => ?_) (fun c_4 => ?_)
        · refine lv_iconst (v := bm_b false) hx hb dX5_keepOut_46 (by decide) ?_
          exact bm_zretW (v := false) hx hb hr hP hD hK hS ⟨rfl, rfl⟩ dX5_keepOut_47 hlocks
        · refine lv_lload_n hx hb dX5_keepOut_39 rfl (lv_at hl 2 rfl) ?_
          refine lv_lload hx hb dX5_keepOut_40 (lv_at hl 4 rfl) ?_
          refine bm_lc_lt (x := zB) (y := zD) (tgt := 48) hx hb dX5_keepOut_42 dX5_keepOut_43 (by decide) (fun c_5 => ?_) (fun c_5 => ?_)
          · exact absurd h1 (by simp [q_tr, c_4, c_5])
          · refine lv_iconst (v := bm_b false) hx hb dX5_keepOut_46 (by decide) ?_
            exact bm_zretW (v := false) hx hb hr hP hD hK hS ⟨rfl, rfl⟩ dX5_keepOut_47 hlocks
  · exact absurd c_1 hv

set_option maxHeartbeats 4000000 in
set_option maxRecDepth 100000 in
theorem m_koY {l : Launch} {D : va_G} {ad : Nat → Nat} {cJ cI cZ : ClassId} {bm : gBM} {pa : gPA} {p0 p1 p2 : gPL} {li : gLI} {wi : gWI} {mt : Nat} {ms : gMS} {ma : gMA} {mp : gMP} {mk : gMK} {mn : gMN} {ou : Nat → Int64} {zA zB zC zD zE : Int64} (hv : ¬ zE < 0) (h1 : q_tr zA zB zC zD = false) : bm_Wr l yX5_keepOut wsX5_keepOut ({ frames := 1, cells := 0, slots := 0, locals := 23 }) D vwCl [(cJ, .long), (cI, .int), (cZ, .boolean)] (WW ad cJ cI cZ bm pa p0 p1 p2 li wi mt (ms.1, ms.2.1, 0, 0, 0, 0, 0, ms.2.2.2.2.2.2.2) ma mp mk mn ou) [.ref (ad 42), .long zA, .long zB, .long zC, .long zD, .long zE] (WW ad cJ cI cZ bm pa p0 p1 p2 li wi (0) (ms.1, ms.2.1, 0, 0 + 1, 0, 0, 0, ms.2.2.2.2.2.2.2) ma mp (va_up (va_up (va_up (va_up (va_up mk.1 (5 * 0) zA) ((5 * 0) + 1) zB) ((5 * 0) + 2) zC) ((5 * 0) + 3) zD) ((5 * 0) + 4) zE, mk.2.1, mk.2.2.1, mk.2.2.2) mn ou) (some (.int (bm_b true))) := by
  intro sz
  refine Met.ofW (cc := cX5_keepOut) (maxL := 12) (ret := (some .boolean)) (by decide) rfl ?_
  intro p e s m args below meth c s₁ B hml hv
  obtain ⟨ha, hsz, hP, hK, hD0⟩ := hv
  have hx := B.exec
  have hb := B.bytes
  have hr := B.returns
  have hts := atoms_spec (ws := wsX5_keepOut) B.pre
  have hown : s.vm.findClass RX5 = some m.cls := findClass_of_methodNamed B.named
  have hlocks := B.notSynchronized
  subst hsz
  have hD := hD0.self (sz := s.heap.size)
  generalize hAe : va_A (WW ad cJ cI cZ bm pa p0 p1 p2 li wi mt (ms.1, ms.2.1, 0, 0, 0, 0, 0, ms.2.2.2.2.2.2.2) ma mp mk mn ou) s.heap.size = A at hD ⊢
  have hA : ∀ q : Nat, s.heap.size ≤ q → A q := fun q h => by rw [← hAe]; exact Or.inr h
  have hS : va_S A s.heap s.heap [] := va_S.rf
  have hl := lv_entry ([.ref (ad 42), .long zA, .long zB, .long zC, .long zD, .long zE]) (n := 12) (Nat.le_of_ble_eq_true rfl)
  refine W.eq (g2 := entryFrame m ([.ref (ad 42), .long zA, .long zB, .long zC, .long zD, .long zE] : List Value).toArray 12) (by rw [ha]) ?_
  rw [lg_entry_eq]
  generalize (lg_sl ([.ref (ad 42), .long zA, .long zB, .long zC, .long zD, .long zE]) ++ List.replicate (12 - (lg_sl ([.ref (ad 42), .long zA, .long zB, .long zC, .long zD, .long zE])).length) Slot.unset).toArray = ls at hl ⊢
  have hl : lv_has ls 12 [(0, .ref (ad 42)), (1, .long zA), (3, .long zB), (5, .long zC), (7, .long zD), (9, .long zE)] := hl
  refine lv_aload_n hx hb dX5_keepOut_0 rfl (lv_at hl 0 rfl) ?_
  refine lv_lload hx hb dX5_keepOut_1 (lv_at hl 5 rfl) ?_
  refine lv_lconst (v := 0) hx hb dX5_keepOut_3 (by decide) ?_
  refine bm_lc_ge (x := zE) (y := 0) (tgt := 12) hx hb dX5_keepOut_4 dX5_keepOut_5 (by decide) (fun c_1 => ?_) (fun c_1 => ?_)
  · refine lv_iconst (v := nI 0) hx hb dX5_keepOut_12 (by decide) ?_
    refine va_put (D := D) (ci := 5) (v := .int (nI 0)) (ty := .int) (C := RX5) (T := TX5) (N := 28) hx hb hts (inT inX5) tyX5 tyX5_ok nmX5 hown hK hP hD hS 42 rfl rfl 0 (by decide) (hts (.fieldLink RX5 81 "BoardMovesModel" "thrown" "I") (by decide +kernel)) (fun _ h9 => h9) rfl (by decide +kernel) rfl rfl (Nat.le_of_ble_eq_true rfl) dX5_keepOut_13 (fun H locs hP hD hS => ?_)
    have hP : va_P D vwCl (WW ad cJ cI cZ bm pa p0 p1 p2 li wi (0) (ms.1, ms.2.1, 0, 0, 0, 0, 0, ms.2.2.2.2.2.2.2) ma mp mk mn ou) H := hP
    have hD : va_D A (WW ad cJ cI cZ bm pa p0 p1 p2 li wi (0) (ms.1, ms.2.1, 0, 0, 0, 0, 0, ms.2.2.2.2.2.2.2) ma mp mk mn ou) := hD
    refine lv_aload_n hx hb dX5_keepOut_16 rfl (lv_at hl 0 rfl) ?_
    refine va_get (D := D) (ci := 5) (v := .int (nI 0)) (C := RX5) (T := TX5) (N := 28) hx hb hts (inT inX5) hown hK hP 42 rfl rfl 0 (by decide) (hts (.fieldLink RX5 81 "BoardMovesModel" "thrown" "I") (by decide +kernel)) (fun _ h9 => h9) rfl dX5_keepOut_17 ?_
    refine bm_nz_ne (x := 0) (tgt := 46) hx hb (by decide) dX5_keepOut_20 (by decide) (fun c_2 => ?_) (fun c_2 => ?_)
    · exact absurd c_2 (by decide)
    · refine lv_aload_n hx hb dX5_keepOut_23 rfl (lv_at hl 0 rfl) ?_
      refine va_get (D := D) (ci := 5) (v := .int (nI 0)) (C := RX5) (T := TX5) (N := 28) hx hb hts (inT inX5) hown hK hP 42 rfl rfl 14 (by decide) (hts (.fieldLink RX5 109 "BoardMovesModel" "outs" "I") (by decide +kernel)) (fun _ h9 => h9) rfl dX5_keepOut_24 ?_
      refine lv_bipush (v := nI 10) hx hb dX5_keepOut_27 (by decide) ?_
      refine bm_ni_eq (x := 0) (y := 10) (tgt := 46) hx hb (by decide) (by decide) dX5_keepOut_29 (by decide) (fun c_3 => ?_) (fun c_3 => ?_)
      · exact absurd c_3 (by decide)
      · refine lv_lload_n hx hb dX5_keepOut_32 rfl (lv_at hl 1 rfl) ?_
        refine lv_lload hx hb dX5_keepOut_33 (lv_at hl 3 rfl) ?_
        refine bm_lc_ge (x := zA) (y := zC) (tgt := 46) hx hb dX5_keepOut_35 dX5_keepOut_36 (by decide) (fun c_4 => ?_) (fun c_4 => ?_)
        · exact absurd h1 (by simp [q_tr, c_4])
        · refine lv_lload_n hx hb dX5_keepOut_39 rfl (lv_at hl 2 rfl) ?_
          refine lv_lload hx hb dX5_keepOut_40 (lv_at hl 4 rfl) ?_
          refine bm_lc_lt (x := zB) (y := zD) (tgt := 48) hx hb dX5_keepOut_42 dX5_keepOut_43 (by decide) (fun c_5 => ?_) (fun c_5 => ?_)
          · refine lv_iconst (v := nI 5) hx hb dX5_keepOut_48 (by decide) ?_
            refine lv_aload_n hx hb dX5_keepOut_49 rfl (lv_at hl 0 rfl) ?_
            refine va_get (D := D) (ci := 5) (v := .int (nI 0)) (C := RX5) (T := TX5) (N := 28) hx hb hts (inT inX5) hown hK hP 42 rfl rfl 14 (by decide) (hts (.fieldLink RX5 109 "BoardMovesModel" "outs" "I") (by decide +kernel)) (fun _ h9 => h9) rfl dX5_keepOut_50 ?_
            refine bm_nmul hx hb dX5_keepOut_53 ?_
            refine lv_istore (lv' := [(11, .int (nI (5 * 0))), (0, .ref (ad 42)), (1, .long zA), (3, .long zB), (5, .long zC), (7, .long zD), (9, .long zE)]) hx hb dX5_keepOut_54 hl (by decide) rfl (fun ls hl => ?_)
            refine lv_aload_n hx hb dX5_keepOut_56 rfl (lv_at hl 1 rfl) ?_
            refine va_get (D := D) (ci := 5) (v := .ref (ad 53)) (C := RX5) (T := TX5) (N := 28) hx hb hts (inT inX5) hown hK hP 42 rfl rfl 15 (by decide) (hts (.fieldLink RX5 42 "BoardMovesModel" "out" "[J") (by decide +kernel)) (fun _ h9 => h9) rfl dX5_keepOut_57 ?_
            refine lv_iload hx hb dX5_keepOut_60 (lv_at hl 0 rfl) ?_
            refine lv_lload_n hx hb dX5_keepOut_62 rfl (lv_at hl 2 rfl) ?_
            refine bm_last (f := mk.1) hx hb hK hP hD hS 53 0 rfl rfl (j := (5 * 0)) (x := zA) (by omega) (by decide) dX5_keepOut_63 (fun H locs hP hD hS => ?_)
            have hP : va_P D vwCl (WW ad cJ cI cZ bm pa p0 p1 p2 li wi (0) (ms.1, ms.2.1, 0, 0, 0, 0, 0, ms.2.2.2.2.2.2.2) ma mp (va_up mk.1 (5 * 0) zA, mk.2.1, mk.2.2.1, mk.2.2.2) mn ou) H := hP
            have hD : va_D A (WW ad cJ cI cZ bm pa p0 p1 p2 li wi (0) (ms.1, ms.2.1, 0, 0, 0, 0, 0, ms.2.2.2.2.2.2.2) ma mp (va_up mk.1 (5 * 0) zA, mk.2.1, mk.2.2.1, mk.2.2.2) mn ou) := hD
            refine lv_aload_n hx hb dX5_keepOut_64 rfl (lv_at hl 1 rfl) ?_
            refine va_get (D := D) (ci := 5) (v := .ref (ad 53)) (C := RX5) (T := TX5) (N := 28) hx hb hts (inT inX5) hown hK hP 42 rfl rfl 15 (by decide) (hts (.fieldLink RX5 42 "BoardMovesModel" "out" "[J") (by decide +kernel)) (fun _ h9 => h9) rfl dX5_keepOut_65 ?_
            refine lv_iload hx hb dX5_keepOut_68 (lv_at hl 0 rfl) ?_
            refine lv_iconst (v := nI 1) hx hb dX5_keepOut_70 (by decide) ?_
            refine bm_nadd hx hb dX5_keepOut_71 ?_
            refine lv_lload_n hx hb dX5_keepOut_72 rfl (lv_at hl 3 rfl) ?_
            refine bm_last (f := (va_up mk.1 (5 * 0) zA)) hx hb hK hP hD hS 53 0 rfl rfl (j := ((5 * 0) + 1)) (x := zB) (by omega) (by decide) dX5_keepOut_73 (fun H locs hP hD hS => ?_)
            have hP : va_P D vwCl (WW ad cJ cI cZ bm pa p0 p1 p2 li wi (0) (ms.1, ms.2.1, 0, 0, 0, 0, 0, ms.2.2.2.2.2.2.2) ma mp (va_up (va_up mk.1 (5 * 0) zA) ((5 * 0) + 1) zB, mk.2.1, mk.2.2.1, mk.2.2.2) mn ou) H := hP
            have hD : va_D A (WW ad cJ cI cZ bm pa p0 p1 p2 li wi (0) (ms.1, ms.2.1, 0, 0, 0, 0, 0, ms.2.2.2.2.2.2.2) ma mp (va_up (va_up mk.1 (5 * 0) zA) ((5 * 0) + 1) zB, mk.2.1, mk.2.2.1, mk.2.2.2) mn ou) := hD
            refine lv_aload_n hx hb dX5_keepOut_74 rfl (lv_at hl 1 rfl) ?_
            refine va_get (D := D) (ci := 5) (v := .ref (ad 53)) (C := RX5) (T := TX5) (N := 28) hx hb hts (inT inX5) hown hK hP 42 rfl rfl 15 (by decide) (hts (.fieldLink RX5 42 "BoardMovesModel" "out" "[J") (by decide +kernel)) (fun _ h9 => h9) rfl dX5_keepOut_75 ?_
            refine lv_iload hx hb dX5_keepOut_78 (lv_at hl 0 rfl) ?_
            refine lv_iconst (v := nI 2) hx hb dX5_keepOut_80 (by decide) ?_
            refine bm_nadd hx hb dX5_keepOut_81 ?_
            refine lv_lload hx hb dX5_keepOut_82 (lv_at hl 4 rfl) ?_
            refine bm_last (f := (va_up (va_up mk.1 (5 * 0) zA) ((5 * 0) + 1) zB)) hx hb hK hP hD hS 53 0 rfl rfl (j := ((5 * 0) + 2)) (x := zC) (by omega) (by decide) dX5_keepOut_84 (fun H locs hP hD hS => ?_)
            have hP : va_P D vwCl (WW ad cJ cI cZ bm pa p0 p1 p2 li wi (0) (ms.1, ms.2.1, 0, 0, 0, 0, 0, ms.2.2.2.2.2.2.2) ma mp (va_up (va_up (va_up mk.1 (5 * 0) zA) ((5 * 0) + 1) zB) ((5 * 0) + 2) zC, mk.2.1, mk.2.2.1, mk.2.2.2) mn ou) H := hP
            have hD : va_D A (WW ad cJ cI cZ bm pa p0 p1 p2 li wi (0) (ms.1, ms.2.1, 0, 0, 0, 0, 0, ms.2.2.2.2.2.2.2) ma mp (va_up (va_up (va_up mk.1 (5 * 0) zA) ((5 * 0) + 1) zB) ((5 * 0) + 2) zC, mk.2.1, mk.2.2.1, mk.2.2.2) mn ou) := hD
            refine lv_aload_n hx hb dX5_keepOut_85 rfl (lv_at hl 1 rfl) ?_
            refine va_get (D := D) (ci := 5) (v := .ref (ad 53)) (C := RX5) (T := TX5) (N := 28) hx hb hts (inT inX5) hown hK hP 42 rfl rfl 15 (by decide) (hts (.fieldLink RX5 42 "BoardMovesModel" "out" "[J") (by decide +kernel)) (fun _ h9 => h9) rfl dX5_keepOut_86 ?_
            refine lv_iload hx hb dX5_keepOut_89 (lv_at hl 0 rfl) ?_
            refine lv_iconst (v := nI 3) hx hb dX5_keepOut_91 (by decide) ?_
            refine bm_nadd hx hb dX5_keepOut_92 ?_
            refine lv_lload hx hb dX5_keepOut_93 (lv_at hl 5 rfl) ?_
            refine bm_last (f := (va_up (va_up (va_up mk.1 (5 * 0) zA) ((5 * 0) + 1) zB) ((5 * 0) + 2) zC)) hx hb hK hP hD hS 53 0 rfl rfl (j := ((5 * 0) + 3)) (x := zD) (by omega) (by decide) dX5_keepOut_95 (fun H locs hP hD hS => ?_)
            have hP : va_P D vwCl (WW ad cJ cI cZ bm pa p0 p1 p2 li wi (0) (ms.1, ms.2.1, 0, 0, 0, 0, 0, ms.2.2.2.2.2.2.2) ma mp (va_up (va_up (va_up (va_up mk.1 (5 * 0) zA) ((5 * 0) + 1) zB) ((5 * 0) + 2) zC) ((5 * 0) + 3) zD, mk.2.1, mk.2.2.1, mk.2.2.2) mn ou) H := hP
            have hD : va_D A (WW ad cJ cI cZ bm pa p0 p1 p2 li wi (0) (ms.1, ms.2.1, 0, 0, 0, 0, 0, ms.2.2.2.2.2.2.2) ma mp (va_up (va_up (va_up (va_up mk.1 (5 * 0) zA) ((5 * 0) + 1) zB) ((5 * 0) + 2) zC) ((5 * 0) + 3) zD, mk.2.1, mk.2.2.1, mk.2.2.2) mn ou) := hD
            refine lv_aload_n hx hb dX5_keepOut_96 rfl (lv_at hl 1 rfl) ?_
            refine va_get (D := D) (ci := 5) (v := .ref (ad 53)) (C := RX5) (T := TX5) (N := 28) hx hb hts (inT inX5) hown hK hP 42 rfl rfl 15 (by decide) (hts (.fieldLink RX5 42 "BoardMovesModel" "out" "[J") (by decide +kernel)) (fun _ h9 => h9) rfl dX5_keepOut_97 ?_
            refine lv_iload hx hb dX5_keepOut_100 (lv_at hl 0 rfl) ?_
            refine lv_iconst (v := nI 4) hx hb dX5_keepOut_102 (by decide) ?_
            refine bm_nadd hx hb dX5_keepOut_103 ?_
            refine lv_lload hx hb dX5_keepOut_104 (lv_at hl 6 rfl) ?_
            refine bm_last (f := (va_up (va_up (va_up (va_up mk.1 (5 * 0) zA) ((5 * 0) + 1) zB) ((5 * 0) + 2) zC) ((5 * 0) + 3) zD)) hx hb hK hP hD hS 53 0 rfl rfl (j := ((5 * 0) + 4)) (x := zE) (by omega) (by decide) dX5_keepOut_106 (fun H locs hP hD hS => ?_)
            have hP : va_P D vwCl (WW ad cJ cI cZ bm pa p0 p1 p2 li wi (0) (ms.1, ms.2.1, 0, 0, 0, 0, 0, ms.2.2.2.2.2.2.2) ma mp (va_up (va_up (va_up (va_up (va_up mk.1 (5 * 0) zA) ((5 * 0) + 1) zB) ((5 * 0) + 2) zC) ((5 * 0) + 3) zD) ((5 * 0) + 4) zE, mk.2.1, mk.2.2.1, mk.2.2.2) mn ou) H := hP
            have hD : va_D A (WW ad cJ cI cZ bm pa p0 p1 p2 li wi (0) (ms.1, ms.2.1, 0, 0, 0, 0, 0, ms.2.2.2.2.2.2.2) ma mp (va_up (va_up (va_up (va_up (va_up mk.1 (5 * 0) zA) ((5 * 0) + 1) zB) ((5 * 0) + 2) zC) ((5 * 0) + 3) zD) ((5 * 0) + 4) zE, mk.2.1, mk.2.2.1, mk.2.2.2) mn ou) := hD
            refine lv_aload_n hx hb dX5_keepOut_107 rfl (lv_at hl 1 rfl) ?_
            refine lv_dup hx hb dX5_keepOut_108 rfl ?_
            refine va_get (D := D) (ci := 5) (v := .int (nI 0)) (C := RX5) (T := TX5) (N := 28) hx hb hts (inT inX5) hown hK hP 42 rfl rfl 14 (by decide) (hts (.fieldLink RX5 109 "BoardMovesModel" "outs" "I") (by decide +kernel)) (fun _ h9 => h9) rfl dX5_keepOut_109 ?_
            refine lv_iconst (v := nI 1) hx hb dX5_keepOut_112 (by decide) ?_
            refine bm_nadd hx hb dX5_keepOut_113 ?_
            refine va_put (D := D) (ci := 5) (v := .int (nI (0 + 1))) (ty := .int) (C := RX5) (T := TX5) (N := 28) hx hb hts (inT inX5) tyX5 tyX5_ok nmX5 hown hK hP hD hS 42 rfl rfl 14 (by decide) (hts (.fieldLink RX5 109 "BoardMovesModel" "outs" "I") (by decide +kernel)) (fun _ h9 => h9) rfl (by decide +kernel) rfl rfl (Nat.le_of_ble_eq_true rfl) dX5_keepOut_114 (fun H locs hP hD hS => ?_)
            have hP : va_P D vwCl (WW ad cJ cI cZ bm pa p0 p1 p2 li wi (0) (ms.1, ms.2.1, 0, 0 + 1, 0, 0, 0, ms.2.2.2.2.2.2.2) ma mp (va_up (va_up (va_up (va_up (va_up mk.1 (5 * 0) zA) ((5 * 0) + 1) zB) ((5 * 0) + 2) zC) ((5 * 0) + 3) zD) ((5 * 0) + 4) zE, mk.2.1, mk.2.2.1, mk.2.2.2) mn ou) H := hP
            have hD : va_D A (WW ad cJ cI cZ bm pa p0 p1 p2 li wi (0) (ms.1, ms.2.1, 0, 0 + 1, 0, 0, 0, ms.2.2.2.2.2.2.2) ma mp (va_up (va_up (va_up (va_up (va_up mk.1 (5 * 0) zA) ((5 * 0) + 1) zB) ((5 * 0) + 2) zC) ((5 * 0) + 3) zD) ((5 * 0) + 4) zE, mk.2.1, mk.2.2.1, mk.2.2.2) mn ou) := hD
            refine lv_aload_n hx hb dX5_keepOut_117 rfl (lv_at hl 1 rfl) ?_
            refine lv_iconst (v := nI 0) hx hb dX5_keepOut_118 (by decide) ?_
            refine bm_rcallV (As := [.int (nI 0)]) (rest := []) ⟨hx, hb, hml, hown, hts⟩ (m_isWell) (cwV 1 hts (gdV (by decide +kernel) (by decide +kernel) (by decide +kernel) (by decide +kernel) (by decide +kernel)) rfl rfl rfl (by decide +kernel) ⟨Nat.le_of_ble_eq_true rfl, Nat.le_of_ble_eq_true rfl⟩) hK hP 42 5 rfl rfl rfl hl.1 rfl (Nat.le_of_ble_eq_true rfl) dX5_keepOut_119 ⟨Nat.le_of_ble_eq_true rfl, Nat.le_of_ble_eq_true rfl⟩ ?_
            refine bm_zb_eq (x := true) (tgt := 127) hx hb dX5_keepOut_122 (by decide) (fun c_6 => ?_) (fun c_6 => ?_)
            · exact absurd c_6 (by decide)
            · refine lv_iconst (v := bm_b true) hx hb dX5_keepOut_125 (by decide) ?_
              exact bm_zretW (v := true) hx hb hr hP hD hK hS ⟨rfl, rfl⟩ dX5_keepOut_126 hlocks
          · exact absurd h1 (by simp [q_tr, c_5])
  · exact absurd c_1 hv
end
