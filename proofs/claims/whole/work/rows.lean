section
-- ===== PART A: goes FIRST, ahead of the names: the tables' words, and 'selects' of the private methods out of them =====
/-- a private method of a class that the tables say can be made, by its rows of tables_1 -/
def lw_okq (q : MethodName × Nat) : Prop := (q.1.cls ≠ "java/lang/invoke/MethodHandle" ∧ q.1.cls ≠ "java/lang/invoke/VarHandle") ∧ Cond.instantiable q.1.cls q.2 ∈ tables_1 ∧ Cond.privateMethod q.1 ∈ tables_1 ∧ Cond.instanceMethod q.1 ∈ tables_1
theorem lw_p0 : lw_okq (⟨"BoardMoves$Wiring", "turnedX", "(III)J"⟩, 12) := ⟨⟨by decide +kernel, by decide +kernel⟩, List.mem_of_getElem? (i := 108) (by decide +kernel), List.mem_of_getElem? (i := 240) (by decide +kernel), List.mem_of_getElem? (i := 241) (by decide +kernel)⟩
theorem lw_p1 : lw_okq (⟨"BoardMoves$Wiring", "turnedY", "(III)J"⟩, 12) := ⟨⟨by decide +kernel, by decide +kernel⟩, List.mem_of_getElem? (i := 108) (by decide +kernel), List.mem_of_getElem? (i := 244) (by decide +kernel), List.mem_of_getElem? (i := 245) (by decide +kernel)⟩
theorem lw_p2 : lw_okq (⟨"BoardMoves$Wiring", "reach", "(IJJ)V"⟩, 12) := ⟨⟨by decide +kernel, by decide +kernel⟩, List.mem_of_getElem? (i := 108) (by decide +kernel), List.mem_of_getElem? (i := 248) (by decide +kernel), List.mem_of_getElem? (i := 249) (by decide +kernel)⟩
theorem lw_p3 : lw_okq (⟨"BoardMoves", "allStandWell", "()Z"⟩, 10) := ⟨⟨by decide +kernel, by decide +kernel⟩, List.mem_of_getElem? (i := 15) (by decide +kernel), List.mem_of_getElem? (i := 258) (by decide +kernel), List.mem_of_getElem? (i := 259) (by decide +kernel)⟩
theorem lw_p4 : lw_okq (⟨"BoardMoves", "standsWell", "(I)Z"⟩, 10) := ⟨⟨by decide +kernel, by decide +kernel⟩, List.mem_of_getElem? (i := 15) (by decide +kernel), List.mem_of_getElem? (i := 262) (by decide +kernel), List.mem_of_getElem? (i := 263) (by decide +kernel)⟩
theorem lw_p5 : lw_okq (⟨"BoardMoves", "fitsBoard", "(IJJI)Z"⟩, 10) := ⟨⟨by decide +kernel, by decide +kernel⟩, List.mem_of_getElem? (i := 15) (by decide +kernel), List.mem_of_getElem? (i := 266) (by decide +kernel), List.mem_of_getElem? (i := 267) (by decide +kernel)⟩
theorem lw_p6 : lw_okq (⟨"java/lang/Throwable", "fillInStackTrace", "(I)Ljava/lang/Throwable;"⟩, 6) := ⟨⟨by decide +kernel, by decide +kernel⟩, List.mem_of_getElem? (i := 353) (by decide +kernel), List.mem_of_getElem? (i := 351) (by decide +kernel), List.mem_of_getElem? (i := 352) (by decide +kernel)⟩
theorem lw_p7 : lw_okq (⟨"BoardMoves", "needPart", "(I)V"⟩, 10) := ⟨⟨by decide +kernel, by decide +kernel⟩, List.mem_of_getElem? (i := 15) (by decide +kernel), List.mem_of_getElem? (i := 395) (by decide +kernel), List.mem_of_getElem? (i := 396) (by decide +kernel)⟩
theorem lw_p8 : lw_okq (⟨"BoardMoves", "keepChange", "(J)Z"⟩, 10) := ⟨⟨by decide +kernel, by decide +kernel⟩, List.mem_of_getElem? (i := 15) (by decide +kernel), List.mem_of_getElem? (i := 437) (by decide +kernel), List.mem_of_getElem? (i := 438) (by decide +kernel)⟩
theorem lw_p9 : lw_okq (⟨"BoardMoves", "takeBack", "()Z"⟩, 10) := ⟨⟨by decide +kernel, by decide +kernel⟩, List.mem_of_getElem? (i := 15) (by decide +kernel), List.mem_of_getElem? (i := 445) (by decide +kernel), List.mem_of_getElem? (i := 446) (by decide +kernel)⟩
theorem lw_p10 : lw_okq (⟨"BoardMoves", "clearTheWay", "(IZZ)Z"⟩, 10) := ⟨⟨by decide +kernel, by decide +kernel⟩, List.mem_of_getElem? (i := 15) (by decide +kernel), List.mem_of_getElem? (i := 496) (by decide +kernel), List.mem_of_getElem? (i := 497) (by decide +kernel)⟩
theorem lw_p11 : lw_okq (⟨"BoardMoves", "goesOn", "(IIIZZ)Z"⟩, 10) := ⟨⟨by decide +kernel, by decide +kernel⟩, List.mem_of_getElem? (i := 15) (by decide +kernel), List.mem_of_getElem? (i := 506) (by decide +kernel), List.mem_of_getElem? (i := 507) (by decide +kernel)⟩
theorem lw_p12 : lw_okq (⟨"BoardMoves", "countChanged", "(I)I"⟩, 10) := ⟨⟨by decide +kernel, by decide +kernel⟩, List.mem_of_getElem? (i := 15) (by decide +kernel), List.mem_of_getElem? (i := 514) (by decide +kernel), List.mem_of_getElem? (i := 515) (by decide +kernel)⟩
theorem lw_p13 : lw_okq (⟨"BoardMoves", "step", "(J)Z"⟩, 10) := ⟨⟨by decide +kernel, by decide +kernel⟩, List.mem_of_getElem? (i := 15) (by decide +kernel), List.mem_of_getElem? (i := 536) (by decide +kernel), List.mem_of_getElem? (i := 537) (by decide +kernel)⟩
theorem lw_p14 : lw_okq (⟨"BoardMoves", "draw", "()J"⟩, 10) := ⟨⟨by decide +kernel, by decide +kernel⟩, List.mem_of_getElem? (i := 15) (by decide +kernel), List.mem_of_getElem? (i := 540) (by decide +kernel), List.mem_of_getElem? (i := 541) (by decide +kernel)⟩
theorem lw_p15 : lw_okq (⟨"BoardMoves", "swapPlaces", "(II)V"⟩, 10) := ⟨⟨by decide +kernel, by decide +kernel⟩, List.mem_of_getElem? (i := 15) (by decide +kernel), List.mem_of_getElem? (i := 547) (by decide +kernel), List.mem_of_getElem? (i := 548) (by decide +kernel)⟩
def lw_privs_1 : List (MethodName × Nat) := [(⟨"BoardMoves$Wiring", "turnedX", "(III)J"⟩, 12), (⟨"BoardMoves$Wiring", "turnedY", "(III)J"⟩, 12), (⟨"BoardMoves$Wiring", "reach", "(IJJ)V"⟩, 12), (⟨"BoardMoves", "allStandWell", "()Z"⟩, 10), (⟨"BoardMoves", "standsWell", "(I)Z"⟩, 10), (⟨"BoardMoves", "fitsBoard", "(IJJI)Z"⟩, 10), (⟨"java/lang/Throwable", "fillInStackTrace", "(I)Ljava/lang/Throwable;"⟩, 6), (⟨"BoardMoves", "needPart", "(I)V"⟩, 10), (⟨"BoardMoves", "keepChange", "(J)Z"⟩, 10), (⟨"BoardMoves", "takeBack", "()Z"⟩, 10), (⟨"BoardMoves", "clearTheWay", "(IZZ)Z"⟩, 10), (⟨"BoardMoves", "goesOn", "(IIIZZ)Z"⟩, 10), (⟨"BoardMoves", "countChanged", "(I)I"⟩, 10), (⟨"BoardMoves", "step", "(J)Z"⟩, 10), (⟨"BoardMoves", "draw", "()J"⟩, 10), (⟨"BoardMoves", "swapPlaces", "(II)V"⟩, 10)]
theorem lw_r1 : ∀ q ∈ lw_privs_1, lw_okq q := List.forall_mem_cons.mpr ⟨lw_p0, List.forall_mem_cons.mpr ⟨lw_p1, List.forall_mem_cons.mpr ⟨lw_p2, List.forall_mem_cons.mpr ⟨lw_p3, List.forall_mem_cons.mpr ⟨lw_p4, List.forall_mem_cons.mpr ⟨lw_p5, List.forall_mem_cons.mpr ⟨lw_p6, List.forall_mem_cons.mpr ⟨lw_p7, List.forall_mem_cons.mpr ⟨lw_p8, List.forall_mem_cons.mpr ⟨lw_p9, List.forall_mem_cons.mpr ⟨lw_p10, List.forall_mem_cons.mpr ⟨lw_p11, List.forall_mem_cons.mpr ⟨lw_p12, List.forall_mem_cons.mpr ⟨lw_p13, List.forall_mem_cons.mpr ⟨lw_p14, List.forall_mem_cons.mpr ⟨lw_p15, fun _ h => absurd h List.not_mem_nil⟩⟩⟩⟩⟩⟩⟩⟩⟩⟩⟩⟩⟩⟩⟩⟩
theorem lw_p16 : lw_okq (⟨"BoardMoves", "turnAlone", "(II)V"⟩, 10) := ⟨⟨by decide +kernel, by decide +kernel⟩, List.mem_of_getElem? (i := 15) (by decide +kernel), List.mem_of_getElem? (i := 552) (by decide +kernel), List.mem_of_getElem? (i := 553) (by decide +kernel)⟩
theorem lw_p17 : lw_okq (⟨"BoardMovesModel", "isPart", "(I)Z"⟩, 28) := ⟨⟨by decide +kernel, by decide +kernel⟩, List.mem_of_getElem? (i := 614) (by decide +kernel), List.mem_of_getElem? (i := 721) (by decide +kernel), List.mem_of_getElem? (i := 722) (by decide +kernel)⟩
theorem lw_p18 : lw_okq (⟨"BoardMovesModel", "begin", "()V"⟩, 28) := ⟨⟨by decide +kernel, by decide +kernel⟩, List.mem_of_getElem? (i := 614) (by decide +kernel), List.mem_of_getElem? (i := 725) (by decide +kernel), List.mem_of_getElem? (i := 726) (by decide +kernel)⟩
theorem lw_p19 : lw_okq (⟨"BoardMovesModel", "copy", "(II)V"⟩, 28) := ⟨⟨by decide +kernel, by decide +kernel⟩, List.mem_of_getElem? (i := 614) (by decide +kernel), List.mem_of_getElem? (i := 729) (by decide +kernel), List.mem_of_getElem? (i := 730) (by decide +kernel)⟩
theorem lw_p20 : lw_okq (⟨"BoardMovesModel", "hasMate", "(I)Z"⟩, 28) := ⟨⟨by decide +kernel, by decide +kernel⟩, List.mem_of_getElem? (i := 614) (by decide +kernel), List.mem_of_getElem? (i := 733) (by decide +kernel), List.mem_of_getElem? (i := 734) (by decide +kernel)⟩
theorem lw_p21 : lw_okq (⟨"BoardMovesModel", "left", "(II)J"⟩, 28) := ⟨⟨by decide +kernel, by decide +kernel⟩, List.mem_of_getElem? (i := 614) (by decide +kernel), List.mem_of_getElem? (i := 737) (by decide +kernel), List.mem_of_getElem? (i := 738) (by decide +kernel)⟩
theorem lw_p22 : lw_okq (⟨"BoardMovesModel", "low", "(II)J"⟩, 28) := ⟨⟨by decide +kernel, by decide +kernel⟩, List.mem_of_getElem? (i := 614) (by decide +kernel), List.mem_of_getElem? (i := 741) (by decide +kernel), List.mem_of_getElem? (i := 742) (by decide +kernel)⟩
theorem lw_p23 : lw_okq (⟨"BoardMovesModel", "go", "(IJJ)V"⟩, 28) := ⟨⟨by decide +kernel, by decide +kernel⟩, List.mem_of_getElem? (i := 614) (by decide +kernel), List.mem_of_getElem? (i := 745) (by decide +kernel), List.mem_of_getElem? (i := 746) (by decide +kernel)⟩
theorem lw_p24 : lw_okq (⟨"BoardMovesModel", "movesLocked", "()Z"⟩, 28) := ⟨⟨by decide +kernel, by decide +kernel⟩, List.mem_of_getElem? (i := 614) (by decide +kernel), List.mem_of_getElem? (i := 749) (by decide +kernel), List.mem_of_getElem? (i := 750) (by decide +kernel)⟩
theorem lw_p25 : lw_okq (⟨"BoardMovesModel", "isSame", "(II)Z"⟩, 28) := ⟨⟨by decide +kernel, by decide +kernel⟩, List.mem_of_getElem? (i := 614) (by decide +kernel), List.mem_of_getElem? (i := 753) (by decide +kernel), List.mem_of_getElem? (i := 754) (by decide +kernel)⟩
theorem lw_p26 : lw_okq (⟨"BoardMovesModel", "isWell", "(I)Z"⟩, 28) := ⟨⟨by decide +kernel, by decide +kernel⟩, List.mem_of_getElem? (i := 614) (by decide +kernel), List.mem_of_getElem? (i := 757) (by decide +kernel), List.mem_of_getElem? (i := 758) (by decide +kernel)⟩
theorem lw_p27 : lw_okq (⟨"BoardMovesModel", "isOnBoard", "(II)Z"⟩, 28) := ⟨⟨by decide +kernel, by decide +kernel⟩, List.mem_of_getElem? (i := 614) (by decide +kernel), List.mem_of_getElem? (i := 761) (by decide +kernel), List.mem_of_getElem? (i := 762) (by decide +kernel)⟩
theorem lw_p28 : lw_okq (⟨"BoardMovesModel", "right", "(II)J"⟩, 28) := ⟨⟨by decide +kernel, by decide +kernel⟩, List.mem_of_getElem? (i := 614) (by decide +kernel), List.mem_of_getElem? (i := 765) (by decide +kernel), List.mem_of_getElem? (i := 766) (by decide +kernel)⟩
theorem lw_p29 : lw_okq (⟨"BoardMovesModel", "lies", "(II)Z"⟩, 28) := ⟨⟨by decide +kernel, by decide +kernel⟩, List.mem_of_getElem? (i := 614) (by decide +kernel), List.mem_of_getElem? (i := 769) (by decide +kernel), List.mem_of_getElem? (i := 770) (by decide +kernel)⟩
theorem lw_p30 : lw_okq (⟨"BoardMovesModel", "top", "(II)J"⟩, 28) := ⟨⟨by decide +kernel, by decide +kernel⟩, List.mem_of_getElem? (i := 614) (by decide +kernel), List.mem_of_getElem? (i := 773) (by decide +kernel), List.mem_of_getElem? (i := 774) (by decide +kernel)⟩
theorem lw_p31 : lw_okq (⟨"BoardMovesModel", "isKeptOut", "(II)Z"⟩, 28) := ⟨⟨by decide +kernel, by decide +kernel⟩, List.mem_of_getElem? (i := 614) (by decide +kernel), List.mem_of_getElem? (i := 777) (by decide +kernel), List.mem_of_getElem? (i := 778) (by decide +kernel)⟩
def lw_privs_2 : List (MethodName × Nat) := [(⟨"BoardMoves", "turnAlone", "(II)V"⟩, 10), (⟨"BoardMovesModel", "isPart", "(I)Z"⟩, 28), (⟨"BoardMovesModel", "begin", "()V"⟩, 28), (⟨"BoardMovesModel", "copy", "(II)V"⟩, 28), (⟨"BoardMovesModel", "hasMate", "(I)Z"⟩, 28), (⟨"BoardMovesModel", "left", "(II)J"⟩, 28), (⟨"BoardMovesModel", "low", "(II)J"⟩, 28), (⟨"BoardMovesModel", "go", "(IJJ)V"⟩, 28), (⟨"BoardMovesModel", "movesLocked", "()Z"⟩, 28), (⟨"BoardMovesModel", "isSame", "(II)Z"⟩, 28), (⟨"BoardMovesModel", "isWell", "(I)Z"⟩, 28), (⟨"BoardMovesModel", "isOnBoard", "(II)Z"⟩, 28), (⟨"BoardMovesModel", "right", "(II)J"⟩, 28), (⟨"BoardMovesModel", "lies", "(II)Z"⟩, 28), (⟨"BoardMovesModel", "top", "(II)J"⟩, 28), (⟨"BoardMovesModel", "isKeptOut", "(II)Z"⟩, 28)]
theorem lw_r2 : ∀ q ∈ lw_privs_2, lw_okq q := List.forall_mem_cons.mpr ⟨lw_p16, List.forall_mem_cons.mpr ⟨lw_p17, List.forall_mem_cons.mpr ⟨lw_p18, List.forall_mem_cons.mpr ⟨lw_p19, List.forall_mem_cons.mpr ⟨lw_p20, List.forall_mem_cons.mpr ⟨lw_p21, List.forall_mem_cons.mpr ⟨lw_p22, List.forall_mem_cons.mpr ⟨lw_p23, List.forall_mem_cons.mpr ⟨lw_p24, List.forall_mem_cons.mpr ⟨lw_p25, List.forall_mem_cons.mpr ⟨lw_p26, List.forall_mem_cons.mpr ⟨lw_p27, List.forall_mem_cons.mpr ⟨lw_p28, List.forall_mem_cons.mpr ⟨lw_p29, List.forall_mem_cons.mpr ⟨lw_p30, List.forall_mem_cons.mpr ⟨lw_p31, fun _ h => absurd h List.not_mem_nil⟩⟩⟩⟩⟩⟩⟩⟩⟩⟩⟩⟩⟩⟩⟩⟩
theorem lw_p32 : lw_okq (⟨"BoardMovesModel", "overlap", "(III)Z"⟩, 28) := ⟨⟨by decide +kernel, by decide +kernel⟩, List.mem_of_getElem? (i := 614) (by decide +kernel), List.mem_of_getElem? (i := 781) (by decide +kernel), List.mem_of_getElem? (i := 782) (by decide +kernel)⟩
theorem lw_p33 : lw_okq (⟨"BoardMovesModel", "isNear", "(II)Z"⟩, 28) := ⟨⟨by decide +kernel, by decide +kernel⟩, List.mem_of_getElem? (i := 614) (by decide +kernel), List.mem_of_getElem? (i := 785) (by decide +kernel), List.mem_of_getElem? (i := 786) (by decide +kernel)⟩
theorem lw_p34 : lw_okq (⟨"BoardMovesModel", "wireOf", "(I)J"⟩, 28) := ⟨⟨by decide +kernel, by decide +kernel⟩, List.mem_of_getElem? (i := 614) (by decide +kernel), List.mem_of_getElem? (i := 808) (by decide +kernel), List.mem_of_getElem? (i := 809) (by decide +kernel)⟩
theorem lw_p35 : lw_okq (⟨"BoardMovesModel", "reach", "(IIZ)J"⟩, 28) := ⟨⟨by decide +kernel, by decide +kernel⟩, List.mem_of_getElem? (i := 614) (by decide +kernel), List.mem_of_getElem? (i := 812) (by decide +kernel), List.mem_of_getElem? (i := 813) (by decide +kernel)⟩
theorem lw_p36 : lw_okq (⟨"BoardMovesModel", "pinAt", "(IIZ)J"⟩, 28) := ⟨⟨by decide +kernel, by decide +kernel⟩, List.mem_of_getElem? (i := 614) (by decide +kernel), List.mem_of_getElem? (i := 816) (by decide +kernel), List.mem_of_getElem? (i := 817) (by decide +kernel)⟩
theorem lw_p37 : lw_okq (⟨"BoardMovesModel", "shove", "(II)Z"⟩, 28) := ⟨⟨by decide +kernel, by decide +kernel⟩, List.mem_of_getElem? (i := 614) (by decide +kernel), List.mem_of_getElem? (i := 831) (by decide +kernel), List.mem_of_getElem? (i := 832) (by decide +kernel)⟩
theorem lw_p38 : lw_okq (⟨"BoardMovesModel", "firstOverlap", "()I"⟩, 28) := ⟨⟨by decide +kernel, by decide +kernel⟩, List.mem_of_getElem? (i := 614) (by decide +kernel), List.mem_of_getElem? (i := 835) (by decide +kernel), List.mem_of_getElem? (i := 836) (by decide +kernel)⟩
theorem lw_p39 : lw_okq (⟨"BoardMovesModel", "beginOn", "(II)J"⟩, 28) := ⟨⟨by decide +kernel, by decide +kernel⟩, List.mem_of_getElem? (i := 614) (by decide +kernel), List.mem_of_getElem? (i := 839) (by decide +kernel), List.mem_of_getElem? (i := 840) (by decide +kernel)⟩
theorem lw_p40 : lw_okq (⟨"BoardMovesModel", "goOn", "(III)V"⟩, 28) := ⟨⟨by decide +kernel, by decide +kernel⟩, List.mem_of_getElem? (i := 614) (by decide +kernel), List.mem_of_getElem? (i := 843) (by decide +kernel), List.mem_of_getElem? (i := 844) (by decide +kernel)⟩
theorem lw_p41 : lw_okq (⟨"BoardMovesModel", "draw", "()J"⟩, 28) := ⟨⟨by decide +kernel, by decide +kernel⟩, List.mem_of_getElem? (i := 614) (by decide +kernel), List.mem_of_getElem? (i := 864) (by decide +kernel), List.mem_of_getElem? (i := 865) (by decide +kernel)⟩
theorem lw_p42 : lw_okq (⟨"BoardMovesModel", "step", "(JJJJ)V"⟩, 28) := ⟨⟨by decide +kernel, by decide +kernel⟩, List.mem_of_getElem? (i := 614) (by decide +kernel), List.mem_of_getElem? (i := 870) (by decide +kernel), List.mem_of_getElem? (i := 871) (by decide +kernel)⟩
theorem lw_p43 : lw_okq (⟨"BoardMovesModel", "changes", "()Z"⟩, 28) := ⟨⟨by decide +kernel, by decide +kernel⟩, List.mem_of_getElem? (i := 614) (by decide +kernel), List.mem_of_getElem? (i := 877) (by decide +kernel), List.mem_of_getElem? (i := 878) (by decide +kernel)⟩
def lw_privs_3 : List (MethodName × Nat) := [(⟨"BoardMovesModel", "overlap", "(III)Z"⟩, 28), (⟨"BoardMovesModel", "isNear", "(II)Z"⟩, 28), (⟨"BoardMovesModel", "wireOf", "(I)J"⟩, 28), (⟨"BoardMovesModel", "reach", "(IIZ)J"⟩, 28), (⟨"BoardMovesModel", "pinAt", "(IIZ)J"⟩, 28), (⟨"BoardMovesModel", "shove", "(II)Z"⟩, 28), (⟨"BoardMovesModel", "firstOverlap", "()I"⟩, 28), (⟨"BoardMovesModel", "beginOn", "(II)J"⟩, 28), (⟨"BoardMovesModel", "goOn", "(III)V"⟩, 28), (⟨"BoardMovesModel", "draw", "()J"⟩, 28), (⟨"BoardMovesModel", "step", "(JJJJ)V"⟩, 28), (⟨"BoardMovesModel", "changes", "()Z"⟩, 28)]
theorem lw_r3 : ∀ q ∈ lw_privs_3, lw_okq q := List.forall_mem_cons.mpr ⟨lw_p32, List.forall_mem_cons.mpr ⟨lw_p33, List.forall_mem_cons.mpr ⟨lw_p34, List.forall_mem_cons.mpr ⟨lw_p35, List.forall_mem_cons.mpr ⟨lw_p36, List.forall_mem_cons.mpr ⟨lw_p37, List.forall_mem_cons.mpr ⟨lw_p38, List.forall_mem_cons.mpr ⟨lw_p39, List.forall_mem_cons.mpr ⟨lw_p40, List.forall_mem_cons.mpr ⟨lw_p41, List.forall_mem_cons.mpr ⟨lw_p42, List.forall_mem_cons.mpr ⟨lw_p43, fun _ h => absurd h List.not_mem_nil⟩⟩⟩⟩⟩⟩⟩⟩⟩⟩⟩⟩
def lw_privs : List (MethodName × Nat) := lw_privs_1 ++ (lw_privs_2 ++ (lw_privs_3))
def lw_tbl : List Cond := k2_sels lw_privs ++ tables_1
theorem lw_privs_ok : ∀ q ∈ lw_privs, lw_okq q := by
  show ∀ q ∈ lw_privs_1 ++ (lw_privs_2 ++ (lw_privs_3)), lw_okq q
  exact List.forall_mem_append.mpr ⟨lw_r1, List.forall_mem_append.mpr ⟨lw_r2, lw_r3⟩⟩
-- ===== end of PART A; then your names; then what follows =====
end
section
-- BM LAYER: wrappers of the kit's rows for worlds of long / Nat / Bool arrays, one uniform world, readers and writers
def bm_b (b : Bool) : Int32 := if b then 1 else 0
theorem bm_b_t : bm_b true = 1 := rfl
theorem bm_b_f : bm_b false = 0 := rfl
theorem bm_b_nar (b : Bool) : vp_nar .boolean (bm_b b) = bm_b b := by cases b <;> decide
theorem bm_b_narrow (b : Bool) : narrow .boolean (.int (bm_b b)) = .int (bm_b b) := by cases b <;> rfl
theorem bm_b_eq0 (b : Bool) : bm_b b = 0 ↔ b = false := by cases b <;> decide
theorem bm_b_inj (a b : Bool) : bm_b a = bm_b b ↔ a = b := by cases a <;> cases b <;> decide
theorem bm_upB (f : Nat → Bool) (k : Nat) (v : Bool) : upd (fun j => bm_b (f j)) k (bm_b v) = fun j => bm_b (va_up f k v j) := by
  funext j
  by_cases h : j = k
  · simp [upd, va_up, h]
  · simp [upd, va_up, h]
theorem bm_upN (f : Nat → Nat) (k : Nat) (v : Nat) : upd (fun j => nI (f j)) k (nI v) = fun j => nI (va_up f k v j) := by
  funext j
  by_cases h : j = k
  · simp [upd, va_up, h]
  · simp [upd, va_up, h]
theorem bm_upL (f : Nat → Int64) (k : Nat) (v : Int64) : vp_updL f k v = va_up f k v := rfl
theorem bm_cmp_lt {x y : Int64} : lg_cmp x y < 0 ↔ x < y := by
  unfold lg_cmp
  by_cases h1 : y < x
  · have : ¬ x < y := by rw [Int64.lt_iff_toInt_lt] at *; omega
    simp [h1, this]
  · by_cases h2 : x = y
    · subst h2; simp [h1]
    · have : x < y := by
        rw [Int64.lt_iff_toInt_lt] at *
        have h3 : x.toInt ≠ y.toInt := fun q => h2 (Int64.toInt_inj.mp q)
        omega
      simp [h1, h2, this]
theorem bm_cmp_gt {x y : Int64} : 0 < lg_cmp x y ↔ y < x := by
  unfold lg_cmp
  by_cases h1 : y < x
  · simp [h1]
  · by_cases h2 : x = y
    · subst h2; simp [h1]
    · simp [h1, h2]
theorem bm_cmp_eq {x y : Int64} : lg_cmp x y = 0 ↔ x = y := by
  unfold lg_cmp
  by_cases h1 : y < x
  · have : ¬ x = y := by intro q; subst q; rw [Int64.lt_iff_toInt_lt] at h1; omega
    simp [h1, this]
  · by_cases h2 : x = y
    · subst h2; simp [h1]
    · simp [h1, h2]
section BMK
variable {p : Program} {l : Launch} {e : Env} {R : Room} {s : State} {m : MethodId} {args : Array Value} {below : List Frame} {meth : Method} {c : Code} {H : Heap} {locs : List Loc} {cells slots : Nat} {Q : State → Prop}
variable {cc : ByteArray} {pc : Nat} {ls : Array Slot} {rest : List Value} {D : va_G} {cl : List vw_C} {A : Nat → Prop} {a : Nat} {tys : List (ClassId × FieldType)} {ws : va_W} {H0 : Heap}
theorem bm_lald (hexec : p.tables.exec = Jvm.exec) (hb : c.code = cc) (hK : va_K D cl tys s) (hP : va_P D cl ws H) (q0 t0 : Nat) {cA : ClassId} {n : Nat} {f : Nat → Int64} (ha : ws[q0]? = some (a, .inl (cA, n, .inr (.inl f)))) (ht : tys[t0]? = some (cA, .long)) {j : Nat} (hj : j < n) (hn : n < 2 ^ 31) (hdg : decode cc pc = .ok (.laload, 1))
    (kk : W p l e R s m args below meth c H locs cells slots Q (F0 m (pc + 1) ls (.long (f j) :: rest))) : W p l e R s m args below meth c H locs cells slots Q (F0 m pc ls (.int (nI j) :: .ref a :: rest)) := by
  refine va_lald hexec hb hK hP q0 t0 ha ht (vp_in_nI hj hn) hdg ?_
  rw [nI_clamp (Nat.lt_trans hj hn)]
  exact kk
theorem bm_nald (hexec : p.tables.exec = Jvm.exec) (hb : c.code = cc) (hK : va_K D cl tys s) (hP : va_P D cl ws H) (q0 t0 : Nat) {cA : ClassId} {n : Nat} {f : Nat → Nat} (ha : ws[q0]? = some (a, .inl (cA, n, .inl (fun j => nI (f j))))) (ht : tys[t0]? = some (cA, .int)) {j : Nat} (hj : j < n) (hn : n < 2 ^ 31) (hdg : decode cc pc = .ok (.iaload, 1))
    (kk : W p l e R s m args below meth c H locs cells slots Q (F0 m (pc + 1) ls (.int (nI (f j)) :: rest))) : W p l e R s m args below meth c H locs cells slots Q (F0 m pc ls (.int (nI j) :: .ref a :: rest)) := by
  refine va_iald hexec hb hK hP q0 t0 ha ht (vp_in_nI hj hn) hdg ?_
  rw [nI_clamp (Nat.lt_trans hj hn)]
  exact kk
theorem bm_zald (hexec : p.tables.exec = Jvm.exec) (hb : c.code = cc) (hK : va_K D cl tys s) (hP : va_P D cl ws H) (q0 t0 : Nat) {cA : ClassId} {n : Nat} {f : Nat → Bool} (ha : ws[q0]? = some (a, .inl (cA, n, .inl (fun j => bm_b (f j))))) (ht : tys[t0]? = some (cA, .boolean)) {j : Nat} (hj : j < n) (hn : n < 2 ^ 31) (hdg : decode cc pc = .ok (.baload, 1))
    (kk : W p l e R s m args below meth c H locs cells slots Q (F0 m (pc + 1) ls (.int (bm_b (f j)) :: rest))) : W p l e R s m args below meth c H locs cells slots Q (F0 m pc ls (.int (nI j) :: .ref a :: rest)) := by
  refine va_zald hexec hb hK hP q0 t0 ha ht (vp_in_nI hj hn) hdg ?_
  rw [nI_clamp (Nat.lt_trans hj hn)]
  exact kk
theorem bm_last (hexec : p.tables.exec = Jvm.exec) (hb : c.code = cc) (hK : va_K D cl tys s) (hP : va_P D cl ws H) (hD : va_D A ws) (hS : va_S A H0 H locs) (q0 t0 : Nat) {cA : ClassId} {n : Nat} {f : Nat → Int64} (ha : ws[q0]? = some (a, .inl (cA, n, .inr (.inl f)))) (ht : tys[t0]? = some (cA, .long)) {j : Nat} {x : Int64} (hj : j < n) (hn : n < 2 ^ 31) (hdg : decode cc pc = .ok (.lastore, 1))
    (kk : ∀ (H1 : Heap) (locs1 : List Loc), va_P D cl (ws.set q0 (a, .inl (cA, n, .inr (.inl (va_up f j x))))) H1 → va_D A (ws.set q0 (a, .inl (cA, n, .inr (.inl (va_up f j x))))) → va_S A H0 H1 locs1 → W p l e R s m args below meth c H1 locs1 cells slots Q (F0 m (pc + 1) ls rest)) : W p l e R s m args below meth c H locs cells slots Q (F0 m pc ls (.long x :: .int (nI j) :: .ref a :: rest)) := by
  refine va_last hexec hb hK hP hD hS q0 t0 ha ht (vp_in_nI hj hn) hdg ?_
  rw [nI_clamp (Nat.lt_trans hj hn)]
  exact kk
theorem bm_nast (hexec : p.tables.exec = Jvm.exec) (hb : c.code = cc) (hK : va_K D cl tys s) (hP : va_P D cl ws H) (hD : va_D A ws) (hS : va_S A H0 H locs) (q0 t0 : Nat) {cA : ClassId} {n : Nat} {f : Nat → Nat} (ha : ws[q0]? = some (a, .inl (cA, n, .inl (fun j => nI (f j))))) (ht : tys[t0]? = some (cA, .int)) {j : Nat} {x : Nat} (hj : j < n) (hn : n < 2 ^ 31) (hdg : decode cc pc = .ok (.iastore, 1))
    (kk : ∀ (H1 : Heap) (locs1 : List Loc), va_P D cl (ws.set q0 (a, .inl (cA, n, .inl (fun i => nI (va_up f j x i))))) H1 → va_D A (ws.set q0 (a, .inl (cA, n, .inl (fun i => nI (va_up f j x i))))) → va_S A H0 H1 locs1 → W p l e R s m args below meth c H1 locs1 cells slots Q (F0 m (pc + 1) ls rest)) : W p l e R s m args below meth c H locs cells slots Q (F0 m pc ls (.int (nI x) :: .int (nI j) :: .ref a :: rest)) := by
  refine va_iast hexec hb hK hP hD hS q0 t0 ha ht (vp_in_nI hj hn) hdg ?_
  rw [nI_clamp (Nat.lt_trans hj hn), bm_upN]
  exact kk
theorem bm_zast (hexec : p.tables.exec = Jvm.exec) (hb : c.code = cc) (hK : va_K D cl tys s) (hP : va_P D cl ws H) (hD : va_D A ws) (hS : va_S A H0 H locs) (q0 t0 : Nat) {cA : ClassId} {n : Nat} {f : Nat → Bool} (ha : ws[q0]? = some (a, .inl (cA, n, .inl (fun j => bm_b (f j))))) (ht : tys[t0]? = some (cA, .boolean)) {j : Nat} {x : Bool} (hj : j < n) (hn : n < 2 ^ 31) (hdg : decode cc pc = .ok (.bastore, 1))
    (kk : ∀ (H1 : Heap) (locs1 : List Loc), va_P D cl (ws.set q0 (a, .inl (cA, n, .inl (fun i => bm_b (va_up f j x i))))) H1 → va_D A (ws.set q0 (a, .inl (cA, n, .inl (fun i => bm_b (va_up f j x i))))) → va_S A H0 H1 locs1 → W p l e R s m args below meth c H1 locs1 cells slots Q (F0 m (pc + 1) ls rest)) : W p l e R s m args below meth c H locs cells slots Q (F0 m pc ls (.int (bm_b x) :: .int (nI j) :: .ref a :: rest)) := by
  refine va_zast hexec hb hK hP hD hS q0 t0 ha ht (vp_in_nI hj hn) hdg ?_
  rw [nI_clamp (Nat.lt_trans hj hn), bm_b_nar, bm_upB]
  exact kk
theorem bm_lc_eq (hexec : p.tables.exec = Jvm.exec) (hb : c.code = cc) {x y : Int64} {off : Int} {tgt : Nat} (hd1 : decode cc pc = .ok (.lcmp, 1)) (hdg : decode cc (pc + 1) = .ok (.ifCond .eq off, 3)) (ht : ((pc + 1 : Nat) : Int) + off = (tgt : Int))
    (kt : x = y → W p l e R s m args below meth c H locs cells slots Q (F0 m tgt ls rest)) (kf : ¬ x = y → W p l e R s m args below meth c H locs cells slots Q (F0 m (pc + 1 + 3) ls rest)) : W p l e R s m args below meth c H locs cells slots Q (F0 m pc ls (.long y :: .long x :: rest)) :=
  W.lcmp hexec hb hd1 (lv_if_eq hexec hb hdg ht (fun h => kt (bm_cmp_eq.mp h)) (fun h => kf (fun q => h (bm_cmp_eq.mpr q))))
theorem bm_lc_ne (hexec : p.tables.exec = Jvm.exec) (hb : c.code = cc) {x y : Int64} {off : Int} {tgt : Nat} (hd1 : decode cc pc = .ok (.lcmp, 1)) (hdg : decode cc (pc + 1) = .ok (.ifCond .ne off, 3)) (ht : ((pc + 1 : Nat) : Int) + off = (tgt : Int))
    (kt : ¬ x = y → W p l e R s m args below meth c H locs cells slots Q (F0 m tgt ls rest)) (kf : x = y → W p l e R s m args below meth c H locs cells slots Q (F0 m (pc + 1 + 3) ls rest)) : W p l e R s m args below meth c H locs cells slots Q (F0 m pc ls (.long y :: .long x :: rest)) :=
  W.lcmp hexec hb hd1 (lv_if_ne hexec hb hdg ht (fun h => kt (fun q => h (bm_cmp_eq.mpr q))) (fun h => kf (bm_cmp_eq.mp h)))
theorem bm_lc_lt (hexec : p.tables.exec = Jvm.exec) (hb : c.code = cc) {x y : Int64} {off : Int} {tgt : Nat} (hd1 : decode cc pc = .ok (.lcmp, 1)) (hdg : decode cc (pc + 1) = .ok (.ifCond .lt off, 3)) (ht : ((pc + 1 : Nat) : Int) + off = (tgt : Int))
    (kt : x < y → W p l e R s m args below meth c H locs cells slots Q (F0 m tgt ls rest)) (kf : ¬ x < y → W p l e R s m args below meth c H locs cells slots Q (F0 m (pc + 1 + 3) ls rest)) : W p l e R s m args below meth c H locs cells slots Q (F0 m pc ls (.long y :: .long x :: rest)) :=
  W.lcmp hexec hb hd1 (lv_if_lt hexec hb hdg ht (fun h => kt (bm_cmp_lt.mp h)) (fun h => kf (fun q => h (bm_cmp_lt.mpr q))))
theorem bm_i_ge {x : Int32} (h : 0 ≤ x) : ¬ x < 0 := by rw [Int32.lt_iff_toInt_lt]; rw [Int32.le_iff_toInt_le] at h; omega
theorem bm_i_nge {x : Int32} (h : ¬ 0 ≤ x) : x < 0 := by rw [Int32.lt_iff_toInt_lt]; rw [Int32.le_iff_toInt_le] at h; omega
theorem bm_i_le {x : Int32} (h : x ≤ 0) : ¬ 0 < x := by rw [Int32.lt_iff_toInt_lt]; rw [Int32.le_iff_toInt_le] at h; omega
theorem bm_i_nle {x : Int32} (h : ¬ x ≤ 0) : 0 < x := by rw [Int32.lt_iff_toInt_lt]; rw [Int32.le_iff_toInt_le] at h; omega
theorem bm_lc_ge (hexec : p.tables.exec = Jvm.exec) (hb : c.code = cc) {x y : Int64} {off : Int} {tgt : Nat} (hd1 : decode cc pc = .ok (.lcmp, 1)) (hdg : decode cc (pc + 1) = .ok (.ifCond .ge off, 3)) (ht : ((pc + 1 : Nat) : Int) + off = (tgt : Int))
    (kt : ¬ x < y → W p l e R s m args below meth c H locs cells slots Q (F0 m tgt ls rest)) (kf : x < y → W p l e R s m args below meth c H locs cells slots Q (F0 m (pc + 1 + 3) ls rest)) : W p l e R s m args below meth c H locs cells slots Q (F0 m pc ls (.long y :: .long x :: rest)) :=
  W.lcmp hexec hb hd1 (lv_if_ge hexec hb hdg ht (fun h => kt (fun q => bm_i_ge h (bm_cmp_lt.mpr q))) (fun h => kf (bm_cmp_lt.mp (bm_i_nge h))))
theorem bm_lc_gt (hexec : p.tables.exec = Jvm.exec) (hb : c.code = cc) {x y : Int64} {off : Int} {tgt : Nat} (hd1 : decode cc pc = .ok (.lcmp, 1)) (hdg : decode cc (pc + 1) = .ok (.ifCond .gt off, 3)) (ht : ((pc + 1 : Nat) : Int) + off = (tgt : Int))
    (kt : y < x → W p l e R s m args below meth c H locs cells slots Q (F0 m tgt ls rest)) (kf : ¬ y < x → W p l e R s m args below meth c H locs cells slots Q (F0 m (pc + 1 + 3) ls rest)) : W p l e R s m args below meth c H locs cells slots Q (F0 m pc ls (.long y :: .long x :: rest)) :=
  W.lcmp hexec hb hd1 (lv_if_gt hexec hb hdg ht (fun h => kt (bm_cmp_gt.mp h)) (fun h => kf (fun q => h (bm_cmp_gt.mpr q))))
theorem bm_lc_le (hexec : p.tables.exec = Jvm.exec) (hb : c.code = cc) {x y : Int64} {off : Int} {tgt : Nat} (hd1 : decode cc pc = .ok (.lcmp, 1)) (hdg : decode cc (pc + 1) = .ok (.ifCond .le off, 3)) (ht : ((pc + 1 : Nat) : Int) + off = (tgt : Int))
    (kt : ¬ y < x → W p l e R s m args below meth c H locs cells slots Q (F0 m tgt ls rest)) (kf : y < x → W p l e R s m args below meth c H locs cells slots Q (F0 m (pc + 1 + 3) ls rest)) : W p l e R s m args below meth c H locs cells slots Q (F0 m pc ls (.long y :: .long x :: rest)) :=
  W.lcmp hexec hb hd1 (lv_if_le hexec hb hdg ht (fun h => kt (fun q => bm_i_le h (bm_cmp_gt.mpr q))) (fun h => kf (bm_cmp_gt.mp (bm_i_nle h))))
-- branches on a boolean
theorem bm_zb_eq (hexec : p.tables.exec = Jvm.exec) (hb : c.code = cc) {x : Bool} {off : Int} {tgt : Nat} (hdg : decode cc pc = .ok (.ifCond .eq off, 3)) (ht : (pc : Int) + off = (tgt : Int))
    (kt : x = false → W p l e R s m args below meth c H locs cells slots Q (F0 m tgt ls rest)) (kf : x = true → W p l e R s m args below meth c H locs cells slots Q (F0 m (pc + 3) ls rest)) : W p l e R s m args below meth c H locs cells slots Q (F0 m pc ls (.int (bm_b x) :: rest)) :=
  lv_if_eq hexec hb hdg ht (fun h => kt ((bm_b_eq0 x).mp h)) (fun h => kf (by cases x; exact absurd rfl h; rfl))
theorem bm_zb_ne (hexec : p.tables.exec = Jvm.exec) (hb : c.code = cc) {x : Bool} {off : Int} {tgt : Nat} (hdg : decode cc pc = .ok (.ifCond .ne off, 3)) (ht : (pc : Int) + off = (tgt : Int))
    (kt : x = true → W p l e R s m args below meth c H locs cells slots Q (F0 m tgt ls rest)) (kf : x = false → W p l e R s m args below meth c H locs cells slots Q (F0 m (pc + 3) ls rest)) : W p l e R s m args below meth c H locs cells slots Q (F0 m pc ls (.int (bm_b x) :: rest)) :=
  lv_if_ne hexec hb hdg ht (fun h => kt (by cases x; exact absurd rfl h; rfl)) (fun h => kf ((bm_b_eq0 x).mp h))
-- branches on small numbers
theorem bm_ni_eq (hexec : p.tables.exec = Jvm.exec) (hb : c.code = cc) {x y : Nat} (hx : x < 2 ^ 31) (hy : y < 2 ^ 31) {off : Int} {tgt : Nat} (hdg : decode cc pc = .ok (.if_icmp .eq off, 3)) (ht : (pc : Int) + off = (tgt : Int))
    (kt : x = y → W p l e R s m args below meth c H locs cells slots Q (F0 m tgt ls rest)) (kf : ¬ x = y → W p l e R s m args below meth c H locs cells slots Q (F0 m (pc + 3) ls rest)) : W p l e R s m args below meth c H locs cells slots Q (F0 m pc ls (.int (nI y) :: .int (nI x) :: rest)) :=
  lv_icmp_eq hexec hb hdg ht (fun h => kt ((nI_eq hx hy).mp h)) (fun h => kf (fun q => h ((nI_eq hx hy).mpr q)))
theorem bm_ni_ne (hexec : p.tables.exec = Jvm.exec) (hb : c.code = cc) {x y : Nat} (hx : x < 2 ^ 31) (hy : y < 2 ^ 31) {off : Int} {tgt : Nat} (hdg : decode cc pc = .ok (.if_icmp .ne off, 3)) (ht : (pc : Int) + off = (tgt : Int))
    (kt : ¬ x = y → W p l e R s m args below meth c H locs cells slots Q (F0 m tgt ls rest)) (kf : x = y → W p l e R s m args below meth c H locs cells slots Q (F0 m (pc + 3) ls rest)) : W p l e R s m args below meth c H locs cells slots Q (F0 m pc ls (.int (nI y) :: .int (nI x) :: rest)) :=
  lv_icmp_ne hexec hb hdg ht (fun h => kt (fun q => h ((nI_eq hx hy).mpr q))) (fun h => kf ((nI_eq hx hy).mp h))
theorem bm_ni_ge (hexec : p.tables.exec = Jvm.exec) (hb : c.code = cc) {x y : Nat} (hx : x < 2 ^ 31) (hy : y < 2 ^ 31) {off : Int} {tgt : Nat} (hdg : decode cc pc = .ok (.if_icmp .ge off, 3)) (ht : (pc : Int) + off = (tgt : Int))
    (kt : ¬ x < y → W p l e R s m args below meth c H locs cells slots Q (F0 m tgt ls rest)) (kf : x < y → W p l e R s m args below meth c H locs cells slots Q (F0 m (pc + 3) ls rest)) : W p l e R s m args below meth c H locs cells slots Q (F0 m pc ls (.int (nI y) :: .int (nI x) :: rest)) :=
  lv_icmp_ge hexec hb hdg ht (fun h => kt (Nat.not_lt.mpr ((nI_leI hy hx).mp h))) (fun h => kf (Nat.not_le.mp (fun q => h ((nI_leI hy hx).mpr q))))
theorem bm_ni_lt (hexec : p.tables.exec = Jvm.exec) (hb : c.code = cc) {x y : Nat} (hx : x < 2 ^ 31) (hy : y < 2 ^ 31) {off : Int} {tgt : Nat} (hdg : decode cc pc = .ok (.if_icmp .lt off, 3)) (ht : (pc : Int) + off = (tgt : Int))
    (kt : x < y → W p l e R s m args below meth c H locs cells slots Q (F0 m tgt ls rest)) (kf : ¬ x < y → W p l e R s m args below meth c H locs cells slots Q (F0 m (pc + 3) ls rest)) : W p l e R s m args below meth c H locs cells slots Q (F0 m pc ls (.int (nI y) :: .int (nI x) :: rest)) :=
  lv_icmp_lt hexec hb hdg ht (fun h => kt ((nI_ltI hx hy).mp h)) (fun h => kf (fun q => h ((nI_ltI hx hy).mpr q)))
theorem bm_nz_eq (hexec : p.tables.exec = Jvm.exec) (hb : c.code = cc) {x : Nat} (hx : x < 2 ^ 31) {off : Int} {tgt : Nat} (hdg : decode cc pc = .ok (.ifCond .eq off, 3)) (ht : (pc : Int) + off = (tgt : Int))
    (kt : x = 0 → W p l e R s m args below meth c H locs cells slots Q (F0 m tgt ls rest)) (kf : ¬ x = 0 → W p l e R s m args below meth c H locs cells slots Q (F0 m (pc + 3) ls rest)) : W p l e R s m args below meth c H locs cells slots Q (F0 m pc ls (.int (nI x) :: rest)) :=
  lv_if_eq hexec hb hdg ht (fun h => kt ((nI_eq hx (by decide : 0 < 2 ^ 31)).mp (h.trans nI_0.symm))) (fun h => kf (fun q => h (by rw [q]; exact nI_0)))
theorem bm_nz_ne (hexec : p.tables.exec = Jvm.exec) (hb : c.code = cc) {x : Nat} (hx : x < 2 ^ 31) {off : Int} {tgt : Nat} (hdg : decode cc pc = .ok (.ifCond .ne off, 3)) (ht : (pc : Int) + off = (tgt : Int))
    (kt : ¬ x = 0 → W p l e R s m args below meth c H locs cells slots Q (F0 m tgt ls rest)) (kf : x = 0 → W p l e R s m args below meth c H locs cells slots Q (F0 m (pc + 3) ls rest)) : W p l e R s m args below meth c H locs cells slots Q (F0 m pc ls (.int (nI x) :: rest)) :=
  lv_if_ne hexec hb hdg ht (fun h => kt (fun q => h (by rw [q]; exact nI_0))) (fun h => kf ((nI_eq hx (by decide : 0 < 2 ^ 31)).mp (h.trans nI_0.symm)))
theorem bm_nrem (hexec : p.tables.exec = Jvm.exec) (hb : c.code = cc) {x y : Nat} (hx : x < 2 ^ 31) (h0 : 0 < y) (hy : y < 2 ^ 31) (hdg : decode cc pc = .ok (.irem, 1))
    (k : W p l e R s m args below meth c H locs cells slots Q (F0 m (pc + 1) ls (.int (nI (x % y)) :: rest))) : W p l e R s m args below meth c H locs cells slots Q (F0 m pc ls (.int (nI y) :: .int (nI x) :: rest)) := by
  refine lv_irem hexec hb hdg (nI_ne0 h0 hy) ?_
  rw [pk_rem hx h0 hy]
  exact k
theorem bm_nadd (hexec : p.tables.exec = Jvm.exec) (hb : c.code = cc) {x y : Nat} (hdg : decode cc pc = .ok (.iadd, 1))
    (k : W p l e R s m args below meth c H locs cells slots Q (F0 m (pc + 1) ls (.int (nI (x + y)) :: rest))) : W p l e R s m args below meth c H locs cells slots Q (F0 m pc ls (.int (nI y) :: .int (nI x) :: rest)) := by
  refine lv_iadd hexec hb hdg ?_
  rw [nI_add]
  exact k
theorem bm_nsub (hexec : p.tables.exec = Jvm.exec) (hb : c.code = cc) {x y : Nat} (h : y ≤ x) (hdg : decode cc pc = .ok (.isub, 1))
    (k : W p l e R s m args below meth c H locs cells slots Q (F0 m (pc + 1) ls (.int (nI (x - y)) :: rest))) : W p l e R s m args below meth c H locs cells slots Q (F0 m pc ls (.int (nI y) :: .int (nI x) :: rest)) := by
  refine lv_isub hexec hb hdg ?_
  rw [pk_sub h]
  exact k
theorem bm_iconst (hexec : p.tables.exec = Jvm.exec) (hb : c.code = cc) {n : Int} (v : Nat) (hdg : decode cc pc = .ok (.iconst n, 1)) (hv : Int32.ofInt n = nI v)
    (k : W p l e R s m args below meth c H locs cells slots Q (F0 m (pc + 1) ls (.int (nI v) :: rest))) : W p l e R s m args below meth c H locs cells slots Q (F0 m pc ls (rest)) := lv_iconst hexec hb hdg hv k
theorem bm_bconst (hexec : p.tables.exec = Jvm.exec) (hb : c.code = cc) {n : Int} (v : Bool) (hdg : decode cc pc = .ok (.iconst n, 1)) (hv : Int32.ofInt n = bm_b v)
    (k : W p l e R s m args below meth c H locs cells slots Q (F0 m (pc + 1) ls (.int (bm_b v) :: rest))) : W p l e R s m args below meth c H locs cells slots Q (F0 m pc ls (rest)) := lv_iconst hexec hb hdg hv k
end BMK
-- READERS AND WRITERS of a world
def bm_Rp (D : va_G) (cl : List vw_C) (tys : List (ClassId × FieldType)) (ws : va_W) (av : List Value) : Array Value → State → Prop := fun v U => v = av.toArray ∧ va_P D cl ws U.heap ∧ va_K D cl tys U
def bm_Rd (l : Launch) (y : MethodName) (wd : List Cond) (rm : Room) (D : va_G) (cl : List vw_C) (tys : List (ClassId × FieldType)) (ws : va_W) (av : List Value) (r : Value) : Prop := Met l y wd rm (bm_Rp D cl tys ws av) (k2_QcV r) 0 0 (fun _ => False)
def bm_Wp (D : va_G) (cl : List vw_C) (tys : List (ClassId × FieldType)) (ws : va_W) (av : List Value) (sz : Nat) : Array Value → State → Prop := fun v U => v = av.toArray ∧ U.heap.size = sz ∧ va_P D cl ws U.heap ∧ va_K D cl tys U ∧ va_D (fun _ => True) ws
def bm_Wq (D : va_G) (cl : List vw_C) (tys : List (ClassId × FieldType)) (ws' : va_W) (r : Option Value) (A : Nat → Prop) : Array Value → State → Outcome → State → Prop := fun _ st oc t => (oc = .returned r ∧ va_P D cl ws' t.heap ∧ va_K D cl tys t ∧ va_D A ws') ∧ va_F A st t
def bm_Wr (l : Launch) (y : MethodName) (wd : List Cond) (rm : Room) (D : va_G) (cl : List vw_C) (tys : List (ClassId × FieldType)) (ws : va_W) (av : List Value) (ws' : va_W) (r : Option Value) : Prop := ∀ sz : Nat, Met l y wd rm (bm_Wp D cl tys ws av sz) (bm_Wq D cl tys ws' r (va_A ws sz)) 0 0 (va_A ws sz)
theorem bm_Rp.blind {D : va_G} {cl : List vw_C} {tys : List (ClassId × FieldType)} {ws : va_W} {av : List Value} : FrameBlind (bm_Rp D cl tys ws av) := by
  intro a U g mk q
  obtain ⟨q0, qP, qK⟩ := q
  exact ⟨q0, qP, va_K.moved (u := U) (U := U.calling g mk a) (Vm.Alike.refl U.vm) qK⟩
theorem bm_Wp.blind {D : va_G} {cl : List vw_C} {tys : List (ClassId × FieldType)} {ws : va_W} {av : List Value} {sz : Nat} : FrameBlind (bm_Wp D cl tys ws av sz) := by
  intro a U g mk q
  obtain ⟨q0, q1, qP, qK, qD⟩ := q
  exact ⟨q0, q1, qP, va_K.moved (u := U) (U := U.calling g mk a) (Vm.Alike.refl U.vm) qK, qD⟩
section BMC
variable {p : Program} {l : Launch} {e : Env} {R : Room} {s : State} {m : MethodId} {args : Array Value} {below : List Frame} {meth : Method} {c : Code} {H : Heap} {locs : List Loc} {cells slots : Nat} {Q : State → Prop}
variable {cc bytes : ByteArray} {pc nL maxL n index : Nat} {ret : Option FieldType} {ls : Array Slot} {st0 As rest : List Value} {D : va_G} {cl : List vw_C} {A : Nat → Prop} {b : Nat} {tys : List (ClassId × FieldType)} {ws ws' : va_W} {H0 : Heap} {Ts wd : List Cond} {rm : Room} {own C : String} {T : u_T} {N : Nat} {y : MethodName} {fs : List Value}
theorem bm_rcallV {r : Value} (S : CallFix p m c cc nL s args Ts own) (hM : bm_Rd l y wd rm D cl tys ws (.ref b :: As) r) (cw : CallW R s args own C index y bytes maxL ret wd rm 0 0 n) (hK : va_K D cl tys s) (hP : va_P D cl ws H) (q0 ci : Nat) (hc : cl[ci]? = some (C, T, N)) (he : ws[q0]? = some (b, .inr (ci, fs)))
    (hn : As.length = n) (hsize : ls.size = nL) (hstack : st0 = As.reverse ++ .ref b :: rest) (hW : (rest.map fun v => v.category).sum ≤ 8) (hdg : decode cc pc = .ok (.invokevirtual index, 3)) (hcs : cells ≤ R.cells ∧ slots ≤ R.slots)
    (kk : W p l e R s m args below meth c H locs cells slots Q (F0 m (pc + 3) ls (r :: rest))) : W p l e R s m args below meth c H locs cells slots Q (F0 m pc ls st0) :=
  W.callV (W.runV (g := F0 m pc ls st0) S hM cw ⟨bm_Rp.blind, va_recv hK hP hc he, fun U hU hW => ⟨rfl, by rw [hU]; exact hP, va_K.moved hW.alike hK⟩⟩ rfl hn hsize hstack (lv_room hW) hdg hcs) kk
theorem bm_rcallS {r : Value} (S : CallFix p m c cc nL s args Ts own) (hM : bm_Rd l y wd rm D cl tys ws As r) (cw : CallB R s args own index y bytes maxL ret wd rm 0 0 n ∧ (Cond.static y).before args s = true) (hK : va_K D cl tys s) (hP : va_P D cl ws H)
    (hn : As.length = n) (hsize : ls.size = nL) (hstack : st0 = As.reverse ++ rest) (hW : (rest.map fun v => v.category).sum ≤ 8) (hdg : decode cc pc = .ok (.invokestatic index, 3)) (hcs : cells ≤ R.cells ∧ slots ≤ R.slots)
    (kk : W p l e R s m args below meth c H locs cells slots Q (F0 m (pc + 3) ls (r :: rest))) : W p l e R s m args below meth c H locs cells slots Q (F0 m pc ls st0) :=
  W.callV (W.runS (g := F0 m pc ls st0) S hM cw ⟨bm_Rp.blind, fun U hU hW => ⟨rfl, by rw [hU]; exact hP, va_K.moved hW.alike hK⟩⟩ rfl hn hsize hstack (lv_room hW) hdg hcs) kk
theorem bm_wcallV {r : Option Value} (S : CallFix p m c cc nL s args Ts own) (hM : bm_Wr l y wd rm D cl tys ws (.ref b :: As) ws' r) (cw : CallW R s args own C index y bytes maxL ret wd rm 0 0 n) (hK : va_K D cl tys s) (hP : va_P D cl ws H) (hD : va_D A ws) (hS : va_S A H0 H locs) (hA : ∀ q : Nat, H0.size ≤ q → A q) (q0 ci : Nat) (hc : cl[ci]? = some (C, T, N)) (he : ws[q0]? = some (b, .inr (ci, fs)))
    (hn : As.length = n) (hsize : ls.size = nL) (hstack : st0 = As.reverse ++ .ref b :: rest) (hW : (rest.map fun v => v.category).sum ≤ 8) (hdg : decode cc pc = .ok (.invokevirtual index, 3)) (hcs : cells ≤ R.cells ∧ slots ≤ R.slots)
    (kk : ∀ (H1 : Heap) (locs1 : List Loc), va_P D cl ws' H1 → va_D A ws' → va_S A H0 H1 locs1 → W p l e R s m args below meth c H1 locs1 cells slots Q (F0 m (pc + 3) ls (r.toList ++ rest))) : W p l e R s m args below meth c H locs cells slots Q (F0 m pc ls st0) := by
  have hr := va_runV (g := F0 m pc ls st0) (e := e) (below := below) (meth := meth) (locs := locs) (cells := cells) (slots := slots) S (hM H.size) cw ⟨bm_Wp.blind, va_recv hK hP hc he, fun U hU hW => ⟨rfl, by rw [hU], by rw [hU]; exact hP, va_K.moved hW.alike hK, hD.weaken (fun _ _ _ _ => trivial)⟩⟩ rfl hn hsize hstack (lv_room hW) hdg hcs
  have hF : ∀ q, va_A ws H.size q → A q := by
    intro q h
    rcases h with ⟨k, e9, h⟩ | h
    · exact hD.2 k (q, e9) h
    · exact hA q (Nat.le_trans hS.1 h)
  intro T hT X
  obtain ⟨v, st₀, t, T', L, h0, X', hL, e1, e2, ⟨⟨hv, hP', hK', hD'⟩, hz, hk⟩, st⟩ := hr T hT X
  cases hv
  rw [h0] at hz hk
  obtain ⟨t2, a1, b1⟩ := kk T'.heap (locs ++ L) (by rw [e1]; exact hP') (hD'.weaken (fun _ _ _ h => hF _ h))
    ⟨Nat.le_trans hS.1 (by rw [e1]; exact hz), fun q h1 h2 => by rw [e1, hk q (Nat.lt_of_lt_of_le h1 hS.1) (fun z => h2 (hF q z))]; exact hS.2.1 q h1 h2, fun q hq => by
      rcases List.mem_append.mp hq with h | h
      · exact hS.2.2 q h
      · exact hF _ (hL q h)⟩ T' rfl X'
  exact ⟨t2, st t2 a1, b1⟩
end BMC
section BME
variable {p : Program} {l : Launch} {e : Env} {R : Room} {s : State} {m : MethodId} {args : Array Value} {below : List Frame} {meth : Method} {c : Code} {H : Heap} {locs : List Loc} {cells slots : Nat} {Q : State → Prop}
variable {cc : ByteArray} {pc : Nat} {ls : Array Slot} {rest : List Value} {D : va_G} {cl : List vw_C} {A : Nat → Prop} {tys : List (ClassId × FieldType)} {ws ws' : va_W}
theorem bm_zretR {v r : Bool} (hexec : p.tables.exec = Jvm.exec) (hb : c.code = cc) (hr : meth.sig.returnType = some .boolean) (he : v = r) (hdg : decode cc pc = .ok (.ireturn, 1)) (hlocks : meth.locks = false) : W p l e R s m args below meth c s.heap [] cells slots (MQ below (k2_QcV (.int (bm_b r))) args s cells slots (fun _ => False)) (F0 m pc ls [.int (bm_b v)]) := by
  subst he
  exact W.zret hexec hb hr (bm_b_narrow v) (fun t ht hW => ⟨rfl, ht⟩) (fun q h => by cases h) hdg hlocks
theorem bm_iretR {v r : Int32} (hexec : p.tables.exec = Jvm.exec) (hb : c.code = cc) (hr : meth.sig.returnType = some .int) (he : v = r) (hdg : decode cc pc = .ok (.ireturn, 1)) (hlocks : meth.locks = false) : W p l e R s m args below meth c s.heap [] cells slots (MQ below (k2_QcV (.int r)) args s cells slots (fun _ => False)) (F0 m pc ls [.int v]) := by
  subst he
  exact W.iret hexec hb hr (fun t ht hW => ⟨rfl, ht⟩) (fun q h => by cases h) hdg hlocks
theorem bm_lretR {v r : Int64} (hexec : p.tables.exec = Jvm.exec) (hb : c.code = cc) (hr : meth.sig.returnType = some .long) (he : v = r) (hdg : decode cc pc = .ok (.lreturn, 1)) (hlocks : meth.locks = false) : W p l e R s m args below meth c s.heap [] cells slots (MQ below (k2_QcV (.long r)) args s cells slots (fun _ => False)) (F0 m pc ls [.long v]) := by
  subst he
  exact W.lret hexec hb hr (fun t ht hW => ⟨rfl, ht⟩) (fun q h => by cases h) hdg hlocks
theorem bm_vretW (hexec : p.tables.exec = Jvm.exec) (hb : c.code = cc) (hr : meth.sig.returnType = none) (hP : va_P D cl ws H) (hD : va_D A ws) (hK : va_K D cl tys s) (hS : va_S A s.heap H locs) (he : ws = ws') (hdg : decode cc pc = .ok (.return_, 1)) (hlocks : meth.locks = false) : W p l e R s m args below meth c H locs cells slots (MQ below (bm_Wq D cl tys ws' none A) args s cells slots A) (F0 m pc ls []) := by
  subst he
  exact W.vret hexec hb hr (fun t ht hW => ⟨⟨rfl, by rw [ht]; exact hP, va_K.moved hW.alike hK, hD⟩, hS.F ht⟩) hS.2.2 hdg hlocks
theorem bm_iretW {v r : Int32} (hexec : p.tables.exec = Jvm.exec) (hb : c.code = cc) (hr : meth.sig.returnType = some .int) (hP : va_P D cl ws H) (hD : va_D A ws) (hK : va_K D cl tys s) (hS : va_S A s.heap H locs) (he : v = r ∧ ws = ws') (hdg : decode cc pc = .ok (.ireturn, 1)) (hlocks : meth.locks = false) : W p l e R s m args below meth c H locs cells slots (MQ below (bm_Wq D cl tys ws' (some (.int r)) A) args s cells slots A) (F0 m pc ls [.int v]) := by
  obtain ⟨h1, h2⟩ := he
  subst h1; subst h2
  exact W.iret hexec hb hr (fun t ht hW => ⟨⟨rfl, by rw [ht]; exact hP, va_K.moved hW.alike hK, hD⟩, hS.F ht⟩) hS.2.2 hdg hlocks
theorem bm_zretW {v r : Bool} (hexec : p.tables.exec = Jvm.exec) (hb : c.code = cc) (hr : meth.sig.returnType = some .boolean) (hP : va_P D cl ws H) (hD : va_D A ws) (hK : va_K D cl tys s) (hS : va_S A s.heap H locs) (he : v = r ∧ ws = ws') (hdg : decode cc pc = .ok (.ireturn, 1)) (hlocks : meth.locks = false) : W p l e R s m args below meth c H locs cells slots (MQ below (bm_Wq D cl tys ws' (some (.int (bm_b r))) A) args s cells slots A) (F0 m pc ls [.int (bm_b v)]) := by
  obtain ⟨h1, h2⟩ := he
  subst h1; subst h2
  exact W.zret hexec hb hr (bm_b_narrow v) (fun t ht hW => ⟨⟨rfl, by rw [ht]; exact hP, va_K.moved hW.alike hK, hD⟩, hS.F ht⟩) hS.2.2 hdg hlocks
theorem bm_lretW {v r : Int64} (hexec : p.tables.exec = Jvm.exec) (hb : c.code = cc) (hr : meth.sig.returnType = some .long) (hP : va_P D cl ws H) (hD : va_D A ws) (hK : va_K D cl tys s) (hS : va_S A s.heap H locs) (he : v = r ∧ ws = ws') (hdg : decode cc pc = .ok (.lreturn, 1)) (hlocks : meth.locks = false) : W p l e R s m args below meth c H locs cells slots (MQ below (bm_Wq D cl tys ws' (some (.long r)) A) args s cells slots A) (F0 m pc ls [.long v]) := by
  obtain ⟨h1, h2⟩ := he
  subst h1; subst h2
  exact W.lret hexec hb hr (fun t ht hW => ⟨⟨rfl, by rw [ht]; exact hP, va_K.moved hW.alike hK, hD⟩, hS.F ht⟩) hS.2.2 hdg hlocks
theorem bm_bb_eq (hexec : p.tables.exec = Jvm.exec) (hb : c.code = cc) {x y : Bool} {off : Int} {tgt : Nat} (hdg : decode cc pc = .ok (.if_icmp .eq off, 3)) (ht : (pc : Int) + off = (tgt : Int))
    (kt : x = y → W p l e R s m args below meth c H locs cells slots Q (F0 m tgt ls rest)) (kf : ¬ x = y → W p l e R s m args below meth c H locs cells slots Q (F0 m (pc + 3) ls rest)) : W p l e R s m args below meth c H locs cells slots Q (F0 m pc ls (.int (bm_b y) :: .int (bm_b x) :: rest)) :=
  lv_icmp_eq hexec hb hdg ht (fun h => kt ((bm_b_inj x y).mp h)) (fun h => kf (fun q => h ((bm_b_inj x y).mpr q)))
theorem bm_bb_ne (hexec : p.tables.exec = Jvm.exec) (hb : c.code = cc) {x y : Bool} {off : Int} {tgt : Nat} (hdg : decode cc pc = .ok (.if_icmp .ne off, 3)) (ht : (pc : Int) + off = (tgt : Int))
    (kt : ¬ x = y → W p l e R s m args below meth c H locs cells slots Q (F0 m tgt ls rest)) (kf : x = y → W p l e R s m args below meth c H locs cells slots Q (F0 m (pc + 3) ls rest)) : W p l e R s m args below meth c H locs cells slots Q (F0 m pc ls (.int (bm_b y) :: .int (bm_b x) :: rest)) :=
  lv_icmp_ne hexec hb hdg ht (fun h => kt (fun q => h ((bm_b_inj x y).mpr q))) (fun h => kf ((bm_b_inj x y).mp h))
end BME
theorem bm_nmin {a b : Nat} (ha : a < 2 ^ 31) (hb : b < 2 ^ 31) : (if nI b < nI a then nI b else nI a) = nI (Nat.min a b) := by
  by_cases h : b < a
  · rw [if_pos ((nI_ltI hb ha).mpr h)]
    congr 1
    exact (Nat.min_eq_right (Nat.le_of_lt h)).symm
  · rw [if_neg (fun q => h ((nI_ltI hb ha).mp q))]
    congr 1
    exact (Nat.min_eq_left (Nat.not_lt.mp h)).symm
def q_max (x y : Int64) : Int64 := if y < x then x else y
def q_min (x y : Int64) : Int64 := if y < x then y else x
def q_abs (x : Int64) : Int64 := if 0 < x then x else -x
section BMM
variable {p : Program} {l : Launch} {e : Env} {R : Room} {s : State} {m : MethodId} {args : Array Value} {below : List Frame} {meth : Method} {c : Code} {H : Heap} {locs : List Loc} {cells slots : Nat} {Q : State → Prop} {pc : Nat} {ls : Array Slot} {rest : List Value}
theorem bm_mmaxl {cc : ByteArray} (hexec : p.tables.exec = Jvm.exec) (hb : c.code = cc) (hml : c.maxLocals = ls.size) {own : String} {index : Nat} (hown : s.vm.findClass own = some m.cls) (hlink : (Cond.methodLink own index Lib.MathLoose.max_long.x).before args s = true) (hstat : (Cond.static Lib.MathLoose.max_long.x).before args s = true) (hini : (Cond.initialized "java/lang/Math").before args s = true) (hcode : (Cond.code Lib.MathLoose.max_long.x Lib.MathLoose.max_long.code 4 (some .long)).before args s = true)
    (hframes : 1 ≤ R.frames) (hlocals : (rest.map fun v => v.category).sum + 15 ≤ R.locals) (hc : cells ≤ R.cells) (hs : slots ≤ R.slots) {x y : Int64} (hdg : decode cc pc = .ok (.invokestatic index, 3))
    (kk : W p l e R s m args below meth c H locs cells slots Q (F0 m (pc + 3) ls (.long (q_max x y) :: rest))) : W p l e R s m args below meth c H locs cells slots Q (F0 m pc ls (.long y :: .long x :: rest)) :=
  va_mmax_long hexec hb hml hown hlink hstat hini hcode hframes hlocals hc hs hdg kk
theorem bm_mminl {cc : ByteArray} (hexec : p.tables.exec = Jvm.exec) (hb : c.code = cc) (hml : c.maxLocals = ls.size) {own : String} {index : Nat} (hown : s.vm.findClass own = some m.cls) (hlink : (Cond.methodLink own index Lib.MathLoose.min_long.x).before args s = true) (hstat : (Cond.static Lib.MathLoose.min_long.x).before args s = true) (hini : (Cond.initialized "java/lang/Math").before args s = true) (hcode : (Cond.code Lib.MathLoose.min_long.x Lib.MathLoose.min_long.code 4 (some .long)).before args s = true)
    (hframes : 1 ≤ R.frames) (hlocals : (rest.map fun v => v.category).sum + 15 ≤ R.locals) (hc : cells ≤ R.cells) (hs : slots ≤ R.slots) {x y : Int64} (hdg : decode cc pc = .ok (.invokestatic index, 3))
    (kk : W p l e R s m args below meth c H locs cells slots Q (F0 m (pc + 3) ls (.long (q_min x y) :: rest))) : W p l e R s m args below meth c H locs cells slots Q (F0 m pc ls (.long y :: .long x :: rest)) :=
  va_mmin_long hexec hb hml hown hlink hstat hini hcode hframes hlocals hc hs hdg kk
theorem bm_mabsl {cc : ByteArray} (hexec : p.tables.exec = Jvm.exec) (hb : c.code = cc) (hml : c.maxLocals = ls.size) {own : String} {index : Nat} (hown : s.vm.findClass own = some m.cls) (hlink : (Cond.methodLink own index Lib.MathLoose.abs_long.x).before args s = true) (hstat : (Cond.static Lib.MathLoose.abs_long.x).before args s = true) (hini : (Cond.initialized "java/lang/Math").before args s = true) (hcode : (Cond.code Lib.MathLoose.abs_long.x Lib.MathLoose.abs_long.code 2 (some .long)).before args s = true)
    (hframes : 1 ≤ R.frames) (hlocals : (rest.map fun v => v.category).sum + 13 ≤ R.locals) (hc : cells ≤ R.cells) (hs : slots ≤ R.slots) {x : Int64} (hdg : decode cc pc = .ok (.invokestatic index, 3))
    (kk : W p l e R s m args below meth c H locs cells slots Q (F0 m (pc + 3) ls (.long (q_abs x) :: rest))) : W p l e R s m args below meth c H locs cells slots Q (F0 m pc ls (.long x :: rest)) :=
  va_mabs_long hexec hb hml hown hlink hstat hini hcode hframes hlocals hc hs hdg kk
theorem bm_mminn {cc : ByteArray} (hexec : p.tables.exec = Jvm.exec) (hb : c.code = cc) (hml : c.maxLocals = ls.size) {own : String} {index : Nat} (hown : s.vm.findClass own = some m.cls) (hlink : (Cond.methodLink own index Lib.Math.min.name).before args s = true) (hstat : (Cond.static Lib.Math.min.name).before args s = true) (hini : (Cond.initialized "java/lang/Math").before args s = true) (hcode : (Cond.code Lib.Math.min.name Lib.Math.min.code 2 (some .int)).before args s = true)
    (hframes : 1 ≤ R.frames) (hlocals : (rest.map fun v => v.category).sum + 13 ≤ R.locals) (hc : cells ≤ R.cells) (hs : slots ≤ R.slots) {x y : Nat} (hx : x < 2 ^ 31) (hy : y < 2 ^ 31) (hdg : decode cc pc = .ok (.invokestatic index, 3))
    (kk : W p l e R s m args below meth c H locs cells slots Q (F0 m (pc + 3) ls (.int (nI (Nat.min x y)) :: rest))) : W p l e R s m args below meth c H locs cells slots Q (F0 m pc ls (.int (nI y) :: .int (nI x) :: rest)) := by
  refine va_mmin hexec hb hml hown hlink hstat hini hcode hframes hlocals hc hs hdg ?_
  rw [bm_nmin hx hy]
  exact kk
end BMM
section BMN
variable {p : Program} {l : Launch} {e : Env} {R : Room} {s : State} {m : MethodId} {args : Array Value} {below : List Frame} {meth : Method} {c : Code} {H : Heap} {locs : List Loc} {cells slots : Nat} {Q : State → Prop}
variable {cc : ByteArray} {pc : Nat} {ls : Array Slot} {rest : List Value}
theorem bm_lrN (hexec : p.tables.exec = Jvm.exec) (hb : c.code = cc) {x y : Nat} (hx : x < 2 ^ 63) (h0 : 0 < y) (hy : y < 2 ^ 63) (hdg : decode cc pc = .ok (.lrem, 1))
    (k : W p l e R s m args below meth c H locs cells slots Q (F0 m (pc + 1) ls (.long (lN (x % y)) :: rest))) : W p l e R s m args below meth c H locs cells slots Q (F0 m pc ls (.long (lN y) :: .long (lN x) :: rest)) := by
  refine lv_lrem hexec hb hdg (fun q => ?_) ?_
  · have := (pk_lEQ hy (by decide : 0 < 2 ^ 63)).mp q
    omega
  · rw [pk_lRem hx h0 hy]
    exact k
theorem bm_l2iN (hexec : p.tables.exec = Jvm.exec) (hb : c.code = cc) {x : Nat} (hdg : decode cc pc = .ok (.l2i, 1))
    (k : W p l e R s m args below meth c H locs cells slots Q (F0 m (pc + 1) ls (.int (nI x) :: rest))) : W p l e R s m args below meth c H locs cells slots Q (F0 m pc ls (.long (lN x) :: rest)) := lv_l2i hexec hb hdg (lN_i x) k
theorem bm_i2lN (hexec : p.tables.exec = Jvm.exec) (hb : c.code = cc) {x : Nat} (hx : x < 2 ^ 31) (hdg : decode cc pc = .ok (.i2l, 1))
    (k : W p l e R s m args below meth c H locs cells slots Q (F0 m (pc + 1) ls (.long (lN x) :: rest))) : W p l e R s m args below meth c H locs cells slots Q (F0 m pc ls (.int (nI x) :: rest)) := lv_i2l hexec hb hdg (nI_l hx) k
theorem bm_Nlc_ne (hexec : p.tables.exec = Jvm.exec) (hb : c.code = cc) {x y : Nat} (hx : x < 2 ^ 63) (hy : y < 2 ^ 63) {off : Int} {tgt : Nat} (hd1 : decode cc pc = .ok (.lcmp, 1)) (hdg : decode cc (pc + 1) = .ok (.ifCond .ne off, 3)) (ht : ((pc + 1 : Nat) : Int) + off = (tgt : Int))
    (kt : ¬ x = y → W p l e R s m args below meth c H locs cells slots Q (F0 m tgt ls rest)) (kf : x = y → W p l e R s m args below meth c H locs cells slots Q (F0 m (pc + 1 + 3) ls rest)) : W p l e R s m args below meth c H locs cells slots Q (F0 m pc ls (.long (lN y) :: .long (lN x) :: rest)) :=
  bm_lc_ne hexec hb hd1 hdg ht (fun h => kt (fun q => h (by rw [q]))) (fun h => kf ((pk_lEQ hx hy).mp h))
theorem bm_nz_le (hexec : p.tables.exec = Jvm.exec) (hb : c.code = cc) {x : Nat} (hx : x < 2 ^ 31) {off : Int} {tgt : Nat} (hdg : decode cc pc = .ok (.ifCond .le off, 3)) (ht : (pc : Int) + off = (tgt : Int))
    (kt : x = 0 → W p l e R s m args below meth c H locs cells slots Q (F0 m tgt ls rest)) (kf : ¬ x = 0 → W p l e R s m args below meth c H locs cells slots Q (F0 m (pc + 3) ls rest)) : W p l e R s m args below meth c H locs cells slots Q (F0 m pc ls (.int (nI x) :: rest)) :=
  lv_if_le hexec hb hdg ht (fun h => kt (by
    rcases Nat.eq_zero_or_pos x with q | q
    · exact q
    · exact absurd h (nI_nle q hx))) (fun h => kf (fun q => h (by rw [q, nI_0]; decide)))
end BMN
end
section
-- THE STATE OF THE CLASS, in groups: Parts, Placement, Limits, Wiring, the board's own numbers
abbrev gPA : Type := (Nat → Int64) × (Nat → Int64) × (Nat → Nat) × (Nat → Int64) × (Nat → Bool) × (Nat → Nat) × Nat
abbrev gPL : Type := (Nat → Int64) × (Nat → Int64) × (Nat → Nat) × (Nat → Bool)
abbrev gLI : Type := (Nat → Int64) × (Nat → Int64) × (Nat → Int64) × (Nat → Int64) × (Nat → Int64) × (Nat → Nat) × (Nat → Nat) × (Nat → Int64) × Nat × Nat
abbrev gWI : Type := (Nat → Nat) × (Nat → Nat) × (Nat → Int64) × (Nat → Int64) × (Nat → Bool) × (Nat → Int64) × (Nat → Int64) × (Nat → Int64) × (Nat → Int64) × Nat × Nat
abbrev gBM : Type := Int64 × Int64 × Int64 × Int64
-- what keeps every index in its array
def q_okA (pa : gPA) : Prop := pa.2.2.2.2.2.2 ≤ 40 ∧ (∀ i, pa.2.2.1 i < 40) ∧ (∀ i, pa.2.2.2.2.2.1 i < 40)
def q_okL (pl : gPL) : Prop := ∀ i, pl.2.2.1 i < 40
def q_okI (li : gLI) : Prop := (∀ i, li.2.2.2.2.2.1 i < 40) ∧ (∀ i, li.2.2.2.2.2.2.1 i < 40) ∧ li.2.2.2.2.2.2.2.2.1 ≤ 10 ∧ li.2.2.2.2.2.2.2.2.2 ≤ 20
def q_okW (wi : gWI) : Prop := (∀ i, wi.1 i < 40) ∧ (∀ i, wi.2.1 i < 40) ∧ wi.2.2.2.2.2.2.2.2.2.1 ≤ 40 ∧ wi.2.2.2.2.2.2.2.2.2.2 ≤ 120
theorem bm40 {a : Nat} (h : a < 40) : a < 2 ^ 31 := Nat.lt_trans h (by decide)
-- searches
def q_find (c : Nat → Bool) : Nat → Nat → Option Nat
  | 0, _ => none
  | k + 1, i => if c i then some i else q_find c k (i + 1)
def q_opt (o : Option Nat) : Int32 := match o with
  | none => -1
  | some i => nI i
theorem q_find_no {c : Nat → Bool} {k i : Nat} (h : c i = false) : q_find c (k + 1) i = q_find c k (i + 1) := by simp [q_find, h]
theorem q_find_yes {c : Nat → Bool} {k i : Nat} (h : c i = true) : q_find c (k + 1) i = some i := by simp [q_find, h]
theorem q_find_end {c : Nat → Bool} {n i : Nat} (h : ¬ i < n) : q_find c (n - i) i = none := by
  have e : n - i = 0 := by omega
  rw [e]; rfl
theorem q_find_go {c : Nat → Bool} {n i : Nat} (h : i < n) (hc : c i = false) : q_find c (n - (i + 1)) (i + 1) = q_find c (n - i) i := by
  have e : n - i = (n - (i + 1)) + 1 := by omega
  rw [e, q_find_no hc]
theorem q_find_hit {c : Nat → Bool} {n i : Nat} (h : i < n) (hc : c i = true) : q_find c (n - i) i = some i := by
  have e : n - i = (n - (i + 1)) + 1 := by omega
  rw [e, q_find_yes hc]
-- readers
def q_mates (pa : gPA) (a b : Nat) : Bool := decide (pa.2.2.2.2.2.1 a = pa.2.2.2.2.2.1 b)
def q_endX (pa : gPA) (pl : gPL) (j : Nat) : Int64 := pl.1 j + (if pl.2.2.1 j % 2 = 0 then pa.1 j else pa.2.1 j)
def q_endY (pa : gPA) (pl : gPL) (j : Nat) : Int64 := pl.2.1 j + (if pl.2.2.1 j % 2 = 0 then pa.2.1 j else pa.1 j)
def q_meets (pa : gPA) (pl : gPL) (j : Nat) (x0 y0 x1 y1 : Int64) : Bool := pl.2.2.2 j && decide (pl.1 j < x1) && decide (x0 < q_endX pa pl j) && decide (pl.2.1 j < y1) && decide (y0 < q_endY pa pl j)
def q_ov (pa : gPA) (pl : gPL) (j i : Nat) : Bool := decide (i ≠ j) && decide (pa.2.2.1 i = pa.2.2.1 j) && q_meets pa pl i (pl.1 j) (pl.2.1 j) (q_endX pa pl j) (q_endY pa pl j)
def q_over (pa : gPA) (pl : gPL) (j from9 : Nat) : Option Nat := q_find (q_ov pa pl j) (pa.2.2.2.2.2.2 - from9) from9
def q_first (pa : gPA) (pl : gPL) : Option Nat := q_find (fun i => pl.2.2.2 i && (q_over pa pl i (i + 1)).isSome) (pa.2.2.2.2.2.2 - 0) 0
def q_mateP (pa : gPA) (pl : gPL) (j i : Nat) : Bool := decide (i ≠ j) && pl.2.2.2 i && q_mates pa i j
def q_hasMate (pa : gPA) (pl : gPL) (j : Nat) : Bool := (q_find (q_mateP pa pl j) (pa.2.2.2.2.2.2 - 0) 0).isSome
def q_differs (pl ql : gPL) (j : Nat) : Bool := decide (¬ pl.1 j = ql.1 j) || decide (¬ pl.2.1 j = ql.2.1 j) || decide (¬ pl.2.2.1 j = ql.2.2.1 j) || decide (¬ pl.2.2.2 j = ql.2.2.2 j)
theorem q_find_lt {c : Nat → Bool} : ∀ {k i o : Nat}, q_find c k i = some o → i ≤ o ∧ o < i + k ∧ c o = true := by
  intro k
  induction k with
  | zero => intro i o h; simp [q_find] at h
  | succ k ih =>
    intro i o h
    by_cases hc : c i = true
    · rw [q_find_yes hc] at h
      cases h
      exact ⟨Nat.le_refl _, by omega, hc⟩
    · have hf : c i = false := by simpa using hc
      rw [q_find_no hf] at h
      obtain ⟨a1, a2, a3⟩ := ih h
      exact ⟨by omega, by omega, a3⟩
theorem q_over_lt {pa : gPA} {pl : gPL} {j f o : Nat} (h : q_over pa pl j f = some o) : o < pa.2.2.2.2.2.2 := by
  have := q_find_lt h
  omega
theorem q_first_lt {pa : gPA} {pl : gPL} {o : Nat} (h : q_first pa pl = some o) : o < pa.2.2.2.2.2.2 := by
  have := q_find_lt h
  omega
theorem bm_nm1 {a : Nat} (h : a < 2 ^ 31) : ¬ nI a = -1 := by
  intro q
  have h1 := nI_toInt h
  rw [q] at h1
  have h2 : (-1 : Int32).toInt = -1 := by decide
  omega
def q_way (pa : gPA) (pl : gPL) (g t : Nat) (ax up : Bool) : Int64 := if ax then (if up then q_endX pa pl t - pl.1 g else pl.1 t - q_endX pa pl g) else (if up then q_endY pa pl t - pl.2.1 g else pl.2.1 t - q_endY pa pl g)
def q_near (pa : gPA) (pl : gPL) (a b : Nat) (most : Int64) : Bool := !pl.2.2.2 a || !pl.2.2.2 b || !decide (most < q_max 0 (q_max (pl.1 a) (pl.1 b) - q_min (q_endX pa pl a) (q_endX pa pl b)) + q_max 0 (q_max (pl.2.1 a) (pl.2.1 b) - q_min (q_endY pa pl a) (q_endY pa pl b)))
def q_tooTall (pa : gPA) (pl : gPL) (li : gLI) (j i : Nat) : Bool := decide (li.2.2.2.2.1 i < pa.2.2.2.1 j) && q_meets pa pl j (li.1 i) (li.2.1 i) (li.2.2.1 i) (li.2.2.2.1 i)
def q_low (pa : gPA) (pl : gPL) (li : gLI) (j : Nat) : Bool := (q_find (q_tooTall pa pl li j) (li.2.2.2.2.2.2.2.2.1 - 0) 0).isNone
def q_tooFar (pa : gPA) (pl : gPL) (li : gLI) (j i : Nat) : Bool := (decide (li.2.2.2.2.2.1 i = j) || decide (li.2.2.2.2.2.2.1 i = j)) && !q_near pa pl (li.2.2.2.2.2.1 i) (li.2.2.2.2.2.2.1 i) (li.2.2.2.2.2.2.2.1 i)
def q_nears (pa : gPA) (pl : gPL) (li : gLI) (j : Nat) : Bool := (q_find (q_tooFar pa pl li j) (li.2.2.2.2.2.2.2.2.2 - 0) 0).isNone
def q_len (x : Int64) : Bool := !decide (x < 1) && !decide (65536 < x)
def q_fits (bm : gBM) (pa : gPA) (j : Nat) (x y : Int64) (t : Nat) : Bool := !decide (x < 0) && !decide (bm.1 - (if t % 2 = 0 then pa.1 j else pa.2.1 j) < x) && !decide (y < 0) && !decide (bm.2.1 - (if t % 2 = 0 then pa.2.1 j else pa.1 j) < y)
def q_well (bm : gBM) (pa : gPA) (pl : gPL) (li : gLI) (j : Nat) : Bool := !pl.2.2.2 j || (q_fits bm pa j (pl.1 j) (pl.2.1 j) (pl.2.2.1 j) && (q_over pa pl j 0).isNone && q_low pa pl li j && q_nears pa pl li j)
def q_allWell (bm : gBM) (pa : gPA) (pl : gPL) (li : gLI) : Bool := (q_find (fun i => !q_well bm pa pl li i) (pa.2.2.2.2.2.2 - 0) 0).isNone
def q_count (c : Nat → Bool) : Nat → Nat
  | 0 => 0
  | k + 1 => q_count c k + (if c k then 1 else 0)
def q_changed (pl ql : gPL) (x : Int32) (i : Nat) : Bool := decide (¬ nI i = x) && q_differs pl ql i
theorem q_count_le (c : Nat → Bool) : ∀ k, q_count c k ≤ k := by
  intro k
  induction k with
  | zero => exact Nat.le_refl 0
  | succ k ih => simp only [q_count]; split <;> omega
def q_goes (pa : gPA) (pl : gPL) (lo hi pu : Nat) (ax up : Bool) : Bool := if q_mates pa lo pu then false else if q_mates pa hi pu then true else if up then decide ((if ax then pl.1 hi else pl.2.1 hi) < (if ax then pl.1 lo else pl.2.1 lo)) else decide ((if ax then pl.1 lo else pl.2.1 lo) < (if ax then pl.1 hi else pl.2.1 hi))
end
section
-- WRITERS: what they make of the groups
def q_shiftU (pa : gPA) (pl : gPL) (j : Nat) (dx dy : Int64) (u : Nat) : gPL := (fun i => if i < u ∧ pl.2.2.2 i = true ∧ q_mates pa i j = true then pl.1 i + dx else pl.1 i, fun i => if i < u ∧ pl.2.2.2 i = true ∧ q_mates pa i j = true then pl.2.1 i + dy else pl.2.1 i, pl.2.2.1, pl.2.2.2)
abbrev q_shift (pa : gPA) (pl : gPL) (j : Nat) (dx dy : Int64) : gPL := q_shiftU pa pl j dx dy pa.2.2.2.2.2.2
theorem q_shift_0 (pa : gPA) (pl : gPL) (j : Nat) (dx dy : Int64) : pl = q_shiftU pa pl j dx dy 0 := by
  unfold q_shiftU
  simp
theorem q_shift_hit {pa : gPA} {pl : gPL} {j : Nat} {dx dy : Int64} {u : Nat} (h1 : pl.2.2.2 u = true) (h2 : q_mates pa u j = true) :
    ((va_up (q_shiftU pa pl j dx dy u).1 u ((q_shiftU pa pl j dx dy u).1 u + dx), va_up (q_shiftU pa pl j dx dy u).2.1 u ((q_shiftU pa pl j dx dy u).2.1 u + dy), (q_shiftU pa pl j dx dy u).2.2.1, (q_shiftU pa pl j dx dy u).2.2.2) : gPL) = q_shiftU pa pl j dx dy (u + 1) := by
  unfold q_shiftU
  simp only [Prod.mk.injEq, and_true]
  constructor
  · funext i
    by_cases hi : i = u
    · subst hi; simp [va_up, h1, h2]
    · have e : (i < u + 1) = (i < u) := by simp only [eq_iff_iff]; omega
      simp [va_up, hi, e]
  · funext i
    by_cases hi : i = u
    · subst hi; simp [va_up, h1, h2]
    · have e : (i < u + 1) = (i < u) := by simp only [eq_iff_iff]; omega
      simp [va_up, hi, e]
theorem q_shift_miss {pa : gPA} {pl : gPL} {j : Nat} {dx dy : Int64} {u : Nat} (h : ¬ (pl.2.2.2 u = true ∧ q_mates pa u j = true)) : q_shiftU pa pl j dx dy u = q_shiftU pa pl j dx dy (u + 1) := by
  unfold q_shiftU
  simp only [Prod.mk.injEq, and_true]
  constructor
  · funext i
    by_cases hi : i = u
    · subst hi; simp [h]
    · have e : (i < u + 1) = (i < u) := by simp only [eq_iff_iff]; omega
      simp [e]
  · funext i
    by_cases hi : i = u
    · subst hi; simp [h]
    · have e : (i < u + 1) = (i < u) := by simp only [eq_iff_iff]; omega
      simp [e]
def q_copyU (f t : gPL) (u : Nat) : gPL := (fun i => if i < u then f.1 i else t.1 i, fun i => if i < u then f.2.1 i else t.2.1 i, fun i => if i < u then f.2.2.1 i else t.2.2.1 i, fun i => if i < u then f.2.2.2 i else t.2.2.2 i)
theorem q_cpy1 {α : Type} (f t : Nat → α) (u : Nat) : va_up (fun i => if i < u then f i else t i) u (f u) = fun i => if i < u + 1 then f i else t i := by
  funext i
  by_cases hi : i = u
  · subst hi; simp [va_up]
  · have e : (i < u + 1) = (i < u) := by simp only [eq_iff_iff]; omega
    simp [va_up, hi, e]
theorem q_copy_0 (f t : gPL) : t = q_copyU f t 0 := by
  unfold q_copyU
  simp
theorem q_copy_s (f t : gPL) (u : Nat) : ((va_up (q_copyU f t u).1 u (f.1 u), va_up (q_copyU f t u).2.1 u (f.2.1 u), va_up (q_copyU f t u).2.2.1 u (f.2.2.1 u), va_up (q_copyU f t u).2.2.2 u (f.2.2.2 u)) : gPL) = q_copyU f t (u + 1) := by
  unfold q_copyU
  simp only [q_cpy1]
theorem q_okL_copy {f t : gPL} {u : Nat} (h1 : q_okL f) (h2 : q_okL t) : q_okL (q_copyU f t u) := by
  intro i
  show (if i < u then f.2.2.1 i else t.2.2.1 i) < 40
  split
  · exact h1 i
  · exact h2 i
-- joining groups
def q_inG (pa : gPA) (a b i : Nat) : Bool := decide (pa.2.2.2.2.2.1 i = a) || decide (pa.2.2.2.2.2.1 i = b)
def q_joinU (pa : gPA) (a b c u : Nat) : gPA := (pa.1, pa.2.1, pa.2.2.1, pa.2.2.2.1, pa.2.2.2.2.1, fun i => if i < u ∧ q_inG pa a b i = true then c else pa.2.2.2.2.2.1 i, pa.2.2.2.2.2.2)
-- measuring
abbrev gSC : Type := (Nat → Bool) × (Nat → Int64) × (Nat → Int64) × (Nat → Int64) × (Nat → Int64)
def q_sw (wi : gWI) (sc : gSC) : gWI := (wi.1, wi.2.1, wi.2.2.1, wi.2.2.2.1, sc.1, sc.2.1, sc.2.2.1, sc.2.2.2.1, sc.2.2.2.2, wi.2.2.2.2.2.2.2.2.2.1, wi.2.2.2.2.2.2.2.2.2.2)
def q_sc (wi : gWI) : gSC := (wi.2.2.2.2.1, wi.2.2.2.2.2.1, wi.2.2.2.2.2.2.1, wi.2.2.2.2.2.2.2.1, wi.2.2.2.2.2.2.2.2.1)
def q_clr (sc : gSC) (u : Nat) : gSC := (fun i => if i < u then false else sc.1 i, sc.2.1, sc.2.2.1, sc.2.2.2.1, sc.2.2.2.2)
theorem q_clr_0 (wi : gWI) : wi = q_sw wi (q_clr (q_sc wi) 0) := by
  unfold q_sw q_clr q_sc
  simp
theorem q_clr_s (sc : gSC) (u : Nat) : ((va_up (q_clr sc u).1 u false, (q_clr sc u).2.1, (q_clr sc u).2.2.1, (q_clr sc u).2.2.2.1, (q_clr sc u).2.2.2.2) : gSC) = q_clr sc (u + 1) := by
  unfold q_clr
  simp only [Prod.mk.injEq, and_true]
  funext i
  by_cases hi : i = u
  · subst hi; simp [va_up]
  · have e : (i < u + 1) = (i < u) := by simp only [eq_iff_iff]; omega
    simp [va_up, hi, e]
def q_rch (sc : gSC) (k : Nat) (x y : Int64) : gSC := (va_up sc.1 k true, va_up sc.2.1 k (if sc.1 k then q_min (sc.2.1 k) x else x), va_up sc.2.2.1 k (if sc.1 k then q_max (sc.2.2.1 k) x else x), va_up sc.2.2.2.1 k (if sc.1 k then q_min (sc.2.2.2.1 k) y else y), va_up sc.2.2.2.2 k (if sc.1 k then q_max (sc.2.2.2.2 k) y else y))
def q_tx (pa : gPA) (wi : gWI) (k j t : Nat) : Int64 := if t = 1 then pa.2.1 j - wi.2.2.2.1 k else if t = 2 then pa.1 j - wi.2.2.1 k else if t = 3 then wi.2.2.2.1 k else wi.2.2.1 k
def q_ty (pa : gPA) (wi : gWI) (k j t : Nat) : Int64 := if t = 1 then wi.2.2.1 k else if t = 2 then pa.2.1 j - wi.2.2.2.1 k else if t = 3 then pa.1 j - wi.2.2.1 k else wi.2.2.2.1 k
def q_pinX (pa : gPA) (pl : gPL) (wi : gWI) (k : Nat) : Int64 := pl.1 (wi.2.1 k) + q_tx pa wi k (wi.2.1 k) (pl.2.2.1 (wi.2.1 k))
def q_pinY (pa : gPA) (pl : gPL) (wi : gWI) (k : Nat) : Int64 := pl.2.1 (wi.2.1 k) + q_ty pa wi k (wi.2.1 k) (pl.2.2.1 (wi.2.1 k))
def q_scan (pa : gPA) (pl : gPL) (wi : gWI) : Nat → gSC
  | 0 => q_clr (q_sc wi) wi.2.2.2.2.2.2.2.2.2.1
  | k + 1 => if pl.2.2.2 (wi.2.1 k) then q_rch (q_scan pa pl wi k) (wi.1 k) (q_pinX pa pl wi k) (q_pinY pa pl wi k) else q_scan pa pl wi k
def q_total (sc : gSC) : Nat → Int64
  | 0 => 0
  | k + 1 => if sc.1 k then q_total sc k + (sc.2.2.1 k - sc.2.1 k + sc.2.2.2.2 k - sc.2.2.2.1 k) else q_total sc k
def q_meas (pa : gPA) (pl : gPL) (wi : gWI) : Int64 := q_total (q_scan pa pl wi wi.2.2.2.2.2.2.2.2.2.2) wi.2.2.2.2.2.2.2.2.2.1
def q_measW (pa : gPA) (pl : gPL) (wi : gWI) : gWI := q_sw wi (q_scan pa pl wi wi.2.2.2.2.2.2.2.2.2.2)
-- a change is kept, or taken back
def q_bad (bm : gBM) (pa : gPA) (pl ql : gPL) (li : gLI) (i : Nat) : Bool := q_differs pl ql i && ((pa.2.2.2.2.1 i && ql.2.2.2 i) || !q_well bm pa pl li i)
def q_ndraw (s : Int64) : Int64 := s * 6364136223846793005 + 1442695040888963407
def q_drawn (s : Int64) : Int64 := (s.toUInt64 >>> ((nI 33).toInt64.toUInt64 &&& Int64.toUInt64 63)).toInt64
theorem q_join_hit {pa : gPA} {a b c u : Nat} (h : q_inG pa a b u = true) : ((pa.1, pa.2.1, pa.2.2.1, pa.2.2.2.1, pa.2.2.2.2.1, va_up (q_joinU pa a b c u).2.2.2.2.2.1 u c, pa.2.2.2.2.2.2) : gPA) = q_joinU pa a b c (u + 1) := by
  unfold q_joinU
  simp only [Prod.mk.injEq, and_true, true_and]
  funext i
  by_cases hi : i = u
  · subst hi; simp [va_up, h]
  · have e : (i < u + 1) = (i < u) := by simp only [eq_iff_iff]; omega
    simp [va_up, hi, e]
theorem q_join_miss {pa : gPA} {a b c u : Nat} (h : q_inG pa a b u = false) : q_joinU pa a b c u = q_joinU pa a b c (u + 1) := by
  unfold q_joinU
  simp only [Prod.mk.injEq, and_true, true_and]
  funext i
  by_cases hi : i = u
  · subst hi; simp [h]
  · have e : (i < u + 1) = (i < u) := by simp only [eq_iff_iff]; omega
    simp [e]
theorem q_scan_yes {pa : gPA} {pl : gPL} {wi : gWI} {k : Nat} (h : pl.2.2.2 (wi.2.1 k) = true) : q_scan pa pl wi (k + 1) = q_rch (q_scan pa pl wi k) (wi.1 k) (q_pinX pa pl wi k) (q_pinY pa pl wi k) := by
  show (if _ then _ else _) = _
  rw [if_pos h]
theorem q_scan_no {pa : gPA} {pl : gPL} {wi : gWI} {k : Nat} (h : pl.2.2.2 (wi.2.1 k) = false) : q_scan pa pl wi (k + 1) = q_scan pa pl wi k := by
  show (if _ then _ else _) = _
  rw [if_neg (by rw [h]; decide)]
theorem q_total_yes {sc : gSC} {k : Nat} (h : sc.1 k = true) : q_total sc k + (sc.2.2.1 k - sc.2.1 k + sc.2.2.2.2 k - sc.2.2.2.1 k) = q_total sc (k + 1) := by
  show _ = (if _ then _ else _)
  rw [if_pos h]
theorem q_total_no {sc : gSC} {k : Nat} (h : sc.1 k = false) : q_total sc k = q_total sc (k + 1) := by
  show _ = (if _ then _ else _)
  rw [if_neg (by rw [h]; decide)]
def q_bads (bm : gBM) (pa : gPA) (pl ql : gPL) (li : gLI) : Option Nat := q_find (q_bad bm pa pl ql li) (pa.2.2.2.2.2.2 - 0) 0
def q_keep (bm : gBM) (pa : gPA) (pl ql : gPL) (li : gLI) (wi : gWI) (more : Int64) : Bool := (q_bads bm pa pl ql li).isNone && !decide (more < q_meas pa pl wi - bm.2.2.2)
def q_keepP (bm : gBM) (pa : gPA) (pl ql : gPL) (li : gLI) (wi : gWI) (more : Int64) : gPL := if q_keep bm pa pl ql li wi more then pl else q_copyU ql pl pa.2.2.2.2.2.2
def q_keepW (bm : gBM) (pa : gPA) (pl ql : gPL) (li : gLI) (wi : gWI) : gWI := if (q_bads bm pa pl ql li).isNone then q_measW pa pl wi else wi
def q_keepB (bm : gBM) (pa : gPA) (pl ql : gPL) (li : gLI) (wi : gWI) (more : Int64) : gBM := if q_keep bm pa pl ql li wi more then (bm.1, bm.2.1, bm.2.2.1, q_meas pa pl wi) else bm
-- pushing
def q_clear (pa : gPA) (pu : Nat) (ax up : Bool) : Nat → gPL → gPL × Bool
  | 0, pl => (pl, false)
  | k + 1, pl => match q_first pa pl with
    | none => (pl, true)
    | some lo => match q_over pa pl lo (lo + 1) with
      | none => (pl, false)
      | some hi => if q_mates pa lo hi then (pl, false) else
        if q_goes pa pl lo hi pu ax up then q_clear pa pu ax up k (q_shift pa pl lo (if ax then q_way pa pl lo hi ax up else 0) (if ax then 0 else q_way pa pl lo hi ax up))
        else q_clear pa pu ax up k (q_shift pa pl hi (if ax then q_way pa pl hi lo ax up else 0) (if ax then 0 else q_way pa pl hi lo ax up))
def q_swap (pa : gPA) (pl : gPL) (a b : Nat) : gPL := if pl.2.2.2 b && !q_mates pa a b then q_shift pa (q_shift pa pl a (pl.1 b - pl.1 a) (pl.2.1 b - pl.2.1 a)) b (-(pl.1 b - pl.1 a)) (-(pl.2.1 b - pl.2.1 a)) else pl
def q_turnA (pa : gPA) (pl : gPL) (a q : Nat) : gPL := if q_hasMate pa pl a then pl else (pl.1, pl.2.1, va_up pl.2.2.1 a ((pl.2.2.1 a + q) % 4), pl.2.2.2)
end
section
def bT : List Cond := lw_tbl.filter goodWord
theorem inT {P : Cond → Prop} {a : Cond} (h : ∀ w, P w → w ∈ bT) : ∀ w, P w → w ∈ a :: bT := fun w q => List.mem_cons_of_mem _ (h w q)
def RX0 : String := "BoardMoves$Limits"
def TX0 : u_T := fun k => match k with
  | 0 => ("BoardMoves$Limits", "parts", "LBoardMoves$Parts;", true)
  | 1 => ("BoardMoves$Limits", "x0", "[J", true)
  | 2 => ("BoardMoves$Limits", "y0", "[J", true)
  | 3 => ("BoardMoves$Limits", "x1", "[J", true)
  | 4 => ("BoardMoves$Limits", "y1", "[J", true)
  | 5 => ("BoardMoves$Limits", "tallest", "[J", true)
  | 6 => ("BoardMoves$Limits", "one", "[I", true)
  | 7 => ("BoardMoves$Limits", "other", "[I", true)
  | 8 => ("BoardMoves$Limits", "most", "[J", true)
  | 9 => ("BoardMoves$Limits", "keepOuts", "I", false)
  | _ => ("BoardMoves$Limits", "nears", "I", false)
def tyX0 : Nat → FieldType := fun k => match k with
  | 0 => .object "BoardMoves$Parts"
  | 1 => .array .long
  | 2 => .array .long
  | 3 => .array .long
  | 4 => .array .long
  | 5 => .array .long
  | 6 => .array .int
  | 7 => .array .int
  | 8 => .array .long
  | 9 => .int
  | _ => .int
theorem nmX0 : ∀ a, a < 11 → ∀ b, b < 11 → a ≠ b → (TX0 a).2.1 ≠ (TX0 b).2.1 := by decide +kernel
theorem tyX0_ok : ∀ k, k < 11 → parseFieldDescriptor (TX0 k).2.2.1 = some (tyX0 k) := by decide +kernel
theorem inX0 : ∀ w, w ∈ u_ws RX0 TX0 11 → w ∈ bT := by decide +kernel
def RX1 : String := "BoardMoves$Parts"
def TX1 : u_T := fun k => match k with
  | 0 => ("BoardMoves$Parts", "w", "[J", true)
  | 1 => ("BoardMoves$Parts", "h", "[J", true)
  | 2 => ("BoardMoves$Parts", "side", "[I", true)
  | 3 => ("BoardMoves$Parts", "tall", "[J", true)
  | 4 => ("BoardMoves$Parts", "locked", "[Z", true)
  | 5 => ("BoardMoves$Parts", "lowest", "[I", true)
  | _ => ("BoardMoves$Parts", "count", "I", false)
def tyX1 : Nat → FieldType := fun k => match k with
  | 0 => .array .long
  | 1 => .array .long
  | 2 => .array .int
  | 3 => .array .long
  | 4 => .array .boolean
  | 5 => .array .int
  | _ => .int
theorem nmX1 : ∀ a, a < 7 → ∀ b, b < 7 → a ≠ b → (TX1 a).2.1 ≠ (TX1 b).2.1 := by decide +kernel
theorem tyX1_ok : ∀ k, k < 7 → parseFieldDescriptor (TX1 k).2.2.1 = some (tyX1 k) := by decide +kernel
theorem inX1 : ∀ w, w ∈ u_ws RX1 TX1 7 → w ∈ bT := by decide +kernel
def RX2 : String := "BoardMoves$Placement"
def TX2 : u_T := fun k => match k with
  | 0 => ("BoardMoves$Placement", "parts", "LBoardMoves$Parts;", true)
  | 1 => ("BoardMoves$Placement", "x", "[J", true)
  | 2 => ("BoardMoves$Placement", "y", "[J", true)
  | 3 => ("BoardMoves$Placement", "turn", "[I", true)
  | _ => ("BoardMoves$Placement", "placed", "[Z", true)
def tyX2 : Nat → FieldType := fun k => match k with
  | 0 => .object "BoardMoves$Parts"
  | 1 => .array .long
  | 2 => .array .long
  | 3 => .array .int
  | _ => .array .boolean
theorem nmX2 : ∀ a, a < 5 → ∀ b, b < 5 → a ≠ b → (TX2 a).2.1 ≠ (TX2 b).2.1 := by decide +kernel
theorem tyX2_ok : ∀ k, k < 5 → parseFieldDescriptor (TX2 k).2.2.1 = some (tyX2 k) := by decide +kernel
theorem inX2 : ∀ w, w ∈ u_ws RX2 TX2 5 → w ∈ bT := by decide +kernel
def RX3 : String := "BoardMoves$Wiring"
def TX3 : u_T := fun k => match k with
  | 0 => ("BoardMoves$Wiring", "parts", "LBoardMoves$Parts;", true)
  | 1 => ("BoardMoves$Wiring", "netOf", "[I", true)
  | 2 => ("BoardMoves$Wiring", "partOf", "[I", true)
  | 3 => ("BoardMoves$Wiring", "dx", "[J", true)
  | 4 => ("BoardMoves$Wiring", "dy", "[J", true)
  | 5 => ("BoardMoves$Wiring", "reached", "[Z", true)
  | 6 => ("BoardMoves$Wiring", "lowX", "[J", true)
  | 7 => ("BoardMoves$Wiring", "highX", "[J", true)
  | 8 => ("BoardMoves$Wiring", "lowY", "[J", true)
  | 9 => ("BoardMoves$Wiring", "highY", "[J", true)
  | 10 => ("BoardMoves$Wiring", "nets", "I", false)
  | _ => ("BoardMoves$Wiring", "pins", "I", false)
def tyX3 : Nat → FieldType := fun k => match k with
  | 0 => .object "BoardMoves$Parts"
  | 1 => .array .int
  | 2 => .array .int
  | 3 => .array .long
  | 4 => .array .long
  | 5 => .array .boolean
  | 6 => .array .long
  | 7 => .array .long
  | 8 => .array .long
  | 9 => .array .long
  | 10 => .int
  | _ => .int
theorem nmX3 : ∀ a, a < 12 → ∀ b, b < 12 → a ≠ b → (TX3 a).2.1 ≠ (TX3 b).2.1 := by decide +kernel
theorem tyX3_ok : ∀ k, k < 12 → parseFieldDescriptor (TX3 k).2.2.1 = some (tyX3 k) := by decide +kernel
theorem inX3 : ∀ w, w ∈ u_ws RX3 TX3 12 → w ∈ bT := by decide +kernel
def RX4 : String := "BoardMoves"
def TX4 : u_T := fun k => match k with
  | 0 => ("BoardMoves", "boardWide", "J", true)
  | 1 => ("BoardMoves", "boardHigh", "J", true)
  | 2 => ("BoardMoves", "parts", "LBoardMoves$Parts;", true)
  | 3 => ("BoardMoves", "limits", "LBoardMoves$Limits;", true)
  | 4 => ("BoardMoves", "wiring", "LBoardMoves$Wiring;", true)
  | 5 => ("BoardMoves", "now", "LBoardMoves$Placement;", true)
  | 6 => ("BoardMoves", "before", "LBoardMoves$Placement;", true)
  | 7 => ("BoardMoves", "best", "LBoardMoves$Placement;", true)
  | 8 => ("BoardMoves", "drawn", "J", false)
  | _ => ("BoardMoves", "keptWire", "J", false)
def tyX4 : Nat → FieldType := fun k => match k with
  | 0 => .long
  | 1 => .long
  | 2 => .object "BoardMoves$Parts"
  | 3 => .object "BoardMoves$Limits"
  | 4 => .object "BoardMoves$Wiring"
  | 5 => .object "BoardMoves$Placement"
  | 6 => .object "BoardMoves$Placement"
  | 7 => .object "BoardMoves$Placement"
  | 8 => .long
  | _ => .long
theorem nmX4 : ∀ a, a < 10 → ∀ b, b < 10 → a ≠ b → (TX4 a).2.1 ≠ (TX4 b).2.1 := by decide +kernel
theorem tyX4_ok : ∀ k, k < 10 → parseFieldDescriptor (TX4 k).2.2.1 = some (tyX4 k) := by decide +kernel
theorem inX4 : ∀ w, w ∈ u_ws RX4 TX4 10 → w ∈ bT := by decide +kernel
abbrev vwCl : List vw_C := [(RX0, TX0, 11), (RX1, TX1, 7), (RX2, TX2, 5), (RX3, TX3, 12), (RX4, TX4, 10)]
abbrev cX1_areMates : ByteArray := prog_3_method_3_code
def yX1_areMates : MethodName := ⟨RX1, "areMates", "(II)Z"⟩
def wsX1_areMates : List Cond := .code yX1_areMates cX1_areMates 3 (some .boolean) :: bT
theorem dX1_areMates_0 : decode cX1_areMates 0 = .ok (.aload_n 0, 1) := by decide +kernel
theorem dX1_areMates_1 : decode cX1_areMates 1 = .ok (.getfield 29, 3) := by decide +kernel
theorem dX1_areMates_4 : decode cX1_areMates 4 = .ok (.iload_n 1, 1) := by decide +kernel
theorem dX1_areMates_5 : decode cX1_areMates 5 = .ok (.iaload, 1) := by decide +kernel
theorem dX1_areMates_6 : decode cX1_areMates 6 = .ok (.aload_n 0, 1) := by decide +kernel
theorem dX1_areMates_7 : decode cX1_areMates 7 = .ok (.getfield 29, 3) := by decide +kernel
theorem dX1_areMates_10 : decode cX1_areMates 10 = .ok (.iload_n 2, 1) := by decide +kernel
theorem dX1_areMates_11 : decode cX1_areMates 11 = .ok (.iaload, 1) := by decide +kernel
theorem dX1_areMates_12 : decode cX1_areMates 12 = .ok (.if_icmp .ne (7), 3) := by decide +kernel
theorem dX1_areMates_15 : decode cX1_areMates 15 = .ok (.iconst 1, 1) := by decide +kernel
theorem dX1_areMates_16 : decode cX1_areMates 16 = .ok (.goto (4), 3) := by decide +kernel
theorem dX1_areMates_19 : decode cX1_areMates 19 = .ok (.iconst 0, 1) := by decide +kernel
theorem dX1_areMates_20 : decode cX1_areMates 20 = .ok (.ireturn, 1) := by decide +kernel
abbrev cX2_endX : ByteArray := prog_4_method_7_code
def yX2_endX : MethodName := ⟨RX2, "endX", "(I)J"⟩
def wsX2_endX : List Cond := .code yX2_endX cX2_endX 2 (some .long) :: bT
theorem dX2_endX_0 : decode cX2_endX 0 = .ok (.aload_n 0, 1) := by decide +kernel
theorem dX2_endX_1 : decode cX2_endX 1 = .ok (.getfield 9, 3) := by decide +kernel
theorem dX2_endX_4 : decode cX2_endX 4 = .ok (.iload_n 1, 1) := by decide +kernel
theorem dX2_endX_5 : decode cX2_endX 5 = .ok (.laload, 1) := by decide +kernel
theorem dX2_endX_6 : decode cX2_endX 6 = .ok (.aload_n 0, 1) := by decide +kernel
theorem dX2_endX_7 : decode cX2_endX 7 = .ok (.getfield 18, 3) := by decide +kernel
theorem dX2_endX_10 : decode cX2_endX 10 = .ok (.iload_n 1, 1) := by decide +kernel
theorem dX2_endX_11 : decode cX2_endX 11 = .ok (.iaload, 1) := by decide +kernel
theorem dX2_endX_12 : decode cX2_endX 12 = .ok (.iconst 2, 1) := by decide +kernel
theorem dX2_endX_13 : decode cX2_endX 13 = .ok (.irem, 1) := by decide +kernel
theorem dX2_endX_14 : decode cX2_endX 14 = .ok (.ifCond .ne (15), 3) := by decide +kernel
theorem dX2_endX_17 : decode cX2_endX 17 = .ok (.aload_n 0, 1) := by decide +kernel
theorem dX2_endX_18 : decode cX2_endX 18 = .ok (.getfield 26, 3) := by decide +kernel
theorem dX2_endX_21 : decode cX2_endX 21 = .ok (.getfield 40, 3) := by decide +kernel
theorem dX2_endX_24 : decode cX2_endX 24 = .ok (.iload_n 1, 1) := by decide +kernel
theorem dX2_endX_25 : decode cX2_endX 25 = .ok (.laload, 1) := by decide +kernel
theorem dX2_endX_26 : decode cX2_endX 26 = .ok (.goto (12), 3) := by decide +kernel
theorem dX2_endX_29 : decode cX2_endX 29 = .ok (.aload_n 0, 1) := by decide +kernel
theorem dX2_endX_30 : decode cX2_endX 30 = .ok (.getfield 26, 3) := by decide +kernel
theorem dX2_endX_33 : decode cX2_endX 33 = .ok (.getfield 43, 3) := by decide +kernel
theorem dX2_endX_36 : decode cX2_endX 36 = .ok (.iload_n 1, 1) := by decide +kernel
theorem dX2_endX_37 : decode cX2_endX 37 = .ok (.laload, 1) := by decide +kernel
theorem dX2_endX_38 : decode cX2_endX 38 = .ok (.ladd, 1) := by decide +kernel
theorem dX2_endX_39 : decode cX2_endX 39 = .ok (.lreturn, 1) := by decide +kernel
end
section
def Wd (ad : Nat → Nat) (cJ cI cZ : ClassId) (bm : gBM) (pa : gPA) (p0 : gPL) (p1 : gPL) (p2 : gPL) (li : gLI) (wi : gWI) : va_W := [(ad 0, .inr (4, [.long bm.1, .long bm.2.1, .ref (ad 1), .ref (ad 23), .ref (ad 32), .ref (ad 8), .ref (ad 13), .ref (ad 18), .long bm.2.2.1, .long bm.2.2.2])),
  (ad 1, .inr (1, [.ref (ad 2), .ref (ad 3), .ref (ad 4), .ref (ad 5), .ref (ad 6), .ref (ad 7), .int (nI pa.2.2.2.2.2.2)])),
  (ad 2, .inl (cJ, 40, .inr (.inl pa.1))),
  (ad 3, .inl (cJ, 40, .inr (.inl pa.2.1))),
  (ad 4, .inl (cI, 40, .inl (fun j => nI (pa.2.2.1 j)))),
  (ad 5, .inl (cJ, 40, .inr (.inl pa.2.2.2.1))),
  (ad 6, .inl (cZ, 40, .inl (fun j => bm_b (pa.2.2.2.2.1 j)))),
  (ad 7, .inl (cI, 40, .inl (fun j => nI (pa.2.2.2.2.2.1 j)))),
  (ad 8, .inr (2, [.ref (ad 1), .ref (ad 9), .ref (ad 10), .ref (ad 11), .ref (ad 12)])),
  (ad 9, .inl (cJ, 40, .inr (.inl p0.1))),
  (ad 10, .inl (cJ, 40, .inr (.inl p0.2.1))),
  (ad 11, .inl (cI, 40, .inl (fun j => nI (p0.2.2.1 j)))),
  (ad 12, .inl (cZ, 40, .inl (fun j => bm_b (p0.2.2.2 j)))),
  (ad 13, .inr (2, [.ref (ad 1), .ref (ad 14), .ref (ad 15), .ref (ad 16), .ref (ad 17)])),
  (ad 14, .inl (cJ, 40, .inr (.inl p1.1))),
  (ad 15, .inl (cJ, 40, .inr (.inl p1.2.1))),
  (ad 16, .inl (cI, 40, .inl (fun j => nI (p1.2.2.1 j)))),
  (ad 17, .inl (cZ, 40, .inl (fun j => bm_b (p1.2.2.2 j)))),
  (ad 18, .inr (2, [.ref (ad 1), .ref (ad 19), .ref (ad 20), .ref (ad 21), .ref (ad 22)])),
  (ad 19, .inl (cJ, 40, .inr (.inl p2.1))),
  (ad 20, .inl (cJ, 40, .inr (.inl p2.2.1))),
  (ad 21, .inl (cI, 40, .inl (fun j => nI (p2.2.2.1 j)))),
  (ad 22, .inl (cZ, 40, .inl (fun j => bm_b (p2.2.2.2 j)))),
  (ad 23, .inr (0, [.ref (ad 1), .ref (ad 24), .ref (ad 25), .ref (ad 26), .ref (ad 27), .ref (ad 28), .ref (ad 29), .ref (ad 30), .ref (ad 31), .int (nI li.2.2.2.2.2.2.2.2.1), .int (nI li.2.2.2.2.2.2.2.2.2)])),
  (ad 24, .inl (cJ, 10, .inr (.inl li.1))),
  (ad 25, .inl (cJ, 10, .inr (.inl li.2.1))),
  (ad 26, .inl (cJ, 10, .inr (.inl li.2.2.1))),
  (ad 27, .inl (cJ, 10, .inr (.inl li.2.2.2.1))),
  (ad 28, .inl (cJ, 10, .inr (.inl li.2.2.2.2.1))),
  (ad 29, .inl (cI, 20, .inl (fun j => nI (li.2.2.2.2.2.1 j)))),
  (ad 30, .inl (cI, 20, .inl (fun j => nI (li.2.2.2.2.2.2.1 j)))),
  (ad 31, .inl (cJ, 20, .inr (.inl li.2.2.2.2.2.2.2.1))),
  (ad 32, .inr (3, [.ref (ad 1), .ref (ad 33), .ref (ad 34), .ref (ad 35), .ref (ad 36), .ref (ad 37), .ref (ad 38), .ref (ad 39), .ref (ad 40), .ref (ad 41), .int (nI wi.2.2.2.2.2.2.2.2.2.1), .int (nI wi.2.2.2.2.2.2.2.2.2.2)])),
  (ad 33, .inl (cI, 120, .inl (fun j => nI (wi.1 j)))),
  (ad 34, .inl (cI, 120, .inl (fun j => nI (wi.2.1 j)))),
  (ad 35, .inl (cJ, 120, .inr (.inl wi.2.2.1))),
  (ad 36, .inl (cJ, 120, .inr (.inl wi.2.2.2.1))),
  (ad 37, .inl (cZ, 40, .inl (fun j => bm_b (wi.2.2.2.2.1 j)))),
  (ad 38, .inl (cJ, 40, .inr (.inl wi.2.2.2.2.2.1))),
  (ad 39, .inl (cJ, 40, .inr (.inl wi.2.2.2.2.2.2.1))),
  (ad 40, .inl (cJ, 40, .inr (.inl wi.2.2.2.2.2.2.2.1))),
  (ad 41, .inl (cJ, 40, .inr (.inl wi.2.2.2.2.2.2.2.2.1)))]
end
section
set_option maxHeartbeats 4000000 in
set_option maxRecDepth 100000 in
theorem r_mates {l : Launch} {D : va_G} {ad : Nat → Nat} {cJ cI cZ : ClassId} {bm : gBM} {pa : gPA} {p0 p1 p2 : gPL} {li : gLI} {wi : gWI} (hoA : q_okA pa) {a b : Nat} (h1 : a < 40) (h2 : b < 40) : bm_Rd l yX1_areMates wsX1_areMates ({ frames := 0, cells := 0, slots := 0, locals := 0 }) D vwCl [(cJ, .long), (cI, .int), (cZ, .boolean)] (Wd ad cJ cI cZ bm pa p0 p1 p2 li wi) [.ref (ad 1), .int (nI a), .int (nI b)] (.int (bm_b (q_mates pa a b))) := by
  obtain ⟨hn, hsd, hlw⟩ := hoA
  refine Met.ofW (cc := cX1_areMates) (maxL := 3) (ret := (some .boolean)) (by decide) rfl ?_
  intro p e s m args below meth c s₁ B hml hv
  obtain ⟨ha, hP, hK⟩ := hv
  have hx := B.exec
  have hb := B.bytes
  have hr := B.returns
  have hts := atoms_spec (ws := wsX1_areMates) B.pre
  have hown : s.vm.findClass RX1 = some m.cls := findClass_of_methodNamed B.named
  have hlocks := B.notSynchronized
  have hl := lv_entry ([.ref (ad 1), .int (nI a), .int (nI b)]) (n := 3) (Nat.le_of_ble_eq_true rfl)
  refine W.eq (g2 := entryFrame m ([.ref (ad 1), .int (nI a), .int (nI b)] : List Value).toArray 3) (by rw [ha]) ?_
  rw [lg_entry_eq]
  generalize (lg_sl ([.ref (ad 1), .int (nI a), .int (nI b)]) ++ List.replicate (3 - (lg_sl ([.ref (ad 1), .int (nI a), .int (nI b)])).length) Slot.unset).toArray = ls at hl ⊢
  have hl : lv_has ls 3 [(0, .ref (ad 1)), (1, .int (nI a)), (2, .int (nI b))] := hl
  refine lv_aload_n hx hb dX1_areMates_0 rfl (lv_at hl 0 rfl) ?_
  refine va_get (D := D) (ci := 1) (v := .ref (ad 7)) (C := RX1) (T := TX1) (N := 7) hx hb hts (inT inX1) hown hK hP 1 rfl rfl 5 (by decide) (hts (.fieldLink RX1 29 "BoardMoves$Parts" "lowest" "[I") (by decide +kernel)) (fun _ h9 => h9) rfl dX1_areMates_1 ?_
  refine lv_iload_n hx hb dX1_areMates_4 rfl (lv_at hl 1 rfl) ?_
  refine bm_nald (f := pa.2.2.2.2.2.1) hx hb hK hP 7 1 rfl rfl (j := a) (by omega) (by decide) dX1_areMates_5 ?_
  refine lv_aload_n hx hb dX1_areMates_6 rfl (lv_at hl 0 rfl) ?_
  refine va_get (D := D) (ci := 1) (v := .ref (ad 7)) (C := RX1) (T := TX1) (N := 7) hx hb hts (inT inX1) hown hK hP 1 rfl rfl 5 (by decide) (hts (.fieldLink RX1 29 "BoardMoves$Parts" "lowest" "[I") (by decide +kernel)) (fun _ h9 => h9) rfl dX1_areMates_7 ?_
  refine lv_iload_n hx hb dX1_areMates_10 rfl (lv_at hl 2 rfl) ?_
  refine bm_nald (f := pa.2.2.2.2.2.1) hx hb hK hP 7 1 rfl rfl (j := b) (by omega) (by decide) dX1_areMates_11 ?_
  refine bm_ni_ne (x := (pa.2.2.2.2.2.1 a)) (y := (pa.2.2.2.2.2.1 b)) (tgt := 19) hx hb (bm40 (hlw _)) (bm40 (hlw _)) dX1_areMates_12 (by decide) (fun c_1 => ?_) (fun c_1 => ?_)
  · refine lv_iconst (v := bm_b false) hx hb dX1_areMates_19 (by decide) ?_
    exact bm_zretR (v := false) hx hb hr (by simp [q_mates, c_1]) dX1_areMates_20 hlocks
  · refine lv_iconst (v := bm_b true) hx hb dX1_areMates_15 (by decide) ?_
    refine lv_goto (tgt := 20) hx hb dX1_areMates_16 (by decide) ?_
    exact bm_zretR (v := true) hx hb hr (by simp [q_mates, c_1]) dX1_areMates_20 hlocks

set_option maxHeartbeats 4000000 in
set_option maxRecDepth 100000 in
theorem r_endX {l : Launch} {D : va_G} {ad : Nat → Nat} {cJ cI cZ : ClassId} {bm : gBM} {pa : gPA} {p0 p1 p2 : gPL} {li : gLI} {wi : gWI} (hoL : q_okL p0) {j : Nat} (h1 : j < 40) : bm_Rd l yX2_endX wsX2_endX ({ frames := 0, cells := 0, slots := 0, locals := 0 }) D vwCl [(cJ, .long), (cI, .int), (cZ, .boolean)] (Wd ad cJ cI cZ bm pa p0 p1 p2 li wi) [.ref (ad 8), .int (nI j)] (.long (q_endX pa p0 j)) := by
  refine Met.ofW (cc := cX2_endX) (maxL := 2) (ret := (some .long)) (by decide) rfl ?_
  intro p e s m args below meth c s₁ B hml hv
  obtain ⟨ha, hP, hK⟩ := hv
  have hx := B.exec
  have hb := B.bytes
  have hr := B.returns
  have hts := atoms_spec (ws := wsX2_endX) B.pre
  have hown : s.vm.findClass RX2 = some m.cls := findClass_of_methodNamed B.named
  have hlocks := B.notSynchronized
  have hl := lv_entry ([.ref (ad 8), .int (nI j)]) (n := 2) (Nat.le_of_ble_eq_true rfl)
  refine W.eq (g2 := entryFrame m ([.ref (ad 8), .int (nI j)] : List Value).toArray 2) (by rw [ha]) ?_
  rw [lg_entry_eq]
  generalize (lg_sl ([.ref (ad 8), .int (nI j)]) ++ List.replicate (2 - (lg_sl ([.ref (ad 8), .int (nI j)])).length) Slot.unset).toArray = ls at hl ⊢
  have hl : lv_has ls 2 [(0, .ref (ad 8)), (1, .int (nI j))] := hl
  refine lv_aload_n hx hb dX2_endX_0 rfl (lv_at hl 0 rfl) ?_
  refine va_get (D := D) (ci := 2) (v := .ref (ad 9)) (C := RX2) (T := TX2) (N := 5) hx hb hts (inT inX2) hown hK hP 8 rfl rfl 1 (by decide) (hts (.fieldLink RX2 9 "BoardMoves$Placement" "x" "[J") (by decide +kernel)) (fun _ h9 => h9) rfl dX2_endX_1 ?_
  refine lv_iload_n hx hb dX2_endX_4 rfl (lv_at hl 1 rfl) ?_
  refine bm_lald (f := p0.1) hx hb hK hP 9 0 rfl rfl (j := j) (by omega) (by decide) dX2_endX_5 ?_
  refine lv_aload_n hx hb dX2_endX_6 rfl (lv_at hl 0 rfl) ?_
  refine va_get (D := D) (ci := 2) (v := .ref (ad 11)) (C := RX2) (T := TX2) (N := 5) hx hb hts (inT inX2) hown hK hP 8 rfl rfl 3 (by decide) (hts (.fieldLink RX2 18 "BoardMoves$Placement" "turn" "[I") (by decide +kernel)) (fun _ h9 => h9) rfl dX2_endX_7 ?_
  refine lv_iload_n hx hb dX2_endX_10 rfl (lv_at hl 1 rfl) ?_
  refine bm_nald (f := p0.2.2.1) hx hb hK hP 11 1 rfl rfl (j := j) (by omega) (by decide) dX2_endX_11 ?_
  refine lv_iconst (v := nI 2) hx hb dX2_endX_12 (by decide) ?_
  refine bm_nrem hx hb (bm40 (hoL _)) (by decide) (by decide) dX2_endX_13 ?_
  refine bm_nz_ne (x := ((p0.2.2.1 j) % 2)) (tgt := 29) hx hb (by have := hoL j; omega) dX2_endX_14 (by decide) (fun c_1 => ?_) (fun c_1 => ?_)
  · refine lv_aload_n hx hb dX2_endX_29 rfl (lv_at hl 0 rfl) ?_
    refine va_get (D := D) (ci := 2) (v := .ref (ad 1)) (C := RX2) (T := TX2) (N := 5) hx hb hts (inT inX2) hown hK hP 8 rfl rfl 0 (by decide) (hts (.fieldLink RX2 26 "BoardMoves$Placement" "parts" "LBoardMoves$Parts;") (by decide +kernel)) (fun _ h9 => h9) rfl dX2_endX_30 ?_
    refine va_get (D := D) (ci := 1) (v := .ref (ad 3)) (C := RX1) (T := TX1) (N := 7) hx hb hts (inT inX1) hown hK hP 1 rfl rfl 1 (by decide) (hts (.fieldLink RX2 43 "BoardMoves$Parts" "h" "[J") (by decide +kernel)) (fun _ h9 => h9) rfl dX2_endX_33 ?_
    refine lv_iload_n hx hb dX2_endX_36 rfl (lv_at hl 1 rfl) ?_
    refine bm_lald (f := pa.2.1) hx hb hK hP 3 0 rfl rfl (j := j) (by omega) (by decide) dX2_endX_37 ?_
    refine lv_ladd hx hb dX2_endX_38 ?_
    exact bm_lretR (v := ((p0.1 j) + (pa.2.1 j))) hx hb hr (by simp [q_endX, c_1]) dX2_endX_39 hlocks
  · refine lv_aload_n hx hb dX2_endX_17 rfl (lv_at hl 0 rfl) ?_
    refine va_get (D := D) (ci := 2) (v := .ref (ad 1)) (C := RX2) (T := TX2) (N := 5) hx hb hts (inT inX2) hown hK hP 8 rfl rfl 0 (by decide) (hts (.fieldLink RX2 26 "BoardMoves$Placement" "parts" "LBoardMoves$Parts;") (by decide +kernel)) (fun _ h9 => h9) rfl dX2_endX_18 ?_
    refine va_get (D := D) (ci := 1) (v := .ref (ad 2)) (C := RX1) (T := TX1) (N := 7) hx hb hts (inT inX1) hown hK hP 1 rfl rfl 0 (by decide) (hts (.fieldLink RX2 40 "BoardMoves$Parts" "w" "[J") (by decide +kernel)) (fun _ h9 => h9) rfl dX2_endX_21 ?_
    refine lv_iload_n hx hb dX2_endX_24 rfl (lv_at hl 1 rfl) ?_
    refine bm_lald (f := pa.1) hx hb hK hP 2 0 rfl rfl (j := j) (by omega) (by decide) dX2_endX_25 ?_
    refine lv_goto (tgt := 38) hx hb dX2_endX_26 (by decide) ?_
    refine lv_ladd hx hb dX2_endX_38 ?_
    exact bm_lretR (v := ((p0.1 j) + (pa.1 j))) hx hb hr (by simp [q_endX, c_1]) dX2_endX_39 hlocks
end
