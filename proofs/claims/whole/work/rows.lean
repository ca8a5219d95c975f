section
-- ===== PART A: goes FIRST, ahead of the names: the tables' words, and 'selects' of the private methods out of them =====
/-- a private method of a class that the tables say can be made, by its rows of tables_1 -/
def lw_okq (q : MethodName × Nat) : Prop := (q.1.cls ≠ "java/lang/invoke/MethodHandle" ∧ q.1.cls ≠ "java/lang/invoke/VarHandle") ∧ Cond.instantiable q.1.cls q.2 ∈ tables_1 ∧ Cond.privateMethod q.1 ∈ tables_1 ∧ Cond.instanceMethod q.1 ∈ tables_1
theorem lw_p0 : lw_okq (⟨"BoardMoves$Wiring", "turnedX", "(III)J"⟩, 12) := ⟨⟨by decide +kernel, by decide +kernel⟩, List.mem_of_getElem? (i := 108) (by decide +kernel), List.mem_of_getElem? (i := 240) (by decide +kernel), List.mem_of_getElem? (i := 241) (by decide +kernel)⟩
theorem lw_p1 : lw_okq (⟨"BoardMoves$Wiring", "turnedY", "(III)J"⟩, 12) := ⟨⟨by decide +kernel, by decide +kernel⟩, List.mem_of_getElem? (i := 108) (by decide +kernel), List.mem_of_getElem? (i := 244) (by decide +kernel), List.mem_of_getElem? (i := 245) (by decide +kernel)⟩
theorem lw_p2 : lw_okq (⟨"BoardMoves$Wiring", "reach", "(IJJ)V"⟩, 12) := ⟨⟨by decide +kernel, by decide +kernel⟩, List.mem_of_getElem? (i := 108) (by decide +kernel), List.mem_of_getElem? (i := 248) (by decide +kernel), List.mem_of_getElem? (i := 249) (by decide +kernel)⟩
theorem lw_p3 : lw_okq (⟨"BoardMoves", "allStandWell", "()Z"⟩, 10) := ⟨⟨by decide +kernel, by decide +kernel⟩, List.mem_of_getElem? (i := 15) (by decide +kernel), List.mem_of_getElem? (i := 258) (by decide +kernel), List.mem_of_getElem? (i := 259) (by decide +kernel)⟩
theorem lw_p4 : lw_okq (⟨"BoardMoves", "standsWell", "(I)Z"⟩, 10) := ⟨⟨by decide +kernel, by decide +kernel⟩, List.mem_of_getElem? (i := 15) (by decide +kernel), List.mem_of_getElem? (i := 262) (by decide +kernel), List.mem_of_getElem? (i := 263) (by decide +kernel)⟩
theorem lw_p5 : lw_okq (⟨"BoardMoves", "fitsBoard", "(IJJI)Z"⟩, 10) := ⟨⟨by decide +kernel, by decide +kernel⟩, List.mem_of_getElem? (i := 15) (by decide +kernel), List.mem_of_getElem? (i := 266) (by decide +kernel), List.mem_of_getElem? (i := 267) (by decide +kernel)⟩
theorem lw_p6 : lw_okq (⟨"java/lang/Throwable", "fillInStackTrace", "(I)Ljava/lang/Throwable;"⟩, 6) := ⟨⟨by decide +kernel, by decide +kernel⟩, List.mem_of_getElem? (i := 353) (by decide +kernel), List.mem_of_getElem? (i := 351) (by decide +kernel), List.mem_of_getElem? (i := 352) (by decide +kernel)⟩
theorem lw_p7 : lw_okq (⟨"BoardMoves", "needPart", "(I)V"⟩, 10) := ⟨⟨by decide +kernel, by decide +kernel⟩, List.mem_of_getElem? (i := 15) (by decide +kernel), List.mem_of_getElem? (i := 395) (by decide +kernel), List.mem_of_getElem? (i := 396) (by decide +kernel)⟩
theorem lw_p8 : lw_okq (⟨"BoardMoves", "keepChange", "(J)Z"⟩, 10) := ⟨⟨by decide +kernel, by decide +kernel⟩, List.mem_of_getElem? (i := 15) (by decide +kernel), List.mem_of_getElem? (i := 437) (by decide +kernel), List.mem_of_getElem? (i := 438) (by decide +kernel)⟩
theorem lw_p9 : lw_okq (⟨"BoardMoves", "takeBack", "()Z"⟩, 10) := ⟨⟨by decide +kernel, by decide +kernel⟩, List.mem_of_getElem? (i := 15) (by decide +kernel), List.mem_of_getElem? (i := 445) (by decide +kernel), List.mem_of_getElem? (i := 446) (by decide +kernel)⟩
theorem lw_p10 : lw_okq (⟨"BoardMoves", "clearTheWay", "(IZZ)Z"⟩, 10) := ⟨⟨by decide +kernel, by decide +kernel⟩, List.mem_of_getElem? (i := 15) (by decide +kernel), List.mem_of_getElem? (i := 496) (by decide +kernel), List.mem_of_getElem? (i := 497) (by decide +kernel)⟩
theorem lw_p11 : lw_okq (⟨"BoardMoves", "goesOn", "(IIIZZ)Z"⟩, 10) := ⟨⟨by decide +kernel, by decide +kernel⟩, List.mem_of_getElem? (i := 15) (by decide +kernel), List.mem_of_getElem? (i := 506) (by decide +kernel), List.mem_of_getElem? (i := 507) (by decide +kernel)⟩
theorem lw_p12 : lw_okq (⟨"BoardMoves", "countChanged", "(I)I"⟩, 10) := ⟨⟨by decide +kernel, by decide +kernel⟩, List.mem_of_getElem? (i := 15) (by decide +kernel), List.mem_of_getElem? (i := 514) (by decide +kernel), List.mem_of_getElem? (i := 515) (by decide +kernel)⟩
theorem lw_p13 : lw_okq (⟨"BoardMoves", "step", "(J)Z"⟩, 10) := ⟨⟨by decide +kernel, by decide +kernel⟩, List.mem_of_getElem? (i := 15) (by decide +kernel), List.mem_of_getElem? (i := 536) (by decide +kernel), List.mem_of_getElem? (i := 537) (by decide +kernel)⟩
theorem lw_p14 : lw_okq (⟨"BoardMoves", "draw", "()J"⟩, 10) := ⟨⟨by decide +kernel, by decide +kernel⟩, List.mem_of_getElem? (i := 15) (by decide +kernel), List.mem_of_getElem? (i := 540) (by decide +kernel), List.mem_of_getElem? (i := 541) (by decide +kernel)⟩
theorem lw_p15 : lw_okq (⟨"BoardMoves", "swapPlaces", "(II)V"⟩, 10) := ⟨⟨by decide +kernel, by decide +kernel⟩, List.mem_of_getElem? (i := 15) (by decide +kernel), List.mem_of_getElem? (i := 547) (by decide +kernel), List.mem_of_getElem? (i := 548) (by decide +kernel)⟩
def lw_privs_1 : List (MethodName × Nat) := [(⟨"BoardMoves$Wiring", "turnedX", "(III)J"⟩, 12), (⟨"BoardMoves$Wiring", "turnedY", "(III)J"⟩, 12), (⟨"BoardMoves$Wiring", "reach", "(IJJ)V"⟩, 12), (⟨"BoardMoves", "allStandWell", "()Z"⟩, 10), (⟨"BoardMoves", "standsWell", "(I)Z"⟩, 10), (⟨"BoardMoves", "fitsBoard", "(IJJI)Z"⟩, 10), (⟨"java/lang/Throwable", "fillInStackTrace", "(I)Ljava/lang/Throwable;"⟩, 6), (⟨"BoardMoves", "needPart", "(I)V"⟩, 10), (⟨"BoardMoves", "keepChange", "(J)Z"⟩, 10), (⟨"BoardMoves", "takeBack", "()Z"⟩, 10), (⟨"BoardMoves", "clearTheWay", "(IZZ)Z"⟩, 10), (⟨"BoardMoves", "goesOn", "(IIIZZ)Z"⟩, 10), (⟨"BoardMoves", "countChanged", "(I)I"⟩, 10), (⟨"BoardMoves", "step", "(J)Z"⟩, 10), (⟨"BoardMoves", "draw", "()J"⟩, 10), (⟨"BoardMoves", "swapPlaces", "(II)V"⟩, 10)]
theorem lw_r1 : ∀ q ∈ lw_privs_1, lw_okq q := List.forall_mem_cons.mpr ⟨lw_p0, List.forall_mem_cons.mpr ⟨lw_p1, List.forall_mem_cons.mpr ⟨lw_p2, List.forall_mem_cons.mpr ⟨lw_p3, List.forall_mem_cons.mpr ⟨lw_p4, List.forall_mem_cons.mpr ⟨lw_p5, List.forall_mem_cons.mpr ⟨lw_p6, List.forall_mem_cons.mpr ⟨lw_p7, List.forall_mem_cons.mpr ⟨lw_p8, List.forall_mem_cons.mpr ⟨lw_p9, List.forall_mem_cons.mpr ⟨lw_p10, List.forall_mem_cons.mpr ⟨lw_p11, List.forall_mem_cons.mpr ⟨lw_p12, List.forall_mem_cons.mpr ⟨lw_p13, List.forall_mem_cons.mpr ⟨lw_p14, List.forall_mem_cons.mpr ⟨lw_p15, fun _ h => absurd h List.not_mem_nil⟩⟩⟩⟩⟩⟩⟩⟩⟩⟩⟩⟩⟩⟩⟩⟩
theorem lw_p16 : lw_okq (⟨"BoardMoves", "turnAlone", "(II)V"⟩, 10) := ⟨⟨by decide +kernel, by decide +kernel⟩, List.mem_of_getElem? (i := 15) (by decide +kernel), List.mem_of_getElem? (i := 552) (by decide +kernel), List.mem_of_getElem? (i := 553) (by decide +kernel)⟩
theorem lw_p17 : lw_okq (⟨"BoardMovesModel", "isPart", "(I)Z"⟩, 28) := ⟨⟨by decide +kernel, by decide +kernel⟩, List.mem_of_getElem? (i := 614) (by decide +kernel), List.mem_of_getElem? (i := 721) (by decide +kernel), List.mem_of_getElem? (i := 722) (by decide +kernel)⟩
theorem lw_p18 : lw_okq (⟨"BoardMovesModel", "begin", "()V"⟩, 28) := ⟨⟨by decide +kernel, by decide +kernel⟩, List.mem_of_getElem? (i := 614) (by decide +kernel), List.mem_of_getElem? (i := 725) (by decide +kernel), List.mem_of_getElem? (i := 726) (by decide +kernel)⟩
theorem lw_p19 : lw_okq (⟨"BoardMovesModel", "copy", "(II)V"⟩, 28) := ⟨⟨by decide +kernel, by decide +kernel⟩, List.mem_of_getElem? (i := 614) (by decide +kernel), List.mem_of_getElem? (i := 729) (by decide +kernel), List.mem_of_getElem? (i := 730) (by decide +kernel)⟩
theorem lw_p20 : lw_okq (⟨"BoardMovesModel", "hasMate", "(I)Z"⟩, 28) := ⟨⟨by decide +kernel, by decide +kernel⟩, List.mem_of_getElem? (i := 614) (by decide +kernel), List.mem_of_getElem? (i := 733) (by decide +kernel), List.mem_of_getElem? (i := 734) (by decide +kernel)⟩
theorem lw_p21 : lw_okq (⟨"BoardMovesModel", "left", "(II)J"⟩, 28) := ⟨⟨by decide +kernel, by decide +kernel⟩, List.mem_of_getElem? (i := 614) (by decide +kernel), List.mem_of_getElem? (i := 737) (by decide +kernel), List.mem_of_getElem? (i := 738) (by decide +kernel)⟩
theorem lw_p22 : lw_okq (⟨"BoardMovesModel", "low", "(II)J"⟩, 28) := ⟨⟨by decide +kernel, by decide +kernel⟩, List.mem_of_getElem? (i := 614) (by decide +kernel), List.mem_of_getElem? (i := 741) (by decide +kernel), List.mem_of_getElem? (i := 742) (by decide +kernel)⟩
theorem lw_p23 : lw_okq (⟨"BoardMovesModel", "go", "(IJJ)V"⟩, 28) := ⟨⟨by decide +kernel, by decide +kernel⟩, List.mem_of_getElem? (i := 614) (by decide +kernel), List.mem_of_getElem? (i := 745) (by decide +kernel), List.mem_of_getElem? (i := 746) (by decide +kernel)⟩
theorem lw_p24 : lw_okq (⟨"BoardMovesModel", "movesLocked", "()Z"⟩, 28) := ⟨⟨by decide +kernel, by decide +kernel⟩, List.mem_of_getElem? (i := 614) (by decide +kernel), List.mem_of_getElem? (i := 749) (by decide +kernel), List.mem_of_getElem? (i := 750) (by decide +kernel)⟩
theorem lw_p25 : lw_okq (⟨"BoardMovesModel", "isSame", "(II)Z"⟩, 28) := ⟨⟨by decide +kernel, by decide +kernel⟩, List.mem_of_getElem? (i := 614) (by decide +kernel), List.mem_of_getElem? (i := 753) (by decide +kernel), List.mem_of_getElem? (i := 754) (by decide +kernel)⟩
theorem lw_p26 : lw_okq (⟨"BoardMovesModel", "isWell", "(I)Z"⟩, 28) := ⟨⟨by decide +kernel, by decide +kernel⟩, List.mem_of_getElem? (i := 614) (by decide +kernel), List.mem_of_getElem? (i := 757) (by decide +kernel), List.mem_of_getElem? (i := 758) (by decide +kernel)⟩
theorem lw_p27 : lw_okq (⟨"BoardMovesModel", "isOnBoard", "(II)Z"⟩, 28) := ⟨⟨by decide +kernel, by decide +kernel⟩, List.mem_of_getElem? (i := 614) (by decide +kernel), List.mem_of_getElem? (i := 761) (by decide +kernel), List.mem_of_getElem? (i := 762) (by decide +kernel)⟩
theorem lw_p28 : lw_okq (⟨"BoardMovesModel", "right", "(II)J"⟩, 28) := ⟨⟨by decide +kernel, by decide +kernel⟩, List.mem_of_getElem? (i := 614) (by decide +kernel), List.mem_of_getElem? (i := 765) (by decide +kernel), List.mem_of_getElem? (i := 766) (by decide +kernel)⟩
theorem lw_p29 : lw_okq (⟨"BoardMovesModel", "lies", "(II)Z"⟩, 28) := ⟨⟨by decide +kernel, by decide +kernel⟩, List.mem_of_getElem? (i := 614) (by decide +kernel), List.mem_of_getElem? (i := 769) (by decide +kernel), List.mem_of_getElem? (i := 770) (by decide +kernel)⟩
theorem lw_p30 : lw_okq (⟨"BoardMovesModel", "top", "(II)J"⟩, 28) := ⟨⟨by decide +kernel, by decide +kernel⟩, List.mem_of_getElem? (i := 614) (by decide +kernel), List.mem_of_getElem? (i := 773) (by decide +kernel), List.mem_of_getElem? (i := 774) (by decide +kernel)⟩
theorem lw_p31 : lw_okq (⟨"BoardMovesModel", "isKeptOut", "(II)Z"⟩, 28) := ⟨⟨by decide +kernel, by decide +kernel⟩, List.mem_of_getElem? (i := 614) (by decide +kernel), List.mem_of_getElem? (i := 777) (by decide +kernel), List.mem_of_getElem? (i := 778) (by decide +kernel)⟩
def lw_privs_2 : List (MethodName × Nat) := [(⟨"BoardMoves", "turnAlone", "(II)V"⟩, 10), (⟨"BoardMovesModel", "isPart", "(I)Z"⟩, 28), (⟨"BoardMovesModel", "begin", "()V"⟩, 28), (⟨"BoardMovesModel", "copy", "(II)V"⟩, 28), (⟨"BoardMovesModel", "hasMate", "(I)Z"⟩, 28), (⟨"BoardMovesModel", "left", "(II)J"⟩, 28), (⟨"BoardMovesModel", "low", "(II)J"⟩, 28), (⟨"BoardMovesModel", "go", "(IJJ)V"⟩, 28), (⟨"BoardMovesModel", "movesLocked", "()Z"⟩, 28), (⟨"BoardMovesModel", "isSame", "(II)Z"⟩, 28), (⟨"BoardMovesModel", "isWell", "(I)Z"⟩, 28), (⟨"BoardMovesModel", "isOnBoard", "(II)Z"⟩, 28), (⟨"BoardMovesModel", "right", "(II)J"⟩, 28), (⟨"BoardMovesModel", "lies", "(II)Z"⟩, 28), (⟨"BoardMovesModel", "top", "(II)J"⟩, 28), (⟨"BoardMovesModel", "isKeptOut", "(II)Z"⟩, 28)]
theorem lw_r2 : ∀ q ∈ lw_privs_2, lw_okq q := List.forall_mem_cons.mpr ⟨lw_p16, List.forall_mem_cons.mpr ⟨lw_p17, List.forall_mem_cons.mpr ⟨lw_p18, List.forall_mem_cons.mpr ⟨lw_p19, List.forall_mem_cons.mpr ⟨lw_p20, List.forall_mem_cons.mpr ⟨lw_p21, List.forall_mem_cons.mpr ⟨lw_p22, List.forall_mem_cons.mpr ⟨lw_p23, List.forall_mem_cons.mpr ⟨lw_p24, List.forall_mem_cons.mpr ⟨lw_p25, List.forall_mem_cons.mpr ⟨lw_p26, List.forall_mem_cons.mpr ⟨lw_p27, List.forall_mem_cons.mpr ⟨lw_p28, List.forall_mem_cons.mpr ⟨lw_p29, List.forall_mem_cons.mpr ⟨lw_p30, List.forall_mem_cons.mpr ⟨lw_p31, fun _ h => absurd h List.not_mem_nil⟩⟩⟩⟩⟩⟩⟩⟩⟩⟩⟩⟩⟩⟩⟩⟩
theorem lw_p32 : lw_okq (⟨"BoardMovesModel", "overlap", "(III)Z"⟩, 28) := ⟨⟨by decide +kernel, by decide +kernel⟩, List.mem_of_getElem? (i := 614) (by decide +kernel), List.mem_of_getElem? (i := 781) (by decide +kernel), List.mem_of_getElem? (i := 782) (by decide +kernel)⟩
theorem lw_p33 : lw_okq (⟨"BoardMovesModel", "isNear", "(II)Z"⟩, 28) := ⟨⟨by decide +kernel, by decide +kernel⟩, List.mem_of_getElem? (i := 614) (by decide +kernel), List.mem_of_getElem? (i := 785) (by decide +kernel), List.mem_of_getElem? (i := 786) (by decide +kernel)⟩
theorem lw_p34 : lw_okq (⟨"BoardMovesModel", "wireOf", "(I)J"⟩, 28) := ⟨⟨by decide +kernel, by decide +kernel⟩, List.mem_of_getElem? (i := 614) (by decide +kernel), List.mem_of_getElem? (i := 808) (by decide +kernel), List.mem_of_getElem? (i := 809) (by decide +kernel)⟩
theorem lw_p35 : lw_okq (⟨"BoardMovesModel", "reach", "(IIZ)J"⟩, 28) := ⟨⟨by decide +kernel, by decide +kernel⟩, List.mem_of_getElem? (i := 614) (by decide +kernel), List.mem_of_getElem? (i := 812) (by decide +kernel), List.mem_of_getElem? (i := 813) (by decide +kernel)⟩
theorem lw_p36 : lw_okq (⟨"BoardMovesModel", "pinAt", "(IIZ)J"⟩, 28) := ⟨⟨by decide +kernel, by decide +kernel⟩, List.mem_of_getElem? (i := 614) (by decide +kernel), List.mem_of_getElem? (i := 816) (by decide +kernel), List.mem_of_getElem? (i := 817) (by decide +kernel)⟩
theorem lw_p37 : lw_okq (⟨"BoardMovesModel", "shove", "(II)Z"⟩, 28) := ⟨⟨by decide +kernel, by decide +kernel⟩, List.mem_of_getElem? (i := 614) (by decide +kernel), List.mem_of_getElem? (i := 831) (by decide +kernel), List.mem_of_getElem? (i := 832) (by decide +kernel)⟩
theorem lw_p38 : lw_okq (⟨"BoardMovesModel", "firstOverlap", "()I"⟩, 28) := ⟨⟨by decide +kernel, by decide +kernel⟩, List.mem_of_getElem? (i := 614) (by decide +kernel), List.mem_of_getElem? (i := 835) (by decide +kernel), List.mem_of_getElem? (i := 836) (by decide +kernel)⟩
theorem lw_p39 : lw_okq (⟨"BoardMovesModel", "beginOn", "(II)J"⟩, 28) := ⟨⟨by decide +kernel, by decide +kernel⟩, List.mem_of_getElem? (i := 614) (by decide +kernel), List.mem_of_getElem? (i := 839) (by decide +kernel), List.mem_of_getElem? (i := 840) (by decide +kernel)⟩
theorem lw_p40 : lw_okq (⟨"BoardMovesModel", "goOn", "(III)V"⟩, 28) := ⟨⟨by decide +kernel, by decide +kernel⟩, List.mem_of_getElem? (i := 614) (by decide +kernel), List.mem_of_getElem? (i := 843) (by decide +kernel), List.mem_of_getElem? (i := 844) (by decide +kernel)⟩
theorem lw_p41 : lw_okq (⟨"BoardMovesModel", "draw", "()J"⟩, 28) := ⟨⟨by decide +kernel, by decide +kernel⟩, List.mem_of_getElem? (i := 614) (by decide +kernel), List.mem_of_getElem? (i := 864) (by decide +kernel), List.mem_of_getElem? (i := 865) (by decide +kernel)⟩
theorem lw_p42 : lw_okq (⟨"BoardMovesModel", "step", "(JJJJ)V"⟩, 28) := ⟨⟨by decide +kernel, by decide +kernel⟩, List.mem_of_getElem? (i := 614) (by decide +kernel), List.mem_of_getElem? (i := 870) (by decide +kernel), List.mem_of_getElem? (i := 871) (by decide +kernel)⟩
theorem lw_p43 : lw_okq (⟨"BoardMovesModel", "changes", "()Z"⟩, 28) := ⟨⟨by decide +kernel, by decide +kernel⟩, List.mem_of_getElem? (i := 614) (by decide +kernel), List.mem_of_getElem? (i := 877) (by decide +kernel), List.mem_of_getElem? (i := 878) (by decide +kernel)⟩
def lw_privs_3 : List (MethodName × Nat) := [(⟨"BoardMovesModel", "overlap", "(III)Z"⟩, 28), (⟨"BoardMovesModel", "isNear", "(II)Z"⟩, 28), (⟨"BoardMovesModel", "wireOf", "(I)J"⟩, 28), (⟨"BoardMovesModel", "reach", "(IIZ)J"⟩, 28), (⟨"BoardMovesModel", "pinAt", "(IIZ)J"⟩, 28), (⟨"BoardMovesModel", "shove", "(II)Z"⟩, 28), (⟨"BoardMovesModel", "firstOverlap", "()I"⟩, 28), (⟨"BoardMovesModel", "beginOn", "(II)J"⟩, 28), (⟨"BoardMovesModel", "goOn", "(III)V"⟩, 28), (⟨"BoardMovesModel", "draw", "()J"⟩, 28), (⟨"BoardMovesModel", "step", "(JJJJ)V"⟩, 28), (⟨"BoardMovesModel", "changes", "()Z"⟩, 28)]
theorem lw_r3 : ∀ q ∈ lw_privs_3, lw_okq q := List.forall_mem_cons.mpr ⟨lw_p32, List.forall_mem_cons.mpr ⟨lw_p33, List.forall_mem_cons.mpr ⟨lw_p34, List.forall_mem_cons.mpr ⟨lw_p35, List.forall_mem_cons.mpr ⟨lw_p36, List.forall_mem_cons.mpr ⟨lw_p37, List.forall_mem_cons.mpr ⟨lw_p38, List.forall_mem_cons.mpr ⟨lw_p39, List.forall_mem_cons.mpr ⟨lw_p40, List.forall_mem_cons.mpr ⟨lw_p41, List.forall_mem_cons.mpr ⟨lw_p42, List.forall_mem_cons.mpr ⟨lw_p43, fun _ h => absurd h List.not_mem_nil⟩⟩⟩⟩⟩⟩⟩⟩⟩⟩⟩⟩
def lw_privs : List (MethodName × Nat) := lw_privs_1 ++ (lw_privs_2 ++ (lw_privs_3))
def lw_tbl : List Cond := k2_sels lw_privs ++ tables_1
theorem lw_privs_ok : ∀ q ∈ lw_privs, lw_okq q := by
  show ∀ q ∈ lw_privs_1 ++ (lw_privs_2 ++ (lw_privs_3)), lw_okq q
  exact List.forall_mem_append.mpr ⟨lw_r1, List.forall_mem_append.mpr ⟨lw_r2, lw_r3⟩⟩
-- ===== end of PART A; then your names; then what follows =====
end
section
-- BM LAYER: wrappers of the kit's rows for worlds of long / Nat / Bool arrays, one uniform world, readers and writers
def bm_b (b : Bool) : Int32 := if b then 1 else 0
theorem bm_b_t : bm_b true = 1 := rfl
theorem bm_b_f : bm_b false = 0 := rfl
theorem bm_b_nar (b : Bool) : vp_nar .boolean (bm_b b) = bm_b b := by cases b <;> decide
theorem bm_b_narrow (b : Bool) : narrow .boolean (.int (bm_b b)) = .int (bm_b b) := by cases b <;> rfl
theorem bm_b_eq0 (b : Bool) : bm_b b = 0 ↔ b = false := by cases b <;> decide
theorem bm_b_inj (a b : Bool) : bm_b a = bm_b b ↔ a = b := by cases a <;> cases b <;> decide
theorem bm_upB (f : Nat → Bool) (k : Nat) (v : Bool) : upd (fun j => bm_b (f j)) k (bm_b v) = fun j => bm_b (va_up f k v j) := by
  funext j
  by_cases h : j = k
  · simp [upd, va_up, h]
  · simp [upd, va_up, h]
theorem bm_upN (f : Nat → Nat) (k : Nat) (v : Nat) : upd (fun j => nI (f j)) k (nI v) = fun j => nI (va_up f k v j) := by
  funext j
  by_cases h : j = k
  · simp [upd, va_up, h]
  · simp [upd, va_up, h]
theorem bm_upL (f : Nat → Int64) (k : Nat) (v : Int64) : vp_updL f k v = va_up f k v := rfl
theorem bm_cmp_lt {x y : Int64} : lg_cmp x y < 0 ↔ x < y := by
  unfold lg_cmp
  by_cases h1 : y < x
  · have : ¬ x < y := by rw [Int64.lt_iff_toInt_lt] at *; omega
    simp [h1, this]
  · by_cases h2 : x = y
    · subst h2; simp [h1]
    · have : x < y := by
        rw [Int64.lt_iff_toInt_lt] at *
        have h3 : x.toInt ≠ y.toInt := fun q => h2 (Int64.toInt_inj.mp q)
        omega
      simp [h1, h2, this]
theorem bm_cmp_gt {x y : Int64} : 0 < lg_cmp x y ↔ y < x := by
  unfold lg_cmp
  by_cases h1 : y < x
  · simp [h1]
  · by_cases h2 : x = y
    · subst h2; simp [h1]
    · simp [h1, h2]
theorem bm_cmp_eq {x y : Int64} : lg_cmp x y = 0 ↔ x = y := by
  unfold lg_cmp
  by_cases h1 : y < x
  · have : ¬ x = y := by intro q; subst q; rw [Int64.lt_iff_toInt_lt] at h1; omega
    simp [h1, this]
  · by_cases h2 : x = y
    · subst h2; simp [h1]
    · simp [h1, h2]
section BMK
variable {p : Program} {l : Launch} {e : Env} {R : Room} {s : State} {m : MethodId} {args : Array Value} {below : List Frame} {meth : Method} {c : Code} {H : Heap} {locs : List Loc} {cells slots : Nat} {Q : State → Prop}
variable {cc : ByteArray} {pc : Nat} {ls : Array Slot} {rest : List Value} {D : va_G} {cl : List vw_C} {A : Nat → Prop} {a : Nat} {tys : List (ClassId × FieldType)} {ws : va_W} {H0 : Heap}
theorem bm_lald (hexec : p.tables.exec = Jvm.exec) (hb : c.code = cc) (hK : va_K D cl tys s) (hP : va_P D cl ws H) (q0 t0 : Nat) {cA : ClassId} {n : Nat} {f : Nat → Int64} (ha : ws[q0]? = some (a, .inl (cA, n, .inr (.inl f)))) (ht : tys[t0]? = some (cA, .long)) {j : Nat} (hj : j < n) (hn : n < 2 ^ 31) (hdg : decode cc pc = .ok (.laload, 1))
    (kk : W p l e R s m args below meth c H locs cells slots Q (F0 m (pc + 1) ls (.long (f j) :: rest))) : W p l e R s m args below meth c H locs cells slots Q (F0 m pc ls (.int (nI j) :: .ref a :: rest)) := by
  refine va_lald hexec hb hK hP q0 t0 ha ht (vp_in_nI hj hn) hdg ?_
  rw [nI_clamp (Nat.lt_trans hj hn)]
  exact kk
theorem bm_nald (hexec : p.tables.exec = Jvm.exec) (hb : c.code = cc) (hK : va_K D cl tys s) (hP : va_P D cl ws H) (q0 t0 : Nat) {cA : ClassId} {n : Nat} {f : Nat → Nat} (ha : ws[q0]? = some (a, .inl (cA, n, .inl (fun j => nI (f j))))) (ht : tys[t0]? = some (cA, .int)) {j : Nat} (hj : j < n) (hn : n < 2 ^ 31) (hdg : decode cc pc = .ok (.iaload, 1))
    (kk : W p l e R s m args below meth c H locs cells slots Q (F0 m (pc + 1) ls (.int (nI (f j)) :: rest))) : W p l e R s m args below meth c H locs cells slots Q (F0 m pc ls (.int (nI j) :: .ref a :: rest)) := by
  refine va_iald hexec hb hK hP q0 t0 ha ht (vp_in_nI hj hn) hdg ?_
  rw [nI_clamp (Nat.lt_trans hj hn)]
  exact kk
theorem bm_zald (hexec : p.tables.exec = Jvm.exec) (hb : c.code = cc) (hK : va_K D cl tys s) (hP : va_P D cl ws H) (q0 t0 : Nat) {cA : ClassId} {n : Nat} {f : Nat → Bool} (ha : ws[q0]? = some (a, .inl (cA, n, .inl (fun j => bm_b (f j))))) (ht : tys[t0]? = some (cA, .boolean)) {j : Nat} (hj : j < n) (hn : n < 2 ^ 31) (hdg : decode cc pc = .ok (.baload, 1))
    (kk : W p l e R s m args below meth c H locs cells slots Q (F0 m (pc + 1) ls (.int (bm_b (f j)) :: rest))) : W p l e R s m args below meth c H locs cells slots Q (F0 m pc ls (.int (nI j) :: .ref a :: rest)) := by
  refine va_zald hexec hb hK hP q0 t0 ha ht (vp_in_nI hj hn) hdg ?_
  rw [nI_clamp (Nat.lt_trans hj hn)]
  exact kk
theorem bm_last (hexec : p.tables.exec = Jvm.exec) (hb : c.code = cc) (hK : va_K D cl tys s) (hP : va_P D cl ws H) (hD : va_D A ws) (hS : va_S A H0 H locs) (q0 t0 : Nat) {cA : ClassId} {n : Nat} {f : Nat → Int64} (ha : ws[q0]? = some (a, .inl (cA, n, .inr (.inl f)))) (ht : tys[t0]? = some (cA, .long)) {j : Nat} {x : Int64} (hj : j < n) (hn : n < 2 ^ 31) (hdg : decode cc pc = .ok (.lastore, 1))
    (kk : ∀ (H1 : Heap) (locs1 : List Loc), va_P D cl (ws.set q0 (a, .inl (cA, n, .inr (.inl (va_up f j x))))) H1 → va_D A (ws.set q0 (a, .inl (cA, n, .inr (.inl (va_up f j x))))) → va_S A H0 H1 locs1 → W p l e R s m args below meth c H1 locs1 cells slots Q (F0 m (pc + 1) ls rest)) : W p l e R s m args below meth c H locs cells slots Q (F0 m pc ls (.long x :: .int (nI j) :: .ref a :: rest)) := by
  refine va_last hexec hb hK hP hD hS q0 t0 ha ht (vp_in_nI hj hn) hdg ?_
  rw [nI_clamp (Nat.lt_trans hj hn)]
  exact kk
theorem bm_nast (hexec : p.tables.exec = Jvm.exec) (hb : c.code = cc) (hK : va_K D cl tys s) (hP : va_P D cl ws H) (hD : va_D A ws) (hS : va_S A H0 H locs) (q0 t0 : Nat) {cA : ClassId} {n : Nat} {f : Nat → Nat} (ha : ws[q0]? = some (a, .inl (cA, n, .inl (fun j => nI (f j))))) (ht : tys[t0]? = some (cA, .int)) {j : Nat} {x : Nat} (hj : j < n) (hn : n < 2 ^ 31) (hdg : decode cc pc = .ok (.iastore, 1))
    (kk : ∀ (H1 : Heap) (locs1 : List Loc), va_P D cl (ws.set q0 (a, .inl (cA, n, .inl (fun i => nI (va_up f j x i))))) H1 → va_D A (ws.set q0 (a, .inl (cA, n, .inl (fun i => nI (va_up f j x i))))) → va_S A H0 H1 locs1 → W p l e R s m args below meth c H1 locs1 cells slots Q (F0 m (pc + 1) ls rest)) : W p l e R s m args below meth c H locs cells slots Q (F0 m pc ls (.int (nI x) :: .int (nI j) :: .ref a :: rest)) := by
  refine va_iast hexec hb hK hP hD hS q0 t0 ha ht (vp_in_nI hj hn) hdg ?_
  rw [nI_clamp (Nat.lt_trans hj hn), bm_upN]
  exact kk
theorem bm_zast (hexec : p.tables.exec = Jvm.exec) (hb : c.code = cc) (hK : va_K D cl tys s) (hP : va_P D cl ws H) (hD : va_D A ws) (hS : va_S A H0 H locs) (q0 t0 : Nat) {cA : ClassId} {n : Nat} {f : Nat → Bool} (ha : ws[q0]? = some (a, .inl (cA, n, .inl (fun j => bm_b (f j))))) (ht : tys[t0]? = some (cA, .boolean)) {j : Nat} {x : Bool} (hj : j < n) (hn : n < 2 ^ 31) (hdg : decode cc pc = .ok (.bastore, 1))
    (kk : ∀ (H1 : Heap) (locs1 : List Loc), va_P D cl (ws.set q0 (a, .inl (cA, n, .inl (fun i => bm_b (va_up f j x i))))) H1 → va_D A (ws.set q0 (a, .inl (cA, n, .inl (fun i => bm_b (va_up f j x i))))) → va_S A H0 H1 locs1 → W p l e R s m args below meth c H1 locs1 cells slots Q (F0 m (pc + 1) ls rest)) : W p l e R s m args below meth c H locs cells slots Q (F0 m pc ls (.int (bm_b x) :: .int (nI j) :: .ref a :: rest)) := by
  refine va_zast hexec hb hK hP hD hS q0 t0 ha ht (vp_in_nI hj hn) hdg ?_
  rw [nI_clamp (Nat.lt_trans hj hn), bm_b_nar, bm_upB]
  exact kk
theorem bm_lc_eq (hexec : p.tables.exec = Jvm.exec) (hb : c.code = cc) {x y : Int64} {off : Int} {tgt : Nat} (hd1 : decode cc pc = .ok (.lcmp, 1)) (hdg : decode cc (pc + 1) = .ok (.ifCond .eq off, 3)) (ht : ((pc + 1 : Nat) : Int) + off = (tgt : Int))
    (kt : x = y → W p l e R s m args below meth c H locs cells slots Q (F0 m tgt ls rest)) (kf : ¬ x = y → W p l e R s m args below meth c H locs cells slots Q (F0 m (pc + 1 + 3) ls rest)) : W p l e R s m args below meth c H locs cells slots Q (F0 m pc ls (.long y :: .long x :: rest)) :=
  W.lcmp hexec hb hd1 (lv_if_eq hexec hb hdg ht (fun h => kt (bm_cmp_eq.mp h)) (fun h => kf (fun q => h (bm_cmp_eq.mpr q))))
theorem bm_lc_ne (hexec : p.tables.exec = Jvm.exec) (hb : c.code = cc) {x y : Int64} {off : Int} {tgt : Nat} (hd1 : decode cc pc = .ok (.lcmp, 1)) (hdg : decode cc (pc + 1) = .ok (.ifCond .ne off, 3)) (ht : ((pc + 1 : Nat) : Int) + off = (tgt : Int))
    (kt : ¬ x = y → W p l e R s m args below meth c H locs cells slots Q (F0 m tgt ls rest)) (kf : x = y → W p l e R s m args below meth c H locs cells slots Q (F0 m (pc + 1 + 3) ls rest)) : W p l e R s m args below meth c H locs cells slots Q (F0 m pc ls (.long y :: .long x :: rest)) :=
  W.lcmp hexec hb hd1 (lv_if_ne hexec hb hdg ht (fun h => kt (fun q => h (bm_cmp_eq.mpr q))) (fun h => kf (bm_cmp_eq.mp h)))
theorem bm_lc_lt (hexec : p.tables.exec = Jvm.exec) (hb : c.code = cc) {x y : Int64} {off : Int} {tgt : Nat} (hd1 : decode cc pc = .ok (.lcmp, 1)) (hdg : decode cc (pc + 1) = .ok (.ifCond .lt off, 3)) (ht : ((pc + 1 : Nat) : Int) + off = (tgt : Int))
    (kt : x < y → W p l e R s m args below meth c H locs cells slots Q (F0 m tgt ls rest)) (kf : ¬ x < y → W p l e R s m args below meth c H locs cells slots Q (F0 m (pc + 1 + 3) ls rest)) : W p l e R s m args below meth c H locs cells slots Q (F0 m pc ls (.long y :: .long x :: rest)) :=
  W.lcmp hexec hb hd1 (lv_if_lt hexec hb hdg ht (fun h => kt (bm_cmp_lt.mp h)) (fun h => kf (fun q => h (bm_cmp_lt.mpr q))))
theorem bm_i_ge {x : Int32} (h : 0 ≤ x) : ¬ x < 0 := by rw [Int32.lt_iff_toInt_lt]; rw [Int32.le_iff_toInt_le] at h; omega
theorem bm_i_nge {x : Int32} (h : ¬ 0 ≤ x) : x < 0 := by rw [Int32.lt_iff_toInt_lt]; rw [Int32.le_iff_toInt_le] at h; omega
theorem bm_i_le {x : Int32} (h : x ≤ 0) : ¬ 0 < x := by rw [Int32.lt_iff_toInt_lt]; rw [Int32.le_iff_toInt_le] at h; omega
theorem bm_i_nle {x : Int32} (h : ¬ x ≤ 0) : 0 < x := by rw [Int32.lt_iff_toInt_lt]; rw [Int32.le_iff_toInt_le] at h; omega
theorem bm_lc_ge (hexec : p.tables.exec = Jvm.exec) (hb : c.code = cc) {x y : Int64} {off : Int} {tgt : Nat} (hd1 : decode cc pc = .ok (.lcmp, 1)) (hdg : decode cc (pc + 1) = .ok (.ifCond .ge off, 3)) (ht : ((pc + 1 : Nat) : Int) + off = (tgt : Int))
    (kt : ¬ x < y → W p l e R s m args below meth c H locs cells slots Q (F0 m tgt ls rest)) (kf : x < y → W p l e R s m args below meth c H locs cells slots Q (F0 m (pc + 1 + 3) ls rest)) : W p l e R s m args below meth c H locs cells slots Q (F0 m pc ls (.long y :: .long x :: rest)) :=
  W.lcmp hexec hb hd1 (lv_if_ge hexec hb hdg ht (fun h => kt (fun q => bm_i_ge h (bm_cmp_lt.mpr q))) (fun h => kf (bm_cmp_lt.mp (bm_i_nge h))))
theorem bm_lc_gt (hexec : p.tables.exec = Jvm.exec) (hb : c.code = cc) {x y : Int64} {off : Int} {tgt : Nat} (hd1 : decode cc pc = .ok (.lcmp, 1)) (hdg : decode cc (pc + 1) = .ok (.ifCond .gt off, 3)) (ht : ((pc + 1 : Nat) : Int) + off = (tgt : Int))
    (kt : y < x → W p l e R s m args below meth c H locs cells slots Q (F0 m tgt ls rest)) (kf : ¬ y < x → W p l e R s m args below meth c H locs cells slots Q (F0 m (pc + 1 + 3) ls rest)) : W p l e R s m args below meth c H locs cells slots Q (F0 m pc ls (.long y :: .long x :: rest)) :=
  W.lcmp hexec hb hd1 (lv_if_gt hexec hb hdg ht (fun h => kt (bm_cmp_gt.mp h)) (fun h => kf (fun q => h (bm_cmp_gt.mpr q))))
theorem bm_lc_le (hexec : p.tables.exec = Jvm.exec) (hb : c.code = cc) {x y : Int64} {off : Int} {tgt : Nat} (hd1 : decode cc pc = .ok (.lcmp, 1)) (hdg : decode cc (pc + 1) = .ok (.ifCond .le off, 3)) (ht : ((pc + 1 : Nat) : Int) + off = (tgt : Int))
    (kt : ¬ y < x → W p l e R s m args below meth c H locs cells slots Q (F0 m tgt ls rest)) (kf : y < x → W p l e R s m args below meth c H locs cells slots Q (F0 m (pc + 1 + 3) ls rest)) : W p l e R s m args below meth c H locs cells slots Q (F0 m pc ls (.long y :: .long x :: rest)) :=
  W.lcmp hexec hb hd1 (lv_if_le hexec hb hdg ht (fun h => kt (fun q => bm_i_le h (bm_cmp_gt.mpr q))) (fun h => kf (bm_cmp_gt.mp (bm_i_nle h))))
-- branches on a boolean
theorem bm_zb_eq (hexec : p.tables.exec = Jvm.exec) (hb : c.code = cc) {x : Bool} {off : Int} {tgt : Nat} (hdg : decode cc pc = .ok (.ifCond .eq off, 3)) (ht : (pc : Int) + off = (tgt : Int))
    (kt : x = false → W p l e R s m args below meth c H locs cells slots Q (F0 m tgt ls rest)) (kf : x = true → W p l e R s m args below meth c H locs cells slots Q (F0 m (pc + 3) ls rest)) : W p l e R s m args below meth c H locs cells slots Q (F0 m pc ls (.int (bm_b x) :: rest)) :=
  lv_if_eq hexec hb hdg ht (fun h => kt ((bm_b_eq0 x).mp h)) (fun h => kf (by cases x; exact absurd rfl h; rfl))
theorem bm_zb_ne (hexec : p.tables.exec = Jvm.exec) (hb : c.code = cc) {x : Bool} {off : Int} {tgt : Nat} (hdg : decode cc pc = .ok (.ifCond .ne off, 3)) (ht : (pc : Int) + off = (tgt : Int))
    (kt : x = true → W p l e R s m args below meth c H locs cells slots Q (F0 m tgt ls rest)) (kf : x = false → W p l e R s m args below meth c H locs cells slots Q (F0 m (pc + 3) ls rest)) : W p l e R s m args below meth c H locs cells slots Q (F0 m pc ls (.int (bm_b x) :: rest)) :=
  lv_if_ne hexec hb hdg ht (fun h => kt (by cases x; exact absurd rfl h; rfl)) (fun h => kf ((bm_b_eq0 x).mp h))
-- branches on small numbers
theorem bm_ni_eq (hexec : p.tables.exec = Jvm.exec) (hb : c.code = cc) {x y : Nat} (hx : x < 2 ^ 31) (hy : y < 2 ^ 31) {off : Int} {tgt : Nat} (hdg : decode cc pc = .ok (.if_icmp .eq off, 3)) (ht : (pc : Int) + off = (tgt : Int))
    (kt : x = y → W p l e R s m args below meth c H locs cells slots Q (F0 m tgt ls rest)) (kf : ¬ x = y → W p l e R s m args below meth c H locs cells slots Q (F0 m (pc + 3) ls rest)) : W p l e R s m args below meth c H locs cells slots Q (F0 m pc ls (.int (nI y) :: .int (nI x) :: rest)) :=
  lv_icmp_eq hexec hb hdg ht (fun h => kt ((nI_eq hx hy).mp h)) (fun h => kf (fun q => h ((nI_eq hx hy).mpr q)))
theorem bm_ni_ne (hexec : p.tables.exec = Jvm.exec) (hb : c.code = cc) {x y : Nat} (hx : x < 2 ^ 31) (hy : y < 2 ^ 31) {off : Int} {tgt : Nat} (hdg : decode cc pc = .ok (.if_icmp .ne off, 3)) (ht : (pc : Int) + off = (tgt : Int))
    (kt : ¬ x = y → W p l e R s m args below meth c H locs cells slots Q (F0 m tgt ls rest)) (kf : x = y → W p l e R s m args below meth c H locs cells slots Q (F0 m (pc + 3) ls rest)) : W p l e R s m args below meth c H locs cells slots Q (F0 m pc ls (.int (nI y) :: .int (nI x) :: rest)) :=
  lv_icmp_ne hexec hb hdg ht (fun h => kt (fun q => h ((nI_eq hx hy).mpr q))) (fun h => kf ((nI_eq hx hy).mp h))
theorem bm_ni_ge (hexec : p.tables.exec = Jvm.exec) (hb : c.code = cc) {x y : Nat} (hx : x < 2 ^ 31) (hy : y < 2 ^ 31) {off : Int} {tgt : Nat} (hdg : decode cc pc = .ok (.if_icmp .ge off, 3)) (ht : (pc : Int) + off = (tgt : Int))
    (kt : ¬ x < y → W p l e R s m args below meth c H locs cells slots Q (F0 m tgt ls rest)) (kf : x < y → W p l e R s m args below meth c H locs cells slots Q (F0 m (pc + 3) ls rest)) : W p l e R s m args below meth c H locs cells slots Q (F0 m pc ls (.int (nI y) :: .int (nI x) :: rest)) :=
  lv_icmp_ge hexec hb hdg ht (fun h => kt (Nat.not_lt.mpr ((nI_leI hy hx).mp h))) (fun h => kf (Nat.not_le.mp (fun q => h ((nI_leI hy hx).mpr q))))
theorem bm_ni_lt (hexec : p.tables.exec = Jvm.exec) (hb : c.code = cc) {x y : Nat} (hx : x < 2 ^ 31) (hy : y < 2 ^ 31) {off : Int} {tgt : Nat} (hdg : decode cc pc = .ok (.if_icmp .lt off, 3)) (ht : (pc : Int) + off = (tgt : Int))
    (kt : x < y → W p l e R s m args below meth c H locs cells slots Q (F0 m tgt ls rest)) (kf : ¬ x < y → W p l e R s m args below meth c H locs cells slots Q (F0 m (pc + 3) ls rest)) : W p l e R s m args below meth c H locs cells slots Q (F0 m pc ls (.int (nI y) :: .int (nI x) :: rest)) :=
  lv_icmp_lt hexec hb hdg ht (fun h => kt ((nI_ltI hx hy).mp h)) (fun h => kf (fun q => h ((nI_ltI hx hy).mpr q)))
theorem bm_nz_eq (hexec : p.tables.exec = Jvm.exec) (hb : c.code = cc) {x : Nat} (hx : x < 2 ^ 31) {off : Int} {tgt : Nat} (hdg : decode cc pc = .ok (.ifCond .eq off, 3)) (ht : (pc : Int) + off = (tgt : Int))
    (kt : x = 0 → W p l e R s m args below meth c H locs cells slots Q (F0 m tgt ls rest)) (kf : ¬ x = 0 → W p l e R s m args below meth c H locs cells slots Q (F0 m (pc + 3) ls rest)) : W p l e R s m args below meth c H locs cells slots Q (F0 m pc ls (.int (nI x) :: rest)) :=
  lv_if_eq hexec hb hdg ht (fun h => kt ((nI_eq hx (by decide : 0 < 2 ^ 31)).mp (h.trans nI_0.symm))) (fun h => kf (fun q => h (by rw [q]; exact nI_0)))
theorem bm_nz_ne (hexec : p.tables.exec = Jvm.exec) (hb : c.code = cc) {x : Nat} (hx : x < 2 ^ 31) {off : Int} {tgt : Nat} (hdg : decode cc pc = .ok (.ifCond .ne off, 3)) (ht : (pc : Int) + off = (tgt : Int))
    (kt : ¬ x = 0 → W p l e R s m args below meth c H locs cells slots Q (F0 m tgt ls rest)) (kf : x = 0 → W p l e R s m args below meth c H locs cells slots Q (F0 m (pc + 3) ls rest)) : W p l e R s m args below meth c H locs cells slots Q (F0 m pc ls (.int (nI x) :: rest)) :=
  lv_if_ne hexec hb hdg ht (fun h => kt (fun q => h (by rw [q]; exact nI_0))) (fun h => kf ((nI_eq hx (by decide : 0 < 2 ^ 31)).mp (h.trans nI_0.symm)))
theorem bm_nrem (hexec : p.tables.exec = Jvm.exec) (hb : c.code = cc) {x y : Nat} (hx : x < 2 ^ 31) (h0 : 0 < y) (hy : y < 2 ^ 31) (hdg : decode cc pc = .ok (.irem, 1))
    (k : W p l e R s m args below meth c H locs cells slots Q (F0 m (pc + 1) ls (.int (nI (x % y)) :: rest))) : W p l e R s m args below meth c H locs cells slots Q (F0 m pc ls (.int (nI y) :: .int (nI x) :: rest)) := by
  refine lv_irem hexec hb hdg (nI_ne0 h0 hy) ?_
  rw [pk_rem hx h0 hy]
  exact k
theorem bm_nadd (hexec : p.tables.exec = Jvm.exec) (hb : c.code = cc) {x y : Nat} (hdg : decode cc pc = .ok (.iadd, 1))
    (k : W p l e R s m args below meth c H locs cells slots Q (F0 m (pc + 1) ls (.int (nI (x + y)) :: rest))) : W p l e R s m args below meth c H locs cells slots Q (F0 m pc ls (.int (nI y) :: .int (nI x) :: rest)) := by
  refine lv_iadd hexec hb hdg ?_
  rw [nI_add]
  exact k
theorem bm_nsub (hexec : p.tables.exec = Jvm.exec) (hb : c.code = cc) {x y : Nat} (h : y ≤ x) (hdg : decode cc pc = .ok (.isub, 1))
    (k : W p l e R s m args below meth c H locs cells slots Q (F0 m (pc + 1) ls (.int (nI (x - y)) :: rest))) : W p l e R s m args below meth c H locs cells slots Q (F0 m pc ls (.int (nI y) :: .int (nI x) :: rest)) := by
  refine lv_isub hexec hb hdg ?_
  rw [pk_sub h]
  exact k
theorem bm_iconst (hexec : p.tables.exec = Jvm.exec) (hb : c.code = cc) {n : Int} (v : Nat) (hdg : decode cc pc = .ok (.iconst n, 1)) (hv : Int32.ofInt n = nI v)
    (k : W p l e R s m args below meth c H locs cells slots Q (F0 m (pc + 1) ls (.int (nI v) :: rest))) : W p l e R s m args below meth c H locs cells slots Q (F0 m pc ls (rest)) := lv_iconst hexec hb hdg hv k
theorem bm_bconst (hexec : p.tables.exec = Jvm.exec) (hb : c.code = cc) {n : Int} (v : Bool) (hdg : decode cc pc = .ok (.iconst n, 1)) (hv : Int32.ofInt n = bm_b v)
    (k : W p l e R s m args below meth c H locs cells slots Q (F0 m (pc + 1) ls (.int (bm_b v) :: rest))) : W p l e R s m args below meth c H locs cells slots Q (F0 m pc ls (rest)) := lv_iconst hexec hb hdg hv k
end BMK
-- READERS AND WRITERS of a world
def bm_Rp (D : va_G) (cl : List vw_C) (tys : List (ClassId × FieldType)) (ws : va_W) (av : List Value) : Array Value → State → Prop := fun v U => v = av.toArray ∧ va_P D cl ws U.heap ∧ va_K D cl tys U
def bm_Rd (l : Launch) (y : MethodName) (wd : List Cond) (rm : Room) (D : va_G) (cl : List vw_C) (tys : List (ClassId × FieldType)) (ws : va_W) (av : List Value) (r : Value) : Prop := Met l y wd rm (bm_Rp D cl tys ws av) (k2_QcV r) 0 0 (fun _ => False)
def bm_Wp (D : va_G) (cl : List vw_C) (tys : List (ClassId × FieldType)) (ws : va_W) (av : List Value) (sz : Nat) : Array Value → State → Prop := fun v U => v = av.toArray ∧ U.heap.size = sz ∧ va_P D cl ws U.heap ∧ va_K D cl tys U ∧ va_D (fun _ => True) ws
def bm_Wq (D : va_G) (cl : List vw_C) (tys : List (ClassId × FieldType)) (ws' : va_W) (r : Option Value) (A : Nat → Prop) : Array Value → State → Outcome → State → Prop := fun _ st oc t => (oc = .returned r ∧ va_P D cl ws' t.heap ∧ va_K D cl tys t ∧ va_D A ws') ∧ va_F A st t
def bm_Wr (l : Launch) (y : MethodName) (wd : List Cond) (rm : Room) (D : va_G) (cl : List vw_C) (tys : List (ClassId × FieldType)) (ws : va_W) (av : List Value) (ws' : va_W) (r : Option Value) : Prop := ∀ sz : Nat, Met l y wd rm (bm_Wp D cl tys ws av sz) (bm_Wq D cl tys ws' r (va_A ws sz)) 0 0 (va_A ws sz)
theorem bm_Rp.blind {D : va_G} {cl : List vw_C} {tys : List (ClassId × FieldType)} {ws : va_W} {av : List Value} : FrameBlind (bm_Rp D cl tys ws av) := by
  intro a U g mk q
  obtain ⟨q0, qP, qK⟩ := q
  exact ⟨q0, qP, va_K.moved (u := U) (U := U.calling g mk a) (Vm.Alike.refl U.vm) qK⟩
theorem bm_Wp.blind {D : va_G} {cl : List vw_C} {tys : List (ClassId × FieldType)} {ws : va_W} {av : List Value} {sz : Nat} : FrameBlind (bm_Wp D cl tys ws av sz) := by
  intro a U g mk q
  obtain ⟨q0, q1, qP, qK, qD⟩ := q
  exact ⟨q0, q1, qP, va_K.moved (u := U) (U := U.calling g mk a) (Vm.Alike.refl U.vm) qK, qD⟩
section BMC
variable {p : Program} {l : Launch} {e : Env} {R : Room} {s : State} {m : MethodId} {args : Array Value} {below : List Frame} {meth : Method} {c : Code} {H : Heap} {locs : List Loc} {cells slots : Nat} {Q : State → Prop}
variable {cc bytes : ByteArray} {pc nL maxL n index : Nat} {ret : Option FieldType} {ls : Array Slot} {st0 As rest : List Value} {D : va_G} {cl : List vw_C} {A : Nat → Prop} {b : Nat} {tys : List (ClassId × FieldType)} {ws ws' : va_W} {H0 : Heap} {Ts wd : List Cond} {rm : Room} {own C : String} {T : u_T} {N : Nat} {y : MethodName} {fs : List Value}
theorem bm_rcallV {r : Value} (S : CallFix p m c cc nL s args Ts own) (hM : bm_Rd l y wd rm D cl tys ws (.ref b :: As) r) (cw : CallW R s args own C index y bytes maxL ret wd rm 0 0 n) (hK : va_K D cl tys s) (hP : va_P D cl ws H) (q0 ci : Nat) (hc : cl[ci]? = some (C, T, N)) (he : ws[q0]? = some (b, .inr (ci, fs)))
    (hn : As.length = n) (hsize : ls.size = nL) (hstack : st0 = As.reverse ++ .ref b :: rest) (hW : (rest.map fun v => v.category).sum ≤ 8) (hdg : decode cc pc = .ok (.invokevirtual index, 3)) (hcs : cells ≤ R.cells ∧ slots ≤ R.slots)
    (kk : W p l e R s m args below meth c H locs cells slots Q (F0 m (pc + 3) ls (r :: rest))) : W p l e R s m args below meth c H locs cells slots Q (F0 m pc ls st0) :=
  W.callV (W.runV (g := F0 m pc ls st0) S hM cw ⟨bm_Rp.blind, va_recv hK hP hc he, fun U hU hW => ⟨rfl, by rw [hU]; exact hP, va_K.moved hW.alike hK⟩⟩ rfl hn hsize hstack (lv_room hW) hdg hcs) kk
theorem bm_rcallS {r : Value} (S : CallFix p m c cc nL s args Ts own) (hM : bm_Rd l y wd rm D cl tys ws As r) (cw : CallB R s args own index y bytes maxL ret wd rm 0 0 n ∧ (Cond.static y).before args s = true) (hK : va_K D cl tys s) (hP : va_P D cl ws H)
    (hn : As.length = n) (hsize : ls.size = nL) (hstack : st0 = As.reverse ++ rest) (hW : (rest.map fun v => v.category).sum ≤ 8) (hdg : decode cc pc = .ok (.invokestatic index, 3)) (hcs : cells ≤ R.cells ∧ slots ≤ R.slots)
    (kk : W p l e R s m args below meth c H locs cells slots Q (F0 m (pc + 3) ls (r :: rest))) : W p l e R s m args below meth c H locs cells slots Q (F0 m pc ls st0) :=
  W.callV (W.runS (g := F0 m pc ls st0) S hM cw ⟨bm_Rp.blind, fun U hU hW => ⟨rfl, by rw [hU]; exact hP, va_K.moved hW.alike hK⟩⟩ rfl hn hsize hstack (lv_room hW) hdg hcs) kk
theorem bm_wcallV {r : Option Value} (S : CallFix p m c cc nL s args Ts own) (hM : bm_Wr l y wd rm D cl tys ws (.ref b :: As) ws' r) (cw : CallW R s args own C index y bytes maxL ret wd rm 0 0 n) (hK : va_K D cl tys s) (hP : va_P D cl ws H) (hD : va_D A ws) (hS : va_S A H0 H locs) (hA : ∀ q : Nat, H0.size ≤ q → A q) (q0 ci : Nat) (hc : cl[ci]? = some (C, T, N)) (he : ws[q0]? = some (b, .inr (ci, fs)))
    (hn : As.length = n) (hsize : ls.size = nL) (hstack : st0 = As.reverse ++ .ref b :: rest) (hW : (rest.map fun v => v.category).sum ≤ 8) (hdg : decode cc pc = .ok (.invokevirtual index, 3)) (hcs : cells ≤ R.cells ∧ slots ≤ R.slots)
    (kk : ∀ (H1 : Heap) (locs1 : List Loc), va_P D cl ws' H1 → va_D A ws' → va_S A H0 H1 locs1 → W p l e R s m args below meth c H1 locs1 cells slots Q (F0 m (pc + 3) ls (r.toList ++ rest))) : W p l e R s m args below meth c H locs cells slots Q (F0 m pc ls st0) := by
  have hr := va_runV (g := F0 m pc ls st0) (e := e) (below := below) (meth := meth) (locs := locs) (cells := cells) (slots := slots) S (hM H.size) cw ⟨bm_Wp.blind, va_recv hK hP hc he, fun U hU hW => ⟨rfl, by rw [hU], by rw [hU]; exact hP, va_K.moved hW.alike hK, hD.weaken (fun _ _ _ _ => trivial)⟩⟩ rfl hn hsize hstack (lv_room hW) hdg hcs
  have hF : ∀ q, va_A ws H.size q → A q := by
    intro q h
    rcases h with ⟨k, e9, h⟩ | h
    · exact hD.2 k (q, e9) h
    · exact hA q (Nat.le_trans hS.1 h)
  intro T hT X
  obtain ⟨v, st₀, t, T', L, h0, X', hL, e1, e2, ⟨⟨hv, hP', hK', hD'⟩, hz, hk⟩, st⟩ := hr T hT X
  cases hv
  rw [h0] at hz hk
  obtain ⟨t2, a1, b1⟩ := kk T'.heap (locs ++ L) (by rw [e1]; exact hP') (hD'.weaken (fun _ _ _ h => hF _ h))
    ⟨Nat.le_trans hS.1 (by rw [e1]; exact hz), fun q h1 h2 => by rw [e1, hk q (Nat.lt_of_lt_of_le h1 hS.1) (fun z => h2 (hF q z))]; exact hS.2.1 q h1 h2, fun q hq => by
      rcases List.mem_append.mp hq with h | h
      · exact hS.2.2 q h
      · exact hF _ (hL q h)⟩ T' rfl X'
  exact ⟨t2, st t2 a1, b1⟩
end BMC
section BME
variable {p : Program} {l : Launch} {e : Env} {R : Room} {s : State} {m : MethodId} {args : Array Value} {below : List Frame} {meth : Method} {c : Code} {H : Heap} {locs : List Loc} {cells slots : Nat} {Q : State → Prop}
variable {cc : ByteArray} {pc : Nat} {ls : Array Slot} {rest : List Value} {D : va_G} {cl : List vw_C} {A : Nat → Prop} {tys : List (ClassId × FieldType)} {ws ws' : va_W}
theorem bm_zretR {v r : Bool} (hexec : p.tables.exec = Jvm.exec) (hb : c.code = cc) (hr : meth.sig.returnType = some .boolean) (he : v = r) (hdg : decode cc pc = .ok (.ireturn, 1)) (hlocks : meth.locks = false) : W p l e R s m args below meth c s.heap [] cells slots (MQ below (k2_QcV (.int (bm_b r))) args s cells slots (fun _ => False)) (F0 m pc ls [.int (bm_b v)]) := by
  subst he
  exact W.zret hexec hb hr (bm_b_narrow v) (fun t ht hW => ⟨rfl, ht⟩) (fun q h => by cases h) hdg hlocks
theorem bm_iretR {v r : Int32} (hexec : p.tables.exec = Jvm.exec) (hb : c.code = cc) (hr : meth.sig.returnType = some .int) (he : v = r) (hdg : decode cc pc = .ok (.ireturn, 1)) (hlocks : meth.locks = false) : W p l e R s m args below meth c s.heap [] cells slots (MQ below (k2_QcV (.int r)) args s cells slots (fun _ => False)) (F0 m pc ls [.int v]) := by
  subst he
  exact W.iret hexec hb hr (fun t ht hW => ⟨rfl, ht⟩) (fun q h => by cases h) hdg hlocks
theorem bm_lretR {v r : Int64} (hexec : p.tables.exec = Jvm.exec) (hb : c.code = cc) (hr : meth.sig.returnType = some .long) (he : v = r) (hdg : decode cc pc = .ok (.lreturn, 1)) (hlocks : meth.locks = false) : W p l e R s m args below meth c s.heap [] cells slots (MQ below (k2_QcV (.long r)) args s cells slots (fun _ => False)) (F0 m pc ls [.long v]) := by
  subst he
  exact W.lret hexec hb hr (fun t ht hW => ⟨rfl, ht⟩) (fun q h => by cases h) hdg hlocks
theorem bm_vretW (hexec : p.tables.exec = Jvm.exec) (hb : c.code = cc) (hr : meth.sig.returnType = none) (hP : va_P D cl ws H) (hD : va_D A ws) (hK : va_K D cl tys s) (hS : va_S A s.heap H locs) (he : ws = ws') (hdg : decode cc pc = .ok (.return_, 1)) (hlocks : meth.locks = false) : W p l e R s m args below meth c H locs cells slots (MQ below (bm_Wq D cl tys ws' none A) args s cells slots A) (F0 m pc ls []) := by
  subst he
  exact W.vret hexec hb hr (fun t ht hW => ⟨⟨rfl, by rw [ht]; exact hP, va_K.moved hW.alike hK, hD⟩, hS.F ht⟩) hS.2.2 hdg hlocks
theorem bm_iretW {v r : Int32} (hexec : p.tables.exec = Jvm.exec) (hb : c.code = cc) (hr : meth.sig.returnType = some .int) (hP : va_P D cl ws H) (hD : va_D A ws) (hK : va_K D cl tys s) (hS : va_S A s.heap H locs) (he : v = r ∧ ws = ws') (hdg : decode cc pc = .ok (.ireturn, 1)) (hlocks : meth.locks = false) : W p l e R s m args below meth c H locs cells slots (MQ below (bm_Wq D cl tys ws' (some (.int r)) A) args s cells slots A) (F0 m pc ls [.int v]) := by
  obtain ⟨h1, h2⟩ := he
  subst h1; subst h2
  exact W.iret hexec hb hr (fun t ht hW => ⟨⟨rfl, by rw [ht]; exact hP, va_K.moved hW.alike hK, hD⟩, hS.F ht⟩) hS.2.2 hdg hlocks
theorem bm_zretW {v r : Bool} (hexec : p.tables.exec = Jvm.exec) (hb : c.code = cc) (hr : meth.sig.returnType = some .boolean) (hP : va_P D cl ws H) (hD : va_D A ws) (hK : va_K D cl tys s) (hS : va_S A s.heap H locs) (he : v = r ∧ ws = ws') (hdg : decode cc pc = .ok (.ireturn, 1)) (hlocks : meth.locks = false) : W p l e R s m args below meth c H locs cells slots (MQ below (bm_Wq D cl tys ws' (some (.int (bm_b r))) A) args s cells slots A) (F0 m pc ls [.int (bm_b v)]) := by
  obtain ⟨h1, h2⟩ := he
  subst h1; subst h2
  exact W.zret hexec hb hr (bm_b_narrow v) (fun t ht hW => ⟨⟨rfl, by rw [ht]; exact hP, va_K.moved hW.alike hK, hD⟩, hS.F ht⟩) hS.2.2 hdg hlocks
theorem bm_lretW {v r : Int64} (hexec : p.tables.exec = Jvm.exec) (hb : c.code = cc) (hr : meth.sig.returnType = some .long) (hP : va_P D cl ws H) (hD : va_D A ws) (hK : va_K D cl tys s) (hS : va_S A s.heap H locs) (he : v = r ∧ ws = ws') (hdg : decode cc pc = .ok (.lreturn, 1)) (hlocks : meth.locks = false) : W p l e R s m args below meth c H locs cells slots (MQ below (bm_Wq D cl tys ws' (some (.long r)) A) args s cells slots A) (F0 m pc ls [.long v]) := by
  obtain ⟨h1, h2⟩ := he
  subst h1; subst h2
  exact W.lret hexec hb hr (fun t ht hW => ⟨⟨rfl, by rw [ht]; exact hP, va_K.moved hW.alike hK, hD⟩, hS.F ht⟩) hS.2.2 hdg hlocks
theorem bm_bb_eq (hexec : p.tables.exec = Jvm.exec) (hb : c.code = cc) {x y : Bool} {off : Int} {tgt : Nat} (hdg : decode cc pc = .ok (.if_icmp .eq off, 3)) (ht : (pc : Int) + off = (tgt : Int))
    (kt : x = y → W p l e R s m args below meth c H locs cells slots Q (F0 m tgt ls rest)) (kf : ¬ x = y → W p l e R s m args below meth c H locs cells slots Q (F0 m (pc + 3) ls rest)) : W p l e R s m args below meth c H locs cells slots Q (F0 m pc ls (.int (bm_b y) :: .int (bm_b x) :: rest)) :=
  lv_icmp_eq hexec hb hdg ht (fun h => kt ((bm_b_inj x y).mp h)) (fun h => kf (fun q => h ((bm_b_inj x y).mpr q)))
theorem bm_bb_ne (hexec : p.tables.exec = Jvm.exec) (hb : c.code = cc) {x y : Bool} {off : Int} {tgt : Nat} (hdg : decode cc pc = .ok (.if_icmp .ne off, 3)) (ht : (pc : Int) + off = (tgt : Int))
    (kt : ¬ x = y → W p l e R s m args below meth c H locs cells slots Q (F0 m tgt ls rest)) (kf : x = y → W p l e R s m args below meth c H locs cells slots Q (F0 m (pc + 3) ls rest)) : W p l e R s m args below meth c H locs cells slots Q (F0 m pc ls (.int (bm_b y) :: .int (bm_b x) :: rest)) :=
  lv_icmp_ne hexec hb hdg ht (fun h => kt (fun q => h ((bm_b_inj x y).mpr q))) (fun h => kf ((bm_b_inj x y).mp h))
end BME
theorem bm_nmin {a b : Nat} (ha : a < 2 ^ 31) (hb : b < 2 ^ 31) : (if nI b < nI a then nI b else nI a) = nI (Nat.min a b) := by
  by_cases h : b < a
  · rw [if_pos ((nI_ltI hb ha).mpr h)]
    congr 1
    exact (Nat.min_eq_right (Nat.le_of_lt h)).symm
  · rw [if_neg (fun q => h ((nI_ltI hb ha).mp q))]
    congr 1
    exact (Nat.min_eq_left (Nat.not_lt.mp h)).symm
def q_max (x y : Int64) : Int64 := if y < x then x else y
def q_min (x y : Int64) : Int64 := if y < x then y else x
def q_abs (x : Int64) : Int64 := if 0 < x then x else -x
section BMM
variable {p : Program} {l : Launch} {e : Env} {R : Room} {s : State} {m : MethodId} {args : Array Value} {below : List Frame} {meth : Method} {c : Code} {H : Heap} {locs : List Loc} {cells slots : Nat} {Q : State → Prop} {pc : Nat} {ls : Array Slot} {rest : List Value}
theorem bm_mmaxl {cc : ByteArray} (hexec : p.tables.exec = Jvm.exec) (hb : c.code = cc) (hml : c.maxLocals = ls.size) {own : String} {index : Nat} (hown : s.vm.findClass own = some m.cls) (hlink : (Cond.methodLink own index Lib.MathLoose.max_long.x).before args s = true) (hstat : (Cond.static Lib.MathLoose.max_long.x).before args s = true) (hini : (Cond.initialized "java/lang/Math").before args s = true) (hcode : (Cond.code Lib.MathLoose.max_long.x Lib.MathLoose.max_long.code 4 (some .long)).before args s = true)
    (hframes : 1 ≤ R.frames) (hlocals : (rest.map fun v => v.category).sum + 15 ≤ R.locals) (hc : cells ≤ R.cells) (hs : slots ≤ R.slots) {x y : Int64} (hdg : decode cc pc = .ok (.invokestatic index, 3))
    (kk : W p l e R s m args below meth c H locs cells slots Q (F0 m (pc + 3) ls (.long (q_max x y) :: rest))) : W p l e R s m args below meth c H locs cells slots Q (F0 m pc ls (.long y :: .long x :: rest)) :=
  va_mmax_long hexec hb hml hown hlink hstat hini hcode hframes hlocals hc hs hdg kk
theorem bm_mminl {cc : ByteArray} (hexec : p.tables.exec = Jvm.exec) (hb : c.code = cc) (hml : c.maxLocals = ls.size) {own : String} {index : Nat} (hown : s.vm.findClass own = some m.cls) (hlink : (Cond.methodLink own index Lib.MathLoose.min_long.x).before args s = true) (hstat : (Cond.static Lib.MathLoose.min_long.x).before args s = true) (hini : (Cond.initialized "java/lang/Math").before args s = true) (hcode : (Cond.code Lib.MathLoose.min_long.x Lib.MathLoose.min_long.code 4 (some .long)).before args s = true)
    (hframes : 1 ≤ R.frames) (hlocals : (rest.map fun v => v.category).sum + 15 ≤ R.locals) (hc : cells ≤ R.cells) (hs : slots ≤ R.slots) {x y : Int64} (hdg : decode cc pc = .ok (.invokestatic index, 3))
    (kk : W p l e R s m args below meth c H locs cells slots Q (F0 m (pc + 3) ls (.long (q_min x y) :: rest))) : W p l e R s m args below meth c H locs cells slots Q (F0 m pc ls (.long y :: .long x :: rest)) :=
  va_mmin_long hexec hb hml hown hlink hstat hini hcode hframes hlocals hc hs hdg kk
theorem bm_mabsl {cc : ByteArray} (hexec : p.tables.exec = Jvm.exec) (hb : c.code = cc) (hml : c.maxLocals = ls.size) {own : String} {index : Nat} (hown : s.vm.findClass own = some m.cls) (hlink : (Cond.methodLink own index Lib.MathLoose.abs_long.x).before args s = true) (hstat : (Cond.static Lib.MathLoose.abs_long.x).before args s = true) (hini : (Cond.initialized "java/lang/Math").before args s = true) (hcode : (Cond.code Lib.MathLoose.abs_long.x Lib.MathLoose.abs_long.code 2 (some .long)).before args s = true)
    (hframes : 1 ≤ R.frames) (hlocals : (rest.map fun v => v.category).sum + 13 ≤ R.locals) (hc : cells ≤ R.cells) (hs : slots ≤ R.slots) {x : Int64} (hdg : decode cc pc = .ok (.invokestatic index, 3))
    (kk : W p l e R s m args below meth c H locs cells slots Q (F0 m (pc + 3) ls (.long (q_abs x) :: rest))) : W p l e R s m args below meth c H locs cells slots Q (F0 m pc ls (.long x :: rest)) :=
  va_mabs_long hexec hb hml hown hlink hstat hini hcode hframes hlocals hc hs hdg kk
theorem bm_mminn {cc : ByteArray} (hexec : p.tables.exec = Jvm.exec) (hb : c.code = cc) (hml : c.maxLocals = ls.size) {own : String} {index : Nat} (hown : s.vm.findClass own = some m.cls) (hlink : (Cond.methodLink own index Lib.Math.min.name).before args s = true) (hstat : (Cond.static Lib.Math.min.name).before args s = true) (hini : (Cond.initialized "java/lang/Math").before args s = true) (hcode : (Cond.code Lib.Math.min.name Lib.Math.min.code 2 (some .int)).before args s = true)
    (hframes : 1 ≤ R.frames) (hlocals : (rest.map fun v => v.category).sum + 13 ≤ R.locals) (hc : cells ≤ R.cells) (hs : slots ≤ R.slots) {x y : Nat} (hx : x < 2 ^ 31) (hy : y < 2 ^ 31) (hdg : decode cc pc = .ok (.invokestatic index, 3))
    (kk : W p l e R s m args below meth c H locs cells slots Q (F0 m (pc + 3) ls (.int (nI (Nat.min x y)) :: rest))) : W p l e R s m args below meth c H locs cells slots Q (F0 m pc ls (.int (nI y) :: .int (nI x) :: rest)) := by
  refine va_mmin hexec hb hml hown hlink hstat hini hcode hframes hlocals hc hs hdg ?_
  rw [bm_nmin hx hy]
  exact kk
end BMM
section BMN
variable {p : Program} {l : Launch} {e : Env} {R : Room} {s : State} {m : MethodId} {args : Array Value} {below : List Frame} {meth : Method} {c : Code} {H : Heap} {locs : List Loc} {cells slots : Nat} {Q : State → Prop}
variable {cc : ByteArray} {pc : Nat} {ls : Array Slot} {rest : List Value}
theorem bm_lrN (hexec : p.tables.exec = Jvm.exec) (hb : c.code = cc) {x y : Nat} (hx : x < 2 ^ 63) (h0 : 0 < y) (hy : y < 2 ^ 63) (hdg : decode cc pc = .ok (.lrem, 1))
    (k : W p l e R s m args below meth c H locs cells slots Q (F0 m (pc + 1) ls (.long (lN (x % y)) :: rest))) : W p l e R s m args below meth c H locs cells slots Q (F0 m pc ls (.long (lN y) :: .long (lN x) :: rest)) := by
  refine lv_lrem hexec hb hdg (fun q => ?_) ?_
  · have := (pk_lEQ hy (by decide : 0 < 2 ^ 63)).mp q
    omega
  · rw [pk_lRem hx h0 hy]
    exact k
theorem bm_l2iN (hexec : p.tables.exec = Jvm.exec) (hb : c.code = cc) {x : Nat} (hdg : decode cc pc = .ok (.l2i, 1))
    (k : W p l e R s m args below meth c H locs cells slots Q (F0 m (pc + 1) ls (.int (nI x) :: rest))) : W p l e R s m args below meth c H locs cells slots Q (F0 m pc ls (.long (lN x) :: rest)) := lv_l2i hexec hb hdg (lN_i x) k
theorem bm_i2lN (hexec : p.tables.exec = Jvm.exec) (hb : c.code = cc) {x : Nat} (hx : x < 2 ^ 31) (hdg : decode cc pc = .ok (.i2l, 1))
    (k : W p l e R s m args below meth c H locs cells slots Q (F0 m (pc + 1) ls (.long (lN x) :: rest))) : W p l e R s m args below meth c H locs cells slots Q (F0 m pc ls (.int (nI x) :: rest)) := lv_i2l hexec hb hdg (nI_l hx) k
theorem bm_Nlc_ne (hexec : p.tables.exec = Jvm.exec) (hb : c.code = cc) {x y : Nat} (hx : x < 2 ^ 63) (hy : y < 2 ^ 63) {off : Int} {tgt : Nat} (hd1 : decode cc pc = .ok (.lcmp, 1)) (hdg : decode cc (pc + 1) = .ok (.ifCond .ne off, 3)) (ht : ((pc + 1 : Nat) : Int) + off = (tgt : Int))
    (kt : ¬ x = y → W p l e R s m args below meth c H locs cells slots Q (F0 m tgt ls rest)) (kf : x = y → W p l e R s m args below meth c H locs cells slots Q (F0 m (pc + 1 + 3) ls rest)) : W p l e R s m args below meth c H locs cells slots Q (F0 m pc ls (.long (lN y) :: .long (lN x) :: rest)) :=
  bm_lc_ne hexec hb hd1 hdg ht (fun h => kt (fun q => h (by rw [q]))) (fun h => kf ((pk_lEQ hx hy).mp h))
theorem bm_nz_le (hexec : p.tables.exec = Jvm.exec) (hb : c.code = cc) {x : Nat} (hx : x < 2 ^ 31) {off : Int} {tgt : Nat} (hdg : decode cc pc = .ok (.ifCond .le off, 3)) (ht : (pc : Int) + off = (tgt : Int))
    (kt : x = 0 → W p l e R s m args below meth c H locs cells slots Q (F0 m tgt ls rest)) (kf : ¬ x = 0 → W p l e R s m args below meth c H locs cells slots Q (F0 m (pc + 3) ls rest)) : W p l e R s m args below meth c H locs cells slots Q (F0 m pc ls (.int (nI x) :: rest)) :=
  lv_if_le hexec hb hdg ht (fun h => kt (by
    rcases Nat.eq_zero_or_pos x with q | q
    · exact q
    · exact absurd h (nI_nle q hx))) (fun h => kf (fun q => h (by rw [q, nI_0]; decide)))
end BMN
end
section
-- THE STATE OF THE CLASS, in groups: Parts, Placement, Limits, Wiring, the board's own numbers
abbrev gPA : Type := (Nat → Int64) × (Nat → Int64) × (Nat → Nat) × (Nat → Int64) × (Nat → Bool) × (Nat → Nat) × Nat
abbrev gPL : Type := (Nat → Int64) × (Nat → Int64) × (Nat → Nat) × (Nat → Bool)
abbrev gLI : Type := (Nat → Int64) × (Nat → Int64) × (Nat → Int64) × (Nat → Int64) × (Nat → Int64) × (Nat → Nat) × (Nat → Nat) × (Nat → Int64) × Nat × Nat
abbrev gWI : Type := (Nat → Nat) × (Nat → Nat) × (Nat → Int64) × (Nat → Int64) × (Nat → Bool) × (Nat → Int64) × (Nat → Int64) × (Nat → Int64) × (Nat → Int64) × Nat × Nat
abbrev gBM : Type := Int64 × Int64 × Int64 × Int64
-- what keeps every index in its array
def q_okA (pa : gPA) : Prop := pa.2.2.2.2.2.2 ≤ 40 ∧ (∀ i, pa.2.2.1 i < 40) ∧ (∀ i, pa.2.2.2.2.2.1 i < 40)
def q_okL (pl : gPL) : Prop := ∀ i, pl.2.2.1 i < 40
def q_okI (li : gLI) : Prop := (∀ i, li.2.2.2.2.2.1 i < 40) ∧ (∀ i, li.2.2.2.2.2.2.1 i < 40) ∧ li.2.2.2.2.2.2.2.2.1 ≤ 10 ∧ li.2.2.2.2.2.2.2.2.2 ≤ 20
def q_okW (wi : gWI) : Prop := (∀ i, wi.1 i < 40) ∧ (∀ i, wi.2.1 i < 40) ∧ wi.2.2.2.2.2.2.2.2.2.1 ≤ 40 ∧ wi.2.2.2.2.2.2.2.2.2.2 ≤ 120
theorem bm40 {a : Nat} (h : a < 40) : a < 2 ^ 31 := Nat.lt_trans h (by decide)
-- searches
def q_find (c : Nat → Bool) : Nat → Nat → Option Nat
  | 0, _ => none
  | k + 1, i => if c i then some i else q_find c k (i + 1)
def q_opt (o : Option Nat) : Int32 := match o with
  | none => -1
  | some i => nI i
theorem q_find_no {c : Nat → Bool} {k i : Nat} (h : c i = false) : q_find c (k + 1) i = q_find c k (i + 1) := by simp [q_find, h]
theorem q_find_yes {c : Nat → Bool} {k i : Nat} (h : c i = true) : q_find c (k + 1) i = some i := by simp [q_find, h]
theorem q_find_end {c : Nat → Bool} {n i : Nat} (h : ¬ i < n) : q_find c (n - i) i = none := by
  have e : n - i = 0 := by omega
  rw [e]; rfl
theorem q_find_go {c : Nat → Bool} {n i : Nat} (h : i < n) (hc : c i = false) : q_find c (n - (i + 1)) (i + 1) = q_find c (n - i) i := by
  have e : n - i = (n - (i + 1)) + 1 := by omega
  rw [e, q_find_no hc]
theorem q_find_hit {c : Nat → Bool} {n i : Nat} (h : i < n) (hc : c i = true) : q_find c (n - i) i = some i := by
  have e : n - i = (n - (i + 1)) + 1 := by omega
  rw [e, q_find_yes hc]
-- readers
def q_mates (pa : gPA) (a b : Nat) : Bool := decide (pa.2.2.2.2.2.1 a = pa.2.2.2.2.2.1 b)
def q_endX (pa : gPA) (pl : gPL) (j : Nat) : Int64 := pl.1 j + (if pl.2.2.1 j % 2 = 0 then pa.1 j else pa.2.1 j)
def q_endY (pa : gPA) (pl : gPL) (j : Nat) : Int64 := pl.2.1 j + (if pl.2.2.1 j % 2 = 0 then pa.2.1 j else pa.1 j)
def q_meets (pa : gPA) (pl : gPL) (j : Nat) (x0 y0 x1 y1 : Int64) : Bool := pl.2.2.2 j && decide (pl.1 j < x1) && decide (x0 < q_endX pa pl j) && decide (pl.2.1 j < y1) && decide (y0 < q_endY pa pl j)
def q_ov (pa : gPA) (pl : gPL) (j i : Nat) : Bool := decide (i ≠ j) && decide (pa.2.2.1 i = pa.2.2.1 j) && q_meets pa pl i (pl.1 j) (pl.2.1 j) (q_endX pa pl j) (q_endY pa pl j)
def q_over (pa : gPA) (pl : gPL) (j from9 : Nat) : Option Nat := q_find (q_ov pa pl j) (pa.2.2.2.2.2.2 - from9) from9
def q_first (pa : gPA) (pl : gPL) : Option Nat := q_find (fun i => pl.2.2.2 i && (q_over pa pl i (i + 1)).isSome) (pa.2.2.2.2.2.2 - 0) 0
def q_mateP (pa : gPA) (pl : gPL) (j i : Nat) : Bool := decide (i ≠ j) && pl.2.2.2 i && q_mates pa i j
def q_hasMate (pa : gPA) (pl : gPL) (j : Nat) : Bool := (q_find (q_mateP pa pl j) (pa.2.2.2.2.2.2 - 0) 0).isSome
def q_differs (pl ql : gPL) (j : Nat) : Bool := decide (¬ pl.1 j = ql.1 j) || decide (¬ pl.2.1 j = ql.2.1 j) || decide (¬ pl.2.2.1 j = ql.2.2.1 j) || decide (¬ pl.2.2.2 j = ql.2.2.2 j)
theorem q_find_lt {c : Nat → Bool} : ∀ {k i o : Nat}, q_find c k i = some o → i ≤ o ∧ o < i + k ∧ c o = true := by
  intro k
  induction k with
  | zero => intro i o h; simp [q_find] at h
  | succ k ih =>
    intro i o h
    by_cases hc : c i = true
    · rw [q_find_yes hc] at h
      cases h
      exact ⟨Nat.le_refl _, by omega, hc⟩
    · have hf : c i = false := by simpa using hc
      rw [q_find_no hf] at h
      obtain ⟨a1, a2, a3⟩ := ih h
      exact ⟨by omega, by omega, a3⟩
theorem q_over_lt {pa : gPA} {pl : gPL} {j f o : Nat} (h : q_over pa pl j f = some o) : o < pa.2.2.2.2.2.2 := by
  have := q_find_lt h
  omega
theorem q_first_lt {pa : gPA} {pl : gPL} {o : Nat} (h : q_first pa pl = some o) : o < pa.2.2.2.2.2.2 := by
  have := q_find_lt h
  omega
theorem bm_nm1 {a : Nat} (h : a < 2 ^ 31) : ¬ nI a = -1 := by
  intro q
  have h1 := nI_toInt h
  rw [q] at h1
  have h2 : (-1 : Int32).toInt = -1 := by decide
  omega
def q_way (pa : gPA) (pl : gPL) (g t : Nat) (ax up : Bool) : Int64 := if ax then (if up then q_endX pa pl t - pl.1 g else pl.1 t - q_endX pa pl g) else (if up then q_endY pa pl t - pl.2.1 g else pl.2.1 t - q_endY pa pl g)
def q_near (pa : gPA) (pl : gPL) (a b : Nat) (most : Int64) : Bool := !pl.2.2.2 a || !pl.2.2.2 b || !decide (most < q_max 0 (q_max (pl.1 a) (pl.1 b) - q_min (q_endX pa pl a) (q_endX pa pl b)) + q_max 0 (q_max (pl.2.1 a) (pl.2.1 b) - q_min (q_endY pa pl a) (q_endY pa pl b)))
def q_tooTall (pa : gPA) (pl : gPL) (li : gLI) (j i : Nat) : Bool := decide (li.2.2.2.2.1 i < pa.2.2.2.1 j) && q_meets pa pl j (li.1 i) (li.2.1 i) (li.2.2.1 i) (li.2.2.2.1 i)
def q_low (pa : gPA) (pl : gPL) (li : gLI) (j : Nat) : Bool := (q_find (q_tooTall pa pl li j) (li.2.2.2.2.2.2.2.2.1 - 0) 0).isNone
def q_tooFar (pa : gPA) (pl : gPL) (li : gLI) (j i : Nat) : Bool := (decide (li.2.2.2.2.2.1 i = j) || decide (li.2.2.2.2.2.2.1 i = j)) && !q_near pa pl (li.2.2.2.2.2.1 i) (li.2.2.2.2.2.2.1 i) (li.2.2.2.2.2.2.2.1 i)
def q_nears (pa : gPA) (pl : gPL) (li : gLI) (j : Nat) : Bool := (q_find (q_tooFar pa pl li j) (li.2.2.2.2.2.2.2.2.2 - 0) 0).isNone
def q_len (x : Int64) : Bool := !decide (x < 1) && !decide (65536 < x)
def q_fits (bm : gBM) (pa : gPA) (j : Nat) (x y : Int64) (t : Nat) : Bool := !decide (x < 0) && !decide (bm.1 - (if t % 2 = 0 then pa.1 j else pa.2.1 j) < x) && !decide (y < 0) && !decide (bm.2.1 - (if t % 2 = 0 then pa.2.1 j else pa.1 j) < y)
def q_well (bm : gBM) (pa : gPA) (pl : gPL) (li : gLI) (j : Nat) : Bool := !pl.2.2.2 j || (q_fits bm pa j (pl.1 j) (pl.2.1 j) (pl.2.2.1 j) && (q_over pa pl j 0).isNone && q_low pa pl li j && q_nears pa pl li j)
def q_allWell (bm : gBM) (pa : gPA) (pl : gPL) (li : gLI) : Bool := (q_find (fun i => !q_well bm pa pl li i) (pa.2.2.2.2.2.2 - 0) 0).isNone
def q_count (c : Nat → Bool) : Nat → Nat
  | 0 => 0
  | k + 1 => q_count c k + (if c k then 1 else 0)
def q_changed (pl ql : gPL) (x : Int32) (i : Nat) : Bool := decide (¬ nI i = x) && q_differs pl ql i
theorem q_count_le (c : Nat → Bool) : ∀ k, q_count c k ≤ k := by
  intro k
  induction k with
  | zero => exact Nat.le_refl 0
  | succ k ih => simp only [q_count]; split <;> omega
def q_goes (pa : gPA) (pl : gPL) (lo hi pu : Nat) (ax up : Bool) : Bool := if q_mates pa lo pu then false else if q_mates pa hi pu then true else if up then decide ((if ax then pl.1 hi else pl.2.1 hi) < (if ax then pl.1 lo else pl.2.1 lo)) else decide ((if ax then pl.1 lo else pl.2.1 lo) < (if ax then pl.1 hi else pl.2.1 hi))
end
section
-- WRITERS: what they make of the groups
def q_shiftU (pa : gPA) (pl : gPL) (j : Nat) (dx dy : Int64) (u : Nat) : gPL := (fun i => if i < u ∧ pl.2.2.2 i = true ∧ q_mates pa i j = true then pl.1 i + dx else pl.1 i, fun i => if i < u ∧ pl.2.2.2 i = true ∧ q_mates pa i j = true then pl.2.1 i + dy else pl.2.1 i, pl.2.2.1, pl.2.2.2)
abbrev q_shift (pa : gPA) (pl : gPL) (j : Nat) (dx dy : Int64) : gPL := q_shiftU pa pl j dx dy pa.2.2.2.2.2.2
theorem q_shift_0 (pa : gPA) (pl : gPL) (j : Nat) (dx dy : Int64) : pl = q_shiftU pa pl j dx dy 0 := by
  unfold q_shiftU
  simp
theorem q_shift_hit {pa : gPA} {pl : gPL} {j : Nat} {dx dy : Int64} {u : Nat} (h1 : pl.2.2.2 u = true) (h2 : q_mates pa u j = true) :
    ((va_up (q_shiftU pa pl j dx dy u).1 u ((q_shiftU pa pl j dx dy u).1 u + dx), va_up (q_shiftU pa pl j dx dy u).2.1 u ((q_shiftU pa pl j dx dy u).2.1 u + dy), (q_shiftU pa pl j dx dy u).2.2.1, (q_shiftU pa pl j dx dy u).2.2.2) : gPL) = q_shiftU pa pl j dx dy (u + 1) := by
  unfold q_shiftU
  simp only [Prod.mk.injEq, and_true]
  constructor
  · funext i
    by_cases hi : i = u
    · subst hi; simp [va_up, h1, h2]
    · have e : (i < u + 1) = (i < u) := by simp only [eq_iff_iff]; omega
      simp [va_up, hi, e]
  · funext i
    by_cases hi : i = u
    · subst hi; simp [va_up, h1, h2]
    · have e : (i < u + 1) = (i < u) := by simp only [eq_iff_iff]; omega
      simp [va_up, hi, e]
theorem q_shift_miss {pa : gPA} {pl : gPL} {j : Nat} {dx dy : Int64} {u : Nat} (h : ¬ (pl.2.2.2 u = true ∧ q_mates pa u j = true)) : q_shiftU pa pl j dx dy u = q_shiftU pa pl j dx dy (u + 1) := by
  unfold q_shiftU
  simp only [Prod.mk.injEq, and_true]
  constructor
  · funext i
    by_cases hi : i = u
    · subst hi; simp [h]
    · have e : (i < u + 1) = (i < u) := by simp only [eq_iff_iff]; omega
      simp [e]
  · funext i
    by_cases hi : i = u
    · subst hi; simp [h]
    · have e : (i < u + 1) = (i < u) := by simp only [eq_iff_iff]; omega
      simp [e]
def q_copyU (f t : gPL) (u : Nat) : gPL := (fun i => if i < u then f.1 i else t.1 i, fun i => if i < u then f.2.1 i else t.2.1 i, fun i => if i < u then f.2.2.1 i else t.2.2.1 i, fun i => if i < u then f.2.2.2 i else t.2.2.2 i)
theorem q_cpy1 {α : Type} (f t : Nat → α) (u : Nat) : va_up (fun i => if i < u then f i else t i) u (f u) = fun i => if i < u + 1 then f i else t i := by
  funext i
  by_cases hi : i = u
  · subst hi; simp [va_up]
  · have e : (i < u + 1) = (i < u) := by simp only [eq_iff_iff]; omega
    simp [va_up, hi, e]
theorem q_copy_0 (f t : gPL) : t = q_copyU f t 0 := by
  unfold q_copyU
  simp
theorem q_copy_s (f t : gPL) (u : Nat) : ((va_up (q_copyU f t u).1 u (f.1 u), va_up (q_copyU f t u).2.1 u (f.2.1 u), va_up (q_copyU f t u).2.2.1 u (f.2.2.1 u), va_up (q_copyU f t u).2.2.2 u (f.2.2.2 u)) : gPL) = q_copyU f t (u + 1) := by
  unfold q_copyU
  simp only [q_cpy1]
theorem q_okL_copy {f t : gPL} {u : Nat} (h1 : q_okL f) (h2 : q_okL t) : q_okL (q_copyU f t u) := by
  intro i
  show (if i < u then f.2.2.1 i else t.2.2.1 i) < 40
  split
  · exact h1 i
  · exact h2 i
-- joining groups
def q_inG (pa : gPA) (a b i : Nat) : Bool := decide (pa.2.2.2.2.2.1 i = a) || decide (pa.2.2.2.2.2.1 i = b)
def q_joinU (pa : gPA) (a b c u : Nat) : gPA := (pa.1, pa.2.1, pa.2.2.1, pa.2.2.2.1, pa.2.2.2.2.1, fun i => if i < u ∧ q_inG pa a b i = true then c else pa.2.2.2.2.2.1 i, pa.2.2.2.2.2.2)
-- measuring
abbrev gSC : Type := (Nat → Bool) × (Nat → Int64) × (Nat → Int64) × (Nat → Int64) × (Nat → Int64)
def q_sw (wi : gWI) (sc : gSC) : gWI := (wi.1, wi.2.1, wi.2.2.1, wi.2.2.2.1, sc.1, sc.2.1, sc.2.2.1, sc.2.2.2.1, sc.2.2.2.2, wi.2.2.2.2.2.2.2.2.2.1, wi.2.2.2.2.2.2.2.2.2.2)
def q_sc (wi : gWI) : gSC := (wi.2.2.2.2.1, wi.2.2.2.2.2.1, wi.2.2.2.2.2.2.1, wi.2.2.2.2.2.2.2.1, wi.2.2.2.2.2.2.2.2.1)
def q_clr (sc : gSC) (u : Nat) : gSC := (fun i => if i < u then false else sc.1 i, sc.2.1, sc.2.2.1, sc.2.2.2.1, sc.2.2.2.2)
theorem q_clr_0 (wi : gWI) : wi = q_sw wi (q_clr (q_sc wi) 0) := by
  unfold q_sw q_clr q_sc
  simp
theorem q_clr_s (sc : gSC) (u : Nat) : ((va_up (q_clr sc u).1 u false, (q_clr sc u).2.1, (q_clr sc u).2.2.1, (q_clr sc u).2.2.2.1, (q_clr sc u).2.2.2.2) : gSC) = q_clr sc (u + 1) := by
  unfold q_clr
  simp only [Prod.mk.injEq, and_true]
  funext i
  by_cases hi : i = u
  · subst hi; simp [va_up]
  · have e : (i < u + 1) = (i < u) := by simp only [eq_iff_iff]; omega
    simp [va_up, hi, e]
def q_rch (sc : gSC) (k : Nat) (x y : Int64) : gSC := (va_up sc.1 k true, va_up sc.2.1 k (if sc.1 k then q_min (sc.2.1 k) x else x), va_up sc.2.2.1 k (if sc.1 k then q_max (sc.2.2.1 k) x else x), va_up sc.2.2.2.1 k (if sc.1 k then q_min (sc.2.2.2.1 k) y else y), va_up sc.2.2.2.2 k (if sc.1 k then q_max (sc.2.2.2.2 k) y else y))
def q_tx (pa : gPA) (wi : gWI) (k j t : Nat) : Int64 := if t = 1 then pa.2.1 j - wi.2.2.2.1 k else if t = 2 then pa.1 j - wi.2.2.1 k else if t = 3 then wi.2.2.2.1 k else wi.2.2.1 k
def q_ty (pa : gPA) (wi : gWI) (k j t : Nat) : Int64 := if t = 1 then wi.2.2.1 k else if t = 2 then pa.2.1 j - wi.2.2.2.1 k else if t = 3 then pa.1 j - wi.2.2.1 k else wi.2.2.2.1 k
def q_pinX (pa : gPA) (pl : gPL) (wi : gWI) (k : Nat) : Int64 := pl.1 (wi.2.1 k) + q_tx pa wi k (wi.2.1 k) (pl.2.2.1 (wi.2.1 k))
def q_pinY (pa : gPA) (pl : gPL) (wi : gWI) (k : Nat) : Int64 := pl.2.1 (wi.2.1 k) + q_ty pa wi k (wi.2.1 k) (pl.2.2.1 (wi.2.1 k))
def q_scan (pa : gPA) (pl : gPL) (wi : gWI) : Nat → gSC
  | 0 => q_clr (q_sc wi) wi.2.2.2.2.2.2.2.2.2.1
  | k + 1 => if pl.2.2.2 (wi.2.1 k) then q_rch (q_scan pa pl wi k) (wi.1 k) (q_pinX pa pl wi k) (q_pinY pa pl wi k) else q_scan pa pl wi k
def q_total (sc : gSC) : Nat → Int64
  | 0 => 0
  | k + 1 => if sc.1 k then q_total sc k + (sc.2.2.1 k - sc.2.1 k + sc.2.2.2.2 k - sc.2.2.2.1 k) else q_total sc k
def q_meas (pa : gPA) (pl : gPL) (wi : gWI) : Int64 := q_total (q_scan pa pl wi wi.2.2.2.2.2.2.2.2.2.2) wi.2.2.2.2.2.2.2.2.2.1
def q_measW (pa : gPA) (pl : gPL) (wi : gWI) : gWI := q_sw wi (q_scan pa pl wi wi.2.2.2.2.2.2.2.2.2.2)
-- a change is kept, or taken back
def q_bad (bm : gBM) (pa : gPA) (pl ql : gPL) (li : gLI) (i : Nat) : Bool := q_differs pl ql i && ((pa.2.2.2.2.1 i && ql.2.2.2 i) || !q_well bm pa pl li i)
def q_ndraw (s : Int64) : Int64 := s * 6364136223846793005 + 1442695040888963407
def q_drawn (s : Int64) : Int64 := (s.toUInt64 >>> ((nI 33).toInt64.toUInt64 &&& Int64.toUInt64 63)).toInt64
theorem q_join_hit {pa : gPA} {a b c u : Nat} (h : q_inG pa a b u = true) : ((pa.1, pa.2.1, pa.2.2.1, pa.2.2.2.1, pa.2.2.2.2.1, va_up (q_joinU pa a b c u).2.2.2.2.2.1 u c, pa.2.2.2.2.2.2) : gPA) = q_joinU pa a b c (u + 1) := by
  unfold q_joinU
  simp only [Prod.mk.injEq, and_true, true_and]
  funext i
  by_cases hi : i = u
  · subst hi; simp [va_up, h]
  · have e : (i < u + 1) = (i < u) := by simp only [eq_iff_iff]; omega
    simp [va_up, hi, e]
theorem q_join_miss {pa : gPA} {a b c u : Nat} (h : q_inG pa a b u = false) : q_joinU pa a b c u = q_joinU pa a b c (u + 1) := by
  unfold q_joinU
  simp only [Prod.mk.injEq, and_true, true_and]
  funext i
  by_cases hi : i = u
  · subst hi; simp [h]
  · have e : (i < u + 1) = (i < u) := by simp only [eq_iff_iff]; omega
    simp [e]
theorem q_scan_yes {pa : gPA} {pl : gPL} {wi : gWI} {k : Nat} (h : pl.2.2.2 (wi.2.1 k) = true) : q_scan pa pl wi (k + 1) = q_rch (q_scan pa pl wi k) (wi.1 k) (q_pinX pa pl wi k) (q_pinY pa pl wi k) := by
  show (if _ then _ else _) = _
  rw [if_pos h]
theorem q_scan_no {pa : gPA} {pl : gPL} {wi : gWI} {k : Nat} (h : pl.2.2.2 (wi.2.1 k) = false) : q_scan pa pl wi (k + 1) = q_scan pa pl wi k := by
  show (if _ then _ else _) = _
  rw [if_neg (by rw [h]; decide)]
theorem q_total_yes {sc : gSC} {k : Nat} (h : sc.1 k = true) : q_total sc k + (sc.2.2.1 k - sc.2.1 k + sc.2.2.2.2 k - sc.2.2.2.1 k) = q_total sc (k + 1) := by
  show _ = (if _ then _ else _)
  rw [if_pos h]
theorem q_total_no {sc : gSC} {k : Nat} (h : sc.1 k = false) : q_total sc k = q_total sc (k + 1) := by
  show _ = (if _ then _ else _)
  rw [if_neg (by rw [h]; decide)]
def q_bads (bm : gBM) (pa : gPA) (pl ql : gPL) (li : gLI) : Option Nat := q_find (q_bad bm pa pl ql li) (pa.2.2.2.2.2.2 - 0) 0
def q_keep (bm : gBM) (pa : gPA) (pl ql : gPL) (li : gLI) (wi : gWI) (more : Int64) : Bool := (q_bads bm pa pl ql li).isNone && !decide (more < q_meas pa pl wi - bm.2.2.2)
def q_keepP (bm : gBM) (pa : gPA) (pl ql : gPL) (li : gLI) (wi : gWI) (more : Int64) : gPL := if q_keep bm pa pl ql li wi more then pl else q_copyU ql pl pa.2.2.2.2.2.2
def q_keepW (bm : gBM) (pa : gPA) (pl ql : gPL) (li : gLI) (wi : gWI) : gWI := if (q_bads bm pa pl ql li).isNone then q_measW pa pl wi else wi
def q_keepB (bm : gBM) (pa : gPA) (pl ql : gPL) (li : gLI) (wi : gWI) (more : Int64) : gBM := if q_keep bm pa pl ql li wi more then (bm.1, bm.2.1, bm.2.2.1, q_meas pa pl wi) else bm
-- pushing
def q_clear (pa : gPA) (pu : Nat) (ax up : Bool) : Nat → gPL → gPL × Bool
  | 0, pl => (pl, false)
  | k + 1, pl => match q_first pa pl with
    | none => (pl, true)
    | some lo => match q_over pa pl lo (lo + 1) with
      | none => (pl, false)
      | some hi => if q_mates pa lo hi then (pl, false) else
        if q_goes pa pl lo hi pu ax up then q_clear pa pu ax up k (q_shift pa pl lo (if ax then q_way pa pl lo hi ax up else 0) (if ax then 0 else q_way pa pl lo hi ax up))
        else q_clear pa pu ax up k (q_shift pa pl hi (if ax then q_way pa pl hi lo ax up else 0) (if ax then 0 else q_way pa pl hi lo ax up))
def q_swap (pa : gPA) (pl : gPL) (a b : Nat) : gPL := if pl.2.2.2 b && !q_mates pa a b then q_shift pa (q_shift pa pl a (pl.1 b - pl.1 a) (pl.2.1 b - pl.2.1 a)) b (-(pl.1 b - pl.1 a)) (-(pl.2.1 b - pl.2.1 a)) else pl
def q_turnA (pa : gPA) (pl : gPL) (a q : Nat) : gPL := if q_hasMate pa pl a then pl else (pl.1, pl.2.1, va_up pl.2.2.1 a ((pl.2.2.1 a + q) % 4), pl.2.2.2)
end
section
def bT : List Cond := lw_tbl.filter goodWord
theorem inT {P : Cond → Prop} {a : Cond} (h : ∀ w, P w → w ∈ bT) : ∀ w, P w → w ∈ a :: bT := fun w q => List.mem_cons_of_mem _ (h w q)
theorem bT_good {w : Cond} (h : w ∈ bT) : goodWord w = true := (List.mem_filter.mp h).2
theorem gdV {a b : Cond} {own C : String} {idx : Nat} {y : MethodName} (h0 : b ∈ bT) (h1 : Cond.methodLink own idx y ∈ bT) (h2 : Cond.instanceMethod y ∈ bT) (h3 : Cond.selects C y y ∈ bT) (h4 : Cond.initialized C ∈ bT) : GoodIn (a :: bT) (wsV own idx C y (b :: bT)) := by
  intro w hw
  have hm : w ∈ bT := by
    simp only [wsV, List.cons_append, List.nil_append, List.mem_cons] at hw
    rcases hw with rfl | rfl | rfl | rfl | rfl | h <;> assumption
  exact ⟨List.mem_cons_of_mem _ hm, good_of_word (bT_good hm)⟩
theorem gdS {a b : Cond} {own : String} {idx : Nat} {y : MethodName} (h0 : b ∈ bT) (h1 : Cond.methodLink own idx y ∈ bT) (h2 : Cond.static y ∈ bT) (h4 : Cond.initialized own ∈ bT) : GoodIn (a :: bT) (wsS own idx y (b :: bT)) := by
  intro w hw
  have hm : w ∈ bT := by
    simp only [wsS, List.cons_append, List.nil_append, List.mem_cons] at hw
    rcases hw with rfl | rfl | rfl | rfl | h <;> assumption
  exact ⟨List.mem_cons_of_mem _ hm, good_of_word (bT_good hm)⟩
def RX0 : String := "BoardMoves$Limits"
def TX0 : u_T := fun k => match k with
  | 0 => ("BoardMoves$Limits", "parts", "LBoardMoves$Parts;", true)
  | 1 => ("BoardMoves$Limits", "x0", "[J", true)
  | 2 => ("BoardMoves$Limits", "y0", "[J", true)
  | 3 => ("BoardMoves$Limits", "x1", "[J", true)
  | 4 => ("BoardMoves$Limits", "y1", "[J", true)
  | 5 => ("BoardMoves$Limits", "tallest", "[J", true)
  | 6 => ("BoardMoves$Limits", "one", "[I", true)
  | 7 => ("BoardMoves$Limits", "other", "[I", true)
  | 8 => ("BoardMoves$Limits", "most", "[J", true)
  | 9 => ("BoardMoves$Limits", "keepOuts", "I", false)
  | _ => ("BoardMoves$Limits", "nears", "I", false)
def tyX0 : Nat → FieldType := fun k => match k with
  | 0 => .object "BoardMoves$Parts"
  | 1 => .array .long
  | 2 => .array .long
  | 3 => .array .long
  | 4 => .array .long
  | 5 => .array .long
  | 6 => .array .int
  | 7 => .array .int
  | 8 => .array .long
  | 9 => .int
  | _ => .int
theorem nmX0 : ∀ a, a < 11 → ∀ b, b < 11 → a ≠ b → (TX0 a).2.1 ≠ (TX0 b).2.1 := by decide +kernel
theorem tyX0_ok : ∀ k, k < 11 → parseFieldDescriptor (TX0 k).2.2.1 = some (tyX0 k) := by decide +kernel
theorem inX0 : ∀ w, w ∈ u_ws RX0 TX0 11 → w ∈ bT := by decide +kernel
def RX1 : String := "BoardMoves$Parts"
def TX1 : u_T := fun k => match k with
  | 0 => ("BoardMoves$Parts", "w", "[J", true)
  | 1 => ("BoardMoves$Parts", "h", "[J", true)
  | 2 => ("BoardMoves$Parts", "side", "[I", true)
  | 3 => ("BoardMoves$Parts", "tall", "[J", true)
  | 4 => ("BoardMoves$Parts", "locked", "[Z", true)
  | 5 => ("BoardMoves$Parts", "lowest", "[I", true)
  | _ => ("BoardMoves$Parts", "count", "I", false)
def tyX1 : Nat → FieldType := fun k => match k with
  | 0 => .array .long
  | 1 => .array .long
  | 2 => .array .int
  | 3 => .array .long
  | 4 => .array .boolean
  | 5 => .array .int
  | _ => .int
theorem nmX1 : ∀ a, a < 7 → ∀ b, b < 7 → a ≠ b → (TX1 a).2.1 ≠ (TX1 b).2.1 := by decide +kernel
theorem tyX1_ok : ∀ k, k < 7 → parseFieldDescriptor (TX1 k).2.2.1 = some (tyX1 k) := by decide +kernel
theorem inX1 : ∀ w, w ∈ u_ws RX1 TX1 7 → w ∈ bT := by decide +kernel
def RX2 : String := "BoardMoves$Placement"
def TX2 : u_T := fun k => match k with
  | 0 => ("BoardMoves$Placement", "parts", "LBoardMoves$Parts;", true)
  | 1 => ("BoardMoves$Placement", "x", "[J", true)
  | 2 => ("BoardMoves$Placement", "y", "[J", true)
  | 3 => ("BoardMoves$Placement", "turn", "[I", true)
  | _ => ("BoardMoves$Placement", "placed", "[Z", true)
def tyX2 : Nat → FieldType := fun k => match k with
  | 0 => .object "BoardMoves$Parts"
  | 1 => .array .long
  | 2 => .array .long
  | 3 => .array .int
  | _ => .array .boolean
theorem nmX2 : ∀ a, a < 5 → ∀ b, b < 5 → a ≠ b → (TX2 a).2.1 ≠ (TX2 b).2.1 := by decide +kernel
theorem tyX2_ok : ∀ k, k < 5 → parseFieldDescriptor (TX2 k).2.2.1 = some (tyX2 k) := by decide +kernel
theorem inX2 : ∀ w, w ∈ u_ws RX2 TX2 5 → w ∈ bT := by decide +kernel
def RX3 : String := "BoardMoves$Wiring"
def TX3 : u_T := fun k => match k with
  | 0 => ("BoardMoves$Wiring", "parts", "LBoardMoves$Parts;", true)
  | 1 => ("BoardMoves$Wiring", "netOf", "[I", true)
  | 2 => ("BoardMoves$Wiring", "partOf", "[I", true)
  | 3 => ("BoardMoves$Wiring", "dx", "[J", true)
  | 4 => ("BoardMoves$Wiring", "dy", "[J", true)
  | 5 => ("BoardMoves$Wiring", "reached", "[Z", true)
  | 6 => ("BoardMoves$Wiring", "lowX", "[J", true)
  | 7 => ("BoardMoves$Wiring", "highX", "[J", true)
  | 8 => ("BoardMoves$Wiring", "lowY", "[J", true)
  | 9 => ("BoardMoves$Wiring", "highY", "[J", true)
  | 10 => ("BoardMoves$Wiring", "nets", "I", false)
  | _ => ("BoardMoves$Wiring", "pins", "I", false)
def tyX3 : Nat → FieldType := fun k => match k with
  | 0 => .object "BoardMoves$Parts"
  | 1 => .array .int
  | 2 => .array .int
  | 3 => .array .long
  | 4 => .array .long
  | 5 => .array .boolean
  | 6 => .array .long
  | 7 => .array .long
  | 8 => .array .long
  | 9 => .array .long
  | 10 => .int
  | _ => .int
theorem nmX3 : ∀ a, a < 12 → ∀ b, b < 12 → a ≠ b → (TX3 a).2.1 ≠ (TX3 b).2.1 := by decide +kernel
theorem tyX3_ok : ∀ k, k < 12 → parseFieldDescriptor (TX3 k).2.2.1 = some (tyX3 k) := by decide +kernel
theorem inX3 : ∀ w, w ∈ u_ws RX3 TX3 12 → w ∈ bT := by decide +kernel
def RX4 : String := "BoardMoves"
def TX4 : u_T := fun k => match k with
  | 0 => ("BoardMoves", "boardWide", "J", true)
  | 1 => ("BoardMoves", "boardHigh", "J", true)
  | 2 => ("BoardMoves", "parts", "LBoardMoves$Parts;", true)
  | 3 => ("BoardMoves", "limits", "LBoardMoves$Limits;", true)
  | 4 => ("BoardMoves", "wiring", "LBoardMoves$Wiring;", true)
  | 5 => ("BoardMoves", "now", "LBoardMoves$Placement;", true)
  | 6 => ("BoardMoves", "before", "LBoardMoves$Placement;", true)
  | 7 => ("BoardMoves", "best", "LBoardMoves$Placement;", true)
  | 8 => ("BoardMoves", "drawn", "J", false)
  | _ => ("BoardMoves", "keptWire", "J", false)
def tyX4 : Nat → FieldType := fun k => match k with
  | 0 => .long
  | 1 => .long
  | 2 => .object "BoardMoves$Parts"
  | 3 => .object "BoardMoves$Limits"
  | 4 => .object "BoardMoves$Wiring"
  | 5 => .object "BoardMoves$Placement"
  | 6 => .object "BoardMoves$Placement"
  | 7 => .object "BoardMoves$Placement"
  | 8 => .long
  | _ => .long
theorem nmX4 : ∀ a, a < 10 → ∀ b, b < 10 → a ≠ b → (TX4 a).2.1 ≠ (TX4 b).2.1 := by decide +kernel
theorem tyX4_ok : ∀ k, k < 10 → parseFieldDescriptor (TX4 k).2.2.1 = some (tyX4 k) := by decide +kernel
theorem inX4 : ∀ w, w ∈ u_ws RX4 TX4 10 → w ∈ bT := by decide +kernel
abbrev vwCl : List vw_C := [(RX0, TX0, 11), (RX1, TX1, 7), (RX2, TX2, 5), (RX3, TX3, 12), (RX4, TX4, 10)]
abbrev cX1_areMates : ByteArray := prog_3_method_3_code
def yX1_areMates : MethodName := ⟨RX1, "areMates", "(II)Z"⟩
def wsX1_areMates : List Cond := .code yX1_areMates cX1_areMates 3 (some .boolean) :: bT
theorem dX1_areMates_0 : decode cX1_areMates 0 = .ok (.aload_n 0, 1) := by decide +kernel
theorem dX1_areMates_1 : decode cX1_areMates 1 = .ok (.getfield 29, 3) := by decide +kernel
theorem dX1_areMates_4 : decode cX1_areMates 4 = .ok (.iload_n 1, 1) := by decide +kernel
theorem dX1_areMates_5 : decode cX1_areMates 5 = .ok (.iaload, 1) := by decide +kernel
theorem dX1_areMates_6 : decode cX1_areMates 6 = .ok (.aload_n 0, 1) := by decide +kernel
theorem dX1_areMates_7 : decode cX1_areMates 7 = .ok (.getfield 29, 3) := by decide +kernel
theorem dX1_areMates_10 : decode cX1_areMates 10 = .ok (.iload_n 2, 1) := by decide +kernel
theorem dX1_areMates_11 : decode cX1_areMates 11 = .ok (.iaload, 1) := by decide +kernel
theorem dX1_areMates_12 : decode cX1_areMates 12 = .ok (.if_icmp .ne (7), 3) := by decide +kernel
theorem dX1_areMates_15 : decode cX1_areMates 15 = .ok (.iconst 1, 1) := by decide +kernel
theorem dX1_areMates_16 : decode cX1_areMates 16 = .ok (.goto (4), 3) := by decide +kernel
theorem dX1_areMates_19 : decode cX1_areMates 19 = .ok (.iconst 0, 1) := by decide +kernel
theorem dX1_areMates_20 : decode cX1_areMates 20 = .ok (.ireturn, 1) := by decide +kernel
abbrev cX2_endX : ByteArray := prog_4_method_7_code
def yX2_endX : MethodName := ⟨RX2, "endX", "(I)J"⟩
def wsX2_endX : List Cond := .code yX2_endX cX2_endX 2 (some .long) :: bT
theorem dX2_endX_0 : decode cX2_endX 0 = .ok (.aload_n 0, 1) := by decide +kernel
theorem dX2_endX_1 : decode cX2_endX 1 = .ok (.getfield 9, 3) := by decide +kernel
theorem dX2_endX_4 : decode cX2_endX 4 = .ok (.iload_n 1, 1) := by decide +kernel
theorem dX2_endX_5 : decode cX2_endX 5 = .ok (.laload, 1) := by decide +kernel
theorem dX2_endX_6 : decode cX2_endX 6 = .ok (.aload_n 0, 1) := by decide +kernel
theorem dX2_endX_7 : decode cX2_endX 7 = .ok (.getfield 18, 3) := by decide +kernel
theorem dX2_endX_10 : decode cX2_endX 10 = .ok (.iload_n 1, 1) := by decide +kernel
theorem dX2_endX_11 : decode cX2_endX 11 = .ok (.iaload, 1) := by decide +kernel
theorem dX2_endX_12 : decode cX2_endX 12 = .ok (.iconst 2, 1) := by decide +kernel
theorem dX2_endX_13 : decode cX2_endX 13 = .ok (.irem, 1) := by decide +kernel
theorem dX2_endX_14 : decode cX2_endX 14 = .ok (.ifCond .ne (15), 3) := by decide +kernel
theorem dX2_endX_17 : decode cX2_endX 17 = .ok (.aload_n 0, 1) := by decide +kernel
theorem dX2_endX_18 : decode cX2_endX 18 = .ok (.getfield 26, 3) := by decide +kernel
theorem dX2_endX_21 : decode cX2_endX 21 = .ok (.getfield 40, 3) := by decide +kernel
theorem dX2_endX_24 : decode cX2_endX 24 = .ok (.iload_n 1, 1) := by decide +kernel
theorem dX2_endX_25 : decode cX2_endX 25 = .ok (.laload, 1) := by decide +kernel
theorem dX2_endX_26 : decode cX2_endX 26 = .ok (.goto (12), 3) := by decide +kernel
theorem dX2_endX_29 : decode cX2_endX 29 = .ok (.aload_n 0, 1) := by decide +kernel
theorem dX2_endX_30 : decode cX2_endX 30 = .ok (.getfield 26, 3) := by decide +kernel
theorem dX2_endX_33 : decode cX2_endX 33 = .ok (.getfield 43, 3) := by decide +kernel
theorem dX2_endX_36 : decode cX2_endX 36 = .ok (.iload_n 1, 1) := by decide +kernel
theorem dX2_endX_37 : decode cX2_endX 37 = .ok (.laload, 1) := by decide +kernel
theorem dX2_endX_38 : decode cX2_endX 38 = .ok (.ladd, 1) := by decide +kernel
theorem dX2_endX_39 : decode cX2_endX 39 = .ok (.lreturn, 1) := by decide +kernel
abbrev cX2_endY : ByteArray := prog_4_method_8_code
def yX2_endY : MethodName := ⟨RX2, "endY", "(I)J"⟩
def wsX2_endY : List Cond := .code yX2_endY cX2_endY 2 (some .long) :: bT
theorem dX2_endY_0 : decode cX2_endY 0 = .ok (.aload_n 0, 1) := by decide +kernel
theorem dX2_endY_1 : decode cX2_endY 1 = .ok (.getfield 15, 3) := by decide +kernel
theorem dX2_endY_4 : decode cX2_endY 4 = .ok (.iload_n 1, 1) := by decide +kernel
theorem dX2_endY_5 : decode cX2_endY 5 = .ok (.laload, 1) := by decide +kernel
theorem dX2_endY_6 : decode cX2_endY 6 = .ok (.aload_n 0, 1) := by decide +kernel
theorem dX2_endY_7 : decode cX2_endY 7 = .ok (.getfield 18, 3) := by decide +kernel
theorem dX2_endY_10 : decode cX2_endY 10 = .ok (.iload_n 1, 1) := by decide +kernel
theorem dX2_endY_11 : decode cX2_endY 11 = .ok (.iaload, 1) := by decide +kernel
theorem dX2_endY_12 : decode cX2_endY 12 = .ok (.iconst 2, 1) := by decide +kernel
theorem dX2_endY_13 : decode cX2_endY 13 = .ok (.irem, 1) := by decide +kernel
theorem dX2_endY_14 : decode cX2_endY 14 = .ok (.ifCond .ne (15), 3) := by decide +kernel
theorem dX2_endY_17 : decode cX2_endY 17 = .ok (.aload_n 0, 1) := by decide +kernel
theorem dX2_endY_18 : decode cX2_endY 18 = .ok (.getfield 26, 3) := by decide +kernel
theorem dX2_endY_21 : decode cX2_endY 21 = .ok (.getfield 43, 3) := by decide +kernel
theorem dX2_endY_24 : decode cX2_endY 24 = .ok (.iload_n 1, 1) := by decide +kernel
theorem dX2_endY_25 : decode cX2_endY 25 = .ok (.laload, 1) := by decide +kernel
theorem dX2_endY_26 : decode cX2_endY 26 = .ok (.goto (12), 3) := by decide +kernel
theorem dX2_endY_29 : decode cX2_endY 29 = .ok (.aload_n 0, 1) := by decide +kernel
theorem dX2_endY_30 : decode cX2_endY 30 = .ok (.getfield 26, 3) := by decide +kernel
theorem dX2_endY_33 : decode cX2_endY 33 = .ok (.getfield 40, 3) := by decide +kernel
theorem dX2_endY_36 : decode cX2_endY 36 = .ok (.iload_n 1, 1) := by decide +kernel
theorem dX2_endY_37 : decode cX2_endY 37 = .ok (.laload, 1) := by decide +kernel
theorem dX2_endY_38 : decode cX2_endY 38 = .ok (.ladd, 1) := by decide +kernel
theorem dX2_endY_39 : decode cX2_endY 39 = .ok (.lreturn, 1) := by decide +kernel
abbrev cX2_meetsArea : ByteArray := prog_4_method_9_code
def yX2_meetsArea : MethodName := ⟨RX2, "meetsArea", "(IJJJJ)Z"⟩
def wsX2_meetsArea : List Cond := .code yX2_meetsArea cX2_meetsArea 10 (some .boolean) :: bT
theorem dX2_meetsArea_0 : decode cX2_meetsArea 0 = .ok (.aload_n 0, 1) := by decide +kernel
theorem dX2_meetsArea_1 : decode cX2_meetsArea 1 = .ok (.getfield 22, 3) := by decide +kernel
theorem dX2_meetsArea_4 : decode cX2_meetsArea 4 = .ok (.iload_n 1, 1) := by decide +kernel
theorem dX2_meetsArea_5 : decode cX2_meetsArea 5 = .ok (.baload, 1) := by decide +kernel
theorem dX2_meetsArea_6 : decode cX2_meetsArea 6 = .ok (.ifCond .eq (52), 3) := by decide +kernel
theorem dX2_meetsArea_9 : decode cX2_meetsArea 9 = .ok (.aload_n 0, 1) := by decide +kernel
theorem dX2_meetsArea_10 : decode cX2_meetsArea 10 = .ok (.getfield 9, 3) := by decide +kernel
theorem dX2_meetsArea_13 : decode cX2_meetsArea 13 = .ok (.iload_n 1, 1) := by decide +kernel
theorem dX2_meetsArea_14 : decode cX2_meetsArea 14 = .ok (.laload, 1) := by decide +kernel
theorem dX2_meetsArea_15 : decode cX2_meetsArea 15 = .ok (.lload 6, 2) := by decide +kernel
theorem dX2_meetsArea_17 : decode cX2_meetsArea 17 = .ok (.lcmp, 1) := by decide +kernel
theorem dX2_meetsArea_18 : decode cX2_meetsArea 18 = .ok (.ifCond .ge (40), 3) := by decide +kernel
theorem dX2_meetsArea_21 : decode cX2_meetsArea 21 = .ok (.lload_n 2, 1) := by decide +kernel
theorem dX2_meetsArea_22 : decode cX2_meetsArea 22 = .ok (.aload_n 0, 1) := by decide +kernel
theorem dX2_meetsArea_23 : decode cX2_meetsArea 23 = .ok (.iload_n 1, 1) := by decide +kernel
theorem dX2_meetsArea_24 : decode cX2_meetsArea 24 = .ok (.invokevirtual 46, 3) := by decide +kernel
theorem dX2_meetsArea_27 : decode cX2_meetsArea 27 = .ok (.lcmp, 1) := by decide +kernel
theorem dX2_meetsArea_28 : decode cX2_meetsArea 28 = .ok (.ifCond .ge (30), 3) := by decide +kernel
theorem dX2_meetsArea_31 : decode cX2_meetsArea 31 = .ok (.aload_n 0, 1) := by decide +kernel
theorem dX2_meetsArea_32 : decode cX2_meetsArea 32 = .ok (.getfield 15, 3) := by decide +kernel
theorem dX2_meetsArea_35 : decode cX2_meetsArea 35 = .ok (.iload_n 1, 1) := by decide +kernel
theorem dX2_meetsArea_36 : decode cX2_meetsArea 36 = .ok (.laload, 1) := by decide +kernel
theorem dX2_meetsArea_37 : decode cX2_meetsArea 37 = .ok (.lload 8, 2) := by decide +kernel
theorem dX2_meetsArea_39 : decode cX2_meetsArea 39 = .ok (.lcmp, 1) := by decide +kernel
theorem dX2_meetsArea_40 : decode cX2_meetsArea 40 = .ok (.ifCond .ge (18), 3) := by decide +kernel
theorem dX2_meetsArea_43 : decode cX2_meetsArea 43 = .ok (.lload 4, 2) := by decide +kernel
theorem dX2_meetsArea_45 : decode cX2_meetsArea 45 = .ok (.aload_n 0, 1) := by decide +kernel
theorem dX2_meetsArea_46 : decode cX2_meetsArea 46 = .ok (.iload_n 1, 1) := by decide +kernel
theorem dX2_meetsArea_47 : decode cX2_meetsArea 47 = .ok (.invokevirtual 50, 3) := by decide +kernel
theorem dX2_meetsArea_50 : decode cX2_meetsArea 50 = .ok (.lcmp, 1) := by decide +kernel
theorem dX2_meetsArea_51 : decode cX2_meetsArea 51 = .ok (.ifCond .ge (7), 3) := by decide +kernel
theorem dX2_meetsArea_54 : decode cX2_meetsArea 54 = .ok (.iconst 1, 1) := by decide +kernel
theorem dX2_meetsArea_55 : decode cX2_meetsArea 55 = .ok (.goto (4), 3) := by decide +kernel
theorem dX2_meetsArea_58 : decode cX2_meetsArea 58 = .ok (.iconst 0, 1) := by decide +kernel
theorem dX2_meetsArea_59 : decode cX2_meetsArea 59 = .ok (.ireturn, 1) := by decide +kernel
abbrev cX2_overlapped : ByteArray := prog_4_method_10_code
def yX2_overlapped : MethodName := ⟨RX2, "overlapped", "(II)I"⟩
def wsX2_overlapped : List Cond := .code yX2_overlapped cX2_overlapped 8 (some .int) :: bT
theorem dX2_overlapped_0 : decode cX2_overlapped 0 = .ok (.aload_n 0, 1) := by decide +kernel
theorem dX2_overlapped_1 : decode cX2_overlapped 1 = .ok (.iload_n 1, 1) := by decide +kernel
theorem dX2_overlapped_2 : decode cX2_overlapped 2 = .ok (.invokevirtual 46, 3) := by decide +kernel
theorem dX2_overlapped_5 : decode cX2_overlapped 5 = .ok (.lstore_n 3, 1) := by decide +kernel
theorem dX2_overlapped_6 : decode cX2_overlapped 6 = .ok (.aload_n 0, 1) := by decide +kernel
theorem dX2_overlapped_7 : decode cX2_overlapped 7 = .ok (.iload_n 1, 1) := by decide +kernel
theorem dX2_overlapped_8 : decode cX2_overlapped 8 = .ok (.invokevirtual 50, 3) := by decide +kernel
theorem dX2_overlapped_11 : decode cX2_overlapped 11 = .ok (.lstore 5, 2) := by decide +kernel
theorem dX2_overlapped_13 : decode cX2_overlapped 13 = .ok (.iload_n 2, 1) := by decide +kernel
theorem dX2_overlapped_14 : decode cX2_overlapped 14 = .ok (.istore 7, 2) := by decide +kernel
theorem dX2_overlapped_16 : decode cX2_overlapped 16 = .ok (.iload 7, 2) := by decide +kernel
theorem dX2_overlapped_18 : decode cX2_overlapped 18 = .ok (.aload_n 0, 1) := by decide +kernel
theorem dX2_overlapped_19 : decode cX2_overlapped 19 = .ok (.getfield 26, 3) := by decide +kernel
theorem dX2_overlapped_22 : decode cX2_overlapped 22 = .ok (.getfield 30, 3) := by decide +kernel
theorem dX2_overlapped_25 : decode cX2_overlapped 25 = .ok (.if_icmp .ge (64), 3) := by decide +kernel
theorem dX2_overlapped_28 : decode cX2_overlapped 28 = .ok (.iload 7, 2) := by decide +kernel
theorem dX2_overlapped_30 : decode cX2_overlapped 30 = .ok (.iload_n 1, 1) := by decide +kernel
theorem dX2_overlapped_31 : decode cX2_overlapped 31 = .ok (.if_icmp .eq (52), 3) := by decide +kernel
theorem dX2_overlapped_34 : decode cX2_overlapped 34 = .ok (.aload_n 0, 1) := by decide +kernel
theorem dX2_overlapped_35 : decode cX2_overlapped 35 = .ok (.getfield 26, 3) := by decide +kernel
theorem dX2_overlapped_38 : decode cX2_overlapped 38 = .ok (.getfield 53, 3) := by decide +kernel
theorem dX2_overlapped_41 : decode cX2_overlapped 41 = .ok (.iload 7, 2) := by decide +kernel
theorem dX2_overlapped_43 : decode cX2_overlapped 43 = .ok (.iaload, 1) := by decide +kernel
theorem dX2_overlapped_44 : decode cX2_overlapped 44 = .ok (.aload_n 0, 1) := by decide +kernel
theorem dX2_overlapped_45 : decode cX2_overlapped 45 = .ok (.getfield 26, 3) := by decide +kernel
theorem dX2_overlapped_48 : decode cX2_overlapped 48 = .ok (.getfield 53, 3) := by decide +kernel
theorem dX2_overlapped_51 : decode cX2_overlapped 51 = .ok (.iload_n 1, 1) := by decide +kernel
theorem dX2_overlapped_52 : decode cX2_overlapped 52 = .ok (.iaload, 1) := by decide +kernel
theorem dX2_overlapped_53 : decode cX2_overlapped 53 = .ok (.if_icmp .ne (30), 3) := by decide +kernel
theorem dX2_overlapped_56 : decode cX2_overlapped 56 = .ok (.aload_n 0, 1) := by decide +kernel
theorem dX2_overlapped_57 : decode cX2_overlapped 57 = .ok (.iload 7, 2) := by decide +kernel
theorem dX2_overlapped_59 : decode cX2_overlapped 59 = .ok (.aload_n 0, 1) := by decide +kernel
theorem dX2_overlapped_60 : decode cX2_overlapped 60 = .ok (.getfield 9, 3) := by decide +kernel
theorem dX2_overlapped_63 : decode cX2_overlapped 63 = .ok (.iload_n 1, 1) := by decide +kernel
theorem dX2_overlapped_64 : decode cX2_overlapped 64 = .ok (.laload, 1) := by decide +kernel
theorem dX2_overlapped_65 : decode cX2_overlapped 65 = .ok (.aload_n 0, 1) := by decide +kernel
theorem dX2_overlapped_66 : decode cX2_overlapped 66 = .ok (.getfield 15, 3) := by decide +kernel
theorem dX2_overlapped_69 : decode cX2_overlapped 69 = .ok (.iload_n 1, 1) := by decide +kernel
theorem dX2_overlapped_70 : decode cX2_overlapped 70 = .ok (.laload, 1) := by decide +kernel
theorem dX2_overlapped_71 : decode cX2_overlapped 71 = .ok (.lload_n 3, 1) := by decide +kernel
theorem dX2_overlapped_72 : decode cX2_overlapped 72 = .ok (.lload 5, 2) := by decide +kernel
theorem dX2_overlapped_74 : decode cX2_overlapped 74 = .ok (.invokevirtual 56, 3) := by decide +kernel
theorem dX2_overlapped_77 : decode cX2_overlapped 77 = .ok (.ifCond .eq (6), 3) := by decide +kernel
theorem dX2_overlapped_80 : decode cX2_overlapped 80 = .ok (.iload 7, 2) := by decide +kernel
theorem dX2_overlapped_82 : decode cX2_overlapped 82 = .ok (.ireturn, 1) := by decide +kernel
theorem dX2_overlapped_83 : decode cX2_overlapped 83 = .ok (.iinc 7 1, 3) := by decide +kernel
theorem dX2_overlapped_86 : decode cX2_overlapped 86 = .ok (.goto (-70), 3) := by decide +kernel
theorem dX2_overlapped_89 : decode cX2_overlapped 89 = .ok (.iconst (-1), 1) := by decide +kernel
theorem dX2_overlapped_90 : decode cX2_overlapped 90 = .ok (.ireturn, 1) := by decide +kernel
abbrev cX2_firstOverlapping : ByteArray := prog_4_method_11_code
def yX2_firstOverlapping : MethodName := ⟨RX2, "firstOverlapping", "()I"⟩
def wsX2_firstOverlapping : List Cond := .code yX2_firstOverlapping cX2_firstOverlapping 2 (some .int) :: bT
theorem dX2_firstOverlapping_0 : decode cX2_firstOverlapping 0 = .ok (.iconst 0, 1) := by decide +kernel
theorem dX2_firstOverlapping_1 : decode cX2_firstOverlapping 1 = .ok (.istore_n 1, 1) := by decide +kernel
theorem dX2_firstOverlapping_2 : decode cX2_firstOverlapping 2 = .ok (.iload_n 1, 1) := by decide +kernel
theorem dX2_firstOverlapping_3 : decode cX2_firstOverlapping 3 = .ok (.aload_n 0, 1) := by decide +kernel
theorem dX2_firstOverlapping_4 : decode cX2_firstOverlapping 4 = .ok (.getfield 26, 3) := by decide +kernel
theorem dX2_firstOverlapping_7 : decode cX2_firstOverlapping 7 = .ok (.getfield 30, 3) := by decide +kernel
theorem dX2_firstOverlapping_10 : decode cX2_firstOverlapping 10 = .ok (.if_icmp .ge (32), 3) := by decide +kernel
theorem dX2_firstOverlapping_13 : decode cX2_firstOverlapping 13 = .ok (.aload_n 0, 1) := by decide +kernel
theorem dX2_firstOverlapping_14 : decode cX2_firstOverlapping 14 = .ok (.getfield 22, 3) := by decide +kernel
theorem dX2_firstOverlapping_17 : decode cX2_firstOverlapping 17 = .ok (.iload_n 1, 1) := by decide +kernel
theorem dX2_firstOverlapping_18 : decode cX2_firstOverlapping 18 = .ok (.baload, 1) := by decide +kernel
theorem dX2_firstOverlapping_19 : decode cX2_firstOverlapping 19 = .ok (.ifCond .eq (17), 3) := by decide +kernel
theorem dX2_firstOverlapping_22 : decode cX2_firstOverlapping 22 = .ok (.aload_n 0, 1) := by decide +kernel
theorem dX2_firstOverlapping_23 : decode cX2_firstOverlapping 23 = .ok (.iload_n 1, 1) := by decide +kernel
theorem dX2_firstOverlapping_24 : decode cX2_firstOverlapping 24 = .ok (.iload_n 1, 1) := by decide +kernel
theorem dX2_firstOverlapping_25 : decode cX2_firstOverlapping 25 = .ok (.iconst 1, 1) := by decide +kernel
theorem dX2_firstOverlapping_26 : decode cX2_firstOverlapping 26 = .ok (.iadd, 1) := by decide +kernel
theorem dX2_firstOverlapping_27 : decode cX2_firstOverlapping 27 = .ok (.invokevirtual 60, 3) := by decide +kernel
theorem dX2_firstOverlapping_30 : decode cX2_firstOverlapping 30 = .ok (.iconst (-1), 1) := by decide +kernel
theorem dX2_firstOverlapping_31 : decode cX2_firstOverlapping 31 = .ok (.if_icmp .eq (5), 3) := by decide +kernel
theorem dX2_firstOverlapping_34 : decode cX2_firstOverlapping 34 = .ok (.iload_n 1, 1) := by decide +kernel
theorem dX2_firstOverlapping_35 : decode cX2_firstOverlapping 35 = .ok (.ireturn, 1) := by decide +kernel
theorem dX2_firstOverlapping_36 : decode cX2_firstOverlapping 36 = .ok (.iinc 1 1, 3) := by decide +kernel
theorem dX2_firstOverlapping_39 : decode cX2_firstOverlapping 39 = .ok (.goto (-37), 3) := by decide +kernel
theorem dX2_firstOverlapping_42 : decode cX2_firstOverlapping 42 = .ok (.iconst (-1), 1) := by decide +kernel
theorem dX2_firstOverlapping_43 : decode cX2_firstOverlapping 43 = .ok (.ireturn, 1) := by decide +kernel
abbrev cX2_hasPlacedMate : ByteArray := prog_4_method_6_code
def yX2_hasPlacedMate : MethodName := ⟨RX2, "hasPlacedMate", "(I)Z"⟩
def wsX2_hasPlacedMate : List Cond := .code yX2_hasPlacedMate cX2_hasPlacedMate 3 (some .boolean) :: bT
theorem dX2_hasPlacedMate_0 : decode cX2_hasPlacedMate 0 = .ok (.iconst 0, 1) := by decide +kernel
theorem dX2_hasPlacedMate_1 : decode cX2_hasPlacedMate 1 = .ok (.istore_n 2, 1) := by decide +kernel
theorem dX2_hasPlacedMate_2 : decode cX2_hasPlacedMate 2 = .ok (.iload_n 2, 1) := by decide +kernel
theorem dX2_hasPlacedMate_3 : decode cX2_hasPlacedMate 3 = .ok (.aload_n 0, 1) := by decide +kernel
theorem dX2_hasPlacedMate_4 : decode cX2_hasPlacedMate 4 = .ok (.getfield 26, 3) := by decide +kernel
theorem dX2_hasPlacedMate_7 : decode cX2_hasPlacedMate 7 = .ok (.getfield 30, 3) := by decide +kernel
theorem dX2_hasPlacedMate_10 : decode cX2_hasPlacedMate 10 = .ok (.if_icmp .ge (37), 3) := by decide +kernel
theorem dX2_hasPlacedMate_13 : decode cX2_hasPlacedMate 13 = .ok (.iload_n 2, 1) := by decide +kernel
theorem dX2_hasPlacedMate_14 : decode cX2_hasPlacedMate 14 = .ok (.iload_n 1, 1) := by decide +kernel
theorem dX2_hasPlacedMate_15 : decode cX2_hasPlacedMate 15 = .ok (.if_icmp .eq (26), 3) := by decide +kernel
theorem dX2_hasPlacedMate_18 : decode cX2_hasPlacedMate 18 = .ok (.aload_n 0, 1) := by decide +kernel
theorem dX2_hasPlacedMate_19 : decode cX2_hasPlacedMate 19 = .ok (.getfield 22, 3) := by decide +kernel
theorem dX2_hasPlacedMate_22 : decode cX2_hasPlacedMate 22 = .ok (.iload_n 2, 1) := by decide +kernel
theorem dX2_hasPlacedMate_23 : decode cX2_hasPlacedMate 23 = .ok (.baload, 1) := by decide +kernel
theorem dX2_hasPlacedMate_24 : decode cX2_hasPlacedMate 24 = .ok (.ifCond .eq (17), 3) := by decide +kernel
theorem dX2_hasPlacedMate_27 : decode cX2_hasPlacedMate 27 = .ok (.aload_n 0, 1) := by decide +kernel
theorem dX2_hasPlacedMate_28 : decode cX2_hasPlacedMate 28 = .ok (.getfield 26, 3) := by decide +kernel
theorem dX2_hasPlacedMate_31 : decode cX2_hasPlacedMate 31 = .ok (.iload_n 2, 1) := by decide +kernel
theorem dX2_hasPlacedMate_32 : decode cX2_hasPlacedMate 32 = .ok (.iload_n 1, 1) := by decide +kernel
theorem dX2_hasPlacedMate_33 : decode cX2_hasPlacedMate 33 = .ok (.invokevirtual 36, 3) := by decide +kernel
theorem dX2_hasPlacedMate_36 : decode cX2_hasPlacedMate 36 = .ok (.ifCond .eq (5), 3) := by decide +kernel
theorem dX2_hasPlacedMate_39 : decode cX2_hasPlacedMate 39 = .ok (.iconst 1, 1) := by decide +kernel
theorem dX2_hasPlacedMate_40 : decode cX2_hasPlacedMate 40 = .ok (.ireturn, 1) := by decide +kernel
theorem dX2_hasPlacedMate_41 : decode cX2_hasPlacedMate 41 = .ok (.iinc 2 1, 3) := by decide +kernel
theorem dX2_hasPlacedMate_44 : decode cX2_hasPlacedMate 44 = .ok (.goto (-42), 3) := by decide +kernel
theorem dX2_hasPlacedMate_47 : decode cX2_hasPlacedMate 47 = .ok (.iconst 0, 1) := by decide +kernel
theorem dX2_hasPlacedMate_48 : decode cX2_hasPlacedMate 48 = .ok (.ireturn, 1) := by decide +kernel
abbrev cX2_differs : ByteArray := prog_4_method_3_code
def yX2_differs : MethodName := ⟨RX2, "differs", "(LBoardMoves$Placement;I)Z"⟩
def wsX2_differs : List Cond := .code yX2_differs cX2_differs 3 (some .boolean) :: bT
theorem dX2_differs_0 : decode cX2_differs 0 = .ok (.aload_n 0, 1) := by decide +kernel
theorem dX2_differs_1 : decode cX2_differs 1 = .ok (.getfield 9, 3) := by decide +kernel
theorem dX2_differs_4 : decode cX2_differs 4 = .ok (.iload_n 2, 1) := by decide +kernel
theorem dX2_differs_5 : decode cX2_differs 5 = .ok (.laload, 1) := by decide +kernel
theorem dX2_differs_6 : decode cX2_differs 6 = .ok (.aload_n 1, 1) := by decide +kernel
theorem dX2_differs_7 : decode cX2_differs 7 = .ok (.getfield 9, 3) := by decide +kernel
theorem dX2_differs_10 : decode cX2_differs 10 = .ok (.iload_n 2, 1) := by decide +kernel
theorem dX2_differs_11 : decode cX2_differs 11 = .ok (.laload, 1) := by decide +kernel
theorem dX2_differs_12 : decode cX2_differs 12 = .ok (.lcmp, 1) := by decide +kernel
theorem dX2_differs_13 : decode cX2_differs 13 = .ok (.ifCond .ne (49), 3) := by decide +kernel
theorem dX2_differs_16 : decode cX2_differs 16 = .ok (.aload_n 0, 1) := by decide +kernel
theorem dX2_differs_17 : decode cX2_differs 17 = .ok (.getfield 15, 3) := by decide +kernel
theorem dX2_differs_20 : decode cX2_differs 20 = .ok (.iload_n 2, 1) := by decide +kernel
theorem dX2_differs_21 : decode cX2_differs 21 = .ok (.laload, 1) := by decide +kernel
theorem dX2_differs_22 : decode cX2_differs 22 = .ok (.aload_n 1, 1) := by decide +kernel
theorem dX2_differs_23 : decode cX2_differs 23 = .ok (.getfield 15, 3) := by decide +kernel
theorem dX2_differs_26 : decode cX2_differs 26 = .ok (.iload_n 2, 1) := by decide +kernel
theorem dX2_differs_27 : decode cX2_differs 27 = .ok (.laload, 1) := by decide +kernel
theorem dX2_differs_28 : decode cX2_differs 28 = .ok (.lcmp, 1) := by decide +kernel
theorem dX2_differs_29 : decode cX2_differs 29 = .ok (.ifCond .ne (33), 3) := by decide +kernel
theorem dX2_differs_32 : decode cX2_differs 32 = .ok (.aload_n 0, 1) := by decide +kernel
theorem dX2_differs_33 : decode cX2_differs 33 = .ok (.getfield 18, 3) := by decide +kernel
theorem dX2_differs_36 : decode cX2_differs 36 = .ok (.iload_n 2, 1) := by decide +kernel
theorem dX2_differs_37 : decode cX2_differs 37 = .ok (.iaload, 1) := by decide +kernel
theorem dX2_differs_38 : decode cX2_differs 38 = .ok (.aload_n 1, 1) := by decide +kernel
theorem dX2_differs_39 : decode cX2_differs 39 = .ok (.getfield 18, 3) := by decide +kernel
theorem dX2_differs_42 : decode cX2_differs 42 = .ok (.iload_n 2, 1) := by decide +kernel
theorem dX2_differs_43 : decode cX2_differs 43 = .ok (.iaload, 1) := by decide +kernel
theorem dX2_differs_44 : decode cX2_differs 44 = .ok (.if_icmp .ne (18), 3) := by decide +kernel
theorem dX2_differs_47 : decode cX2_differs 47 = .ok (.aload_n 0, 1) := by decide +kernel
theorem dX2_differs_48 : decode cX2_differs 48 = .ok (.getfield 22, 3) := by decide +kernel
theorem dX2_differs_51 : decode cX2_differs 51 = .ok (.iload_n 2, 1) := by decide +kernel
theorem dX2_differs_52 : decode cX2_differs 52 = .ok (.baload, 1) := by decide +kernel
theorem dX2_differs_53 : decode cX2_differs 53 = .ok (.aload_n 1, 1) := by decide +kernel
theorem dX2_differs_54 : decode cX2_differs 54 = .ok (.getfield 22, 3) := by decide +kernel
theorem dX2_differs_57 : decode cX2_differs 57 = .ok (.iload_n 2, 1) := by decide +kernel
theorem dX2_differs_58 : decode cX2_differs 58 = .ok (.baload, 1) := by decide +kernel
theorem dX2_differs_59 : decode cX2_differs 59 = .ok (.if_icmp .eq (7), 3) := by decide +kernel
theorem dX2_differs_62 : decode cX2_differs 62 = .ok (.iconst 1, 1) := by decide +kernel
theorem dX2_differs_63 : decode cX2_differs 63 = .ok (.goto (4), 3) := by decide +kernel
theorem dX2_differs_66 : decode cX2_differs 66 = .ok (.iconst 0, 1) := by decide +kernel
theorem dX2_differs_67 : decode cX2_differs 67 = .ok (.ireturn, 1) := by decide +kernel
abbrev cX2_wayToBorder : ByteArray := prog_4_method_12_code
def yX2_wayToBorder : MethodName := ⟨RX2, "wayToBorder", "(IIZZ)J"⟩
def wsX2_wayToBorder : List Cond := .code yX2_wayToBorder cX2_wayToBorder 5 (some .long) :: bT
theorem dX2_wayToBorder_0 : decode cX2_wayToBorder 0 = .ok (.iload_n 3, 1) := by decide +kernel
theorem dX2_wayToBorder_1 : decode cX2_wayToBorder 1 = .ok (.ifCond .eq (36), 3) := by decide +kernel
theorem dX2_wayToBorder_4 : decode cX2_wayToBorder 4 = .ok (.iload 4, 2) := by decide +kernel
theorem dX2_wayToBorder_6 : decode cX2_wayToBorder 6 = .ok (.ifCond .eq (18), 3) := by decide +kernel
theorem dX2_wayToBorder_9 : decode cX2_wayToBorder 9 = .ok (.aload_n 0, 1) := by decide +kernel
theorem dX2_wayToBorder_10 : decode cX2_wayToBorder 10 = .ok (.iload_n 2, 1) := by decide +kernel
theorem dX2_wayToBorder_11 : decode cX2_wayToBorder 11 = .ok (.invokevirtual 46, 3) := by decide +kernel
theorem dX2_wayToBorder_14 : decode cX2_wayToBorder 14 = .ok (.aload_n 0, 1) := by decide +kernel
theorem dX2_wayToBorder_15 : decode cX2_wayToBorder 15 = .ok (.getfield 9, 3) := by decide +kernel
theorem dX2_wayToBorder_18 : decode cX2_wayToBorder 18 = .ok (.iload_n 1, 1) := by decide +kernel
theorem dX2_wayToBorder_19 : decode cX2_wayToBorder 19 = .ok (.laload, 1) := by decide +kernel
theorem dX2_wayToBorder_20 : decode cX2_wayToBorder 20 = .ok (.lsub, 1) := by decide +kernel
theorem dX2_wayToBorder_21 : decode cX2_wayToBorder 21 = .ok (.goto (15), 3) := by decide +kernel
theorem dX2_wayToBorder_24 : decode cX2_wayToBorder 24 = .ok (.aload_n 0, 1) := by decide +kernel
theorem dX2_wayToBorder_25 : decode cX2_wayToBorder 25 = .ok (.getfield 9, 3) := by decide +kernel
theorem dX2_wayToBorder_28 : decode cX2_wayToBorder 28 = .ok (.iload_n 2, 1) := by decide +kernel
theorem dX2_wayToBorder_29 : decode cX2_wayToBorder 29 = .ok (.laload, 1) := by decide +kernel
theorem dX2_wayToBorder_30 : decode cX2_wayToBorder 30 = .ok (.aload_n 0, 1) := by decide +kernel
theorem dX2_wayToBorder_31 : decode cX2_wayToBorder 31 = .ok (.iload_n 1, 1) := by decide +kernel
theorem dX2_wayToBorder_32 : decode cX2_wayToBorder 32 = .ok (.invokevirtual 46, 3) := by decide +kernel
theorem dX2_wayToBorder_35 : decode cX2_wayToBorder 35 = .ok (.lsub, 1) := by decide +kernel
theorem dX2_wayToBorder_36 : decode cX2_wayToBorder 36 = .ok (.lreturn, 1) := by decide +kernel
theorem dX2_wayToBorder_37 : decode cX2_wayToBorder 37 = .ok (.iload 4, 2) := by decide +kernel
theorem dX2_wayToBorder_39 : decode cX2_wayToBorder 39 = .ok (.ifCond .eq (18), 3) := by decide +kernel
theorem dX2_wayToBorder_42 : decode cX2_wayToBorder 42 = .ok (.aload_n 0, 1) := by decide +kernel
theorem dX2_wayToBorder_43 : decode cX2_wayToBorder 43 = .ok (.iload_n 2, 1) := by decide +kernel
theorem dX2_wayToBorder_44 : decode cX2_wayToBorder 44 = .ok (.invokevirtual 50, 3) := by decide +kernel
theorem dX2_wayToBorder_47 : decode cX2_wayToBorder 47 = .ok (.aload_n 0, 1) := by decide +kernel
theorem dX2_wayToBorder_48 : decode cX2_wayToBorder 48 = .ok (.getfield 15, 3) := by decide +kernel
theorem dX2_wayToBorder_51 : decode cX2_wayToBorder 51 = .ok (.iload_n 1, 1) := by decide +kernel
theorem dX2_wayToBorder_52 : decode cX2_wayToBorder 52 = .ok (.laload, 1) := by decide +kernel
theorem dX2_wayToBorder_53 : decode cX2_wayToBorder 53 = .ok (.lsub, 1) := by decide +kernel
theorem dX2_wayToBorder_54 : decode cX2_wayToBorder 54 = .ok (.goto (15), 3) := by decide +kernel
theorem dX2_wayToBorder_57 : decode cX2_wayToBorder 57 = .ok (.aload_n 0, 1) := by decide +kernel
theorem dX2_wayToBorder_58 : decode cX2_wayToBorder 58 = .ok (.getfield 15, 3) := by decide +kernel
theorem dX2_wayToBorder_61 : decode cX2_wayToBorder 61 = .ok (.iload_n 2, 1) := by decide +kernel
theorem dX2_wayToBorder_62 : decode cX2_wayToBorder 62 = .ok (.laload, 1) := by decide +kernel
theorem dX2_wayToBorder_63 : decode cX2_wayToBorder 63 = .ok (.aload_n 0, 1) := by decide +kernel
theorem dX2_wayToBorder_64 : decode cX2_wayToBorder 64 = .ok (.iload_n 1, 1) := by decide +kernel
theorem dX2_wayToBorder_65 : decode cX2_wayToBorder 65 = .ok (.invokevirtual 50, 3) := by decide +kernel
theorem dX2_wayToBorder_68 : decode cX2_wayToBorder 68 = .ok (.lsub, 1) := by decide +kernel
theorem dX2_wayToBorder_69 : decode cX2_wayToBorder 69 = .ok (.lreturn, 1) := by decide +kernel
abbrev cX2_isNear : ByteArray := prog_4_method_13_code
def yX2_isNear : MethodName := ⟨RX2, "isNear", "(IIJ)Z"⟩
def wsX2_isNear : List Cond := .code yX2_isNear cX2_isNear 9 (some .boolean) :: bT
theorem dX2_isNear_0 : decode cX2_isNear 0 = .ok (.aload_n 0, 1) := by decide +kernel
theorem dX2_isNear_1 : decode cX2_isNear 1 = .ok (.getfield 22, 3) := by decide +kernel
theorem dX2_isNear_4 : decode cX2_isNear 4 = .ok (.iload_n 1, 1) := by decide +kernel
theorem dX2_isNear_5 : decode cX2_isNear 5 = .ok (.baload, 1) := by decide +kernel
theorem dX2_isNear_6 : decode cX2_isNear 6 = .ok (.ifCond .eq (12), 3) := by decide +kernel
theorem dX2_isNear_9 : decode cX2_isNear 9 = .ok (.aload_n 0, 1) := by decide +kernel
theorem dX2_isNear_10 : decode cX2_isNear 10 = .ok (.getfield 22, 3) := by decide +kernel
theorem dX2_isNear_13 : decode cX2_isNear 13 = .ok (.iload_n 2, 1) := by decide +kernel
theorem dX2_isNear_14 : decode cX2_isNear 14 = .ok (.baload, 1) := by decide +kernel
theorem dX2_isNear_15 : decode cX2_isNear 15 = .ok (.ifCond .ne (5), 3) := by decide +kernel
theorem dX2_isNear_18 : decode cX2_isNear 18 = .ok (.iconst 1, 1) := by decide +kernel
theorem dX2_isNear_19 : decode cX2_isNear 19 = .ok (.ireturn, 1) := by decide +kernel
theorem dX2_isNear_20 : decode cX2_isNear 20 = .ok (.aload_n 0, 1) := by decide +kernel
theorem dX2_isNear_21 : decode cX2_isNear 21 = .ok (.getfield 9, 3) := by decide +kernel
theorem dX2_isNear_24 : decode cX2_isNear 24 = .ok (.iload_n 1, 1) := by decide +kernel
theorem dX2_isNear_25 : decode cX2_isNear 25 = .ok (.laload, 1) := by decide +kernel
theorem dX2_isNear_26 : decode cX2_isNear 26 = .ok (.aload_n 0, 1) := by decide +kernel
theorem dX2_isNear_27 : decode cX2_isNear 27 = .ok (.getfield 9, 3) := by decide +kernel
theorem dX2_isNear_30 : decode cX2_isNear 30 = .ok (.iload_n 2, 1) := by decide +kernel
theorem dX2_isNear_31 : decode cX2_isNear 31 = .ok (.laload, 1) := by decide +kernel
theorem dX2_isNear_32 : decode cX2_isNear 32 = .ok (.invokestatic 64, 3) := by decide +kernel
theorem dX2_isNear_35 : decode cX2_isNear 35 = .ok (.aload_n 0, 1) := by decide +kernel
theorem dX2_isNear_36 : decode cX2_isNear 36 = .ok (.iload_n 1, 1) := by decide +kernel
theorem dX2_isNear_37 : decode cX2_isNear 37 = .ok (.invokevirtual 46, 3) := by decide +kernel
theorem dX2_isNear_40 : decode cX2_isNear 40 = .ok (.aload_n 0, 1) := by decide +kernel
theorem dX2_isNear_41 : decode cX2_isNear 41 = .ok (.iload_n 2, 1) := by decide +kernel
theorem dX2_isNear_42 : decode cX2_isNear 42 = .ok (.invokevirtual 46, 3) := by decide +kernel
theorem dX2_isNear_45 : decode cX2_isNear 45 = .ok (.invokestatic 70, 3) := by decide +kernel
theorem dX2_isNear_48 : decode cX2_isNear 48 = .ok (.lsub, 1) := by decide +kernel
theorem dX2_isNear_49 : decode cX2_isNear 49 = .ok (.lstore 5, 2) := by decide +kernel
theorem dX2_isNear_51 : decode cX2_isNear 51 = .ok (.aload_n 0, 1) := by decide +kernel
theorem dX2_isNear_52 : decode cX2_isNear 52 = .ok (.getfield 15, 3) := by decide +kernel
theorem dX2_isNear_55 : decode cX2_isNear 55 = .ok (.iload_n 1, 1) := by decide +kernel
theorem dX2_isNear_56 : decode cX2_isNear 56 = .ok (.laload, 1) := by decide +kernel
theorem dX2_isNear_57 : decode cX2_isNear 57 = .ok (.aload_n 0, 1) := by decide +kernel
theorem dX2_isNear_58 : decode cX2_isNear 58 = .ok (.getfield 15, 3) := by decide +kernel
theorem dX2_isNear_61 : decode cX2_isNear 61 = .ok (.iload_n 2, 1) := by decide +kernel
theorem dX2_isNear_62 : decode cX2_isNear 62 = .ok (.laload, 1) := by decide +kernel
theorem dX2_isNear_63 : decode cX2_isNear 63 = .ok (.invokestatic 64, 3) := by decide +kernel
theorem dX2_isNear_66 : decode cX2_isNear 66 = .ok (.aload_n 0, 1) := by decide +kernel
theorem dX2_isNear_67 : decode cX2_isNear 67 = .ok (.iload_n 1, 1) := by decide +kernel
theorem dX2_isNear_68 : decode cX2_isNear 68 = .ok (.invokevirtual 50, 3) := by decide +kernel
theorem dX2_isNear_71 : decode cX2_isNear 71 = .ok (.aload_n 0, 1) := by decide +kernel
theorem dX2_isNear_72 : decode cX2_isNear 72 = .ok (.iload_n 2, 1) := by decide +kernel
theorem dX2_isNear_73 : decode cX2_isNear 73 = .ok (.invokevirtual 50, 3) := by decide +kernel
theorem dX2_isNear_76 : decode cX2_isNear 76 = .ok (.invokestatic 70, 3) := by decide +kernel
theorem dX2_isNear_79 : decode cX2_isNear 79 = .ok (.lsub, 1) := by decide +kernel
theorem dX2_isNear_80 : decode cX2_isNear 80 = .ok (.lstore 7, 2) := by decide +kernel
theorem dX2_isNear_82 : decode cX2_isNear 82 = .ok (.lconst 0, 1) := by decide +kernel
theorem dX2_isNear_83 : decode cX2_isNear 83 = .ok (.lload 5, 2) := by decide +kernel
theorem dX2_isNear_85 : decode cX2_isNear 85 = .ok (.invokestatic 64, 3) := by decide +kernel
theorem dX2_isNear_88 : decode cX2_isNear 88 = .ok (.lconst 0, 1) := by decide +kernel
theorem dX2_isNear_89 : decode cX2_isNear 89 = .ok (.lload 7, 2) := by decide +kernel
theorem dX2_isNear_91 : decode cX2_isNear 91 = .ok (.invokestatic 64, 3) := by decide +kernel
theorem dX2_isNear_94 : decode cX2_isNear 94 = .ok (.ladd, 1) := by decide +kernel
theorem dX2_isNear_95 : decode cX2_isNear 95 = .ok (.lload_n 3, 1) := by decide +kernel
theorem dX2_isNear_96 : decode cX2_isNear 96 = .ok (.lcmp, 1) := by decide +kernel
theorem dX2_isNear_97 : decode cX2_isNear 97 = .ok (.ifCond .gt (7), 3) := by decide +kernel
theorem dX2_isNear_100 : decode cX2_isNear 100 = .ok (.iconst 1, 1) := by decide +kernel
theorem dX2_isNear_101 : decode cX2_isNear 101 = .ok (.goto (4), 3) := by decide +kernel
theorem dX2_isNear_104 : decode cX2_isNear 104 = .ok (.iconst 0, 1) := by decide +kernel
theorem dX2_isNear_105 : decode cX2_isNear 105 = .ok (.ireturn, 1) := by decide +kernel
abbrev cX0_isLowEnough : ByteArray := prog_2_method_5_code
def yX0_isLowEnough : MethodName := ⟨RX0, "isLowEnough", "(LBoardMoves$Placement;I)Z"⟩
def wsX0_isLowEnough : List Cond := .code yX0_isLowEnough cX0_isLowEnough 4 (some .boolean) :: bT
theorem dX0_isLowEnough_0 : decode cX0_isLowEnough 0 = .ok (.iconst 0, 1) := by decide +kernel
theorem dX0_isLowEnough_1 : decode cX0_isLowEnough 1 = .ok (.istore_n 3, 1) := by decide +kernel
theorem dX0_isLowEnough_2 : decode cX0_isLowEnough 2 = .ok (.iload_n 3, 1) := by decide +kernel
theorem dX0_isLowEnough_3 : decode cX0_isLowEnough 3 = .ok (.aload_n 0, 1) := by decide +kernel
theorem dX0_isLowEnough_4 : decode cX0_isLowEnough 4 = .ok (.getfield 37, 3) := by decide +kernel
theorem dX0_isLowEnough_7 : decode cX0_isLowEnough 7 = .ok (.if_icmp .ge (62), 3) := by decide +kernel
theorem dX0_isLowEnough_10 : decode cX0_isLowEnough 10 = .ok (.aload_n 0, 1) := by decide +kernel
theorem dX0_isLowEnough_11 : decode cX0_isLowEnough 11 = .ok (.getfield 44, 3) := by decide +kernel
theorem dX0_isLowEnough_14 : decode cX0_isLowEnough 14 = .ok (.getfield 48, 3) := by decide +kernel
theorem dX0_isLowEnough_17 : decode cX0_isLowEnough 17 = .ok (.iload_n 2, 1) := by decide +kernel
theorem dX0_isLowEnough_18 : decode cX0_isLowEnough 18 = .ok (.laload, 1) := by decide +kernel
theorem dX0_isLowEnough_19 : decode cX0_isLowEnough 19 = .ok (.aload_n 0, 1) := by decide +kernel
theorem dX0_isLowEnough_20 : decode cX0_isLowEnough 20 = .ok (.getfield 24, 3) := by decide +kernel
theorem dX0_isLowEnough_23 : decode cX0_isLowEnough 23 = .ok (.iload_n 3, 1) := by decide +kernel
theorem dX0_isLowEnough_24 : decode cX0_isLowEnough 24 = .ok (.laload, 1) := by decide +kernel
theorem dX0_isLowEnough_25 : decode cX0_isLowEnough 25 = .ok (.lcmp, 1) := by decide +kernel
theorem dX0_isLowEnough_26 : decode cX0_isLowEnough 26 = .ok (.ifCond .le (37), 3) := by decide +kernel
theorem dX0_isLowEnough_29 : decode cX0_isLowEnough 29 = .ok (.aload_n 1, 1) := by decide +kernel
theorem dX0_isLowEnough_30 : decode cX0_isLowEnough 30 = .ok (.iload_n 2, 1) := by decide +kernel
theorem dX0_isLowEnough_31 : decode cX0_isLowEnough 31 = .ok (.aload_n 0, 1) := by decide +kernel
theorem dX0_isLowEnough_32 : decode cX0_isLowEnough 32 = .ok (.getfield 9, 3) := by decide +kernel
theorem dX0_isLowEnough_35 : decode cX0_isLowEnough 35 = .ok (.iload_n 3, 1) := by decide +kernel
theorem dX0_isLowEnough_36 : decode cX0_isLowEnough 36 = .ok (.laload, 1) := by decide +kernel
theorem dX0_isLowEnough_37 : decode cX0_isLowEnough 37 = .ok (.aload_n 0, 1) := by decide +kernel
theorem dX0_isLowEnough_38 : decode cX0_isLowEnough 38 = .ok (.getfield 15, 3) := by decide +kernel
theorem dX0_isLowEnough_41 : decode cX0_isLowEnough 41 = .ok (.iload_n 3, 1) := by decide +kernel
theorem dX0_isLowEnough_42 : decode cX0_isLowEnough 42 = .ok (.laload, 1) := by decide +kernel
theorem dX0_isLowEnough_43 : decode cX0_isLowEnough 43 = .ok (.aload_n 0, 1) := by decide +kernel
theorem dX0_isLowEnough_44 : decode cX0_isLowEnough 44 = .ok (.getfield 18, 3) := by decide +kernel
theorem dX0_isLowEnough_47 : decode cX0_isLowEnough 47 = .ok (.iload_n 3, 1) := by decide +kernel
theorem dX0_isLowEnough_48 : decode cX0_isLowEnough 48 = .ok (.laload, 1) := by decide +kernel
theorem dX0_isLowEnough_49 : decode cX0_isLowEnough 49 = .ok (.aload_n 0, 1) := by decide +kernel
theorem dX0_isLowEnough_50 : decode cX0_isLowEnough 50 = .ok (.getfield 21, 3) := by decide +kernel
theorem dX0_isLowEnough_53 : decode cX0_isLowEnough 53 = .ok (.iload_n 3, 1) := by decide +kernel
theorem dX0_isLowEnough_54 : decode cX0_isLowEnough 54 = .ok (.laload, 1) := by decide +kernel
theorem dX0_isLowEnough_55 : decode cX0_isLowEnough 55 = .ok (.invokevirtual 53, 3) := by decide +kernel
theorem dX0_isLowEnough_58 : decode cX0_isLowEnough 58 = .ok (.ifCond .eq (5), 3) := by decide +kernel
theorem dX0_isLowEnough_61 : decode cX0_isLowEnough 61 = .ok (.iconst 0, 1) := by decide +kernel
theorem dX0_isLowEnough_62 : decode cX0_isLowEnough 62 = .ok (.ireturn, 1) := by decide +kernel
theorem dX0_isLowEnough_63 : decode cX0_isLowEnough 63 = .ok (.iinc 3 1, 3) := by decide +kernel
theorem dX0_isLowEnough_66 : decode cX0_isLowEnough 66 = .ok (.goto (-64), 3) := by decide +kernel
theorem dX0_isLowEnough_69 : decode cX0_isLowEnough 69 = .ok (.iconst 1, 1) := by decide +kernel
theorem dX0_isLowEnough_70 : decode cX0_isLowEnough 70 = .ok (.ireturn, 1) := by decide +kernel
abbrev cX0_isNearEnough : ByteArray := prog_2_method_6_code
def yX0_isNearEnough : MethodName := ⟨RX0, "isNearEnough", "(LBoardMoves$Placement;I)Z"⟩
def wsX0_isNearEnough : List Cond := .code yX0_isNearEnough cX0_isNearEnough 5 (some .boolean) :: bT
theorem dX0_isNearEnough_0 : decode cX0_isNearEnough 0 = .ok (.iconst 0, 1) := by decide +kernel
theorem dX0_isNearEnough_1 : decode cX0_isNearEnough 1 = .ok (.istore_n 3, 1) := by decide +kernel
theorem dX0_isNearEnough_2 : decode cX0_isNearEnough 2 = .ok (.iload_n 3, 1) := by decide +kernel
theorem dX0_isNearEnough_3 : decode cX0_isNearEnough 3 = .ok (.aload_n 0, 1) := by decide +kernel
theorem dX0_isNearEnough_4 : decode cX0_isNearEnough 4 = .ok (.getfield 41, 3) := by decide +kernel
theorem dX0_isNearEnough_7 : decode cX0_isNearEnough 7 = .ok (.if_icmp .ge (68), 3) := by decide +kernel
theorem dX0_isNearEnough_10 : decode cX0_isNearEnough 10 = .ok (.aload_n 0, 1) := by decide +kernel
theorem dX0_isNearEnough_11 : decode cX0_isNearEnough 11 = .ok (.getfield 27, 3) := by decide +kernel
theorem dX0_isNearEnough_14 : decode cX0_isNearEnough 14 = .ok (.iload_n 3, 1) := by decide +kernel
theorem dX0_isNearEnough_15 : decode cX0_isNearEnough 15 = .ok (.iaload, 1) := by decide +kernel
theorem dX0_isNearEnough_16 : decode cX0_isNearEnough 16 = .ok (.iload_n 2, 1) := by decide +kernel
theorem dX0_isNearEnough_17 : decode cX0_isNearEnough 17 = .ok (.if_icmp .eq (13), 3) := by decide +kernel
theorem dX0_isNearEnough_20 : decode cX0_isNearEnough 20 = .ok (.aload_n 0, 1) := by decide +kernel
theorem dX0_isNearEnough_21 : decode cX0_isNearEnough 21 = .ok (.getfield 31, 3) := by decide +kernel
theorem dX0_isNearEnough_24 : decode cX0_isNearEnough 24 = .ok (.iload_n 3, 1) := by decide +kernel
theorem dX0_isNearEnough_25 : decode cX0_isNearEnough 25 = .ok (.iaload, 1) := by decide +kernel
theorem dX0_isNearEnough_26 : decode cX0_isNearEnough 26 = .ok (.iload_n 2, 1) := by decide +kernel
theorem dX0_isNearEnough_27 : decode cX0_isNearEnough 27 = .ok (.if_icmp .ne (7), 3) := by decide +kernel
theorem dX0_isNearEnough_30 : decode cX0_isNearEnough 30 = .ok (.iconst 1, 1) := by decide +kernel
theorem dX0_isNearEnough_31 : decode cX0_isNearEnough 31 = .ok (.goto (4), 3) := by decide +kernel
theorem dX0_isNearEnough_34 : decode cX0_isNearEnough 34 = .ok (.iconst 0, 1) := by decide +kernel
theorem dX0_isNearEnough_35 : decode cX0_isNearEnough 35 = .ok (.istore 4, 2) := by decide +kernel
theorem dX0_isNearEnough_37 : decode cX0_isNearEnough 37 = .ok (.iload 4, 2) := by decide +kernel
theorem dX0_isNearEnough_39 : decode cX0_isNearEnough 39 = .ok (.ifCond .eq (30), 3) := by decide +kernel
theorem dX0_isNearEnough_42 : decode cX0_isNearEnough 42 = .ok (.aload_n 1, 1) := by decide +kernel
theorem dX0_isNearEnough_43 : decode cX0_isNearEnough 43 = .ok (.aload_n 0, 1) := by decide +kernel
theorem dX0_isNearEnough_44 : decode cX0_isNearEnough 44 = .ok (.getfield 27, 3) := by decide +kernel
theorem dX0_isNearEnough_47 : decode cX0_isNearEnough 47 = .ok (.iload_n 3, 1) := by decide +kernel
theorem dX0_isNearEnough_48 : decode cX0_isNearEnough 48 = .ok (.iaload, 1) := by decide +kernel
theorem dX0_isNearEnough_49 : decode cX0_isNearEnough 49 = .ok (.aload_n 0, 1) := by decide +kernel
theorem dX0_isNearEnough_50 : decode cX0_isNearEnough 50 = .ok (.getfield 31, 3) := by decide +kernel
theorem dX0_isNearEnough_53 : decode cX0_isNearEnough 53 = .ok (.iload_n 3, 1) := by decide +kernel
theorem dX0_isNearEnough_54 : decode cX0_isNearEnough 54 = .ok (.iaload, 1) := by decide +kernel
theorem dX0_isNearEnough_55 : decode cX0_isNearEnough 55 = .ok (.aload_n 0, 1) := by decide +kernel
theorem dX0_isNearEnough_56 : decode cX0_isNearEnough 56 = .ok (.getfield 34, 3) := by decide +kernel
theorem dX0_isNearEnough_59 : decode cX0_isNearEnough 59 = .ok (.iload_n 3, 1) := by decide +kernel
theorem dX0_isNearEnough_60 : decode cX0_isNearEnough 60 = .ok (.laload, 1) := by decide +kernel
theorem dX0_isNearEnough_61 : decode cX0_isNearEnough 61 = .ok (.invokevirtual 59, 3) := by decide +kernel
theorem dX0_isNearEnough_64 : decode cX0_isNearEnough 64 = .ok (.ifCond .ne (5), 3) := by decide +kernel
theorem dX0_isNearEnough_67 : decode cX0_isNearEnough 67 = .ok (.iconst 0, 1) := by decide +kernel
theorem dX0_isNearEnough_68 : decode cX0_isNearEnough 68 = .ok (.ireturn, 1) := by decide +kernel
theorem dX0_isNearEnough_69 : decode cX0_isNearEnough 69 = .ok (.iinc 3 1, 3) := by decide +kernel
theorem dX0_isNearEnough_72 : decode cX0_isNearEnough 72 = .ok (.goto (-70), 3) := by decide +kernel
theorem dX0_isNearEnough_75 : decode cX0_isNearEnough 75 = .ok (.iconst 1, 1) := by decide +kernel
theorem dX0_isNearEnough_76 : decode cX0_isNearEnough 76 = .ok (.ireturn, 1) := by decide +kernel
abbrev cX4_isLength : ByteArray := prog_1_method_18_code
def yX4_isLength : MethodName := ⟨RX4, "isLength", "(J)Z"⟩
def wsX4_isLength : List Cond := .code yX4_isLength cX4_isLength 2 (some .boolean) :: bT
theorem dX4_isLength_0 : decode cX4_isLength 0 = .ok (.lload_n 0, 1) := by decide +kernel
theorem dX4_isLength_1 : decode cX4_isLength 1 = .ok (.lconst 1, 1) := by decide +kernel
theorem dX4_isLength_2 : decode cX4_isLength 2 = .ok (.lcmp, 1) := by decide +kernel
theorem dX4_isLength_3 : decode cX4_isLength 3 = .ok (.ifCond .lt (15), 3) := by decide +kernel
theorem dX4_isLength_6 : decode cX4_isLength 6 = .ok (.lload_n 0, 1) := by decide +kernel
theorem dX4_isLength_7 : decode cX4_isLength 7 = .ok (.ldc2_w 51, 3) := by decide +kernel
theorem dX4_isLength_10 : decode cX4_isLength 10 = .ok (.lcmp, 1) := by decide +kernel
theorem dX4_isLength_11 : decode cX4_isLength 11 = .ok (.ifCond .gt (7), 3) := by decide +kernel
theorem dX4_isLength_14 : decode cX4_isLength 14 = .ok (.iconst 1, 1) := by decide +kernel
theorem dX4_isLength_15 : decode cX4_isLength 15 = .ok (.goto (4), 3) := by decide +kernel
theorem dX4_isLength_18 : decode cX4_isLength 18 = .ok (.iconst 0, 1) := by decide +kernel
theorem dX4_isLength_19 : decode cX4_isLength 19 = .ok (.ireturn, 1) := by decide +kernel
abbrev cX4_fitsBoard : ByteArray := prog_1_method_20_code
def yX4_fitsBoard : MethodName := ⟨RX4, "fitsBoard", "(IJJI)Z"⟩
def wsX4_fitsBoard : List Cond := .code yX4_fitsBoard cX4_fitsBoard 12 (some .boolean) :: bT
theorem dX4_fitsBoard_0 : decode cX4_fitsBoard 0 = .ok (.iload 6, 2) := by decide +kernel
theorem dX4_fitsBoard_2 : decode cX4_fitsBoard 2 = .ok (.iconst 2, 1) := by decide +kernel
theorem dX4_fitsBoard_3 : decode cX4_fitsBoard 3 = .ok (.irem, 1) := by decide +kernel
theorem dX4_fitsBoard_4 : decode cX4_fitsBoard 4 = .ok (.ifCond .ne (7), 3) := by decide +kernel
theorem dX4_fitsBoard_7 : decode cX4_fitsBoard 7 = .ok (.iconst 1, 1) := by decide +kernel
theorem dX4_fitsBoard_8 : decode cX4_fitsBoard 8 = .ok (.goto (4), 3) := by decide +kernel
theorem dX4_fitsBoard_11 : decode cX4_fitsBoard 11 = .ok (.iconst 0, 1) := by decide +kernel
theorem dX4_fitsBoard_12 : decode cX4_fitsBoard 12 = .ok (.istore 7, 2) := by decide +kernel
theorem dX4_fitsBoard_14 : decode cX4_fitsBoard 14 = .ok (.iload 7, 2) := by decide +kernel
theorem dX4_fitsBoard_16 : decode cX4_fitsBoard 16 = .ok (.ifCond .eq (15), 3) := by decide +kernel
theorem dX4_fitsBoard_19 : decode cX4_fitsBoard 19 = .ok (.aload_n 0, 1) := by decide +kernel
theorem dX4_fitsBoard_20 : decode cX4_fitsBoard 20 = .ok (.getfield 12, 3) := by decide +kernel
theorem dX4_fitsBoard_23 : decode cX4_fitsBoard 23 = .ok (.getfield 148, 3) := by decide +kernel
theorem dX4_fitsBoard_26 : decode cX4_fitsBoard 26 = .ok (.iload_n 1, 1) := by decide +kernel
theorem dX4_fitsBoard_27 : decode cX4_fitsBoard 27 = .ok (.laload, 1) := by decide +kernel
theorem dX4_fitsBoard_28 : decode cX4_fitsBoard 28 = .ok (.goto (12), 3) := by decide +kernel
theorem dX4_fitsBoard_31 : decode cX4_fitsBoard 31 = .ok (.aload_n 0, 1) := by decide +kernel
theorem dX4_fitsBoard_32 : decode cX4_fitsBoard 32 = .ok (.getfield 12, 3) := by decide +kernel
theorem dX4_fitsBoard_35 : decode cX4_fitsBoard 35 = .ok (.getfield 151, 3) := by decide +kernel
theorem dX4_fitsBoard_38 : decode cX4_fitsBoard 38 = .ok (.iload_n 1, 1) := by decide +kernel
theorem dX4_fitsBoard_39 : decode cX4_fitsBoard 39 = .ok (.laload, 1) := by decide +kernel
theorem dX4_fitsBoard_40 : decode cX4_fitsBoard 40 = .ok (.lstore 8, 2) := by decide +kernel
theorem dX4_fitsBoard_42 : decode cX4_fitsBoard 42 = .ok (.iload 7, 2) := by decide +kernel
theorem dX4_fitsBoard_44 : decode cX4_fitsBoard 44 = .ok (.ifCond .eq (15), 3) := by decide +kernel
theorem dX4_fitsBoard_47 : decode cX4_fitsBoard 47 = .ok (.aload_n 0, 1) := by decide +kernel
theorem dX4_fitsBoard_48 : decode cX4_fitsBoard 48 = .ok (.getfield 12, 3) := by decide +kernel
theorem dX4_fitsBoard_51 : decode cX4_fitsBoard 51 = .ok (.getfield 151, 3) := by decide +kernel
theorem dX4_fitsBoard_54 : decode cX4_fitsBoard 54 = .ok (.iload_n 1, 1) := by decide +kernel
theorem dX4_fitsBoard_55 : decode cX4_fitsBoard 55 = .ok (.laload, 1) := by decide +kernel
theorem dX4_fitsBoard_56 : decode cX4_fitsBoard 56 = .ok (.goto (12), 3) := by decide +kernel
theorem dX4_fitsBoard_59 : decode cX4_fitsBoard 59 = .ok (.aload_n 0, 1) := by decide +kernel
theorem dX4_fitsBoard_60 : decode cX4_fitsBoard 60 = .ok (.getfield 12, 3) := by decide +kernel
theorem dX4_fitsBoard_63 : decode cX4_fitsBoard 63 = .ok (.getfield 148, 3) := by decide +kernel
theorem dX4_fitsBoard_66 : decode cX4_fitsBoard 66 = .ok (.iload_n 1, 1) := by decide +kernel
theorem dX4_fitsBoard_67 : decode cX4_fitsBoard 67 = .ok (.laload, 1) := by decide +kernel
theorem dX4_fitsBoard_68 : decode cX4_fitsBoard 68 = .ok (.lstore 10, 2) := by decide +kernel
theorem dX4_fitsBoard_70 : decode cX4_fitsBoard 70 = .ok (.lload_n 2, 1) := by decide +kernel
theorem dX4_fitsBoard_71 : decode cX4_fitsBoard 71 = .ok (.lconst 0, 1) := by decide +kernel
theorem dX4_fitsBoard_72 : decode cX4_fitsBoard 72 = .ok (.lcmp, 1) := by decide +kernel
theorem dX4_fitsBoard_73 : decode cX4_fitsBoard 73 = .ok (.ifCond .lt (39), 3) := by decide +kernel
theorem dX4_fitsBoard_76 : decode cX4_fitsBoard 76 = .ok (.lload_n 2, 1) := by decide +kernel
theorem dX4_fitsBoard_77 : decode cX4_fitsBoard 77 = .ok (.aload_n 0, 1) := by decide +kernel
theorem dX4_fitsBoard_78 : decode cX4_fitsBoard 78 = .ok (.getfield 62, 3) := by decide +kernel
theorem dX4_fitsBoard_81 : decode cX4_fitsBoard 81 = .ok (.lload 8, 2) := by decide +kernel
theorem dX4_fitsBoard_83 : decode cX4_fitsBoard 83 = .ok (.lsub, 1) := by decide +kernel
theorem dX4_fitsBoard_84 : decode cX4_fitsBoard 84 = .ok (.lcmp, 1) := by decide +kernel
theorem dX4_fitsBoard_85 : decode cX4_fitsBoard 85 = .ok (.ifCond .gt (27), 3) := by decide +kernel
theorem dX4_fitsBoard_88 : decode cX4_fitsBoard 88 = .ok (.lload 4, 2) := by decide +kernel
theorem dX4_fitsBoard_90 : decode cX4_fitsBoard 90 = .ok (.lconst 0, 1) := by decide +kernel
theorem dX4_fitsBoard_91 : decode cX4_fitsBoard 91 = .ok (.lcmp, 1) := by decide +kernel
theorem dX4_fitsBoard_92 : decode cX4_fitsBoard 92 = .ok (.ifCond .lt (20), 3) := by decide +kernel
theorem dX4_fitsBoard_95 : decode cX4_fitsBoard 95 = .ok (.lload 4, 2) := by decide +kernel
theorem dX4_fitsBoard_97 : decode cX4_fitsBoard 97 = .ok (.aload_n 0, 1) := by decide +kernel
theorem dX4_fitsBoard_98 : decode cX4_fitsBoard 98 = .ok (.getfield 65, 3) := by decide +kernel
theorem dX4_fitsBoard_101 : decode cX4_fitsBoard 101 = .ok (.lload 10, 2) := by decide +kernel
theorem dX4_fitsBoard_103 : decode cX4_fitsBoard 103 = .ok (.lsub, 1) := by decide +kernel
theorem dX4_fitsBoard_104 : decode cX4_fitsBoard 104 = .ok (.lcmp, 1) := by decide +kernel
theorem dX4_fitsBoard_105 : decode cX4_fitsBoard 105 = .ok (.ifCond .gt (7), 3) := by decide +kernel
theorem dX4_fitsBoard_108 : decode cX4_fitsBoard 108 = .ok (.iconst 1, 1) := by decide +kernel
theorem dX4_fitsBoard_109 : decode cX4_fitsBoard 109 = .ok (.goto (4), 3) := by decide +kernel
theorem dX4_fitsBoard_112 : decode cX4_fitsBoard 112 = .ok (.iconst 0, 1) := by decide +kernel
theorem dX4_fitsBoard_113 : decode cX4_fitsBoard 113 = .ok (.ireturn, 1) := by decide +kernel
abbrev cX4_standsWell : ByteArray := prog_1_method_21_code
def yX4_standsWell : MethodName := ⟨RX4, "standsWell", "(I)Z"⟩
def wsX4_standsWell : List Cond := .code yX4_standsWell cX4_standsWell 2 (some .boolean) :: bT
theorem dX4_standsWell_0 : decode cX4_standsWell 0 = .ok (.aload_n 0, 1) := by decide +kernel
theorem dX4_standsWell_1 : decode cX4_standsWell 1 = .ok (.getfield 37, 3) := by decide +kernel
theorem dX4_standsWell_4 : decode cX4_standsWell 4 = .ok (.getfield 96, 3) := by decide +kernel
theorem dX4_standsWell_7 : decode cX4_standsWell 7 = .ok (.iload_n 1, 1) := by decide +kernel
theorem dX4_standsWell_8 : decode cX4_standsWell 8 = .ok (.baload, 1) := by decide +kernel
theorem dX4_standsWell_9 : decode cX4_standsWell 9 = .ok (.ifCond .ne (5), 3) := by decide +kernel
theorem dX4_standsWell_12 : decode cX4_standsWell 12 = .ok (.iconst 1, 1) := by decide +kernel
theorem dX4_standsWell_13 : decode cX4_standsWell 13 = .ok (.ireturn, 1) := by decide +kernel
theorem dX4_standsWell_14 : decode cX4_standsWell 14 = .ok (.aload_n 0, 1) := by decide +kernel
theorem dX4_standsWell_15 : decode cX4_standsWell 15 = .ok (.iload_n 1, 1) := by decide +kernel
theorem dX4_standsWell_16 : decode cX4_standsWell 16 = .ok (.aload_n 0, 1) := by decide +kernel
theorem dX4_standsWell_17 : decode cX4_standsWell 17 = .ok (.getfield 37, 3) := by decide +kernel
theorem dX4_standsWell_20 : decode cX4_standsWell 20 = .ok (.getfield 112, 3) := by decide +kernel
theorem dX4_standsWell_23 : decode cX4_standsWell 23 = .ok (.iload_n 1, 1) := by decide +kernel
theorem dX4_standsWell_24 : decode cX4_standsWell 24 = .ok (.laload, 1) := by decide +kernel
theorem dX4_standsWell_25 : decode cX4_standsWell 25 = .ok (.aload_n 0, 1) := by decide +kernel
theorem dX4_standsWell_26 : decode cX4_standsWell 26 = .ok (.getfield 37, 3) := by decide +kernel
theorem dX4_standsWell_29 : decode cX4_standsWell 29 = .ok (.getfield 116, 3) := by decide +kernel
theorem dX4_standsWell_32 : decode cX4_standsWell 32 = .ok (.iload_n 1, 1) := by decide +kernel
theorem dX4_standsWell_33 : decode cX4_standsWell 33 = .ok (.laload, 1) := by decide +kernel
theorem dX4_standsWell_34 : decode cX4_standsWell 34 = .ok (.aload_n 0, 1) := by decide +kernel
theorem dX4_standsWell_35 : decode cX4_standsWell 35 = .ok (.getfield 37, 3) := by decide +kernel
theorem dX4_standsWell_38 : decode cX4_standsWell 38 = .ok (.getfield 100, 3) := by decide +kernel
theorem dX4_standsWell_41 : decode cX4_standsWell 41 = .ok (.iload_n 1, 1) := by decide +kernel
theorem dX4_standsWell_42 : decode cX4_standsWell 42 = .ok (.iaload, 1) := by decide +kernel
theorem dX4_standsWell_43 : decode cX4_standsWell 43 = .ok (.invokevirtual 92, 3) := by decide +kernel
theorem dX4_standsWell_46 : decode cX4_standsWell 46 = .ok (.ifCond .eq (50), 3) := by decide +kernel
theorem dX4_standsWell_49 : decode cX4_standsWell 49 = .ok (.aload_n 0, 1) := by decide +kernel
theorem dX4_standsWell_50 : decode cX4_standsWell 50 = .ok (.getfield 37, 3) := by decide +kernel
theorem dX4_standsWell_53 : decode cX4_standsWell 53 = .ok (.iload_n 1, 1) := by decide +kernel
theorem dX4_standsWell_54 : decode cX4_standsWell 54 = .ok (.iconst 0, 1) := by decide +kernel
theorem dX4_standsWell_55 : decode cX4_standsWell 55 = .ok (.invokevirtual 240, 3) := by decide +kernel
theorem dX4_standsWell_58 : decode cX4_standsWell 58 = .ok (.iconst (-1), 1) := by decide +kernel
theorem dX4_standsWell_59 : decode cX4_standsWell 59 = .ok (.if_icmp .ne (37), 3) := by decide +kernel
theorem dX4_standsWell_62 : decode cX4_standsWell 62 = .ok (.aload_n 0, 1) := by decide +kernel
theorem dX4_standsWell_63 : decode cX4_standsWell 63 = .ok (.getfield 23, 3) := by decide +kernel
theorem dX4_standsWell_66 : decode cX4_standsWell 66 = .ok (.aload_n 0, 1) := by decide +kernel
theorem dX4_standsWell_67 : decode cX4_standsWell 67 = .ok (.getfield 37, 3) := by decide +kernel
theorem dX4_standsWell_70 : decode cX4_standsWell 70 = .ok (.iload_n 1, 1) := by decide +kernel
theorem dX4_standsWell_71 : decode cX4_standsWell 71 = .ok (.invokevirtual 243, 3) := by decide +kernel
theorem dX4_standsWell_74 : decode cX4_standsWell 74 = .ok (.ifCond .eq (22), 3) := by decide +kernel
theorem dX4_standsWell_77 : decode cX4_standsWell 77 = .ok (.aload_n 0, 1) := by decide +kernel
theorem dX4_standsWell_78 : decode cX4_standsWell 78 = .ok (.getfield 23, 3) := by decide +kernel
theorem dX4_standsWell_81 : decode cX4_standsWell 81 = .ok (.aload_n 0, 1) := by decide +kernel
theorem dX4_standsWell_82 : decode cX4_standsWell 82 = .ok (.getfield 37, 3) := by decide +kernel
theorem dX4_standsWell_85 : decode cX4_standsWell 85 = .ok (.iload_n 1, 1) := by decide +kernel
theorem dX4_standsWell_86 : decode cX4_standsWell 86 = .ok (.invokevirtual 247, 3) := by decide +kernel
theorem dX4_standsWell_89 : decode cX4_standsWell 89 = .ok (.ifCond .eq (7), 3) := by decide +kernel
theorem dX4_standsWell_92 : decode cX4_standsWell 92 = .ok (.iconst 1, 1) := by decide +kernel
theorem dX4_standsWell_93 : decode cX4_standsWell 93 = .ok (.goto (4), 3) := by decide +kernel
theorem dX4_standsWell_96 : decode cX4_standsWell 96 = .ok (.iconst 0, 1) := by decide +kernel
theorem dX4_standsWell_97 : decode cX4_standsWell 97 = .ok (.ireturn, 1) := by decide +kernel
abbrev cX4_allStandWell : ByteArray := prog_1_method_22_code
def yX4_allStandWell : MethodName := ⟨RX4, "allStandWell", "()Z"⟩
def wsX4_allStandWell : List Cond := .code yX4_allStandWell cX4_allStandWell 2 (some .boolean) :: bT
theorem dX4_allStandWell_0 : decode cX4_allStandWell 0 = .ok (.iconst 0, 1) := by decide +kernel
theorem dX4_allStandWell_1 : decode cX4_allStandWell 1 = .ok (.istore_n 1, 1) := by decide +kernel
theorem dX4_allStandWell_2 : decode cX4_allStandWell 2 = .ok (.iload_n 1, 1) := by decide +kernel
theorem dX4_allStandWell_3 : decode cX4_allStandWell 3 = .ok (.aload_n 0, 1) := by decide +kernel
theorem dX4_allStandWell_4 : decode cX4_allStandWell 4 = .ok (.getfield 12, 3) := by decide +kernel
theorem dX4_allStandWell_7 : decode cX4_allStandWell 7 = .ok (.getfield 197, 3) := by decide +kernel
theorem dX4_allStandWell_10 : decode cX4_allStandWell 10 = .ok (.if_icmp .ge (19), 3) := by decide +kernel
theorem dX4_allStandWell_13 : decode cX4_allStandWell 13 = .ok (.aload_n 0, 1) := by decide +kernel
theorem dX4_allStandWell_14 : decode cX4_allStandWell 14 = .ok (.iload_n 1, 1) := by decide +kernel
theorem dX4_allStandWell_15 : decode cX4_allStandWell 15 = .ok (.invokevirtual 220, 3) := by decide +kernel
theorem dX4_allStandWell_18 : decode cX4_allStandWell 18 = .ok (.ifCond .ne (5), 3) := by decide +kernel
theorem dX4_allStandWell_21 : decode cX4_allStandWell 21 = .ok (.iconst 0, 1) := by decide +kernel
theorem dX4_allStandWell_22 : decode cX4_allStandWell 22 = .ok (.ireturn, 1) := by decide +kernel
theorem dX4_allStandWell_23 : decode cX4_allStandWell 23 = .ok (.iinc 1 1, 3) := by decide +kernel
theorem dX4_allStandWell_26 : decode cX4_allStandWell 26 = .ok (.goto (-24), 3) := by decide +kernel
theorem dX4_allStandWell_29 : decode cX4_allStandWell 29 = .ok (.iconst 1, 1) := by decide +kernel
theorem dX4_allStandWell_30 : decode cX4_allStandWell 30 = .ok (.ireturn, 1) := by decide +kernel
abbrev cX4_goesOn : ByteArray := prog_1_method_27_code
def yX4_goesOn : MethodName := ⟨RX4, "goesOn", "(IIIZZ)Z"⟩
def wsX4_goesOn : List Cond := .code yX4_goesOn cX4_goesOn 10 (some .boolean) :: bT
theorem dX4_goesOn_0 : decode cX4_goesOn 0 = .ok (.aload_n 0, 1) := by decide +kernel
theorem dX4_goesOn_1 : decode cX4_goesOn 1 = .ok (.getfield 12, 3) := by decide +kernel
theorem dX4_goesOn_4 : decode cX4_goesOn 4 = .ok (.iload_n 1, 1) := by decide +kernel
theorem dX4_goesOn_5 : decode cX4_goesOn 5 = .ok (.iload_n 3, 1) := by decide +kernel
theorem dX4_goesOn_6 : decode cX4_goesOn 6 = .ok (.invokevirtual 256, 3) := by decide +kernel
theorem dX4_goesOn_9 : decode cX4_goesOn 9 = .ok (.ifCond .eq (5), 3) := by decide +kernel
theorem dX4_goesOn_12 : decode cX4_goesOn 12 = .ok (.iconst 0, 1) := by decide +kernel
theorem dX4_goesOn_13 : decode cX4_goesOn 13 = .ok (.ireturn, 1) := by decide +kernel
theorem dX4_goesOn_14 : decode cX4_goesOn 14 = .ok (.aload_n 0, 1) := by decide +kernel
theorem dX4_goesOn_15 : decode cX4_goesOn 15 = .ok (.getfield 12, 3) := by decide +kernel
theorem dX4_goesOn_18 : decode cX4_goesOn 18 = .ok (.iload_n 2, 1) := by decide +kernel
theorem dX4_goesOn_19 : decode cX4_goesOn 19 = .ok (.iload_n 3, 1) := by decide +kernel
theorem dX4_goesOn_20 : decode cX4_goesOn 20 = .ok (.invokevirtual 256, 3) := by decide +kernel
theorem dX4_goesOn_23 : decode cX4_goesOn 23 = .ok (.ifCond .eq (5), 3) := by decide +kernel
theorem dX4_goesOn_26 : decode cX4_goesOn 26 = .ok (.iconst 1, 1) := by decide +kernel
theorem dX4_goesOn_27 : decode cX4_goesOn 27 = .ok (.ireturn, 1) := by decide +kernel
theorem dX4_goesOn_28 : decode cX4_goesOn 28 = .ok (.iload 4, 2) := by decide +kernel
theorem dX4_goesOn_30 : decode cX4_goesOn 30 = .ok (.ifCond .eq (15), 3) := by decide +kernel
theorem dX4_goesOn_33 : decode cX4_goesOn 33 = .ok (.aload_n 0, 1) := by decide +kernel
theorem dX4_goesOn_34 : decode cX4_goesOn 34 = .ok (.getfield 37, 3) := by decide +kernel
theorem dX4_goesOn_37 : decode cX4_goesOn 37 = .ok (.getfield 112, 3) := by decide +kernel
theorem dX4_goesOn_40 : decode cX4_goesOn 40 = .ok (.iload_n 1, 1) := by decide +kernel
theorem dX4_goesOn_41 : decode cX4_goesOn 41 = .ok (.laload, 1) := by decide +kernel
theorem dX4_goesOn_42 : decode cX4_goesOn 42 = .ok (.goto (12), 3) := by decide +kernel
theorem dX4_goesOn_45 : decode cX4_goesOn 45 = .ok (.aload_n 0, 1) := by decide +kernel
theorem dX4_goesOn_46 : decode cX4_goesOn 46 = .ok (.getfield 37, 3) := by decide +kernel
theorem dX4_goesOn_49 : decode cX4_goesOn 49 = .ok (.getfield 116, 3) := by decide +kernel
theorem dX4_goesOn_52 : decode cX4_goesOn 52 = .ok (.iload_n 1, 1) := by decide +kernel
theorem dX4_goesOn_53 : decode cX4_goesOn 53 = .ok (.laload, 1) := by decide +kernel
theorem dX4_goesOn_54 : decode cX4_goesOn 54 = .ok (.lstore 6, 2) := by decide +kernel
theorem dX4_goesOn_56 : decode cX4_goesOn 56 = .ok (.iload 4, 2) := by decide +kernel
theorem dX4_goesOn_58 : decode cX4_goesOn 58 = .ok (.ifCond .eq (15), 3) := by decide +kernel
theorem dX4_goesOn_61 : decode cX4_goesOn 61 = .ok (.aload_n 0, 1) := by decide +kernel
theorem dX4_goesOn_62 : decode cX4_goesOn 62 = .ok (.getfield 37, 3) := by decide +kernel
theorem dX4_goesOn_65 : decode cX4_goesOn 65 = .ok (.getfield 112, 3) := by decide +kernel
theorem dX4_goesOn_68 : decode cX4_goesOn 68 = .ok (.iload_n 2, 1) := by decide +kernel
theorem dX4_goesOn_69 : decode cX4_goesOn 69 = .ok (.laload, 1) := by decide +kernel
theorem dX4_goesOn_70 : decode cX4_goesOn 70 = .ok (.goto (12), 3) := by decide +kernel
theorem dX4_goesOn_73 : decode cX4_goesOn 73 = .ok (.aload_n 0, 1) := by decide +kernel
theorem dX4_goesOn_74 : decode cX4_goesOn 74 = .ok (.getfield 37, 3) := by decide +kernel
theorem dX4_goesOn_77 : decode cX4_goesOn 77 = .ok (.getfield 116, 3) := by decide +kernel
theorem dX4_goesOn_80 : decode cX4_goesOn 80 = .ok (.iload_n 2, 1) := by decide +kernel
theorem dX4_goesOn_81 : decode cX4_goesOn 81 = .ok (.laload, 1) := by decide +kernel
theorem dX4_goesOn_82 : decode cX4_goesOn 82 = .ok (.lstore 8, 2) := by decide +kernel
theorem dX4_goesOn_84 : decode cX4_goesOn 84 = .ok (.iload 5, 2) := by decide +kernel
theorem dX4_goesOn_86 : decode cX4_goesOn 86 = .ok (.ifCond .eq (19), 3) := by decide +kernel
theorem dX4_goesOn_89 : decode cX4_goesOn 89 = .ok (.lload 6, 2) := by decide +kernel
theorem dX4_goesOn_91 : decode cX4_goesOn 91 = .ok (.lload 8, 2) := by decide +kernel
theorem dX4_goesOn_93 : decode cX4_goesOn 93 = .ok (.lcmp, 1) := by decide +kernel
theorem dX4_goesOn_94 : decode cX4_goesOn 94 = .ok (.ifCond .le (7), 3) := by decide +kernel
theorem dX4_goesOn_97 : decode cX4_goesOn 97 = .ok (.iconst 1, 1) := by decide +kernel
theorem dX4_goesOn_98 : decode cX4_goesOn 98 = .ok (.goto (20), 3) := by decide +kernel
theorem dX4_goesOn_101 : decode cX4_goesOn 101 = .ok (.iconst 0, 1) := by decide +kernel
theorem dX4_goesOn_102 : decode cX4_goesOn 102 = .ok (.goto (16), 3) := by decide +kernel
theorem dX4_goesOn_105 : decode cX4_goesOn 105 = .ok (.lload 6, 2) := by decide +kernel
theorem dX4_goesOn_107 : decode cX4_goesOn 107 = .ok (.lload 8, 2) := by decide +kernel
theorem dX4_goesOn_109 : decode cX4_goesOn 109 = .ok (.lcmp, 1) := by decide +kernel
theorem dX4_goesOn_110 : decode cX4_goesOn 110 = .ok (.ifCond .ge (7), 3) := by decide +kernel
theorem dX4_goesOn_113 : decode cX4_goesOn 113 = .ok (.iconst 1, 1) := by decide +kernel
theorem dX4_goesOn_114 : decode cX4_goesOn 114 = .ok (.goto (4), 3) := by decide +kernel
theorem dX4_goesOn_117 : decode cX4_goesOn 117 = .ok (.iconst 0, 1) := by decide +kernel
theorem dX4_goesOn_118 : decode cX4_goesOn 118 = .ok (.ireturn, 1) := by decide +kernel
abbrev cX4_countChanged : ByteArray := prog_1_method_25_code
def yX4_countChanged : MethodName := ⟨RX4, "countChanged", "(I)I"⟩
def wsX4_countChanged : List Cond := .code yX4_countChanged cX4_countChanged 4 (some .int) :: bT
theorem dX4_countChanged_0 : decode cX4_countChanged 0 = .ok (.iconst 0, 1) := by decide +kernel
theorem dX4_countChanged_1 : decode cX4_countChanged 1 = .ok (.istore_n 2, 1) := by decide +kernel
theorem dX4_countChanged_2 : decode cX4_countChanged 2 = .ok (.iconst 0, 1) := by decide +kernel
theorem dX4_countChanged_3 : decode cX4_countChanged 3 = .ok (.istore_n 3, 1) := by decide +kernel
theorem dX4_countChanged_4 : decode cX4_countChanged 4 = .ok (.iload_n 3, 1) := by decide +kernel
theorem dX4_countChanged_5 : decode cX4_countChanged 5 = .ok (.aload_n 0, 1) := by decide +kernel
theorem dX4_countChanged_6 : decode cX4_countChanged 6 = .ok (.getfield 12, 3) := by decide +kernel
theorem dX4_countChanged_9 : decode cX4_countChanged 9 = .ok (.getfield 197, 3) := by decide +kernel
theorem dX4_countChanged_12 : decode cX4_countChanged 12 = .ok (.if_icmp .ge (32), 3) := by decide +kernel
theorem dX4_countChanged_15 : decode cX4_countChanged 15 = .ok (.iload_n 3, 1) := by decide +kernel
theorem dX4_countChanged_16 : decode cX4_countChanged 16 = .ok (.iload_n 1, 1) := by decide +kernel
theorem dX4_countChanged_17 : decode cX4_countChanged 17 = .ok (.if_icmp .eq (21), 3) := by decide +kernel
theorem dX4_countChanged_20 : decode cX4_countChanged 20 = .ok (.aload_n 0, 1) := by decide +kernel
theorem dX4_countChanged_21 : decode cX4_countChanged 21 = .ok (.getfield 37, 3) := by decide +kernel
theorem dX4_countChanged_24 : decode cX4_countChanged 24 = .ok (.aload_n 0, 1) := by decide +kernel
theorem dX4_countChanged_25 : decode cX4_countChanged 25 = .ok (.getfield 41, 3) := by decide +kernel
theorem dX4_countChanged_28 : decode cX4_countChanged 28 = .ok (.iload_n 3, 1) := by decide +kernel
theorem dX4_countChanged_29 : decode cX4_countChanged 29 = .ok (.invokevirtual 250, 3) := by decide +kernel
theorem dX4_countChanged_32 : decode cX4_countChanged 32 = .ok (.ifCond .eq (6), 3) := by decide +kernel
theorem dX4_countChanged_35 : decode cX4_countChanged 35 = .ok (.iinc 2 1, 3) := by decide +kernel
theorem dX4_countChanged_38 : decode cX4_countChanged 38 = .ok (.iinc 3 1, 3) := by decide +kernel
theorem dX4_countChanged_41 : decode cX4_countChanged 41 = .ok (.goto (-37), 3) := by decide +kernel
theorem dX4_countChanged_44 : decode cX4_countChanged 44 = .ok (.iload_n 2, 1) := by decide +kernel
theorem dX4_countChanged_45 : decode cX4_countChanged 45 = .ok (.ireturn, 1) := by decide +kernel
end
section
def Wd (ad : Nat → Nat) (cJ cI cZ : ClassId) (bm : gBM) (pa : gPA) (p0 : gPL) (p1 : gPL) (p2 : gPL) (li : gLI) (wi : gWI) : va_W := [(ad 0, .inr (4, [.long bm.1, .long bm.2.1, .ref (ad 1), .ref (ad 23), .ref (ad 32), .ref (ad 8), .ref (ad 13), .ref (ad 18), .long bm.2.2.1, .long bm.2.2.2])),
  (ad 1, .inr (1, [.ref (ad 2), .ref (ad 3), .ref (ad 4), .ref (ad 5), .ref (ad 6), .ref (ad 7), .int (nI pa.2.2.2.2.2.2)])),
  (ad 2, .inl (cJ, 40, .inr (.inl pa.1))),
  (ad 3, .inl (cJ, 40, .inr (.inl pa.2.1))),
  (ad 4, .inl (cI, 40, .inl (fun j => nI (pa.2.2.1 j)))),
  (ad 5, .inl (cJ, 40, .inr (.inl pa.2.2.2.1))),
  (ad 6, .inl (cZ, 40, .inl (fun j => bm_b (pa.2.2.2.2.1 j)))),
  (ad 7, .inl (cI, 40, .inl (fun j => nI (pa.2.2.2.2.2.1 j)))),
  (ad 8, .inr (2, [.ref (ad 1), .ref (ad 9), .ref (ad 10), .ref (ad 11), .ref (ad 12)])),
  (ad 9, .inl (cJ, 40, .inr (.inl p0.1))),
  (ad 10, .inl (cJ, 40, .inr (.inl p0.2.1))),
  (ad 11, .inl (cI, 40, .inl (fun j => nI (p0.2.2.1 j)))),
  (ad 12, .inl (cZ, 40, .inl (fun j => bm_b (p0.2.2.2 j)))),
  (ad 13, .inr (2, [.ref (ad 1), .ref (ad 14), .ref (ad 15), .ref (ad 16), .ref (ad 17)])),
  (ad 14, .inl (cJ, 40, .inr (.inl p1.1))),
  (ad 15, .inl (cJ, 40, .inr (.inl p1.2.1))),
  (ad 16, .inl (cI, 40, .inl (fun j => nI (p1.2.2.1 j)))),
  (ad 17, .inl (cZ, 40, .inl (fun j => bm_b (p1.2.2.2 j)))),
  (ad 18, .inr (2, [.ref (ad 1), .ref (ad 19), .ref (ad 20), .ref (ad 21), .ref (ad 22)])),
  (ad 19, .inl (cJ, 40, .inr (.inl p2.1))),
  (ad 20, .inl (cJ, 40, .inr (.inl p2.2.1))),
  (ad 21, .inl (cI, 40, .inl (fun j => nI (p2.2.2.1 j)))),
  (ad 22, .inl (cZ, 40, .inl (fun j => bm_b (p2.2.2.2 j)))),
  (ad 23, .inr (0, [.ref (ad 1), .ref (ad 24), .ref (ad 25), .ref (ad 26), .ref (ad 27), .ref (ad 28), .ref (ad 29), .ref (ad 30), .ref (ad 31), .int (nI li.2.2.2.2.2.2.2.2.1), .int (nI li.2.2.2.2.2.2.2.2.2)])),
  (ad 24, .inl (cJ, 10, .inr (.inl li.1))),
  (ad 25, .inl (cJ, 10, .inr (.inl li.2.1))),
  (ad 26, .inl (cJ, 10, .inr (.inl li.2.2.1))),
  (ad 27, .inl (cJ, 10, .inr (.inl li.2.2.2.1))),
  (ad 28, .inl (cJ, 10, .inr (.inl li.2.2.2.2.1))),
  (ad 29, .inl (cI, 20, .inl (fun j => nI (li.2.2.2.2.2.1 j)))),
  (ad 30, .inl (cI, 20, .inl (fun j => nI (li.2.2.2.2.2.2.1 j)))),
  (ad 31, .inl (cJ, 20, .inr (.inl li.2.2.2.2.2.2.2.1))),
  (ad 32, .inr (3, [.ref (ad 1), .ref (ad 33), .ref (ad 34), .ref (ad 35), .ref (ad 36), .ref (ad 37), .ref (ad 38), .ref (ad 39), .ref (ad 40), .ref (ad 41), .int (nI wi.2.2.2.2.2.2.2.2.2.1), .int (nI wi.2.2.2.2.2.2.2.2.2.2)])),
  (ad 33, .inl (cI, 120, .inl (fun j => nI (wi.1 j)))),
  (ad 34, .inl (cI, 120, .inl (fun j => nI (wi.2.1 j)))),
  (ad 35, .inl (cJ, 120, .inr (.inl wi.2.2.1))),
  (ad 36, .inl (cJ, 120, .inr (.inl wi.2.2.2.1))),
  (ad 37, .inl (cZ, 40, .inl (fun j => bm_b (wi.2.2.2.2.1 j)))),
  (ad 38, .inl (cJ, 40, .inr (.inl wi.2.2.2.2.2.1))),
  (ad 39, .inl (cJ, 40, .inr (.inl wi.2.2.2.2.2.2.1))),
  (ad 40, .inl (cJ, 40, .inr (.inl wi.2.2.2.2.2.2.2.1))),
  (ad 41, .inl (cJ, 40, .inr (.inl wi.2.2.2.2.2.2.2.2.1)))]
end
section
set_option maxHeartbeats 4000000 in
set_option maxRecDepth 100000 in
theorem r_mates {l : Launch} {D : va_G} {ad : Nat → Nat} {cJ cI cZ : ClassId} {bm : gBM} {pa : gPA} {p0 p1 p2 : gPL} {li : gLI} {wi : gWI} (hoA : q_okA pa) {a b : Nat} (h1 : a < 40) (h2 : b < 40) : bm_Rd l yX1_areMates wsX1_areMates ({ frames := 0, cells := 0, slots := 0, locals := 0 }) D vwCl [(cJ, .long), (cI, .int), (cZ, .boolean)] (Wd ad cJ cI cZ bm pa p0 p1 p2 li wi) [.ref (ad 1), .int (nI a), .int (nI b)] (.int (bm_b (q_mates pa a b))) := by
  obtain ⟨hn, hsd, hlw⟩ := hoA
  refine Met.ofW (cc := cX1_areMates) (maxL := 3) (ret := (some .boolean)) (by decide) rfl ?_
  intro p e s m args below meth c s₁ B hml hv
  obtain ⟨ha, hP, hK⟩ := hv
  have hx := B.exec
  have hb := B.bytes
  have hr := B.returns
  have hts := atoms_spec (ws := wsX1_areMates) B.pre
  have hown : s.vm.findClass RX1 = some m.cls := findClass_of_methodNamed B.named
  have hlocks := B.notSynchronized
  have hl := lv_entry ([.ref (ad 1), .int (nI a), .int (nI b)]) (n := 3) (Nat.le_of_ble_eq_true rfl)
  refine W.eq (g2 := entryFrame m ([.ref (ad 1), .int (nI a), .int (nI b)] : List Value).toArray 3) (by rw [ha]) ?_
  rw [lg_entry_eq]
  generalize (lg_sl ([.ref (ad 1), .int (nI a), .int (nI b)]) ++ List.replicate (3 - (lg_sl ([.ref (ad 1), .int (nI a), .int (nI b)])).length) Slot.unset).toArray = ls at hl ⊢
  have hl : lv_has ls 3 [(0, .ref (ad 1)), (1, .int (nI a)), (2, .int (nI b))] := hl
  refine lv_aload_n hx hb dX1_areMates_0 rfl (lv_at hl 0 rfl) ?_
  refine va_get (D := D) (ci := 1) (v := .ref (ad 7)) (C := RX1) (T := TX1) (N := 7) hx hb hts (inT inX1) hown hK hP 1 rfl rfl 5 (by decide) (hts (.fieldLink RX1 29 "BoardMoves$Parts" "lowest" "[I") (by decide +kernel)) (fun _ h9 => h9) rfl dX1_areMates_1 ?_
  refine lv_iload_n hx hb dX1_areMates_4 rfl (lv_at hl 1 rfl) ?_
  refine bm_nald (f := pa.2.2.2.2.2.1) hx hb hK hP 7 1 rfl rfl (j := a) (by omega) (by decide) dX1_areMates_5 ?_
  refine lv_aload_n hx hb dX1_areMates_6 rfl (lv_at hl 0 rfl) ?_
  refine va_get (D := D) (ci := 1) (v := .ref (ad 7)) (C := RX1) (T := TX1) (N := 7) hx hb hts (inT inX1) hown hK hP 1 rfl rfl 5 (by decide) (hts (.fieldLink RX1 29 "BoardMoves$Parts" "lowest" "[I") (by decide +kernel)) (fun _ h9 => h9) rfl dX1_areMates_7 ?_
  refine lv_iload_n hx hb dX1_areMates_10 rfl (lv_at hl 2 rfl) ?_
  refine bm_nald (f := pa.2.2.2.2.2.1) hx hb hK hP 7 1 rfl rfl (j := b) (by omega) (by decide) dX1_areMates_11 ?_
  refine bm_ni_ne (x := (pa.2.2.2.2.2.1 a)) (y := (pa.2.2.2.2.2.1 b)) (tgt := 19) hx hb (bm40 (hlw _)) (bm40 (hlw _)) dX1_areMates_12 (by decide) (fun c_1 => ?_) (fun c_1 => ?_)
  · refine lv_iconst (v := bm_b false) hx hb dX1_areMates_19 (by decide) ?_
    exact bm_zretR (v := false) hx hb hr (by simp [q_mates, c_1]) dX1_areMates_20 hlocks
  · refine lv_iconst (v := bm_b true) hx hb dX1_areMates_15 (by decide) ?_
    refine lv_goto (tgt := 20) hx hb dX1_areMates_16 (by decide) ?_
    exact bm_zretR (v := true) hx hb hr (by simp [q_mates, c_1]) dX1_areMates_20 hlocks
end
section
set_option maxHeartbeats 4000000 in
set_option maxRecDepth 100000 in
theorem r_endX {l : Launch} {D : va_G} {ad : Nat → Nat} {cJ cI cZ : ClassId} {bm : gBM} {pa : gPA} {p0 p1 p2 : gPL} {li : gLI} {wi : gWI} (hoL : q_okL p0) {j : Nat} (h1 : j < 40) : bm_Rd l yX2_endX wsX2_endX ({ frames := 0, cells := 0, slots := 0, locals := 0 }) D vwCl [(cJ, .long), (cI, .int), (cZ, .boolean)] (Wd ad cJ cI cZ bm pa p0 p1 p2 li wi) [.ref (ad 8), .int (nI j)] (.long (q_endX pa p0 j)) := by
  refine Met.ofW (cc := cX2_endX) (maxL := 2) (ret := (some .long)) (by decide) rfl ?_
  intro p e s m args below meth c s₁ B hml hv
  obtain ⟨ha, hP, hK⟩ := hv
  have hx := B.exec
  have hb := B.bytes
  have hr := B.returns
  have hts := atoms_spec (ws := wsX2_endX) B.pre
  have hown : s.vm.findClass RX2 = some m.cls := findClass_of_methodNamed B.named
  have hlocks := B.notSynchronized
  have hl := lv_entry ([.ref (ad 8), .int (nI j)]) (n := 2) (Nat.le_of_ble_eq_true rfl)
  refine W.eq (g2 := entryFrame m ([.ref (ad 8), .int (nI j)] : List Value).toArray 2) (by rw [ha]) ?_
  rw [lg_entry_eq]
  generalize (lg_sl ([.ref (ad 8), .int (nI j)]) ++ List.replicate (2 - (lg_sl ([.ref (ad 8), .int (nI j)])).length) Slot.unset).toArray = ls at hl ⊢
  have hl : lv_has ls 2 [(0, .ref (ad 8)), (1, .int (nI j))] := hl
  refine lv_aload_n hx hb dX2_endX_0 rfl (lv_at hl 0 rfl) ?_
  refine va_get (D := D) (ci := 2) (v := .ref (ad 9)) (C := RX2) (T := TX2) (N := 5) hx hb hts (inT inX2) hown hK hP 8 rfl rfl 1 (by decide) (hts (.fieldLink RX2 9 "BoardMoves$Placement" "x" "[J") (by decide +kernel)) (fun _ h9 => h9) rfl dX2_endX_1 ?_
  refine lv_iload_n hx hb dX2_endX_4 rfl (lv_at hl 1 rfl) ?_
  refine bm_lald (f := p0.1) hx hb hK hP 9 0 rfl rfl (j := j) (by omega) (by decide) dX2_endX_5 ?_
  refine lv_aload_n hx hb dX2_endX_6 rfl (lv_at hl 0 rfl) ?_
  refine va_get (D := D) (ci := 2) (v := .ref (ad 11)) (C := RX2) (T := TX2) (N := 5) hx hb hts (inT inX2) hown hK hP 8 rfl rfl 3 (by decide) (hts (.fieldLink RX2 18 "BoardMoves$Placement" "turn" "[I") (by decide +kernel)) (fun _ h9 => h9) rfl dX2_endX_7 ?_
  refine lv_iload_n hx hb dX2_endX_10 rfl (lv_at hl 1 rfl) ?_
  refine bm_nald (f := p0.2.2.1) hx hb hK hP 11 1 rfl rfl (j := j) (by omega) (by decide) dX2_endX_11 ?_
  refine lv_iconst (v := nI 2) hx hb dX2_endX_12 (by decide) ?_
  refine bm_nrem hx hb (bm40 (hoL _)) (by decide) (by decide) dX2_endX_13 ?_
  refine bm_nz_ne (x := ((p0.2.2.1 j) % 2)) (tgt := 29) hx hb (by have := hoL j; omega) dX2_endX_14 (by decide) (fun c_1 => ?_) (fun c_1 => ?_)
  · refine lv_aload_n hx hb dX2_endX_29 rfl (lv_at hl 0 rfl) ?_
    refine va_get (D := D) (ci := 2) (v := .ref (ad 1)) (C := RX2) (T := TX2) (N := 5) hx hb hts (inT inX2) hown hK hP 8 rfl rfl 0 (by decide) (hts (.fieldLink RX2 26 "BoardMoves$Placement" "parts" "LBoardMoves$Parts;") (by decide +kernel)) (fun _ h9 => h9) rfl dX2_endX_30 ?_
    refine va_get (D := D) (ci := 1) (v := .ref (ad 3)) (C := RX1) (T := TX1) (N := 7) hx hb hts (inT inX1) hown hK hP 1 rfl rfl 1 (by decide) (hts (.fieldLink RX2 43 "BoardMoves$Parts" "h" "[J") (by decide +kernel)) (fun _ h9 => h9) rfl dX2_endX_33 ?_
    refine lv_iload_n hx hb dX2_endX_36 rfl (lv_at hl 1 rfl) ?_
    refine bm_lald (f := pa.2.1) hx hb hK hP 3 0 rfl rfl (j := j) (by omega) (by decide) dX2_endX_37 ?_
    refine lv_ladd hx hb dX2_endX_38 ?_
    exact bm_lretR (v := ((p0.1 j) + (pa.2.1 j))) hx hb hr (by simp [q_endX, c_1]) dX2_endX_39 hlocks
  · refine lv_aload_n hx hb dX2_endX_17 rfl (lv_at hl 0 rfl) ?_
    refine va_get (D := D) (ci := 2) (v := .ref (ad 1)) (C := RX2) (T := TX2) (N := 5) hx hb hts (inT inX2) hown hK hP 8 rfl rfl 0 (by decide) (hts (.fieldLink RX2 26 "BoardMoves$Placement" "parts" "LBoardMoves$Parts;") (by decide +kernel)) (fun _ h9 => h9) rfl dX2_endX_18 ?_
    refine va_get (D := D) (ci := 1) (v := .ref (ad 2)) (C := RX1) (T := TX1) (N := 7) hx hb hts (inT inX1) hown hK hP 1 rfl rfl 0 (by decide) (hts (.fieldLink RX2 40 "BoardMoves$Parts" "w" "[J") (by decide +kernel)) (fun _ h9 => h9) rfl dX2_endX_21 ?_
    refine lv_iload_n hx hb dX2_endX_24 rfl (lv_at hl 1 rfl) ?_
    refine bm_lald (f := pa.1) hx hb hK hP 2 0 rfl rfl (j := j) (by omega) (by decide) dX2_endX_25 ?_
    refine lv_goto (tgt := 38) hx hb dX2_endX_26 (by decide) ?_
    refine lv_ladd hx hb dX2_endX_38 ?_
    exact bm_lretR (v := ((p0.1 j) + (pa.1 j))) hx hb hr (by simp [q_endX, c_1]) dX2_endX_39 hlocks
end
section
set_option maxHeartbeats 4000000 in
set_option maxRecDepth 100000 in
theorem r_endY {l : Launch} {D : va_G} {ad : Nat → Nat} {cJ cI cZ : ClassId} {bm : gBM} {pa : gPA} {p0 p1 p2 : gPL} {li : gLI} {wi : gWI} (hoL : q_okL p0) {j : Nat} (h1 : j < 40) : bm_Rd l yX2_endY wsX2_endY ({ frames := 0, cells := 0, slots := 0, locals := 0 }) D vwCl [(cJ, .long), (cI, .int), (cZ, .boolean)] (Wd ad cJ cI cZ bm pa p0 p1 p2 li wi) [.ref (ad 8), .int (nI j)] (.long (q_endY pa p0 j)) := by
  refine Met.ofW (cc := cX2_endY) (maxL := 2) (ret := (some .long)) (by decide) rfl ?_
  intro p e s m args below meth c s₁ B hml hv
  obtain ⟨ha, hP, hK⟩ := hv
  have hx := B.exec
  have hb := B.bytes
  have hr := B.returns
  have hts := atoms_spec (ws := wsX2_endY) B.pre
  have hown : s.vm.findClass RX2 = some m.cls := findClass_of_methodNamed B.named
  have hlocks := B.notSynchronized
  have hl := lv_entry ([.ref (ad 8), .int (nI j)]) (n := 2) (Nat.le_of_ble_eq_true rfl)
  refine W.eq (g2 := entryFrame m ([.ref (ad 8), .int (nI j)] : List Value).toArray 2) (by rw [ha]) ?_
  rw [lg_entry_eq]
  generalize (lg_sl ([.ref (ad 8), .int (nI j)]) ++ List.replicate (2 - (lg_sl ([.ref (ad 8), .int (nI j)])).length) Slot.unset).toArray = ls at hl ⊢
  have hl : lv_has ls 2 [(0, .ref (ad 8)), (1, .int (nI j))] := hl
  refine lv_aload_n hx hb dX2_endY_0 rfl (lv_at hl 0 rfl) ?_
  refine va_get (D := D) (ci := 2) (v := .ref (ad 10)) (C := RX2) (T := TX2) (N := 5) hx hb hts (inT inX2) hown hK hP 8 rfl rfl 2 (by decide) (hts (.fieldLink RX2 15 "BoardMoves$Placement" "y" "[J") (by decide +kernel)) (fun _ h9 => h9) rfl dX2_endY_1 ?_
  refine lv_iload_n hx hb dX2_endY_4 rfl (lv_at hl 1 rfl) ?_
  refine bm_lald (f := p0.2.1) hx hb hK hP 10 0 rfl rfl (j := j) (by omega) (by decide) dX2_endY_5 ?_
  refine lv_aload_n hx hb dX2_endY_6 rfl (lv_at hl 0 rfl) ?_
  refine va_get (D := D) (ci := 2) (v := .ref (ad 11)) (C := RX2) (T := TX2) (N := 5) hx hb hts (inT inX2) hown hK hP 8 rfl rfl 3 (by decide) (hts (.fieldLink RX2 18 "BoardMoves$Placement" "turn" "[I") (by decide +kernel)) (fun _ h9 => h9) rfl dX2_endY_7 ?_
  refine lv_iload_n hx hb dX2_endY_10 rfl (lv_at hl 1 rfl) ?_
  refine bm_nald (f := p0.2.2.1) hx hb hK hP 11 1 rfl rfl (j := j) (by omega) (by decide) dX2_endY_11 ?_
  refine lv_iconst (v := nI 2) hx hb dX2_endY_12 (by decide) ?_
  refine bm_nrem hx hb (bm40 (hoL _)) (by decide) (by decide) dX2_endY_13 ?_
  refine bm_nz_ne (x := ((p0.2.2.1 j) % 2)) (tgt := 29) hx hb (by have := hoL j; omega) dX2_endY_14 (by decide) (fun c_1 => ?_) (fun c_1 => ?_)
  · refine lv_aload_n hx hb dX2_endY_29 rfl (lv_at hl 0 rfl) ?_
    refine va_get (D := D) (ci := 2) (v := .ref (ad 1)) (C := RX2) (T := TX2) (N := 5) hx hb hts (inT inX2) hown hK hP 8 rfl rfl 0 (by decide) (hts (.fieldLink RX2 26 "BoardMoves$Placement" "parts" "LBoardMoves$Parts;") (by decide +kernel)) (fun _ h9 => h9) rfl dX2_endY_30 ?_
    refine va_get (D := D) (ci := 1) (v := .ref (ad 2)) (C := RX1) (T := TX1) (N := 7) hx hb hts (inT inX1) hown hK hP 1 rfl rfl 0 (by decide) (hts (.fieldLink RX2 40 "BoardMoves$Parts" "w" "[J") (by decide +kernel)) (fun _ h9 => h9) rfl dX2_endY_33 ?_
    refine lv_iload_n hx hb dX2_endY_36 rfl (lv_at hl 1 rfl) ?_
    refine bm_lald (f := pa.1) hx hb hK hP 2 0 rfl rfl (j := j) (by omega) (by decide) dX2_endY_37 ?_
    refine lv_ladd hx hb dX2_endY_38 ?_
    exact bm_lretR (v := ((p0.2.1 j) + (pa.1 j))) hx hb hr (by simp [q_endY, c_1]) dX2_endY_39 hlocks
  · refine lv_aload_n hx hb dX2_endY_17 rfl (lv_at hl 0 rfl) ?_
    refine va_get (D := D) (ci := 2) (v := .ref (ad 1)) (C := RX2) (T := TX2) (N := 5) hx hb hts (inT inX2) hown hK hP 8 rfl rfl 0 (by decide) (hts (.fieldLink RX2 26 "BoardMoves$Placement" "parts" "LBoardMoves$Parts;") (by decide +kernel)) (fun _ h9 => h9) rfl dX2_endY_18 ?_
    refine va_get (D := D) (ci := 1) (v := .ref (ad 3)) (C := RX1) (T := TX1) (N := 7) hx hb hts (inT inX1) hown hK hP 1 rfl rfl 1 (by decide) (hts (.fieldLink RX2 43 "BoardMoves$Parts" "h" "[J") (by decide +kernel)) (fun _ h9 => h9) rfl dX2_endY_21 ?_
    refine lv_iload_n hx hb dX2_endY_24 rfl (lv_at hl 1 rfl) ?_
    refine bm_lald (f := pa.2.1) hx hb hK hP 3 0 rfl rfl (j := j) (by omega) (by decide) dX2_endY_25 ?_
    refine lv_goto (tgt := 38) hx hb dX2_endY_26 (by decide) ?_
    refine lv_ladd hx hb dX2_endY_38 ?_
    exact bm_lretR (v := ((p0.2.1 j) + (pa.2.1 j))) hx hb hr (by simp [q_endY, c_1]) dX2_endY_39 hlocks
end
section
set_option maxHeartbeats 4000000 in
set_option maxRecDepth 100000 in
theorem r_meets {l : Launch} {D : va_G} {ad : Nat → Nat} {cJ cI cZ : ClassId} {bm : gBM} {pa : gPA} {p0 p1 p2 : gPL} {li : gLI} {wi : gWI} (hoL : q_okL p0) {j : Nat} (h1 : j < 40) {x0 y0 x1 y1 : Int64} : bm_Rd l yX2_meetsArea wsX2_meetsArea ({ frames := 1, cells := 0, slots := 0, locals := 21 }) D vwCl [(cJ, .long), (cI, .int), (cZ, .boolean)] (Wd ad cJ cI cZ bm pa p0 p1 p2 li wi) [.ref (ad 8), .int (nI j), .long x0, .long y0, .long x1, .long y1] (.int (bm_b (q_meets pa p0 j x0 y0 x1 y1))) := by
  refine Met.ofW (cc := cX2_meetsArea) (maxL := 10) (ret := (some .boolean)) (by decide) rfl ?_
  intro p e s m args below meth c s₁ B hml hv
  obtain ⟨ha, hP, hK⟩ := hv
  have hx := B.exec
  have hb := B.bytes
  have hr := B.returns
  have hts := atoms_spec (ws := wsX2_meetsArea) B.pre
  have hown : s.vm.findClass RX2 = some m.cls := findClass_of_methodNamed B.named
  have hlocks := B.notSynchronized
  have hl := lv_entry ([.ref (ad 8), .int (nI j), .long x0, .long y0, .long x1, .long y1]) (n := 10) (Nat.le_of_ble_eq_true rfl)
  refine W.eq (g2 := entryFrame m ([.ref (ad 8), .int (nI j), .long x0, .long y0, .long x1, .long y1] : List Value).toArray 10) (by rw [ha]) ?_
  rw [lg_entry_eq]
  generalize (lg_sl ([.ref (ad 8), .int (nI j), .long x0, .long y0, .long x1, .long y1]) ++ List.replicate (10 - (lg_sl ([.ref (ad 8), .int (nI j), .long x0, .long y0, .long x1, .long y1])).length) Slot.unset).toArray = ls at hl ⊢
  have hl : lv_has ls 10 [(0, .ref (ad 8)), (1, .int (nI j)), (2, .long x0), (4, .long y0), (6, .long x1), (8, .long y1)] := hl
  refine lv_aload_n hx hb dX2_meetsArea_0 rfl (lv_at hl 0 rfl) ?_
  refine va_get (D := D) (ci := 2) (v := .ref (ad 12)) (C := RX2) (T := TX2) (N := 5) hx hb hts (inT inX2) hown hK hP 8 rfl rfl 4 (by decide) (hts (.fieldLink RX2 22 "BoardMoves$Placement" "placed" "[Z") (by decide +kernel)) (fun _ h9 => h9) rfl dX2_meetsArea_1 ?_
  refine lv_iload_n hx hb dX2_meetsArea_4 rfl (lv_at hl 1 rfl) ?_
  refine bm_zald (f := p0.2.2.2) hx hb hK hP 12 2 rfl rfl (j := j) (by omega) (by decide) dX2_meetsArea_5 ?_
  refine bm_zb_eq (x := (p0.2.2.2 j)) (tgt := 58) hx hb dX2_meetsArea_6 (by decide) (fun c_1 => ?_) (fun c_1 => ?_)
  · refine lv_iconst (v := bm_b false) hx hb dX2_meetsArea_58 (by decide) ?_
    exact bm_zretR (v := false) hx hb hr (by simp [q_meets, c_1]) dX2_meetsArea_59 hlocks
  · refine lv_aload_n hx hb dX2_meetsArea_9 rfl (lv_at hl 0 rfl) ?_
    refine va_get (D := D) (ci := 2) (v := .ref (ad 9)) (C := RX2) (T := TX2) (N := 5) hx hb hts (inT inX2) hown hK hP 8 rfl rfl 1 (by decide) (hts (.fieldLink RX2 9 "BoardMoves$Placement" "x" "[J") (by decide +kernel)) (fun _ h9 => h9) rfl dX2_meetsArea_10 ?_
    refine lv_iload_n hx hb dX2_meetsArea_13 rfl (lv_at hl 1 rfl) ?_
    refine bm_lald (f := p0.1) hx hb hK hP 9 0 rfl rfl (j := j) (by omega) (by decide) dX2_meetsArea_14 ?_
    refine lv_lload hx hb dX2_meetsArea_15 (lv_at hl 4 rfl) ?_
    refine bm_lc_ge (x := (p0.1 j)) (y := x1) (tgt := 58) hx hb dX2_meetsArea_17 dX2_meetsArea_18 (by decide) (fun c_2 => ?_) (fun c_2 => ?_)
    · refine lv_iconst (v := bm_b false) hx hb dX2_meetsArea_58 (by decide) ?_
      exact bm_zretR (v := false) hx hb hr (by simp [q_meets, c_1, c_2]) dX2_meetsArea_59 hlocks
    · refine lv_lload_n hx hb dX2_meetsArea_21 rfl (lv_at hl 2 rfl) ?_
      refine lv_aload_n hx hb dX2_meetsArea_22 rfl (lv_at hl 0 rfl) ?_
      refine lv_iload_n hx hb dX2_meetsArea_23 rfl (lv_at hl 1 rfl) ?_
      refine bm_rcallV (As := [.int (nI j)]) (rest := [.long x0]) ⟨hx, hb, hml, hown, hts⟩ (r_endX (j := j) hoL (by omega)) (cwV 1 hts (gdV (by decide +kernel) (by decide +kernel) (by decide +kernel) (by decide +kernel) (by decide +kernel)) rfl rfl rfl (by decide +kernel) ⟨Nat.le_of_ble_eq_true rfl, Nat.le_of_ble_eq_true rfl⟩) hK hP 8 2 rfl rfl rfl hl.1 rfl (Nat.le_of_ble_eq_true rfl) dX2_meetsArea_24 ⟨Nat.le_of_ble_eq_true rfl, Nat.le_of_ble_eq_true rfl⟩ ?_
      refine bm_lc_ge (x := x0) (y := (q_endX pa p0 j)) (tgt := 58) hx hb dX2_meetsArea_27 dX2_meetsArea_28 (by decide) (fun c_3 => ?_) (fun c_3 => ?_)
      · refine lv_iconst (v := bm_b false) hx hb dX2_meetsArea_58 (by decide) ?_
        exact bm_zretR (v := false) hx hb hr (by simp [q_meets, c_1, c_2, c_3]) dX2_meetsArea_59 hlocks
      · refine lv_aload_n hx hb dX2_meetsArea_31 rfl (lv_at hl 0 rfl) ?_
        refine va_get (D := D) (ci := 2) (v := .ref (ad 10)) (C := RX2) (T := TX2) (N := 5) hx hb hts (inT inX2) hown hK hP 8 rfl rfl 2 (by decide) (hts (.fieldLink RX2 15 "BoardMoves$Placement" "y" "[J") (by decide +kernel)) (fun _ h9 => h9) rfl dX2_meetsArea_32 ?_
        refine lv_iload_n hx hb dX2_meetsArea_35 rfl (lv_at hl 1 rfl) ?_
        refine bm_lald (f := p0.2.1) hx hb hK hP 10 0 rfl rfl (j := j) (by omega) (by decide) dX2_meetsArea_36 ?_
        refine lv_lload hx hb dX2_meetsArea_37 (lv_at hl 5 rfl) ?_
        refine bm_lc_ge (x := (p0.2.1 j)) (y := y1) (tgt := 58) hx hb dX2_meetsArea_39 dX2_meetsArea_40 (by decide) (fun c_4 => ?_) (fun c_4 => ?_)
        · refine lv_iconst (v := bm_b false) hx hb dX2_meetsArea_58 (by decide) ?_
          exact bm_zretR (v := false) hx hb hr (by simp [q_meets, c_1, c_2, c_3, c_4]) dX2_meetsArea_59 hlocks
        · refine lv_lload hx hb dX2_meetsArea_43 (lv_at hl 3 rfl) ?_
          refine lv_aload_n hx hb dX2_meetsArea_45 rfl (lv_at hl 0 rfl) ?_
          refine lv_iload_n hx hb dX2_meetsArea_46 rfl (lv_at hl 1 rfl) ?_
          refine bm_rcallV (As := [.int (nI j)]) (rest := [.long y0]) ⟨hx, hb, hml, hown, hts⟩ (r_endY (j := j) hoL (by omega)) (cwV 1 hts (gdV (by decide +kernel) (by decide +kernel) (by decide +kernel) (by decide +kernel) (by decide +kernel)) rfl rfl rfl (by decide +kernel) ⟨Nat.le_of_ble_eq_true rfl, Nat.le_of_ble_eq_true rfl⟩) hK hP 8 2 rfl rfl rfl hl.1 rfl (Nat.le_of_ble_eq_true rfl) dX2_meetsArea_47 ⟨Nat.le_of_ble_eq_true rfl, Nat.le_of_ble_eq_true rfl⟩ ?_
          refine bm_lc_ge (x := y0) (y := (q_endY pa p0 j)) (tgt := 58) hx hb dX2_meetsArea_50 dX2_meetsArea_51 (by decide) (fun c_5 => ?_) (fun c_5 => ?_)
          · refine lv_iconst (v := bm_b false) hx hb dX2_meetsArea_58 (by decide) ?_
            exact bm_zretR (v := false) hx hb hr (by simp [q_meets, c_1, c_2, c_3, c_4, c_5]) dX2_meetsArea_59 hlocks
          · refine lv_iconst (v := bm_b true) hx hb dX2_meetsArea_54 (by decide) ?_
            refine lv_goto (tgt := 59) hx hb dX2_meetsArea_55 (by decide) ?_
            exact bm_zretR (v := true) hx hb hr (by simp [q_meets, c_1, c_2, c_3, c_4, c_5]) dX2_meetsArea_59 hlocks
end
section
set_option maxHeartbeats 4000000 in
set_option maxRecDepth 100000 in
theorem r_over {l : Launch} {D : va_G} {ad : Nat → Nat} {cJ cI cZ : ClassId} {bm : gBM} {pa : gPA} {p0 p1 p2 : gPL} {li : gLI} {wi : gWI} (hoA : q_okA pa) (hoL : q_okL p0) {j f : Nat} (h1 : j < 40) (h2 : f ≤ 40) : bm_Rd l yX2_overlapped wsX2_overlapped ({ frames := 2, cells := 0, slots := 0, locals := 50 }) D vwCl [(cJ, .long), (cI, .int), (cZ, .boolean)] (Wd ad cJ cI cZ bm pa p0 p1 p2 li wi) [.ref (ad 8), .int (nI j), .int (nI f)] (.int (q_opt (q_over pa p0 j f))) := by
  obtain ⟨hn, hsd, hlw⟩ := hoA
  refine Met.ofW (cc := cX2_overlapped) (maxL := 8) (ret := (some .int)) (by decide) rfl ?_
  intro p e s m args below meth c s₁ B hml hv
  obtain ⟨ha, hP, hK⟩ := hv
  have hx := B.exec
  have hb := B.bytes
  have hr := B.returns
  have hts := atoms_spec (ws := wsX2_overlapped) B.pre
  have hown : s.vm.findClass RX2 = some m.cls := findClass_of_methodNamed B.named
  have hlocks := B.notSynchronized
  have lp : ∀ (k : Nat) (i : Nat), i ≤ 40 → 41 < i + k → q_find (q_ov pa p0 j) (pa.2.2.2.2.2.2 - i) i = q_over pa p0 j f → ∀ (ls : Array Slot), lv_has ls 8 [(0, .ref (ad 8)), (1, .int (nI j)), (3, .long (q_endX pa p0 j)), (5, .long (q_endY pa p0 j)), (7, .int (nI i))] → W p l e (headSpec wsX2_overlapped ({ frames := 2, cells := 0, slots := 0, locals := 50 })).room s m args below meth c s.heap [] 0 0 (MQ below (k2_QcV (.int (q_opt (q_over pa p0 j f)))) args s 0 0 (fun _ => False)) (F0 m 16 ls []) := by
    intro k
    induction k with
    | zero => intro i hi hk he; exfalso; omega
    | succ k ih =>
      intro i hi hk he ls hl
      refine lv_iload hx hb dX2_overlapped_16 (lv_at hl 4 rfl) ?_
      refine lv_aload_n hx hb dX2_overlapped_18 rfl (lv_at hl 0 rfl) ?_
      refine va_get (D := D) (ci := 2) (v := .ref (ad 1)) (C := RX2) (T := TX2) (N := 5) hx hb hts (inT inX2) hown hK hP 8 rfl rfl 0 (by decide) (hts (.fieldLink RX2 26 "BoardMoves$Placement" "parts" "LBoardMoves$Parts;") (by decide +kernel)) (fun _ h9 => h9) rfl dX2_overlapped_19 ?_
      refine va_get (D := D) (ci := 1) (v := .int (nI pa.2.2.2.2.2.2)) (C := RX1) (T := TX1) (N := 7) hx hb hts (inT inX1) hown hK hP 1 rfl rfl 6 (by decide) (hts (.fieldLink RX2 30 "BoardMoves$Parts" "count" "I") (by decide +kernel)) (fun _ h9 => h9) rfl dX2_overlapped_22 ?_
      refine bm_ni_ge (x := i) (y := pa.2.2.2.2.2.2) (tgt := 89) hx hb (by omega) (by omega) dX2_overlapped_25 (by decide) (fun c_1 => ?_) (fun c_1 => ?_)
      · refine lv_iconst (v := -1) hx hb dX2_overlapped_89 (by decide) ?_
        exact bm_iretR (v := (-1)) hx hb hr (by rw [← he, q_find_end (by assumption)]; rfl) dX2_overlapped_90 hlocks
      · refine lv_iload hx hb dX2_overlapped_28 (lv_at hl 4 rfl) ?_
        refine lv_iload_n hx hb dX2_overlapped_30 rfl (lv_at hl 1 rfl) ?_
        refine bm_ni_eq (x := i) (y := j) (tgt := 83) hx hb (by omega) (by omega) dX2_overlapped_31 (by decide) (fun c_2 => ?_) (fun c_2 => ?_)
        · refine lv_iinc (v := (nI (i + 1))) (lv' := [(7, .int (nI (i + 1))), (0, .ref (ad 8)), (1, .int (nI j)), (3, .long (q_endX pa p0 j)), (5, .long (q_endY pa p0 j))]) hx hb dX2_overlapped_83 hl (k := 4) rfl (nI_1 i) (by decide) rfl (fun ls hl => ?_)
          refine lv_goto (tgt := 16) hx hb dX2_overlapped_86 (by decide) ?_
          exact ih (i + 1) (by omega) (by omega) (by rw [← he]; exact q_find_go (by assumption) (by simp [q_ov, c_2])) _ (lv_sub hl [1, 2, 3, 4, 0] rfl)
        · refine lv_aload_n hx hb dX2_overlapped_34 rfl (lv_at hl 0 rfl) ?_
          refine va_get (D := D) (ci := 2) (v := .ref (ad 1)) (C := RX2) (T := TX2) (N := 5) hx hb hts (inT inX2) hown hK hP 8 rfl rfl 0 (by decide) (hts (.fieldLink RX2 26 "BoardMoves$Placement" "parts" "LBoardMoves$Parts;") (by decide +kernel)) (fun _ h9 => h9) rfl dX2_overlapped_35 ?_
          refine va_get (D := D) (ci := 1) (v := .ref (ad 4)) (C := RX1) (T := TX1) (N := 7) hx hb hts (inT inX1) hown hK hP 1 rfl rfl 2 (by decide) (hts (.fieldLink RX2 53 "BoardMoves$Parts" "side" "[I") (by decide +kernel)) (fun _ h9 => h9) rfl dX2_overlapped_38 ?_
          refine lv_iload hx hb dX2_overlapped_41 (lv_at hl 4 rfl) ?_
          refine bm_nald (f := pa.2.2.1) hx hb hK hP 4 1 rfl rfl (j := i) (by omega) (by decide) dX2_overlapped_43 ?_
          refine lv_aload_n hx hb dX2_overlapped_44 rfl (lv_at hl 0 rfl) ?_
          refine va_get (D := D) (ci := 2) (v := .ref (ad 1)) (C := RX2) (T := TX2) (N := 5) hx hb hts (inT inX2) hown hK hP 8 rfl rfl 0 (by decide) (hts (.fieldLink RX2 26 "BoardMoves$Placement" "parts" "LBoardMoves$Parts;") (by decide +kernel)) (fun _ h9 => h9) rfl dX2_overlapped_45 ?_
          refine va_get (D := D) (ci := 1) (v := .ref (ad 4)) (C := RX1) (T := TX1) (N := 7) hx hb hts (inT inX1) hown hK hP 1 rfl rfl 2 (by decide) (hts (.fieldLink RX2 53 "BoardMoves$Parts" "side" "[I") (by decide +kernel)) (fun _ h9 => h9) rfl dX2_overlapped_48 ?_
          refine lv_iload_n hx hb dX2_overlapped_51 rfl (lv_at hl 1 rfl) ?_
          refine bm_nald (f := pa.2.2.1) hx hb hK hP 4 1 rfl rfl (j := j) (by omega) (by decide) dX2_overlapped_52 ?_
          refine bm_ni_ne (x := (pa.2.2.1 i)) (y := (pa.2.2.1 j)) (tgt := 83) hx hb (bm40 (hsd _)) (bm40 (hsd _)) dX2_overlapped_53 (by decide) (fun c_3 => ?_) (fun c_3 => ?_)
          · refine lv_iinc (v := (nI (i + 1))) (lv' := [(7, .int (nI (i + 1))), (0, .ref (ad 8)), (1, .int (nI j)), (3, .long (q_endX pa p0 j)), (5, .long (q_endY pa p0 j))]) hx hb dX2_overlapped_83 hl (k := 4) rfl (nI_1 i) (by decide) rfl (fun ls hl => ?_)
            refine lv_goto (tgt := 16) hx hb dX2_overlapped_86 (by decide) ?_
            exact ih (i + 1) (by omega) (by omega) (by rw [← he]; exact q_find_go (by assumption) (by simp [q_ov, c_2, c_3])) _ (lv_sub hl [1, 2, 3, 4, 0] rfl)
          · refine lv_aload_n hx hb dX2_overlapped_56 rfl (lv_at hl 0 rfl) ?_
            refine lv_iload hx hb dX2_overlapped_57 (lv_at hl 4 rfl) ?_
            refine lv_aload_n hx hb dX2_overlapped_59 rfl (lv_at hl 0 rfl) ?_
            refine va_get (D := D) (ci := 2) (v := .ref (ad 9)) (C := RX2) (T := TX2) (N := 5) hx hb hts (inT inX2) hown hK hP 8 rfl rfl 1 (by decide) (hts (.fieldLink RX2 9 "BoardMoves$Placement" "x" "[J") (by decide +kernel)) (fun _ h9 => h9) rfl dX2_overlapped_60 ?_
            refine lv_iload_n hx hb dX2_overlapped_63 rfl (lv_at hl 1 rfl) ?_
            refine bm_lald (f := p0.1) hx hb hK hP 9 0 rfl rfl (j := j) (by omega) (by decide) dX2_overlapped_64 ?_
            refine lv_aload_n hx hb dX2_overlapped_65 rfl (lv_at hl 0 rfl) ?_
            refine va_get (D := D) (ci := 2) (v := .ref (ad 10)) (C := RX2) (T := TX2) (N := 5) hx hb hts (inT inX2) hown hK hP 8 rfl rfl 2 (by decide) (hts (.fieldLink RX2 15 "BoardMoves$Placement" "y" "[J") (by decide +kernel)) (fun _ h9 => h9) rfl dX2_overlapped_66 ?_
            refine lv_iload_n hx hb dX2_overlapped_69 rfl (lv_at hl 1 rfl) ?_
            refine bm_lald (f := p0.2.1) hx hb hK hP 10 0 rfl rfl (j := j) (by omega) (by decide) dX2_overlapped_70 ?_
            refine lv_lload_n hx hb dX2_overlapped_71 rfl (lv_at hl 2 rfl) ?_
            refine lv_lload hx hb dX2_overlapped_72 (lv_at hl 3 rfl) ?_
            refine bm_rcallV (As := [.int (nI i), .long (p0.1 j), .long (p0.2.1 j), .long (q_endX pa p0 j), .long (q_endY pa p0 j)]) (rest := []) ⟨hx, hb, hml, hown, hts⟩ (r_meets (j := i) hoL (by omega)) (cwV 5 hts (gdV (by decide +kernel) (by decide +kernel) (by decide +kernel) (by decide +kernel) (by decide +kernel)) rfl rfl rfl (by decide +kernel) ⟨Nat.le_of_ble_eq_true rfl, Nat.le_of_ble_eq_true rfl⟩) hK hP 8 2 rfl rfl rfl hl.1 rfl (Nat.le_of_ble_eq_true rfl) dX2_overlapped_74 ⟨Nat.le_of_ble_eq_true rfl, Nat.le_of_ble_eq_true rfl⟩ ?_
            refine bm_zb_eq (x := (q_meets pa p0 i (p0.1 j) (p0.2.1 j) (q_endX pa p0 j) (q_endY pa p0 j))) (tgt := 83) hx hb dX2_overlapped_77 (by decide) (fun c_4 => ?_) (fun c_4 => ?_)
            · refine lv_iinc (v := (nI (i + 1))) (lv' := [(7, .int (nI (i + 1))), (0, .ref (ad 8)), (1, .int (nI j)), (3, .long (q_endX pa p0 j)), (5, .long (q_endY pa p0 j))]) hx hb dX2_overlapped_83 hl (k := 4) rfl (nI_1 i) (by decide) rfl (fun ls hl => ?_)
              refine lv_goto (tgt := 16) hx hb dX2_overlapped_86 (by decide) ?_
              exact ih (i + 1) (by omega) (by omega) (by rw [← he]; exact q_find_go (by assumption) (by simp [q_ov, c_2, c_3, c_4])) _ (lv_sub hl [1, 2, 3, 4, 0] rfl)
            · refine lv_iload hx hb dX2_overlapped_80 (lv_at hl 4 rfl) ?_
              exact bm_iretR (v := (nI i)) hx hb hr (by rw [← he, q_find_hit (by assumption) (by simp [q_ov, c_2, c_3, c_4])]; rfl) dX2_overlapped_82 hlocks
  have hl := lv_entry ([.ref (ad 8), .int (nI j), .int (nI f)]) (n := 8) (Nat.le_of_ble_eq_true rfl)
  refine W.eq (g2 := entryFrame m ([.ref (ad 8), .int (nI j), .int (nI f)] : List Value).toArray 8) (by rw [ha]) ?_
  rw [lg_entry_eq]
  generalize (lg_sl ([.ref (ad 8), .int (nI j), .int (nI f)]) ++ List.replicate (8 - (lg_sl ([.ref (ad 8), .int (nI j), .int (nI f)])).length) Slot.unset).toArray = ls at hl ⊢
  have hl : lv_has ls 8 [(0, .ref (ad 8)), (1, .int (nI j)), (2, .int (nI f))] := hl
  refine lv_aload_n hx hb dX2_overlapped_0 rfl (lv_at hl 0 rfl) ?_
  refine lv_iload_n hx hb dX2_overlapped_1 rfl (lv_at hl 1 rfl) ?_
  refine bm_rcallV (As := [.int (nI j)]) (rest := []) ⟨hx, hb, hml, hown, hts⟩ (r_endX (j := j) hoL (by omega)) (cwV 1 hts (gdV (by decide +kernel) (by decide +kernel) (by decide +kernel) (by decide +kernel) (by decide +kernel)) rfl rfl rfl (by decide +kernel) ⟨Nat.le_of_ble_eq_true rfl, Nat.le_of_ble_eq_true rfl⟩) hK hP 8 2 rfl rfl rfl hl.1 rfl (Nat.le_of_ble_eq_true rfl) dX2_overlapped_2 ⟨Nat.le_of_ble_eq_true rfl, Nat.le_of_ble_eq_true rfl⟩ ?_
  refine lv_lstore_n (lv' := [(3, .long (q_endX pa p0 j)), (0, .ref (ad 8)), (1, .int (nI j)), (2, .int (nI f))]) hx hb dX2_overlapped_5 rfl hl (by decide) rfl (fun ls hl => ?_)
  refine lv_aload_n hx hb dX2_overlapped_6 rfl (lv_at hl 1 rfl) ?_
  refine lv_iload_n hx hb dX2_overlapped_7 rfl (lv_at hl 2 rfl) ?_
  refine bm_rcallV (As := [.int (nI j)]) (rest := []) ⟨hx, hb, hml, hown, hts⟩ (r_endY (j := j) hoL (by omega)) (cwV 1 hts (gdV (by decide +kernel) (by decide +kernel) (by decide +kernel) (by decide +kernel) (by decide +kernel)) rfl rfl rfl (by decide +kernel) ⟨Nat.le_of_ble_eq_true rfl, Nat.le_of_ble_eq_true rfl⟩) hK hP 8 2 rfl rfl rfl hl.1 rfl (Nat.le_of_ble_eq_true rfl) dX2_overlapped_8 ⟨Nat.le_of_ble_eq_true rfl, Nat.le_of_ble_eq_true rfl⟩ ?_
  refine lv_lstore (lv' := [(5, .long (q_endY pa p0 j)), (3, .long (q_endX pa p0 j)), (0, .ref (ad 8)), (1, .int (nI j)), (2, .int (nI f))]) hx hb dX2_overlapped_11 hl (by decide) rfl (fun ls hl => ?_)
  refine lv_iload_n hx hb dX2_overlapped_13 rfl (lv_at hl 4 rfl) ?_
  refine lv_istore (lv' := [(7, .int (nI f)), (5, .long (q_endY pa p0 j)), (3, .long (q_endX pa p0 j)), (0, .ref (ad 8)), (1, .int (nI j)), (2, .int (nI f))]) hx hb dX2_overlapped_14 hl (by decide) rfl (fun ls hl => ?_)
  exact lp (42 - f) f (by omega) (by omega) rfl _ (lv_sub hl [3, 4, 2, 1, 0] rfl)
end
section
set_option maxHeartbeats 4000000 in
set_option maxRecDepth 100000 in
theorem r_first {l : Launch} {D : va_G} {ad : Nat → Nat} {cJ cI cZ : ClassId} {bm : gBM} {pa : gPA} {p0 p1 p2 : gPL} {li : gLI} {wi : gWI} (hoA : q_okA pa) (hoL : q_okL p0) : bm_Rd l yX2_firstOverlapping wsX2_firstOverlapping ({ frames := 3, cells := 0, slots := 0, locals := 77 }) D vwCl [(cJ, .long), (cI, .int), (cZ, .boolean)] (Wd ad cJ cI cZ bm pa p0 p1 p2 li wi) [.ref (ad 8)] (.int (q_opt (q_first pa p0))) := by
  obtain ⟨hn, hsd, hlw⟩ := hoA
  refine Met.ofW (cc := cX2_firstOverlapping) (maxL := 2) (ret := (some .int)) (by decide) rfl ?_
  intro p e s m args below meth c s₁ B hml hv
  obtain ⟨ha, hP, hK⟩ := hv
  have hx := B.exec
  have hb := B.bytes
  have hr := B.returns
  have hts := atoms_spec (ws := wsX2_firstOverlapping) B.pre
  have hown : s.vm.findClass RX2 = some m.cls := findClass_of_methodNamed B.named
  have hlocks := B.notSynchronized
  have lp : ∀ (k : Nat) (i : Nat), i ≤ 40 → 40 + 1 < i + k → q_find (fun i => p0.2.2.2 i && (q_over pa p0 i (i + 1)).isSome) (pa.2.2.2.2.2.2 - i) i = q_first pa p0 → ∀ (ls : Array Slot), lv_has ls 2 [(0, .ref (ad 8)), (1, .int (nI i))] → W p l e (headSpec wsX2_firstOverlapping ({ frames := 3, cells := 0, slots := 0, locals := 77 })).room s m args below meth c s.heap [] 0 0 (MQ below (k2_QcV (.int (q_opt (q_first pa p0)))) args s 0 0 (fun _ => False)) (F0 m 2 ls []) := by
    intro k
    induction k with
    | zero => intro i hi hk he; exfalso; omega
    | succ k ih =>
      intro i hi hk he ls hl
      refine lv_iload_n hx hb dX2_firstOverlapping_2 rfl (lv_at hl 1 rfl) ?_
      refine lv_aload_n hx hb dX2_firstOverlapping_3 rfl (lv_at hl 0 rfl) ?_
      refine va_get (D := D) (ci := 2) (v := .ref (ad 1)) (C := RX2) (T := TX2) (N := 5) hx hb hts (inT inX2) hown hK hP 8 rfl rfl 0 (by decide) (hts (.fieldLink RX2 26 "BoardMoves$Placement" "parts" "LBoardMoves$Parts;") (by decide +kernel)) (fun _ h9 => h9) rfl dX2_firstOverlapping_4 ?_
      refine va_get (D := D) (ci := 1) (v := .int (nI pa.2.2.2.2.2.2)) (C := RX1) (T := TX1) (N := 7) hx hb hts (inT inX1) hown hK hP 1 rfl rfl 6 (by decide) (hts (.fieldLink RX2 30 "BoardMoves$Parts" "count" "I") (by decide +kernel)) (fun _ h9 => h9) rfl dX2_firstOverlapping_7 ?_
      refine bm_ni_ge (x := i) (y := pa.2.2.2.2.2.2) (tgt := 42) hx hb (by omega) (by omega) dX2_firstOverlapping_10 (by decide) (fun c_1 => ?_) (fun c_1 => ?_)
      · refine lv_iconst (v := -1) hx hb dX2_firstOverlapping_42 (by decide) ?_
        exact bm_iretR (v := (-1)) hx hb hr (by rw [← he, q_find_end (by assumption)]; rfl) dX2_firstOverlapping_43 hlocks
      · refine lv_aload_n hx hb dX2_firstOverlapping_13 rfl (lv_at hl 0 rfl) ?_
        refine va_get (D := D) (ci := 2) (v := .ref (ad 12)) (C := RX2) (T := TX2) (N := 5) hx hb hts (inT inX2) hown hK hP 8 rfl rfl 4 (by decide) (hts (.fieldLink RX2 22 "BoardMoves$Placement" "placed" "[Z") (by decide +kernel)) (fun _ h9 => h9) rfl dX2_firstOverlapping_14 ?_
        refine lv_iload_n hx hb dX2_firstOverlapping_17 rfl (lv_at hl 1 rfl) ?_
        refine bm_zald (f := p0.2.2.2) hx hb hK hP 12 2 rfl rfl (j := i) (by omega) (by decide) dX2_firstOverlapping_18 ?_
        refine bm_zb_eq (x := (p0.2.2.2 i)) (tgt := 36) hx hb dX2_firstOverlapping_19 (by decide) (fun c_2 => ?_) (fun c_2 => ?_)
        · refine lv_iinc (v := (nI (i + 1))) (lv' := [(1, .int (nI (i + 1))), (0, .ref (ad 8))]) hx hb dX2_firstOverlapping_36 hl (k := 1) rfl (nI_1 i) (by decide) rfl (fun ls hl => ?_)
          refine lv_goto (tgt := 2) hx hb dX2_firstOverlapping_39 (by decide) ?_
          exact ih (i + 1) (by omega) (by omega) (by rw [← he]; exact q_find_go (by assumption) (by simp [c_2]; done)) _ (lv_sub hl [1, 0] rfl)
        · refine lv_aload_n hx hb dX2_firstOverlapping_22 rfl (lv_at hl 0 rfl) ?_
          refine lv_iload_n hx hb dX2_firstOverlapping_23 rfl (lv_at hl 1 rfl) ?_
          refine lv_iload_n hx hb dX2_firstOverlapping_24 rfl (lv_at hl 1 rfl) ?_
          refine lv_iconst (v := nI 1) hx hb dX2_firstOverlapping_25 (by decide) ?_
          refine bm_nadd hx hb dX2_firstOverlapping_26 ?_
          refine bm_rcallV (As := [.int (nI i), .int (nI (i + 1))]) (rest := []) ⟨hx, hb, hml, hown, hts⟩ (r_over (j := i) (f := (i + 1)) ⟨hn, hsd, hlw⟩ hoL (by omega) (by omega)) (cwV 2 hts (gdV (by decide +kernel) (by decide +kernel) (by decide +kernel) (by decide +kernel) (by decide +kernel)) rfl rfl rfl (by decide +kernel) ⟨Nat.le_of_ble_eq_true rfl, Nat.le_of_ble_eq_true rfl⟩) hK hP 8 2 rfl rfl rfl hl.1 rfl (Nat.le_of_ble_eq_true rfl) dX2_firstOverlapping_27 ⟨Nat.le_of_ble_eq_true rfl, Nat.le_of_ble_eq_true rfl⟩ ?_
          rcases hO_4 : q_over pa p0 i (i + 1) with _ | o_3
          · refine lv_iconst (v := -1) hx hb dX2_firstOverlapping_30 (by decide) ?_
            refine lv_icmp_eq (x := (-1)) (y := -1) (tgt := 36) hx hb dX2_firstOverlapping_31 (by decide) (fun c_5 => ?_) (fun c_5 => ?_)
            · refine lv_iinc (v := (nI (i + 1))) (lv' := [(1, .int (nI (i + 1))), (0, .ref (ad 8))]) hx hb dX2_firstOverlapping_36 hl (k := 1) rfl (nI_1 i) (by decide) rfl (fun ls hl => ?_)
              refine lv_goto (tgt := 2) hx hb dX2_firstOverlapping_39 (by decide) ?_
              exact ih (i + 1) (by omega) (by omega) (by rw [← he]; exact q_find_go (by assumption) (by simp [c_2, hO_4]; done)) _ (lv_sub hl [1, 0] rfl)
            · exact absurd rfl c_5
          · have hB_hO_4 := q_over_lt hO_4
            refine lv_iconst (v := -1) hx hb dX2_firstOverlapping_30 (by decide) ?_
            refine lv_icmp_eq (x := (nI o_3)) (y := -1) (tgt := 36) hx hb dX2_firstOverlapping_31 (by decide) (fun c_6 => ?_) (fun c_6 => ?_)
            · exact absurd c_6 (bm_nm1 (by omega))
            · refine lv_iload_n hx hb dX2_firstOverlapping_34 rfl (lv_at hl 1 rfl) ?_
              exact bm_iretR (v := (nI i)) hx hb hr (by rw [← he, q_find_hit (by assumption) (by simp [c_2, hO_4])]; rfl) dX2_firstOverlapping_35 hlocks
  have hl := lv_entry ([.ref (ad 8)]) (n := 2) (Nat.le_of_ble_eq_true rfl)
  refine W.eq (g2 := entryFrame m ([.ref (ad 8)] : List Value).toArray 2) (by rw [ha]) ?_
  rw [lg_entry_eq]
  generalize (lg_sl ([.ref (ad 8)]) ++ List.replicate (2 - (lg_sl ([.ref (ad 8)])).length) Slot.unset).toArray = ls at hl ⊢
  have hl : lv_has ls 2 [(0, .ref (ad 8))] := hl
  refine lv_iconst (v := nI 0) hx hb dX2_firstOverlapping_0 (by decide) ?_
  refine lv_istore_n (lv' := [(1, .int (nI 0)), (0, .ref (ad 8))]) hx hb dX2_firstOverlapping_1 rfl hl (by decide) rfl (fun ls hl => ?_)
  exact lp 42 0 (by omega) (by omega) rfl _ (lv_sub hl [1, 0] rfl)
end
section
set_option maxHeartbeats 4000000 in
set_option maxRecDepth 100000 in
theorem r_hasMate {l : Launch} {D : va_G} {ad : Nat → Nat} {cJ cI cZ : ClassId} {bm : gBM} {pa : gPA} {p0 p1 p2 : gPL} {li : gLI} {wi : gWI} (hoA : q_okA pa) {j : Nat} (h1 : j < 40) : bm_Rd l yX2_hasPlacedMate wsX2_hasPlacedMate ({ frames := 1, cells := 0, slots := 0, locals := 22 }) D vwCl [(cJ, .long), (cI, .int), (cZ, .boolean)] (Wd ad cJ cI cZ bm pa p0 p1 p2 li wi) [.ref (ad 8), .int (nI j)] (.int (bm_b (q_hasMate pa p0 j))) := by
  obtain ⟨hn, hsd, hlw⟩ := hoA
  refine Met.ofW (cc := cX2_hasPlacedMate) (maxL := 3) (ret := (some .boolean)) (by decide) rfl ?_
  intro p e s m args below meth c s₁ B hml hv
  obtain ⟨ha, hP, hK⟩ := hv
  have hx := B.exec
  have hb := B.bytes
  have hr := B.returns
  have hts := atoms_spec (ws := wsX2_hasPlacedMate) B.pre
  have hown : s.vm.findClass RX2 = some m.cls := findClass_of_methodNamed B.named
  have hlocks := B.notSynchronized
  have lp : ∀ (k : Nat) (i : Nat), i ≤ 40 → 40 + 1 < i + k → q_find (q_mateP pa p0 j) (pa.2.2.2.2.2.2 - i) i = q_find (q_mateP pa p0 j) (pa.2.2.2.2.2.2 - 0) 0 → ∀ (ls : Array Slot), lv_has ls 3 [(0, .ref (ad 8)), (1, .int (nI j)), (2, .int (nI i))] → W p l e (headSpec wsX2_hasPlacedMate ({ frames := 1, cells := 0, slots := 0, locals := 22 })).room s m args below meth c s.heap [] 0 0 (MQ below (k2_QcV (.int (bm_b (q_hasMate pa p0 j)))) args s 0 0 (fun _ => False)) (F0 m 2 ls []) := by
    intro k
    induction k with
    | zero => intro i hi hk he; exfalso; omega
    | succ k ih =>
      intro i hi hk he ls hl
      refine lv_iload_n hx hb dX2_hasPlacedMate_2 rfl (lv_at hl 2 rfl) ?_
      refine lv_aload_n hx hb dX2_hasPlacedMate_3 rfl (lv_at hl 0 rfl) ?_
      refine va_get (D := D) (ci := 2) (v := .ref (ad 1)) (C := RX2) (T := TX2) (N := 5) hx hb hts (inT inX2) hown hK hP 8 rfl rfl 0 (by decide) (hts (.fieldLink RX2 26 "BoardMoves$Placement" "parts" "LBoardMoves$Parts;") (by decide +kernel)) (fun _ h9 => h9) rfl dX2_hasPlacedMate_4 ?_
      refine va_get (D := D) (ci := 1) (v := .int (nI pa.2.2.2.2.2.2)) (C := RX1) (T := TX1) (N := 7) hx hb hts (inT inX1) hown hK hP 1 rfl rfl 6 (by decide) (hts (.fieldLink RX2 30 "BoardMoves$Parts" "count" "I") (by decide +kernel)) (fun _ h9 => h9) rfl dX2_hasPlacedMate_7 ?_
      refine bm_ni_ge (x := i) (y := pa.2.2.2.2.2.2) (tgt := 47) hx hb (by omega) (by omega) dX2_hasPlacedMate_10 (by decide) (fun c_1 => ?_) (fun c_1 => ?_)
      · refine lv_iconst (v := bm_b false) hx hb dX2_hasPlacedMate_47 (by decide) ?_
        exact bm_zretR (v := false) hx hb hr (by rw [q_hasMate, ← he, q_find_end (by assumption)]; rfl) dX2_hasPlacedMate_48 hlocks
      · refine lv_iload_n hx hb dX2_hasPlacedMate_13 rfl (lv_at hl 2 rfl) ?_
        refine lv_iload_n hx hb dX2_hasPlacedMate_14 rfl (lv_at hl 1 rfl) ?_
        refine bm_ni_eq (x := i) (y := j) (tgt := 41) hx hb (by omega) (by omega) dX2_hasPlacedMate_15 (by decide) (fun c_2 => ?_) (fun c_2 => ?_)
        · refine lv_iinc (v := (nI (i + 1))) (lv' := [(2, .int (nI (i + 1))), (0, .ref (ad 8)), (1, .int (nI j))]) hx hb dX2_hasPlacedMate_41 hl (k := 2) rfl (nI_1 i) (by decide) rfl (fun ls hl => ?_)
          refine lv_goto (tgt := 2) hx hb dX2_hasPlacedMate_44 (by decide) ?_
          exact ih (i + 1) (by omega) (by omega) (by rw [← he]; exact q_find_go (by assumption) (by simp [q_mateP, c_2]; done)) _ (lv_sub hl [1, 2, 0] rfl)
        · refine lv_aload_n hx hb dX2_hasPlacedMate_18 rfl (lv_at hl 0 rfl) ?_
          refine va_get (D := D) (ci := 2) (v := .ref (ad 12)) (C := RX2) (T := TX2) (N := 5) hx hb hts (inT inX2) hown hK hP 8 rfl rfl 4 (by decide) (hts (.fieldLink RX2 22 "BoardMoves$Placement" "placed" "[Z") (by decide +kernel)) (fun _ h9 => h9) rfl dX2_hasPlacedMate_19 ?_
          refine lv_iload_n hx hb dX2_hasPlacedMate_22 rfl (lv_at hl 2 rfl) ?_
          refine bm_zald (f := p0.2.2.2) hx hb hK hP 12 2 rfl rfl (j := i) (by omega) (by decide) dX2_hasPlacedMate_23 ?_
          refine bm_zb_eq (x := (p0.2.2.2 i)) (tgt := 41) hx hb dX2_hasPlacedMate_24 (by decide) (fun c_3 => ?_) (fun c_3 => ?_)
          · refine lv_iinc (v := (nI (i + 1))) (lv' := [(2, .int (nI (i + 1))), (0, .ref (ad 8)), (1, .int (nI j))]) hx hb dX2_hasPlacedMate_41 hl (k := 2) rfl (nI_1 i) (by decide) rfl (fun ls hl => ?_)
            refine lv_goto (tgt := 2) hx hb dX2_hasPlacedMate_44 (by decide) ?_
            exact ih (i + 1) (by omega) (by omega) (by rw [← he]; exact q_find_go (by assumption) (by first | (simp [q_mateP, c_2, c_3]; done) | (simp only [q_mateP]; rw [c_3]; simp [c_2]; done))) _ (lv_sub hl [1, 2, 0] rfl)
          · refine lv_aload_n hx hb dX2_hasPlacedMate_27 rfl (lv_at hl 0 rfl) ?_
            refine va_get (D := D) (ci := 2) (v := .ref (ad 1)) (C := RX2) (T := TX2) (N := 5) hx hb hts (inT inX2) hown hK hP 8 rfl rfl 0 (by decide) (hts (.fieldLink RX2 26 "BoardMoves$Placement" "parts" "LBoardMoves$Parts;") (by decide +kernel)) (fun _ h9 => h9) rfl dX2_hasPlacedMate_28 ?_
            refine lv_iload_n hx hb dX2_hasPlacedMate_31 rfl (lv_at hl 2 rfl) ?_
            refine lv_iload_n hx hb dX2_hasPlacedMate_32 rfl (lv_at hl 1 rfl) ?_
            refine bm_rcallV (As := [.int (nI i), .int (nI j)]) (rest := []) ⟨hx, hb, hml, hown, hts⟩ (r_mates (a := i) (b := j) ⟨hn, hsd, hlw⟩ (by omega) (by omega)) (cwV 2 hts (gdV (by decide +kernel) (by decide +kernel) (by decide +kernel) (by decide +kernel) (by decide +kernel)) rfl rfl rfl (by decide +kernel) ⟨Nat.le_of_ble_eq_true rfl, Nat.le_of_ble_eq_true rfl⟩) hK hP 1 1 rfl rfl rfl hl.1 rfl (Nat.le_of_ble_eq_true rfl) dX2_hasPlacedMate_33 ⟨Nat.le_of_ble_eq_true rfl, Nat.le_of_ble_eq_true rfl⟩ ?_
            refine bm_zb_eq (x := (q_mates pa i j)) (tgt := 41) hx hb dX2_hasPlacedMate_36 (by decide) (fun c_4 => ?_) (fun c_4 => ?_)
            · refine lv_iinc (v := (nI (i + 1))) (lv' := [(2, .int (nI (i + 1))), (0, .ref (ad 8)), (1, .int (nI j))]) hx hb dX2_hasPlacedMate_41 hl (k := 2) rfl (nI_1 i) (by decide) rfl (fun ls hl => ?_)
              refine lv_goto (tgt := 2) hx hb dX2_hasPlacedMate_44 (by decide) ?_
              exact ih (i + 1) (by omega) (by omega) (by rw [← he]; exact q_find_go (by assumption) (by first | (simp [q_mateP, c_2, c_3, c_4]; done) | (simp only [q_mateP]; rw [c_4]; simp [c_2, c_3]; done))) _ (lv_sub hl [1, 2, 0] rfl)
            · refine lv_iconst (v := bm_b true) hx hb dX2_hasPlacedMate_39 (by decide) ?_
              exact bm_zretR (v := true) hx hb hr (by rw [q_hasMate, ← he, q_find_hit (by assumption) (by first | (simp [q_mateP, c_2, c_3, c_4]; done) | (simp only [q_mateP]; rw [c_4]; simp [c_2, c_3]; done))]; rfl) dX2_hasPlacedMate_40 hlocks
  have hl := lv_entry ([.ref (ad 8), .int (nI j)]) (n := 3) (Nat.le_of_ble_eq_true rfl)
  refine W.eq (g2 := entryFrame m ([.ref (ad 8), .int (nI j)] : List Value).toArray 3) (by rw [ha]) ?_
  rw [lg_entry_eq]
  generalize (lg_sl ([.ref (ad 8), .int (nI j)]) ++ List.replicate (3 - (lg_sl ([.ref (ad 8), .int (nI j)])).length) Slot.unset).toArray = ls at hl ⊢
  have hl : lv_has ls 3 [(0, .ref (ad 8)), (1, .int (nI j))] := hl
  refine lv_iconst (v := nI 0) hx hb dX2_hasPlacedMate_0 (by decide) ?_
  refine lv_istore_n (lv' := [(2, .int (nI 0)), (0, .ref (ad 8)), (1, .int (nI j))]) hx hb dX2_hasPlacedMate_1 rfl hl (by decide) rfl (fun ls hl => ?_)
  exact lp 42 0 (by omega) (by omega) rfl _ (lv_sub hl [1, 2, 0] rfl)
end
section
set_option maxHeartbeats 4000000 in
set_option maxRecDepth 100000 in
theorem r_differs {l : Launch} {D : va_G} {ad : Nat → Nat} {cJ cI cZ : ClassId} {bm : gBM} {pa : gPA} {p0 p1 p2 : gPL} {li : gLI} {wi : gWI} (hoL : q_okL p0) (hoL1 : q_okL p1) {j : Nat} (h1 : j < 40) : bm_Rd l yX2_differs wsX2_differs ({ frames := 0, cells := 0, slots := 0, locals := 0 }) D vwCl [(cJ, .long), (cI, .int), (cZ, .boolean)] (Wd ad cJ cI cZ bm pa p0 p1 p2 li wi) [.ref (ad 8), .ref (ad 13), .int (nI j)] (.int (bm_b (q_differs p0 p1 j))) := by
  refine Met.ofW (cc := cX2_differs) (maxL := 3) (ret := (some .boolean)) (by decide) rfl ?_
  intro p e s m args below meth c s₁ B hml hv
  obtain ⟨ha, hP, hK⟩ := hv
  have hx := B.exec
  have hb := B.bytes
  have hr := B.returns
  have hts := atoms_spec (ws := wsX2_differs) B.pre
  have hown : s.vm.findClass RX2 = some m.cls := findClass_of_methodNamed B.named
  have hlocks := B.notSynchronized
  have hl := lv_entry ([.ref (ad 8), .ref (ad 13), .int (nI j)]) (n := 3) (Nat.le_of_ble_eq_true rfl)
  refine W.eq (g2 := entryFrame m ([.ref (ad 8), .ref (ad 13), .int (nI j)] : List Value).toArray 3) (by rw [ha]) ?_
  rw [lg_entry_eq]
  generalize (lg_sl ([.ref (ad 8), .ref (ad 13), .int (nI j)]) ++ List.replicate (3 - (lg_sl ([.ref (ad 8), .ref (ad 13), .int (nI j)])).length) Slot.unset).toArray = ls at hl ⊢
  have hl : lv_has ls 3 [(0, .ref (ad 8)), (1, .ref (ad 13)), (2, .int (nI j))] := hl
  refine lv_aload_n hx hb dX2_differs_0 rfl (lv_at hl 0 rfl) ?_
  refine va_get (D := D) (ci := 2) (v := .ref (ad 9)) (C := RX2) (T := TX2) (N := 5) hx hb hts (inT inX2) hown hK hP 8 rfl rfl 1 (by decide) (hts (.fieldLink RX2 9 "BoardMoves$Placement" "x" "[J") (by decide +kernel)) (fun _ h9 => h9) rfl dX2_differs_1 ?_
  refine lv_iload_n hx hb dX2_differs_4 rfl (lv_at hl 2 rfl) ?_
  refine bm_lald (f := p0.1) hx hb hK hP 9 0 rfl rfl (j := j) (by omega) (by decide) dX2_differs_5 ?_
  refine lv_aload_n hx hb dX2_differs_6 rfl (lv_at hl 1 rfl) ?_
  refine va_get (D := D) (ci := 2) (v := .ref (ad 14)) (C := RX2) (T := TX2) (N := 5) hx hb hts (inT inX2) hown hK hP 13 rfl rfl 1 (by decide) (hts (.fieldLink RX2 9 "BoardMoves$Placement" "x" "[J") (by decide +kernel)) (fun _ h9 => h9) rfl dX2_differs_7 ?_
  refine lv_iload_n hx hb dX2_differs_10 rfl (lv_at hl 2 rfl) ?_
  refine bm_lald (f := p1.1) hx hb hK hP 14 0 rfl rfl (j := j) (by omega) (by decide) dX2_differs_11 ?_
  refine bm_lc_ne (x := (p0.1 j)) (y := (p1.1 j)) (tgt := 62) hx hb dX2_differs_12 dX2_differs_13 (by decide) (fun c_1 => ?_) (fun c_1 => ?_)
  · refine lv_iconst (v := bm_b true) hx hb dX2_differs_62 (by decide) ?_
    refine lv_goto (tgt := 67) hx hb dX2_differs_63 (by decide) ?_
    exact bm_zretR (v := true) hx hb hr (by simp [q_differs, c_1]) dX2_differs_67 hlocks
  · refine lv_aload_n hx hb dX2_differs_16 rfl (lv_at hl 0 rfl) ?_
    refine va_get (D := D) (ci := 2) (v := .ref (ad 10)) (C := RX2) (T := TX2) (N := 5) hx hb hts (inT inX2) hown hK hP 8 rfl rfl 2 (by decide) (hts (.fieldLink RX2 15 "BoardMoves$Placement" "y" "[J") (by decide +kernel)) (fun _ h9 => h9) rfl dX2_differs_17 ?_
    refine lv_iload_n hx hb dX2_differs_20 rfl (lv_at hl 2 rfl) ?_
    refine bm_lald (f := p0.2.1) hx hb hK hP 10 0 rfl rfl (j := j) (by omega) (by decide) dX2_differs_21 ?_
    refine lv_aload_n hx hb dX2_differs_22 rfl (lv_at hl 1 rfl) ?_
    refine va_get (D := D) (ci := 2) (v := .ref (ad 15)) (C := RX2) (T := TX2) (N := 5) hx hb hts (inT inX2) hown hK hP 13 rfl rfl 2 (by decide) (hts (.fieldLink RX2 15 "BoardMoves$Placement" "y" "[J") (by decide +kernel)) (fun _ h9 => h9) rfl dX2_differs_23 ?_
    refine lv_iload_n hx hb dX2_differs_26 rfl (lv_at hl 2 rfl) ?_
    refine bm_lald (f := p1.2.1) hx hb hK hP 15 0 rfl rfl (j := j) (by omega) (by decide) dX2_differs_27 ?_
    refine bm_lc_ne (x := (p0.2.1 j)) (y := (p1.2.1 j)) (tgt := 62) hx hb dX2_differs_28 dX2_differs_29 (by decide) (fun c_2 => ?_) (fun c_2 => ?_)
    · refine lv_iconst (v := bm_b true) hx hb dX2_differs_62 (by decide) ?_
      refine lv_goto (tgt := 67) hx hb dX2_differs_63 (by decide) ?_
      exact bm_zretR (v := true) hx hb hr (by simp [q_differs, c_1, c_2]) dX2_differs_67 hlocks
    · refine lv_aload_n hx hb dX2_differs_32 rfl (lv_at hl 0 rfl) ?_
      refine va_get (D := D) (ci := 2) (v := .ref (ad 11)) (C := RX2) (T := TX2) (N := 5) hx hb hts (inT inX2) hown hK hP 8 rfl rfl 3 (by decide) (hts (.fieldLink RX2 18 "BoardMoves$Placement" "turn" "[I") (by decide +kernel)) (fun _ h9 => h9) rfl dX2_differs_33 ?_
      refine lv_iload_n hx hb dX2_differs_36 rfl (lv_at hl 2 rfl) ?_
      refine bm_nald (f := p0.2.2.1) hx hb hK hP 11 1 rfl rfl (j := j) (by omega) (by decide) dX2_differs_37 ?_
      refine lv_aload_n hx hb dX2_differs_38 rfl (lv_at hl 1 rfl) ?_
      refine va_get (D := D) (ci := 2) (v := .ref (ad 16)) (C := RX2) (T := TX2) (N := 5) hx hb hts (inT inX2) hown hK hP 13 rfl rfl 3 (by decide) (hts (.fieldLink RX2 18 "BoardMoves$Placement" "turn" "[I") (by decide +kernel)) (fun _ h9 => h9) rfl dX2_differs_39 ?_
      refine lv_iload_n hx hb dX2_differs_42 rfl (lv_at hl 2 rfl) ?_
      refine bm_nald (f := p1.2.2.1) hx hb hK hP 16 1 rfl rfl (j := j) (by omega) (by decide) dX2_differs_43 ?_
      refine bm_ni_ne (x := (p0.2.2.1 j)) (y := (p1.2.2.1 j)) (tgt := 62) hx hb (bm40 (hoL _)) (bm40 (hoL1 _)) dX2_differs_44 (by decide) (fun c_3 => ?_) (fun c_3 => ?_)
      · refine lv_iconst (v := bm_b true) hx hb dX2_differs_62 (by decide) ?_
        refine lv_goto (tgt := 67) hx hb dX2_differs_63 (by decide) ?_
        exact bm_zretR (v := true) hx hb hr (by simp [q_differs, c_1, c_2, c_3]) dX2_differs_67 hlocks
      · refine lv_aload_n hx hb dX2_differs_47 rfl (lv_at hl 0 rfl) ?_
        refine va_get (D := D) (ci := 2) (v := .ref (ad 12)) (C := RX2) (T := TX2) (N := 5) hx hb hts (inT inX2) hown hK hP 8 rfl rfl 4 (by decide) (hts (.fieldLink RX2 22 "BoardMoves$Placement" "placed" "[Z") (by decide +kernel)) (fun _ h9 => h9) rfl dX2_differs_48 ?_
        refine lv_iload_n hx hb dX2_differs_51 rfl (lv_at hl 2 rfl) ?_
        refine bm_zald (f := p0.2.2.2) hx hb hK hP 12 2 rfl rfl (j := j) (by omega) (by decide) dX2_differs_52 ?_
        refine lv_aload_n hx hb dX2_differs_53 rfl (lv_at hl 1 rfl) ?_
        refine va_get (D := D) (ci := 2) (v := .ref (ad 17)) (C := RX2) (T := TX2) (N := 5) hx hb hts (inT inX2) hown hK hP 13 rfl rfl 4 (by decide) (hts (.fieldLink RX2 22 "BoardMoves$Placement" "placed" "[Z") (by decide +kernel)) (fun _ h9 => h9) rfl dX2_differs_54 ?_
        refine lv_iload_n hx hb dX2_differs_57 rfl (lv_at hl 2 rfl) ?_
        refine bm_zald (f := p1.2.2.2) hx hb hK hP 17 2 rfl rfl (j := j) (by omega) (by decide) dX2_differs_58 ?_
        refine bm_bb_eq (x := (p0.2.2.2 j)) (y := (p1.2.2.2 j)) (tgt := 66) hx hb dX2_differs_59 (by decide) (fun c_4 => ?_) (fun c_4 => ?_)
        · refine lv_iconst (v := bm_b false) hx hb dX2_differs_66 (by decide) ?_
          exact bm_zretR (v := false) hx hb hr (by simp [q_differs, c_1, c_2, c_3, c_4]) dX2_differs_67 hlocks
        · refine lv_iconst (v := bm_b true) hx hb dX2_differs_62 (by decide) ?_
          refine lv_goto (tgt := 67) hx hb dX2_differs_63 (by decide) ?_
          exact bm_zretR (v := true) hx hb hr (by simp [q_differs, c_1, c_2, c_3, c_4]) dX2_differs_67 hlocks
end
section
set_option maxHeartbeats 4000000 in
set_option maxRecDepth 100000 in
theorem r_way {l : Launch} {D : va_G} {ad : Nat → Nat} {cJ cI cZ : ClassId} {bm : gBM} {pa : gPA} {p0 p1 p2 : gPL} {li : gLI} {wi : gWI} (hoL : q_okL p0) {g t : Nat} (h1 : g < 40) (h2 : t < 40) {ax up : Bool} : bm_Rd l yX2_wayToBorder wsX2_wayToBorder ({ frames := 1, cells := 0, slots := 0, locals := 21 }) D vwCl [(cJ, .long), (cI, .int), (cZ, .boolean)] (Wd ad cJ cI cZ bm pa p0 p1 p2 li wi) [.ref (ad 8), .int (nI g), .int (nI t), .int (bm_b ax), .int (bm_b up)] (.long (q_way pa p0 g t ax up)) := by
  refine Met.ofW (cc := cX2_wayToBorder) (maxL := 5) (ret := (some .long)) (by decide) rfl ?_
  intro p e s m args below meth c s₁ B hml hv
  obtain ⟨ha, hP, hK⟩ := hv
  have hx := B.exec
  have hb := B.bytes
  have hr := B.returns
  have hts := atoms_spec (ws := wsX2_wayToBorder) B.pre
  have hown : s.vm.findClass RX2 = some m.cls := findClass_of_methodNamed B.named
  have hlocks := B.notSynchronized
  have hl := lv_entry ([.ref (ad 8), .int (nI g), .int (nI t), .int (bm_b ax), .int (bm_b up)]) (n := 5) (Nat.le_of_ble_eq_true rfl)
  refine W.eq (g2 := entryFrame m ([.ref (ad 8), .int (nI g), .int (nI t), .int (bm_b ax), .int (bm_b up)] : List Value).toArray 5) (by rw [ha]) ?_
  rw [lg_entry_eq]
  generalize (lg_sl ([.ref (ad 8), .int (nI g), .int (nI t), .int (bm_b ax), .int (bm_b up)]) ++ List.replicate (5 - (lg_sl ([.ref (ad 8), .int (nI g), .int (nI t), .int (bm_b ax), .int (bm_b up)])).length) Slot.unset).toArray = ls at hl ⊢
  have hl : lv_has ls 5 [(0, .ref (ad 8)), (1, .int (nI g)), (2, .int (nI t)), (3, .int (bm_b ax)), (4, .int (bm_b up))] := hl
  refine lv_iload_n hx hb dX2_wayToBorder_0 rfl (lv_at hl 3 rfl) ?_
  refine bm_zb_eq (x := ax) (tgt := 37) hx hb dX2_wayToBorder_1 (by decide) (fun c_1 => ?_) (fun c_1 => ?_)
  · refine lv_iload hx hb dX2_wayToBorder_37 (lv_at hl 4 rfl) ?_
    refine bm_zb_eq (x := up) (tgt := 57) hx hb dX2_wayToBorder_39 (by decide) (fun c_2 => ?_) (fun c_2 => ?_)
    · refine lv_aload_n hx hb dX2_wayToBorder_57 rfl (lv_at hl 0 rfl) ?_
      refine va_get (D := D) (ci := 2) (v := .ref (ad 10)) (C := RX2) (T := TX2) (N := 5) hx hb hts (inT inX2) hown hK hP 8 rfl rfl 2 (by decide) (hts (.fieldLink RX2 15 "BoardMoves$Placement" "y" "[J") (by decide +kernel)) (fun _ h9 => h9) rfl dX2_wayToBorder_58 ?_
      refine lv_iload_n hx hb dX2_wayToBorder_61 rfl (lv_at hl 2 rfl) ?_
      refine bm_lald (f := p0.2.1) hx hb hK hP 10 0 rfl rfl (j := t) (by omega) (by decide) dX2_wayToBorder_62 ?_
      refine lv_aload_n hx hb dX2_wayToBorder_63 rfl (lv_at hl 0 rfl) ?_
      refine lv_iload_n hx hb dX2_wayToBorder_64 rfl (lv_at hl 1 rfl) ?_
      refine bm_rcallV (As := [.int (nI g)]) (rest := [.long (p0.2.1 t)]) ⟨hx, hb, hml, hown, hts⟩ (r_endY (j := g) hoL (by omega)) (cwV 1 hts (gdV (by decide +kernel) (by decide +kernel) (by decide +kernel) (by decide +kernel) (by decide +kernel)) rfl rfl rfl (by decide +kernel) ⟨Nat.le_of_ble_eq_true rfl, Nat.le_of_ble_eq_true rfl⟩) hK hP 8 2 rfl rfl rfl hl.1 rfl (Nat.le_of_ble_eq_true rfl) dX2_wayToBorder_65 ⟨Nat.le_of_ble_eq_true rfl, Nat.le_of_ble_eq_true rfl⟩ ?_
      refine lv_lsub hx hb dX2_wayToBorder_68 ?_
      exact bm_lretR (v := ((p0.2.1 t) - (q_endY pa p0 g))) hx hb hr (by simp [q_way, c_1, c_2]) dX2_wayToBorder_69 hlocks
    · refine lv_aload_n hx hb dX2_wayToBorder_42 rfl (lv_at hl 0 rfl) ?_
      refine lv_iload_n hx hb dX2_wayToBorder_43 rfl (lv_at hl 2 rfl) ?_
      refine bm_rcallV (As := [.int (nI t)]) (rest := []) ⟨hx, hb, hml, hown, hts⟩ (r_endY (j := t) hoL (by omega)) (cwV 1 hts (gdV (by decide +kernel) (by decide +kernel) (by decide +kernel) (by decide +kernel) (by decide +kernel)) rfl rfl rfl (by decide +kernel) ⟨Nat.le_of_ble_eq_true rfl, Nat.le_of_ble_eq_true rfl⟩) hK hP 8 2 rfl rfl rfl hl.1 rfl (Nat.le_of_ble_eq_true rfl) dX2_wayToBorder_44 ⟨Nat.le_of_ble_eq_true rfl, Nat.le_of_ble_eq_true rfl⟩ ?_
      refine lv_aload_n hx hb dX2_wayToBorder_47 rfl (lv_at hl 0 rfl) ?_
      refine va_get (D := D) (ci := 2) (v := .ref (ad 10)) (C := RX2) (T := TX2) (N := 5) hx hb hts (inT inX2) hown hK hP 8 rfl rfl 2 (by decide) (hts (.fieldLink RX2 15 "BoardMoves$Placement" "y" "[J") (by decide +kernel)) (fun _ h9 => h9) rfl dX2_wayToBorder_48 ?_
      refine lv_iload_n hx hb dX2_wayToBorder_51 rfl (lv_at hl 1 rfl) ?_
      refine bm_lald (f := p0.2.1) hx hb hK hP 10 0 rfl rfl (j := g) (by omega) (by decide) dX2_wayToBorder_52 ?_
      refine lv_lsub hx hb dX2_wayToBorder_53 ?_
      refine lv_goto (tgt := 69) hx hb dX2_wayToBorder_54 (by decide) ?_
      exact bm_lretR (v := ((q_endY pa p0 t) - (p0.2.1 g))) hx hb hr (by simp [q_way, c_1, c_2]) dX2_wayToBorder_69 hlocks
  · refine lv_iload hx hb dX2_wayToBorder_4 (lv_at hl 4 rfl) ?_
    refine bm_zb_eq (x := up) (tgt := 24) hx hb dX2_wayToBorder_6 (by decide) (fun c_3 => ?_) (fun c_3 => ?_)
    · refine lv_aload_n hx hb dX2_wayToBorder_24 rfl (lv_at hl 0 rfl) ?_
      refine va_get (D := D) (ci := 2) (v := .ref (ad 9)) (C := RX2) (T := TX2) (N := 5) hx hb hts (inT inX2) hown hK hP 8 rfl rfl 1 (by decide) (hts (.fieldLink RX2 9 "BoardMoves$Placement" "x" "[J") (by decide +kernel)) (fun _ h9 => h9) rfl dX2_wayToBorder_25 ?_
      refine lv_iload_n hx hb dX2_wayToBorder_28 rfl (lv_at hl 2 rfl) ?_
      refine bm_lald (f := p0.1) hx hb hK hP 9 0 rfl rfl (j := t) (by omega) (by decide) dX2_wayToBorder_29 ?_
      refine lv_aload_n hx hb dX2_wayToBorder_30 rfl (lv_at hl 0 rfl) ?_
      refine lv_iload_n hx hb dX2_wayToBorder_31 rfl (lv_at hl 1 rfl) ?_
      refine bm_rcallV (As := [.int (nI g)]) (rest := [.long (p0.1 t)]) ⟨hx, hb, hml, hown, hts⟩ (r_endX (j := g) hoL (by omega)) (cwV 1 hts (gdV (by decide +kernel) (by decide +kernel) (by decide +kernel) (by decide +kernel) (by decide +kernel)) rfl rfl rfl (by decide +kernel) ⟨Nat.le_of_ble_eq_true rfl, Nat.le_of_ble_eq_true rfl⟩) hK hP 8 2 rfl rfl rfl hl.1 rfl (Nat.le_of_ble_eq_true rfl) dX2_wayToBorder_32 ⟨Nat.le_of_ble_eq_true rfl, Nat.le_of_ble_eq_true rfl⟩ ?_
      refine lv_lsub hx hb dX2_wayToBorder_35 ?_
      exact bm_lretR (v := ((p0.1 t) - (q_endX pa p0 g))) hx hb hr (by simp [q_way, c_1, c_3]) dX2_wayToBorder_36 hlocks
    · refine lv_aload_n hx hb dX2_wayToBorder_9 rfl (lv_at hl 0 rfl) ?_
      refine lv_iload_n hx hb dX2_wayToBorder_10 rfl (lv_at hl 2 rfl) ?_
      refine bm_rcallV (As := [.int (nI t)]) (rest := []) ⟨hx, hb, hml, hown, hts⟩ (r_endX (j := t) hoL (by omega)) (cwV 1 hts (gdV (by decide +kernel) (by decide +kernel) (by decide +kernel) (by decide +kernel) (by decide +kernel)) rfl rfl rfl (by decide +kernel) ⟨Nat.le_of_ble_eq_true rfl, Nat.le_of_ble_eq_true rfl⟩) hK hP 8 2 rfl rfl rfl hl.1 rfl (Nat.le_of_ble_eq_true rfl) dX2_wayToBorder_11 ⟨Nat.le_of_ble_eq_true rfl, Nat.le_of_ble_eq_true rfl⟩ ?_
      refine lv_aload_n hx hb dX2_wayToBorder_14 rfl (lv_at hl 0 rfl) ?_
      refine va_get (D := D) (ci := 2) (v := .ref (ad 9)) (C := RX2) (T := TX2) (N := 5) hx hb hts (inT inX2) hown hK hP 8 rfl rfl 1 (by decide) (hts (.fieldLink RX2 9 "BoardMoves$Placement" "x" "[J") (by decide +kernel)) (fun _ h9 => h9) rfl dX2_wayToBorder_15 ?_
      refine lv_iload_n hx hb dX2_wayToBorder_18 rfl (lv_at hl 1 rfl) ?_
      refine bm_lald (f := p0.1) hx hb hK hP 9 0 rfl rfl (j := g) (by omega) (by decide) dX2_wayToBorder_19 ?_
      refine lv_lsub hx hb dX2_wayToBorder_20 ?_
      refine lv_goto (tgt := 36) hx hb dX2_wayToBorder_21 (by decide) ?_
      exact bm_lretR (v := ((q_endX pa p0 t) - (p0.1 g))) hx hb hr (by simp [q_way, c_1, c_3]) dX2_wayToBorder_36 hlocks
end
section
set_option maxHeartbeats 4000000 in
set_option maxRecDepth 100000 in
theorem r_near {l : Launch} {D : va_G} {ad : Nat → Nat} {cJ cI cZ : ClassId} {bm : gBM} {pa : gPA} {p0 p1 p2 : gPL} {li : gLI} {wi : gWI} (hoL : q_okL p0) {a b : Nat} (h1 : a < 40) (h2 : b < 40) {q : Int64} : bm_Rd l yX2_isNear wsX2_isNear ({ frames := 1, cells := 0, slots := 0, locals := 24 }) D vwCl [(cJ, .long), (cI, .int), (cZ, .boolean)] (Wd ad cJ cI cZ bm pa p0 p1 p2 li wi) [.ref (ad 8), .int (nI a), .int (nI b), .long q] (.int (bm_b (q_near pa p0 a b q))) := by
  refine Met.ofW (cc := cX2_isNear) (maxL := 9) (ret := (some .boolean)) (by decide) rfl ?_
  intro p e s m args below meth c s₁ B hml hv
  obtain ⟨ha, hP, hK⟩ := hv
  have hx := B.exec
  have hb := B.bytes
  have hr := B.returns
  have hts := atoms_spec (ws := wsX2_isNear) B.pre
  have hown : s.vm.findClass RX2 = some m.cls := findClass_of_methodNamed B.named
  have hlocks := B.notSynchronized
  have hl := lv_entry ([.ref (ad 8), .int (nI a), .int (nI b), .long q]) (n := 9) (Nat.le_of_ble_eq_true rfl)
  refine W.eq (g2 := entryFrame m ([.ref (ad 8), .int (nI a), .int (nI b), .long q] : List Value).toArray 9) (by rw [ha]) ?_
  rw [lg_entry_eq]
  generalize (lg_sl ([.ref (ad 8), .int (nI a), .int (nI b), .long q]) ++ List.replicate (9 - (lg_sl ([.ref (ad 8), .int (nI a), .int (nI b), .long q])).length) Slot.unset).toArray = ls at hl ⊢
  have hl : lv_has ls 9 [(0, .ref (ad 8)), (1, .int (nI a)), (2, .int (nI b)), (3, .long q)] := hl
  refine lv_aload_n hx hb dX2_isNear_0 rfl (lv_at hl 0 rfl) ?_
  refine va_get (D := D) (ci := 2) (v := .ref (ad 12)) (C := RX2) (T := TX2) (N := 5) hx hb hts (inT inX2) hown hK hP 8 rfl rfl 4 (by decide) (hts (.fieldLink RX2 22 "BoardMoves$Placement" "placed" "[Z") (by decide +kernel)) (fun _ h9 => h9) rfl dX2_isNear_1 ?_
  refine lv_iload_n hx hb dX2_isNear_4 rfl (lv_at hl 1 rfl) ?_
  refine bm_zald (f := p0.2.2.2) hx hb hK hP 12 2 rfl rfl (j := a) (by omega) (by decide) dX2_isNear_5 ?_
  refine bm_zb_eq (x := (p0.2.2.2 a)) (tgt := 18) hx hb dX2_isNear_6 (by decide) (fun c_1 => ?_) (fun c_1 => ?_)
  · refine lv_iconst (v := bm_b true) hx hb dX2_isNear_18 (by decide) ?_
    exact bm_zretR (v := true) hx hb hr (by simp [q_near, c_1]) dX2_isNear_19 hlocks
  · refine lv_aload_n hx hb dX2_isNear_9 rfl (lv_at hl 0 rfl) ?_
    refine va_get (D := D) (ci := 2) (v := .ref (ad 12)) (C := RX2) (T := TX2) (N := 5) hx hb hts (inT inX2) hown hK hP 8 rfl rfl 4 (by decide) (hts (.fieldLink RX2 22 "BoardMoves$Placement" "placed" "[Z") (by decide +kernel)) (fun _ h9 => h9) rfl dX2_isNear_10 ?_
    refine lv_iload_n hx hb dX2_isNear_13 rfl (lv_at hl 2 rfl) ?_
    refine bm_zald (f := p0.2.2.2) hx hb hK hP 12 2 rfl rfl (j := b) (by omega) (by decide) dX2_isNear_14 ?_
    refine bm_zb_ne (x := (p0.2.2.2 b)) (tgt := 20) hx hb dX2_isNear_15 (by decide) (fun c_2 => ?_) (fun c_2 => ?_)
    · refine lv_aload_n hx hb dX2_isNear_20 rfl (lv_at hl 0 rfl) ?_
      refine va_get (D := D) (ci := 2) (v := .ref (ad 9)) (C := RX2) (T := TX2) (N := 5) hx hb hts (inT inX2) hown hK hP 8 rfl rfl 1 (by decide) (hts (.fieldLink RX2 9 "BoardMoves$Placement" "x" "[J") (by decide +kernel)) (fun _ h9 => h9) rfl dX2_isNear_21 ?_
      refine lv_iload_n hx hb dX2_isNear_24 rfl (lv_at hl 1 rfl) ?_
      refine bm_lald (f := p0.1) hx hb hK hP 9 0 rfl rfl (j := a) (by omega) (by decide) dX2_isNear_25 ?_
      refine lv_aload_n hx hb dX2_isNear_26 rfl (lv_at hl 0 rfl) ?_
      refine va_get (D := D) (ci := 2) (v := .ref (ad 9)) (C := RX2) (T := TX2) (N := 5) hx hb hts (inT inX2) hown hK hP 8 rfl rfl 1 (by decide) (hts (.fieldLink RX2 9 "BoardMoves$Placement" "x" "[J") (by decide +kernel)) (fun _ h9 => h9) rfl dX2_isNear_27 ?_
      refine lv_iload_n hx hb dX2_isNear_30 rfl (lv_at hl 2 rfl) ?_
      refine bm_lald (f := p0.1) hx hb hK hP 9 0 rfl rfl (j := b) (by omega) (by decide) dX2_isNear_31 ?_
      refine bm_mmaxl hx hb (hml.trans hl.1.symm) hown (hts (.methodLink RX2 64 Lib.MathLoose.max_long.x) (by decide +kernel)) (hts (.static Lib.MathLoose.max_long.x) (by decide +kernel)) (hts (.initialized "java/lang/Math") (by decide +kernel)) (hts (.code Lib.MathLoose.max_long.x Lib.MathLoose.max_long.code 4 (some .long)) (by decide +kernel)) (Nat.le_of_ble_eq_true rfl) (Nat.le_of_ble_eq_true rfl) (Nat.zero_le _) (Nat.zero_le _) dX2_isNear_32 ?_
      refine lv_aload_n hx hb dX2_isNear_35 rfl (lv_at hl 0 rfl) ?_
      refine lv_iload_n hx hb dX2_isNear_36 rfl (lv_at hl 1 rfl) ?_
      refine bm_rcallV (As := [.int (nI a)]) (rest := [.long (q_max (p0.1 a) (p0.1 b))]) ⟨hx, hb, hml, hown, hts⟩ (r_endX (j := a) hoL (by omega)) (cwV 1 hts (gdV (by decide +kernel) (by decide +kernel) (by decide +kernel) (by decide +kernel) (by decide +kernel)) rfl rfl rfl (by decide +kernel) ⟨Nat.le_of_ble_eq_true rfl, Nat.le_of_ble_eq_true rfl⟩) hK hP 8 2 rfl rfl rfl hl.1 rfl (Nat.le_of_ble_eq_true rfl) dX2_isNear_37 ⟨Nat.le_of_ble_eq_true rfl, Nat.le_of_ble_eq_true rfl⟩ ?_
      refine lv_aload_n hx hb dX2_isNear_40 rfl (lv_at hl 0 rfl) ?_
      refine lv_iload_n hx hb dX2_isNear_41 rfl (lv_at hl 2 rfl) ?_
      refine bm_rcallV (As := [.int (nI b)]) (rest := [.long (q_endX pa p0 a), .long (q_max (p0.1 a) (p0.1 b))]) ⟨hx, hb, hml, hown, hts⟩ (r_endX (j := b) hoL (by omega)) (cwV 1 hts (gdV (by decide +kernel) (by decide +kernel) (by decide +kernel) (by decide +kernel) (by decide +kernel)) rfl rfl rfl (by decide +kernel) ⟨Nat.le_of_ble_eq_true rfl, Nat.le_of_ble_eq_true rfl⟩) hK hP 8 2 rfl rfl rfl hl.1 rfl (Nat.le_of_ble_eq_true rfl) dX2_isNear_42 ⟨Nat.le_of_ble_eq_true rfl, Nat.le_of_ble_eq_true rfl⟩ ?_
      refine bm_mminl hx hb (hml.trans hl.1.symm) hown (hts (.methodLink RX2 70 Lib.MathLoose.min_long.x) (by decide +kernel)) (hts (.static Lib.MathLoose.min_long.x) (by decide +kernel)) (hts (.initialized "java/lang/Math") (by decide +kernel)) (hts (.code Lib.MathLoose.min_long.x Lib.MathLoose.min_long.code 4 (some .long)) (by decide +kernel)) (Nat.le_of_ble_eq_true rfl) (Nat.le_of_ble_eq_true rfl) (Nat.zero_le _) (Nat.zero_le _) dX2_isNear_45 ?_
      refine lv_lsub hx hb dX2_isNear_48 ?_
      refine lv_lstore (lv' := [(5, .long ((q_max (p0.1 a) (p0.1 b)) - (q_min (q_endX pa p0 a) (q_endX pa p0 b)))), (0, .ref (ad 8)), (1, .int (nI a)), (2, .int (nI b)), (3, .long q)]) hx hb dX2_isNear_49 hl (by decide) rfl (fun ls hl => ?_)
      refine lv_aload_n hx hb dX2_isNear_51 rfl (lv_at hl 1 rfl) ?_
      refine va_get (D := D) (ci := 2) (v := .ref (ad 10)) (C := RX2) (T := TX2) (N := 5) hx hb hts (inT inX2) hown hK hP 8 rfl rfl 2 (by decide) (hts (.fieldLink RX2 15 "BoardMoves$Placement" "y" "[J") (by decide +kernel)) (fun _ h9 => h9) rfl dX2_isNear_52 ?_
      refine lv_iload_n hx hb dX2_isNear_55 rfl (lv_at hl 2 rfl) ?_
      refine bm_lald (f := p0.2.1) hx hb hK hP 10 0 rfl rfl (j := a) (by omega) (by decide) dX2_isNear_56 ?_
      refine lv_aload_n hx hb dX2_isNear_57 rfl (lv_at hl 1 rfl) ?_
      refine va_get (D := D) (ci := 2) (v := .ref (ad 10)) (C := RX2) (T := TX2) (N := 5) hx hb hts (inT inX2) hown hK hP 8 rfl rfl 2 (by decide) (hts (.fieldLink RX2 15 "BoardMoves$Placement" "y" "[J") (by decide +kernel)) (fun _ h9 => h9) rfl dX2_isNear_58 ?_
      refine lv_iload_n hx hb dX2_isNear_61 rfl (lv_at hl 3 rfl) ?_
      refine bm_lald (f := p0.2.1) hx hb hK hP 10 0 rfl rfl (j := b) (by omega) (by decide) dX2_isNear_62 ?_
      refine bm_mmaxl hx hb (hml.trans hl.1.symm) hown (hts (.methodLink RX2 64 Lib.MathLoose.max_long.x) (by decide +kernel)) (hts (.static Lib.MathLoose.max_long.x) (by decide +kernel)) (hts (.initialized "java/lang/Math") (by decide +kernel)) (hts (.code Lib.MathLoose.max_long.x Lib.MathLoose.max_long.code 4 (some .long)) (by decide +kernel)) (Nat.le_of_ble_eq_true rfl) (Nat.le_of_ble_eq_true rfl) (Nat.zero_le _) (Nat.zero_le _) dX2_isNear_63 ?_
      refine lv_aload_n hx hb dX2_isNear_66 rfl (lv_at hl 1 rfl) ?_
      refine lv_iload_n hx hb dX2_isNear_67 rfl (lv_at hl 2 rfl) ?_
      refine bm_rcallV (As := [.int (nI a)]) (rest := [.long (q_max (p0.2.1 a) (p0.2.1 b))]) ⟨hx, hb, hml, hown, hts⟩ (r_endY (j := a) hoL (by omega)) (cwV 1 hts (gdV (by decide +kernel) (by decide +kernel) (by decide +kernel) (by decide +kernel) (by decide +kernel)) rfl rfl rfl (by decide +kernel) ⟨Nat.le_of_ble_eq_true rfl, Nat.le_of_ble_eq_true rfl⟩) hK hP 8 2 rfl rfl rfl hl.1 rfl (Nat.le_of_ble_eq_true rfl) dX2_isNear_68 ⟨Nat.le_of_ble_eq_true rfl, Nat.le_of_ble_eq_true rfl⟩ ?_
      refine lv_aload_n hx hb dX2_isNear_71 rfl (lv_at hl 1 rfl) ?_
      refine lv_iload_n hx hb dX2_isNear_72 rfl (lv_at hl 3 rfl) ?_
      refine bm_rcallV (As := [.int (nI b)]) (rest := [.long (q_endY pa p0 a), .long (q_max (p0.2.1 a) (p0.2.1 b))]) ⟨hx, hb, hml, hown, hts⟩ (r_endY (j := b) hoL (by omega)) (cwV 1 hts (gdV (by decide +kernel) (by decide +kernel) (by decide +kernel) (by decide +kernel) (by decide +kernel)) rfl rfl rfl (by decide +kernel) ⟨Nat.le_of_ble_eq_true rfl, Nat.le_of_ble_eq_true rfl⟩) hK hP 8 2 rfl rfl rfl hl.1 rfl (Nat.le_of_ble_eq_true rfl) dX2_isNear_73 ⟨Nat.le_of_ble_eq_true rfl, Nat.le_of_ble_eq_true rfl⟩ ?_
      refine bm_mminl hx hb (hml.trans hl.1.symm) hown (hts (.methodLink RX2 70 Lib.MathLoose.min_long.x) (by decide +kernel)) (hts (.static Lib.MathLoose.min_long.x) (by decide +kernel)) (hts (.initialized "java/lang/Math") (by decide +kernel)) (hts (.code Lib.MathLoose.min_long.x Lib.MathLoose.min_long.code 4 (some .long)) (by decide +kernel)) (Nat.le_of_ble_eq_true rfl) (Nat.le_of_ble_eq_true rfl) (Nat.zero_le _) (Nat.zero_le _) dX2_isNear_76 ?_
      refine lv_lsub hx hb dX2_isNear_79 ?_
      refine lv_lstore (lv' := [(7, .long ((q_max (p0.2.1 a) (p0.2.1 b)) - (q_min (q_endY pa p0 a) (q_endY pa p0 b)))), (5, .long ((q_max (p0.1 a) (p0.1 b)) - (q_min (q_endX pa p0 a) (q_endX pa p0 b)))), (0, .ref (ad 8)), (1, .int (nI a)), (2, .int (nI b)), (3, .long q)]) hx hb dX2_isNear_80 hl (by decide) rfl (fun ls hl => ?_)
      refine lv_lconst (v := 0) hx hb dX2_isNear_82 (by decide) ?_
      refine lv_lload hx hb dX2_isNear_83 (lv_at hl 1 rfl) ?_
      refine bm_mmaxl hx hb (hml.trans hl.1.symm) hown (hts (.methodLink RX2 64 Lib.MathLoose.max_long.x) (by decide +kernel)) (hts (.static Lib.MathLoose.max_long.x) (by decide +kernel)) (hts (.initialized "java/lang/Math") (by decide +kernel)) (hts (.code Lib.MathLoose.max_long.x Lib.MathLoose.max_long.code 4 (some .long)) (by decide +kernel)) (Nat.le_of_ble_eq_true rfl) (Nat.le_of_ble_eq_true rfl) (Nat.zero_le _) (Nat.zero_le _) dX2_isNear_85 ?_
      refine lv_lconst (v := 0) hx hb dX2_isNear_88 (by decide) ?_
      refine lv_lload hx hb dX2_isNear_89 (lv_at hl 0 rfl) ?_
      refine bm_mmaxl hx hb (hml.trans hl.1.symm) hown (hts (.methodLink RX2 64 Lib.MathLoose.max_long.x) (by decide +kernel)) (hts (.static Lib.MathLoose.max_long.x) (by decide +kernel)) (hts (.initialized "java/lang/Math") (by decide +kernel)) (hts (.code Lib.MathLoose.max_long.x Lib.MathLoose.max_long.code 4 (some .long)) (by decide +kernel)) (Nat.le_of_ble_eq_true rfl) (Nat.le_of_ble_eq_true rfl) (Nat.zero_le _) (Nat.zero_le _) dX2_isNear_91 ?_
      refine lv_ladd hx hb dX2_isNear_94 ?_
      refine lv_lload_n hx hb dX2_isNear_95 rfl (lv_at hl 5 rfl) ?_
      refine bm_lc_gt (x := ((q_max 0 ((q_max (p0.1 a) (p0.1 b)) - (q_min (q_endX pa p0 a) (q_endX pa p0 b)))) + (q_max 0 ((q_max (p0.2.1 a) (p0.2.1 b)) - (q_min (q_endY pa p0 a) (q_endY pa p0 b)))))) (y := q) (tgt := 104) hx hb dX2_isNear_96 dX2_isNear_97 (by decide) (fun c_3 => ?_) (fun c_3 => ?_)
      · refine lv_iconst (v := bm_b false) hx hb dX2_isNear_104 (by decide) ?_
        exact bm_zretR (v := false) hx hb hr (by simp [q_near, c_1, c_2, c_3]) dX2_isNear_105 hlocks
      · refine lv_iconst (v := bm_b true) hx hb dX2_isNear_100 (by decide) ?_
        refine lv_goto (tgt := 105) hx hb dX2_isNear_101 (by decide) ?_
        exact bm_zretR (v := true) hx hb hr (by simp [q_near, c_1, c_2, c_3]) dX2_isNear_105 hlocks
    · refine lv_iconst (v := bm_b true) hx hb dX2_isNear_18 (by decide) ?_
      exact bm_zretR (v := true) hx hb hr (by simp [q_near, c_1, c_2]) dX2_isNear_19 hlocks
end
section
set_option maxHeartbeats 4000000 in
set_option maxRecDepth 100000 in
theorem r_low {l : Launch} {D : va_G} {ad : Nat → Nat} {cJ cI cZ : ClassId} {bm : gBM} {pa : gPA} {p0 p1 p2 : gPL} {li : gLI} {wi : gWI} (hoL : q_okL p0) (hoI : q_okI li) {j : Nat} (h1 : j < 40) : bm_Rd l yX0_isLowEnough wsX0_isLowEnough ({ frames := 2, cells := 0, slots := 0, locals := 50 }) D vwCl [(cJ, .long), (cI, .int), (cZ, .boolean)] (Wd ad cJ cI cZ bm pa p0 p1 p2 li wi) [.ref (ad 23), .ref (ad 8), .int (nI j)] (.int (bm_b (q_low pa p0 li j))) := by
  obtain ⟨hon, hot, hko, hne⟩ := hoI
  refine Met.ofW (cc := cX0_isLowEnough) (maxL := 4) (ret := (some .boolean)) (by decide) rfl ?_
  intro p e s m args below meth c s₁ B hml hv
  obtain ⟨ha, hP, hK⟩ := hv
  have hx := B.exec
  have hb := B.bytes
  have hr := B.returns
  have hts := atoms_spec (ws := wsX0_isLowEnough) B.pre
  have hown : s.vm.findClass RX0 = some m.cls := findClass_of_methodNamed B.named
  have hlocks := B.notSynchronized
  have lp : ∀ (k : Nat) (i : Nat), i ≤ 10 → 10 + 1 < i + k → q_find (q_tooTall pa p0 li j) (li.2.2.2.2.2.2.2.2.1 - i) i = q_find (q_tooTall pa p0 li j) (li.2.2.2.2.2.2.2.2.1 - 0) 0 → ∀ (ls : Array Slot), lv_has ls 4 [(0, .ref (ad 23)), (1, .ref (ad 8)), (2, .int (nI j)), (3, .int (nI i))] → W p l e (headSpec wsX0_isLowEnough ({ frames := 2, cells := 0, slots := 0, locals := 50 })).room s m args below meth c s.heap [] 0 0 (MQ below (k2_QcV (.int (bm_b (q_low pa p0 li j)))) args s 0 0 (fun _ => False)) (F0 m 2 ls []) := by
    intro k
    induction k with
    | zero => intro i hi hk he; exfalso; omega
    | succ k ih =>
      intro i hi hk he ls hl
      refine lv_iload_n hx hb dX0_isLowEnough_2 rfl (lv_at hl 3 rfl) ?_
      refine lv_aload_n hx hb dX0_isLowEnough_3 rfl (lv_at hl 0 rfl) ?_
      refine va_get (D := D) (ci := 0) (v := .int (nI li.2.2.2.2.2.2.2.2.1)) (C := RX0) (T := TX0) (N := 11) hx hb hts (inT inX0) hown hK hP 23 rfl rfl 9 (by decide) (hts (.fieldLink RX0 37 "BoardMoves$Limits" "keepOuts" "I") (by decide +kernel)) (fun _ h9 => h9) rfl dX0_isLowEnough_4 ?_
      refine bm_ni_ge (x := i) (y := li.2.2.2.2.2.2.2.2.1) (tgt := 69) hx hb (by omega) (by omega) dX0_isLowEnough_7 (by decide) (fun c_1 => ?_) (fun c_1 => ?_)
      · refine lv_iconst (v := bm_b true) hx hb dX0_isLowEnough_69 (by decide) ?_
        exact bm_zretR (v := true) hx hb hr (by rw [q_low, ← he, q_find_end (by assumption)]; rfl) dX0_isLowEnough_70 hlocks
      · refine lv_aload_n hx hb dX0_isLowEnough_10 rfl (lv_at hl 0 rfl) ?_
        refine va_get (D := D) (ci := 0) (v := .ref (ad 1)) (C := RX0) (T := TX0) (N := 11) hx hb hts (inT inX0) hown hK hP 23 rfl rfl 0 (by decide) (hts (.fieldLink RX0 44 "BoardMoves$Limits" "parts" "LBoardMoves$Parts;") (by decide +kernel)) (fun _ h9 => h9) rfl dX0_isLowEnough_11 ?_
        refine va_get (D := D) (ci := 1) (v := .ref (ad 5)) (C := RX1) (T := TX1) (N := 7) hx hb hts (inT inX1) hown hK hP 1 rfl rfl 3 (by decide) (hts (.fieldLink RX0 48 "BoardMoves$Parts" "tall" "[J") (by decide +kernel)) (fun _ h9 => h9) rfl dX0_isLowEnough_14 ?_
        refine lv_iload_n hx hb dX0_isLowEnough_17 rfl (lv_at hl 2 rfl) ?_
        refine bm_lald (f := pa.2.2.2.1) hx hb hK hP 5 0 rfl rfl (j := j) (by omega) (by decide) dX0_isLowEnough_18 ?_
        refine lv_aload_n hx hb dX0_isLowEnough_19 rfl (lv_at hl 0 rfl) ?_
        refine va_get (D := D) (ci := 0) (v := .ref (ad 28)) (C := RX0) (T := TX0) (N := 11) hx hb hts (inT inX0) hown hK hP 23 rfl rfl 5 (by decide) (hts (.fieldLink RX0 24 "BoardMoves$Limits" "tallest" "[J") (by decide +kernel)) (fun _ h9 => h9) rfl dX0_isLowEnough_20 ?_
        refine lv_iload_n hx hb dX0_isLowEnough_23 rfl (lv_at hl 3 rfl) ?_
        refine bm_lald (f := li.2.2.2.2.1) hx hb hK hP 28 0 rfl rfl (j := i) (by omega) (by decide) dX0_isLowEnough_24 ?_
        refine bm_lc_le (x := (pa.2.2.2.1 j)) (y := (li.2.2.2.2.1 i)) (tgt := 63) hx hb dX0_isLowEnough_25 dX0_isLowEnough_26 (by decide) (fun c_2 => ?_) (fun c_2 => ?_)
        · refine lv_iinc (v := (nI (i + 1))) (lv' := [(3, .int (nI (i + 1))), (0, .ref (ad 23)), (1, .ref (ad 8)), (2, .int (nI j))]) hx hb dX0_isLowEnough_63 hl (k := 3) rfl (nI_1 i) (by decide) rfl (fun ls hl => ?_)
          refine lv_goto (tgt := 2) hx hb dX0_isLowEnough_66 (by decide) ?_
          exact ih (i + 1) (by omega) (by omega) (by rw [← he]; exact q_find_go (by assumption) (by simp [q_tooTall, c_2]; done)) _ (lv_sub hl [1, 2, 3, 0] rfl)
        · refine lv_aload_n hx hb dX0_isLowEnough_29 rfl (lv_at hl 1 rfl) ?_
          refine lv_iload_n hx hb dX0_isLowEnough_30 rfl (lv_at hl 2 rfl) ?_
          refine lv_aload_n hx hb dX0_isLowEnough_31 rfl (lv_at hl 0 rfl) ?_
          refine va_get (D := D) (ci := 0) (v := .ref (ad 24)) (C := RX0) (T := TX0) (N := 11) hx hb hts (inT inX0) hown hK hP 23 rfl rfl 1 (by decide) (hts (.fieldLink RX0 9 "BoardMoves$Limits" "x0" "[J") (by decide +kernel)) (fun _ h9 => h9) rfl dX0_isLowEnough_32 ?_
          refine lv_iload_n hx hb dX0_isLowEnough_35 rfl (lv_at hl 3 rfl) ?_
          refine bm_lald (f := li.1) hx hb hK hP 24 0 rfl rfl (j := i) (by omega) (by decide) dX0_isLowEnough_36 ?_
          refine lv_aload_n hx hb dX0_isLowEnough_37 rfl (lv_at hl 0 rfl) ?_
          refine va_get (D := D) (ci := 0) (v := .ref (ad 25)) (C := RX0) (T := TX0) (N := 11) hx hb hts (inT inX0) hown hK hP 23 rfl rfl 2 (by decide) (hts (.fieldLink RX0 15 "BoardMoves$Limits" "y0" "[J") (by decide +kernel)) (fun _ h9 => h9) rfl dX0_isLowEnough_38 ?_
          refine lv_iload_n hx hb dX0_isLowEnough_41 rfl (lv_at hl 3 rfl) ?_
          refine bm_lald (f := li.2.1) hx hb hK hP 25 0 rfl rfl (j := i) (by omega) (by decide) dX0_isLowEnough_42 ?_
          refine lv_aload_n hx hb dX0_isLowEnough_43 rfl (lv_at hl 0 rfl) ?_
          refine va_get (D := D) (ci := 0) (v := .ref (ad 26)) (C := RX0) (T := TX0) (N := 11) hx hb hts (inT inX0) hown hK hP 23 rfl rfl 3 (by decide) (hts (.fieldLink RX0 18 "BoardMoves$Limits" "x1" "[J") (by decide +kernel)) (fun _ h9 => h9) rfl dX0_isLowEnough_44 ?_
          refine lv_iload_n hx hb dX0_isLowEnough_47 rfl (lv_at hl 3 rfl) ?_
          refine bm_lald (f := li.2.2.1) hx hb hK hP 26 0 rfl rfl (j := i) (by omega) (by decide) dX0_isLowEnough_48 ?_
          refine lv_aload_n hx hb dX0_isLowEnough_49 rfl (lv_at hl 0 rfl) ?_
          refine va_get (D := D) (ci := 0) (v := .ref (ad 27)) (C := RX0) (T := TX0) (N := 11) hx hb hts (inT inX0) hown hK hP 23 rfl rfl 4 (by decide) (hts (.fieldLink RX0 21 "BoardMoves$Limits" "y1" "[J") (by decide +kernel)) (fun _ h9 => h9) rfl dX0_isLowEnough_50 ?_
          refine lv_iload_n hx hb dX0_isLowEnough_53 rfl (lv_at hl 3 rfl) ?_
          refine bm_lald (f := li.2.2.2.1) hx hb hK hP 27 0 rfl rfl (j := i) (by omega) (by decide) dX0_isLowEnough_54 ?_
          refine bm_rcallV (As := [.int (nI j), .long (li.1 i), .long (li.2.1 i), .long (li.2.2.1 i), .long (li.2.2.2.1 i)]) (rest := []) ⟨hx, hb, hml, hown, hts⟩ (r_meets (j := j) hoL (by omega)) (cwV 5 hts (gdV (by decide +kernel) (by decide +kernel) (by decide +kernel) (by decide +kernel) (by decide +kernel)) rfl rfl rfl (by decide +kernel) ⟨Nat.le_of_ble_eq_true rfl, Nat.le_of_ble_eq_true rfl⟩) hK hP 8 2 rfl rfl rfl hl.1 rfl (Nat.le_of_ble_eq_true rfl) dX0_isLowEnough_55 ⟨Nat.le_of_ble_eq_true rfl, Nat.le_of_ble_eq_true rfl⟩ ?_
          refine bm_zb_eq (x := (q_meets pa p0 j (li.1 i) (li.2.1 i) (li.2.2.1 i) (li.2.2.2.1 i))) (tgt := 63) hx hb dX0_isLowEnough_58 (by decide) (fun c_3 => ?_) (fun c_3 => ?_)
          · refine lv_iinc (v := (nI (i + 1))) (lv' := [(3, .int (nI (i + 1))), (0, .ref (ad 23)), (1, .ref (ad 8)), (2, .int (nI j))]) hx hb dX0_isLowEnough_63 hl (k := 3) rfl (nI_1 i) (by decide) rfl (fun ls hl => ?_)
            refine lv_goto (tgt := 2) hx hb dX0_isLowEnough_66 (by decide) ?_
            exact ih (i + 1) (by omega) (by omega) (by rw [← he]; exact q_find_go (by assumption) (by first | (simp [q_tooTall, c_2, c_3]; done) | (simp only [q_tooTall]; rw [c_3]; simp [c_2]; done))) _ (lv_sub hl [1, 2, 3, 0] rfl)
          · refine lv_iconst (v := bm_b false) hx hb dX0_isLowEnough_61 (by decide) ?_
            exact bm_zretR (v := false) hx hb hr (by rw [q_low, ← he, q_find_hit (by assumption) (by first | (simp [q_tooTall, c_2, c_3]; done) | (simp only [q_tooTall]; rw [c_3]; simp [c_2]; done))]; rfl) dX0_isLowEnough_62 hlocks
  have hl := lv_entry ([.ref (ad 23), .ref (ad 8), .int (nI j)]) (n := 4) (Nat.le_of_ble_eq_true rfl)
  refine W.eq (g2 := entryFrame m ([.ref (ad 23), .ref (ad 8), .int (nI j)] : List Value).toArray 4) (by rw [ha]) ?_
  rw [lg_entry_eq]
  generalize (lg_sl ([.ref (ad 23), .ref (ad 8), .int (nI j)]) ++ List.replicate (4 - (lg_sl ([.ref (ad 23), .ref (ad 8), .int (nI j)])).length) Slot.unset).toArray = ls at hl ⊢
  have hl : lv_has ls 4 [(0, .ref (ad 23)), (1, .ref (ad 8)), (2, .int (nI j))] := hl
  refine lv_iconst (v := nI 0) hx hb dX0_isLowEnough_0 (by decide) ?_
  refine lv_istore_n (lv' := [(3, .int (nI 0)), (0, .ref (ad 23)), (1, .ref (ad 8)), (2, .int (nI j))]) hx hb dX0_isLowEnough_1 rfl hl (by decide) rfl (fun ls hl => ?_)
  exact lp 12 0 (by omega) (by omega) rfl _ (lv_sub hl [1, 2, 3, 0] rfl)
end
section
set_option maxHeartbeats 4000000 in
set_option maxRecDepth 100000 in
theorem r_nears {l : Launch} {D : va_G} {ad : Nat → Nat} {cJ cI cZ : ClassId} {bm : gBM} {pa : gPA} {p0 p1 p2 : gPL} {li : gLI} {wi : gWI} (hoL : q_okL p0) (hoI : q_okI li) {j : Nat} (h1 : j < 40) : bm_Rd l yX0_isNearEnough wsX0_isNearEnough ({ frames := 2, cells := 0, slots := 0, locals := 52 }) D vwCl [(cJ, .long), (cI, .int), (cZ, .boolean)] (Wd ad cJ cI cZ bm pa p0 p1 p2 li wi) [.ref (ad 23), .ref (ad 8), .int (nI j)] (.int (bm_b (q_nears pa p0 li j))) := by
  obtain ⟨hon, hot, hko, hne⟩ := hoI
  refine Met.ofW (cc := cX0_isNearEnough) (maxL := 5) (ret := (some .boolean)) (by decide) rfl ?_
  intro p e s m args below meth c s₁ B hml hv
  obtain ⟨ha, hP, hK⟩ := hv
  have hx := B.exec
  have hb := B.bytes
  have hr := B.returns
  have hts := atoms_spec (ws := wsX0_isNearEnough) B.pre
  have hown : s.vm.findClass RX0 = some m.cls := findClass_of_methodNamed B.named
  have hlocks := B.notSynchronized
  have lp : ∀ (k : Nat) (i : Nat), i ≤ 20 → 20 + 1 < i + k → q_find (q_tooFar pa p0 li j) (li.2.2.2.2.2.2.2.2.2 - i) i = q_find (q_tooFar pa p0 li j) (li.2.2.2.2.2.2.2.2.2 - 0) 0 → ∀ (ls : Array Slot), lv_has ls 5 [(0, .ref (ad 23)), (1, .ref (ad 8)), (2, .int (nI j)), (3, .int (nI i))] → W p l e (headSpec wsX0_isNearEnough ({ frames := 2, cells := 0, slots := 0, locals := 52 })).room s m args below meth c s.heap [] 0 0 (MQ below (k2_QcV (.int (bm_b (q_nears pa p0 li j)))) args s 0 0 (fun _ => False)) (F0 m 2 ls []) := by
    intro k
    induction k with
    | zero => intro i hi hk he; exfalso; omega
    | succ k ih =>
      intro i hi hk he ls hl
      refine lv_iload_n hx hb dX0_isNearEnough_2 rfl (lv_at hl 3 rfl) ?_
      refine lv_aload_n hx hb dX0_isNearEnough_3 rfl (lv_at hl 0 rfl) ?_
      refine va_get (D := D) (ci := 0) (v := .int (nI li.2.2.2.2.2.2.2.2.2)) (C := RX0) (T := TX0) (N := 11) hx hb hts (inT inX0) hown hK hP 23 rfl rfl 10 (by decide) (hts (.fieldLink RX0 41 "BoardMoves$Limits" "nears" "I") (by decide +kernel)) (fun _ h9 => h9) rfl dX0_isNearEnough_4 ?_
      refine bm_ni_ge (x := i) (y := li.2.2.2.2.2.2.2.2.2) (tgt := 75) hx hb (by omega) (by omega) dX0_isNearEnough_7 (by decide) (fun c_1 => ?_) (fun c_1 => ?_)
      · refine lv_iconst (v := bm_b true) hx hb dX0_isNearEnough_75 (by decide) ?_
        exact bm_zretR (v := true) hx hb hr (by rw [q_nears, ← he, q_find_end (by assumption)]; rfl) dX0_isNearEnough_76 hlocks
      · refine lv_aload_n hx hb dX0_isNearEnough_10 rfl (lv_at hl 0 rfl) ?_
        refine va_get (D := D) (ci := 0) (v := .ref (ad 29)) (C := RX0) (T := TX0) (N := 11) hx hb hts (inT inX0) hown hK hP 23 rfl rfl 6 (by decide) (hts (.fieldLink RX0 27 "BoardMoves$Limits" "one" "[I") (by decide +kernel)) (fun _ h9 => h9) rfl dX0_isNearEnough_11 ?_
        refine lv_iload_n hx hb dX0_isNearEnough_14 rfl (lv_at hl 3 rfl) ?_
        refine bm_nald (f := li.2.2.2.2.2.1) hx hb hK hP 29 1 rfl rfl (j := i) (by omega) (by decide) dX0_isNearEnough_15 ?_
        refine lv_iload_n hx hb dX0_isNearEnough_16 rfl (lv_at hl 2 rfl) ?_
        refine bm_ni_eq (x := (li.2.2.2.2.2.1 i)) (y := j) (tgt := 30) hx hb (bm40 (hon _)) (by omega) dX0_isNearEnough_17 (by decide) (fun c_2 => ?_) (fun c_2 => ?_)
        · refine lv_iconst (v := bm_b true) hx hb dX0_isNearEnough_30 (by decide) ?_
          refine lv_goto (tgt := 35) hx hb dX0_isNearEnough_31 (by decide) ?_
          refine lv_istore (lv' := [(4, .int (bm_b true)), (0, .ref (ad 23)), (1, .ref (ad 8)), (2, .int (nI j)), (3, .int (nI i))]) hx hb dX0_isNearEnough_35 hl (by decide) rfl (fun ls hl => ?_)
          refine lv_iload hx hb dX0_isNearEnough_37 (lv_at hl 0 rfl) ?_
          refine bm_zb_eq (x := true) (tgt := 69) hx hb dX0_isNearEnough_39 (by decide) (fun c_3 => ?_) (fun c_3 => ?_)
          · exact absurd c_3 (by decide)
          · refine lv_aload_n hx hb dX0_isNearEnough_42 rfl (lv_at hl 2 rfl) ?_
            refine lv_aload_n hx hb dX0_isNearEnough_43 rfl (lv_at hl 1 rfl) ?_
            refine va_get (D := D) (ci := 0) (v := .ref (ad 29)) (C := RX0) (T := TX0) (N := 11) hx hb hts (inT inX0) hown hK hP 23 rfl rfl 6 (by decide) (hts (.fieldLink RX0 27 "BoardMoves$Limits" "one" "[I") (by decide +kernel)) (fun _ h9 => h9) rfl dX0_isNearEnough_44 ?_
            refine lv_iload_n hx hb dX0_isNearEnough_47 rfl (lv_at hl 4 rfl) ?_
            refine bm_nald (f := li.2.2.2.2.2.1) hx hb hK hP 29 1 rfl rfl (j := i) (by omega) (by decide) dX0_isNearEnough_48 ?_
            refine lv_aload_n hx hb dX0_isNearEnough_49 rfl (lv_at hl 1 rfl) ?_
            refine va_get (D := D) (ci := 0) (v := .ref (ad 30)) (C := RX0) (T := TX0) (N := 11) hx hb hts (inT inX0) hown hK hP 23 rfl rfl 7 (by decide) (hts (.fieldLink RX0 31 "BoardMoves$Limits" "other" "[I") (by decide +kernel)) (fun _ h9 => h9) rfl dX0_isNearEnough_50 ?_
            refine lv_iload_n hx hb dX0_isNearEnough_53 rfl (lv_at hl 4 rfl) ?_
            refine bm_nald (f := li.2.2.2.2.2.2.1) hx hb hK hP 30 1 rfl rfl (j := i) (by omega) (by decide) dX0_isNearEnough_54 ?_
            refine lv_aload_n hx hb dX0_isNearEnough_55 rfl (lv_at hl 1 rfl) ?_
            refine va_get (D := D) (ci := 0) (v := .ref (ad 31)) (C := RX0) (T := TX0) (N := 11) hx hb hts (inT inX0) hown hK hP 23 rfl rfl 8 (by decide) (hts (.fieldLink RX0 34 "BoardMoves$Limits" "most" "[J") (by decide +kernel)) (fun _ h9 => h9) rfl dX0_isNearEnough_56 ?_
            refine lv_iload_n hx hb dX0_isNearEnough_59 rfl (lv_at hl 4 rfl) ?_
            refine bm_lald (f := li.2.2.2.2.2.2.2.1) hx hb hK hP 31 0 rfl rfl (j := i) (by omega) (by decide) dX0_isNearEnough_60 ?_
            refine bm_rcallV (As := [.int (nI (li.2.2.2.2.2.1 i)), .int (nI (li.2.2.2.2.2.2.1 i)), .long (li.2.2.2.2.2.2.2.1 i)]) (rest := []) ⟨hx, hb, hml, hown, hts⟩ (r_near (a := (li.2.2.2.2.2.1 i)) (b := (li.2.2.2.2.2.2.1 i)) hoL (hon _) (hot _)) (cwV 3 hts (gdV (by decide +kernel) (by decide +kernel) (by decide +kernel) (by decide +kernel) (by decide +kernel)) rfl rfl rfl (by decide +kernel) ⟨Nat.le_of_ble_eq_true rfl, Nat.le_of_ble_eq_true rfl⟩) hK hP 8 2 rfl rfl rfl hl.1 rfl (Nat.le_of_ble_eq_true rfl) dX0_isNearEnough_61 ⟨Nat.le_of_ble_eq_true rfl, Nat.le_of_ble_eq_true rfl⟩ ?_
            refine bm_zb_ne (x := (q_near pa p0 (li.2.2.2.2.2.1 i) (li.2.2.2.2.2.2.1 i) (li.2.2.2.2.2.2.2.1 i))) (tgt := 69) hx hb dX0_isNearEnough_64 (by decide) (fun c_4 => ?_) (fun c_4 => ?_)
            · refine lv_iinc (v := (nI (i + 1))) (lv' := [(3, .int (nI (i + 1))), (4, .int (bm_b true)), (0, .ref (ad 23)), (1, .ref (ad 8)), (2, .int (nI j))]) hx hb dX0_isNearEnough_69 hl (k := 4) rfl (nI_1 i) (by decide) rfl (fun ls hl => ?_)
              refine lv_goto (tgt := 2) hx hb dX0_isNearEnough_72 (by decide) ?_
              exact ih (i + 1) (by omega) (by omega) (by rw [← he]; exact q_find_go (by assumption) (by first | (simp [q_tooFar, c_2, c_4]; done) | (simp only [q_tooFar]; rw [c_4]; simp [c_2]; done))) _ (lv_sub hl [2, 3, 4, 0] rfl)
            · refine lv_iconst (v := bm_b false) hx hb dX0_isNearEnough_67 (by decide) ?_
              exact bm_zretR (v := false) hx hb hr (by rw [q_nears, ← he, q_find_hit (by assumption) (by first | (simp [q_tooFar, c_2, c_4]; done) | (simp only [q_tooFar]; rw [c_4]; simp [c_2]; done))]; rfl) dX0_isNearEnough_68 hlocks
        · refine lv_aload_n hx hb dX0_isNearEnough_20 rfl (lv_at hl 0 rfl) ?_
          refine va_get (D := D) (ci := 0) (v := .ref (ad 30)) (C := RX0) (T := TX0) (N := 11) hx hb hts (inT inX0) hown hK hP 23 rfl rfl 7 (by decide) (hts (.fieldLink RX0 31 "BoardMoves$Limits" "other" "[I") (by decide +kernel)) (fun _ h9 => h9) rfl dX0_isNearEnough_21 ?_
          refine lv_iload_n hx hb dX0_isNearEnough_24 rfl (lv_at hl 3 rfl) ?_
          refine bm_nald (f := li.2.2.2.2.2.2.1) hx hb hK hP 30 1 rfl rfl (j := i) (by omega) (by decide) dX0_isNearEnough_25 ?_
          refine lv_iload_n hx hb dX0_isNearEnough_26 rfl (lv_at hl 2 rfl) ?_
          refine bm_ni_ne (x := (li.2.2.2.2.2.2.1 i)) (y := j) (tgt := 34) hx hb (bm40 (hot _)) (by omega) dX0_isNearEnough_27 (by decide) (fun c_5 => ?_) (fun c_5 => ?_)
          · refine lv_iconst (v := bm_b false) hx hb dX0_isNearEnough_34 (by decide) ?_
            refine lv_istore (lv' := [(4, .int (bm_b false)), (0, .ref (ad 23)), (1, .ref (ad 8)), (2, .int (nI j)), (3, .int (nI i))]) hx hb dX0_isNearEnough_35 hl (by decide) rfl (fun ls hl => ?_)
            refine lv_iload hx hb dX0_isNearEnough_37 (lv_at hl 0 rfl) ?_
            refine bm_zb_eq (x := false) (tgt := 69) hx hb dX0_isNearEnough_39 (by decide) (fun c_6 => ?_) (fun c_6 => ?_)
            · refine lv_iinc (v := (nI (i + 1))) (lv' := [(3, .int (nI (i + 1))), (4, .int (bm_b false)), (0, .ref (ad 23)), (1, .ref (ad 8)), (2, .int (nI j))]) hx hb dX0_isNearEnough_69 hl (k := 4) rfl (nI_1 i) (by decide) rfl (fun ls hl => ?_)
              refine lv_goto (tgt := 2) hx hb dX0_isNearEnough_72 (by decide) ?_
              exact ih (i + 1) (by omega) (by omega) (by rw [← he]; exact q_find_go (by assumption) (by first | (simp [q_tooFar, c_2, c_5]; done) | (simp only [q_tooFar]; rw [c_5]; simp [c_2]; done))) _ (lv_sub hl [2, 3, 4, 0] rfl)
            · exact absurd c_6 (by decide)
          · refine lv_iconst (v := bm_b true) hx hb dX0_isNearEnough_30 (by decide) ?_
            refine lv_goto (tgt := 35) hx hb dX0_isNearEnough_31 (by decide) ?_
            refine lv_istore (lv' := [(4, .int (bm_b true)), (0, .ref (ad 23)), (1, .ref (ad 8)), (2, .int (nI j)), (3, .int (nI i))]) hx hb dX0_isNearEnough_35 hl (by decide) rfl (fun ls hl => ?_)
            refine lv_iload hx hb dX0_isNearEnough_37 (lv_at hl 0 rfl) ?_
            refine bm_zb_eq (x := true) (tgt := 69) hx hb dX0_isNearEnough_39 (by decide) (fun c_7 => ?_) (fun c_7 => ?_)
            · exact absurd c_7 (by decide)
            · refine lv_aload_n hx hb dX0_isNearEnough_42 rfl (lv_at hl 2 rfl) ?_
              refine lv_aload_n hx hb dX0_isNearEnough_43 rfl (lv_at hl 1 rfl) ?_
              refine va_get (D := D) (ci := 0) (v := .ref (ad 29)) (C := RX0) (T := TX0) (N := 11) hx hb hts (inT inX0) hown hK hP 23 rfl rfl 6 (by decide) (hts (.fieldLink RX0 27 "BoardMoves$Limits" "one" "[I") (by decide +kernel)) (fun _ h9 => h9) rfl dX0_isNearEnough_44 ?_
              refine lv_iload_n hx hb dX0_isNearEnough_47 rfl (lv_at hl 4 rfl) ?_
              refine bm_nald (f := li.2.2.2.2.2.1) hx hb hK hP 29 1 rfl rfl (j := i) (by omega) (by decide) dX0_isNearEnough_48 ?_
              refine lv_aload_n hx hb dX0_isNearEnough_49 rfl (lv_at hl 1 rfl) ?_
              refine va_get (D := D) (ci := 0) (v := .ref (ad 30)) (C := RX0) (T := TX0) (N := 11) hx hb hts (inT inX0) hown hK hP 23 rfl rfl 7 (by decide) (hts (.fieldLink RX0 31 "BoardMoves$Limits" "other" "[I") (by decide +kernel)) (fun _ h9 => h9) rfl dX0_isNearEnough_50 ?_
              refine lv_iload_n hx hb dX0_isNearEnough_53 rfl (lv_at hl 4 rfl) ?_
              refine bm_nald (f := li.2.2.2.2.2.2.1) hx hb hK hP 30 1 rfl rfl (j := i) (by omega) (by decide) dX0_isNearEnough_54 ?_
              refine lv_aload_n hx hb dX0_isNearEnough_55 rfl (lv_at hl 1 rfl) ?_
              refine va_get (D := D) (ci := 0) (v := .ref (ad 31)) (C := RX0) (T := TX0) (N := 11) hx hb hts (inT inX0) hown hK hP 23 rfl rfl 8 (by decide) (hts (.fieldLink RX0 34 "BoardMoves$Limits" "most" "[J") (by decide +kernel)) (fun _ h9 => h9) rfl dX0_isNearEnough_56 ?_
              refine lv_iload_n hx hb dX0_isNearEnough_59 rfl (lv_at hl 4 rfl) ?_
              refine bm_lald (f := li.2.2.2.2.2.2.2.1) hx hb hK hP 31 0 rfl rfl (j := i) (by omega) (by decide) dX0_isNearEnough_60 ?_
              refine bm_rcallV (As := [.int (nI (li.2.2.2.2.2.1 i)), .int (nI (li.2.2.2.2.2.2.1 i)), .long (li.2.2.2.2.2.2.2.1 i)]) (rest := []) ⟨hx, hb, hml, hown, hts⟩ (r_near (a := (li.2.2.2.2.2.1 i)) (b := (li.2.2.2.2.2.2.1 i)) hoL (hon _) (hot _)) (cwV 3 hts (gdV (by decide +kernel) (by decide +kernel) (by decide +kernel) (by decide +kernel) (by decide +kernel)) rfl rfl rfl (by decide +kernel) ⟨Nat.le_of_ble_eq_true rfl, Nat.le_of_ble_eq_true rfl⟩) hK hP 8 2 rfl rfl rfl hl.1 rfl (Nat.le_of_ble_eq_true rfl) dX0_isNearEnough_61 ⟨Nat.le_of_ble_eq_true rfl, Nat.le_of_ble_eq_true rfl⟩ ?_
              refine bm_zb_ne (x := (q_near pa p0 (li.2.2.2.2.2.1 i) (li.2.2.2.2.2.2.1 i) (li.2.2.2.2.2.2.2.1 i))) (tgt := 69) hx hb dX0_isNearEnough_64 (by decide) (fun c_8 => ?_) (fun c_8 => ?_)
              · refine lv_iinc (v := (nI (i + 1))) (lv' := [(3, .int (nI (i + 1))), (4, .int (bm_b true)), (0, .ref (ad 23)), (1, .ref (ad 8)), (2, .int (nI j))]) hx hb dX0_isNearEnough_69 hl (k := 4) rfl (nI_1 i) (by decide) rfl (fun ls hl => ?_)
                refine lv_goto (tgt := 2) hx hb dX0_isNearEnough_72 (by decide) ?_
                exact ih (i + 1) (by omega) (by omega) (by rw [← he]; exact q_find_go (by assumption) (by first | (simp [q_tooFar, c_2, c_5, c_8]; done) | (simp only [q_tooFar]; rw [c_8]; simp [c_2, c_5]; done))) _ (lv_sub hl [2, 3, 4, 0] rfl)
              · refine lv_iconst (v := bm_b false) hx hb dX0_isNearEnough_67 (by decide) ?_
                exact bm_zretR (v := false) hx hb hr (by rw [q_nears, ← he, q_find_hit (by assumption) (by first | (simp [q_tooFar, c_2, c_5, c_8]; done) | (simp only [q_tooFar]; rw [c_8]; simp [c_2, c_5]; done))]; rfl) dX0_isNearEnough_68 hlocks
  have hl := lv_entry ([.ref (ad 23), .ref (ad 8), .int (nI j)]) (n := 5) (Nat.le_of_ble_eq_true rfl)
  refine W.eq (g2 := entryFrame m ([.ref (ad 23), .ref (ad 8), .int (nI j)] : List Value).toArray 5) (by rw [ha]) ?_
  rw [lg_entry_eq]
  generalize (lg_sl ([.ref (ad 23), .ref (ad 8), .int (nI j)]) ++ List.replicate (5 - (lg_sl ([.ref (ad 23), .ref (ad 8), .int (nI j)])).length) Slot.unset).toArray = ls at hl ⊢
  have hl : lv_has ls 5 [(0, .ref (ad 23)), (1, .ref (ad 8)), (2, .int (nI j))] := hl
  refine lv_iconst (v := nI 0) hx hb dX0_isNearEnough_0 (by decide) ?_
  refine lv_istore_n (lv' := [(3, .int (nI 0)), (0, .ref (ad 23)), (1, .ref (ad 8)), (2, .int (nI j))]) hx hb dX0_isNearEnough_1 rfl hl (by decide) rfl (fun ls hl => ?_)
  exact lp 22 0 (by omega) (by omega) rfl _ (lv_sub hl [1, 2, 3, 0] rfl)
end
section
set_option maxHeartbeats 4000000 in
set_option maxRecDepth 100000 in
theorem r_len {l : Launch} {D : va_G} {ad : Nat → Nat} {cJ cI cZ : ClassId} {bm : gBM} {pa : gPA} {p0 p1 p2 : gPL} {li : gLI} {wi : gWI} {x : Int64} : bm_Rd l yX4_isLength wsX4_isLength ({ frames := 0, cells := 0, slots := 0, locals := 0 }) D vwCl [(cJ, .long), (cI, .int), (cZ, .boolean)] (Wd ad cJ cI cZ bm pa p0 p1 p2 li wi) [.long x] (.int (bm_b (q_len x))) := by
  refine Met.ofW (cc := cX4_isLength) (maxL := 2) (ret := (some .boolean)) (by decide) rfl ?_
  intro p e s m args below meth c s₁ B hml hv
  obtain ⟨ha, hP, hK⟩ := hv
  have hx := B.exec
  have hb := B.bytes
  have hr := B.returns
  have hts := atoms_spec (ws := wsX4_isLength) B.pre
  have hown : s.vm.findClass RX4 = some m.cls := findClass_of_methodNamed B.named
  have hlocks := B.notSynchronized
  have hl := lv_entry ([.long x]) (n := 2) (Nat.le_of_ble_eq_true rfl)
  refine W.eq (g2 := entryFrame m ([.long x] : List Value).toArray 2) (by rw [ha]) ?_
  rw [lg_entry_eq]
  generalize (lg_sl ([.long x]) ++ List.replicate (2 - (lg_sl ([.long x])).length) Slot.unset).toArray = ls at hl ⊢
  have hl : lv_has ls 2 [(0, .long x)] := hl
  refine lv_lload_n hx hb dX4_isLength_0 rfl (lv_at hl 0 rfl) ?_
  refine lv_lconst (v := 1) hx hb dX4_isLength_1 (by decide) ?_
  refine bm_lc_lt (x := x) (y := 1) (tgt := 18) hx hb dX4_isLength_2 dX4_isLength_3 (by decide) (fun c_1 => ?_) (fun c_1 => ?_)
  · refine lv_iconst (v := bm_b false) hx hb dX4_isLength_18 (by decide) ?_
    exact bm_zretR (v := false) hx hb hr (by simp [q_len, c_1]) dX4_isLength_19 hlocks
  · refine lv_lload_n hx hb dX4_isLength_6 rfl (lv_at hl 0 rfl) ?_
    refine lv_ldc2 (v := 65536) hx hb hown (hts (.constantLong RX4 51 65536) (by decide +kernel)) dX4_isLength_7 ?_
    refine bm_lc_gt (x := x) (y := 65536) (tgt := 18) hx hb dX4_isLength_10 dX4_isLength_11 (by decide) (fun c_2 => ?_) (fun c_2 => ?_)
    · refine lv_iconst (v := bm_b false) hx hb dX4_isLength_18 (by decide) ?_
      exact bm_zretR (v := false) hx hb hr (by simp [q_len, c_1, c_2]) dX4_isLength_19 hlocks
    · refine lv_iconst (v := bm_b true) hx hb dX4_isLength_14 (by decide) ?_
      refine lv_goto (tgt := 19) hx hb dX4_isLength_15 (by decide) ?_
      exact bm_zretR (v := true) hx hb hr (by simp [q_len, c_1, c_2]) dX4_isLength_19 hlocks
end
section
set_option maxHeartbeats 4000000 in
set_option maxRecDepth 100000 in
theorem r_fits {l : Launch} {D : va_G} {ad : Nat → Nat} {cJ cI cZ : ClassId} {bm : gBM} {pa : gPA} {p0 p1 p2 : gPL} {li : gLI} {wi : gWI} {j t : Nat} (h1 : j < 40) (h2 : t < 2 ^ 31) {x y : Int64} : bm_Rd l yX4_fitsBoard wsX4_fitsBoard ({ frames := 0, cells := 0, slots := 0, locals := 0 }) D vwCl [(cJ, .long), (cI, .int), (cZ, .boolean)] (Wd ad cJ cI cZ bm pa p0 p1 p2 li wi) [.ref (ad 0), .int (nI j), .long x, .long y, .int (nI t)] (.int (bm_b (q_fits bm pa j x y t))) := by
  refine Met.ofW (cc := cX4_fitsBoard) (maxL := 12) (ret := (some .boolean)) (by decide) rfl ?_
  intro p e s m args below meth c s₁ B hml hv
  obtain ⟨ha, hP, hK⟩ := hv
  have hx := B.exec
  have hb := B.bytes
  have hr := B.returns
  have hts := atoms_spec (ws := wsX4_fitsBoard) B.pre
  have hown : s.vm.findClass RX4 = some m.cls := findClass_of_methodNamed B.named
  have hlocks := B.notSynchronized
  have hl := lv_entry ([.ref (ad 0), .int (nI j), .long x, .long y, .int (nI t)]) (n := 12) (Nat.le_of_ble_eq_true rfl)
  refine W.eq (g2 := entryFrame m ([.ref (ad 0), .int (nI j), .long x, .long y, .int (nI t)] : List Value).toArray 12) (by rw [ha]) ?_
  rw [lg_entry_eq]
  generalize (lg_sl ([.ref (ad 0), .int (nI j), .long x, .long y, .int (nI t)]) ++ List.replicate (12 - (lg_sl ([.ref (ad 0), .int (nI j), .long x, .long y, .int (nI t)])).length) Slot.unset).toArray = ls at hl ⊢
  have hl : lv_has ls 12 [(0, .ref (ad 0)), (1, .int (nI j)), (2, .long x), (4, .long y), (6, .int (nI t))] := hl
  refine lv_iload hx hb dX4_fitsBoard_0 (lv_at hl 4 rfl) ?_
  refine lv_iconst (v := nI 2) hx hb dX4_fitsBoard_2 (by decide) ?_
  refine bm_nrem hx hb (by omega) (by decide) (by decide) dX4_fitsBoard_3 ?_
  refine bm_nz_ne (x := (t % 2)) (tgt := 11) hx hb (by omega) dX4_fitsBoard_4 (by decide) (fun c_1 => ?_) (fun c_1 => ?_)
  · refine lv_iconst (v := bm_b false) hx hb dX4_fitsBoard_11 (by decide) ?_
    refine lv_istore (lv' := [(7, .int (bm_b false)), (0, .ref (ad 0)), (1, .int (nI j)), (2, .long x), (4, .long y), (6, .int (nI t))]) hx hb dX4_fitsBoard_12 hl (by decide) rfl (fun ls hl => ?_)
    refine lv_iload hx hb dX4_fitsBoard_14 (lv_at hl 0 rfl) ?_
    refine bm_zb_eq (x := false) (tgt := 31) hx hb dX4_fitsBoard_16 (by decide) (fun c_2 => ?_) (fun c_2 => ?_)
    · refine lv_aload_n hx hb dX4_fitsBoard_31 rfl (lv_at hl 1 rfl) ?_
      refine va_get (D := D) (ci := 4) (v := .ref (ad 1)) (C := RX4) (T := TX4) (N := 10) hx hb hts (inT inX4) hown hK hP 0 rfl rfl 2 (by decide) (hts (.fieldLink RX4 12 "BoardMoves" "parts" "LBoardMoves$Parts;") (by decide +kernel)) (fun _ h9 => h9) rfl dX4_fitsBoard_32 ?_
      refine va_get (D := D) (ci := 1) (v := .ref (ad 3)) (C := RX1) (T := TX1) (N := 7) hx hb hts (inT inX1) hown hK hP 1 rfl rfl 1 (by decide) (hts (.fieldLink RX4 151 "BoardMoves$Parts" "h" "[J") (by decide +kernel)) (fun _ h9 => h9) rfl dX4_fitsBoard_35 ?_
      refine lv_iload_n hx hb dX4_fitsBoard_38 rfl (lv_at hl 2 rfl) ?_
      refine bm_lald (f := pa.2.1) hx hb hK hP 3 0 rfl rfl (j := j) (by omega) (by decide) dX4_fitsBoard_39 ?_
      refine lv_lstore (lv' := [(8, .long (pa.2.1 j)), (7, .int (bm_b false)), (0, .ref (ad 0)), (1, .int (nI j)), (2, .long x), (4, .long y), (6, .int (nI t))]) hx hb dX4_fitsBoard_40 hl (by decide) rfl (fun ls hl => ?_)
      refine lv_iload hx hb dX4_fitsBoard_42 (lv_at hl 1 rfl) ?_
      refine bm_zb_eq (x := false) (tgt := 59) hx hb dX4_fitsBoard_44 (by decide) (fun c_3 => ?_) (fun c_3 => ?_)
      · refine lv_aload_n hx hb dX4_fitsBoard_59 rfl (lv_at hl 2 rfl) ?_
        refine va_get (D := D) (ci := 4) (v := .ref (ad 1)) (C := RX4) (T := TX4) (N := 10) hx hb hts (inT inX4) hown hK hP 0 rfl rfl 2 (by decide) (hts (.fieldLink RX4 12 "BoardMoves" "parts" "LBoardMoves$Parts;") (by decide +kernel)) (fun _ h9 => h9) rfl dX4_fitsBoard_60 ?_
        refine va_get (D := D) (ci := 1) (v := .ref (ad 2)) (C := RX1) (T := TX1) (N := 7) hx hb hts (inT inX1) hown hK hP 1 rfl rfl 0 (by decide) (hts (.fieldLink RX4 148 "BoardMoves$Parts" "w" "[J") (by decide +kernel)) (fun _ h9 => h9) rfl dX4_fitsBoard_63 ?_
        refine lv_iload_n hx hb dX4_fitsBoard_66 rfl (lv_at hl 3 rfl) ?_
        refine bm_lald (f := pa.1) hx hb hK hP 2 0 rfl rfl (j := j) (by omega) (by decide) dX4_fitsBoard_67 ?_
        refine lv_lstore (lv' := [(10, .long (pa.1 j)), (8, .long (pa.2.1 j)), (7, .int (bm_b false)), (0, .ref (ad 0)), (1, .int (nI j)), (2, .long x), (4, .long y), (6, .int (nI t))]) hx hb dX4_fitsBoard_68 hl (by decide) rfl (fun ls hl => ?_)
        refine lv_lload_n hx hb dX4_fitsBoard_70 rfl (lv_at hl 5 rfl) ?_
        refine lv_lconst (v := 0) hx hb dX4_fitsBoard_71 (by decide) ?_
        refine bm_lc_lt (x := x) (y := 0) (tgt := 112) hx hb dX4_fitsBoard_72 dX4_fitsBoard_73 (by decide) (fun c_4 => ?_) (fun c_4 => ?_)
        · refine lv_iconst (v := bm_b false) hx hb dX4_fitsBoard_112 (by decide) ?_
          exact bm_zretR (v := false) hx hb hr (by simp [q_fits, c_1, c_4]) dX4_fitsBoard_113 hlocks
        · refine lv_lload_n hx hb dX4_fitsBoard_76 rfl (lv_at hl 5 rfl) ?_
          refine lv_aload_n hx hb dX4_fitsBoard_77 rfl (lv_at hl 3 rfl) ?_
          refine va_get (D := D) (ci := 4) (v := .long bm.1) (C := RX4) (T := TX4) (N := 10) hx hb hts (inT inX4) hown hK hP 0 rfl rfl 0 (by decide) (hts (.fieldLink RX4 62 "BoardMoves" "boardWide" "J") (by decide +kernel)) (fun _ h9 => h9) rfl dX4_fitsBoard_78 ?_
          refine lv_lload hx hb dX4_fitsBoard_81 (lv_at hl 1 rfl) ?_
          refine lv_lsub hx hb dX4_fitsBoard_83 ?_
          refine bm_lc_gt (x := x) (y := (bm.1 - (pa.2.1 j))) (tgt := 112) hx hb dX4_fitsBoard_84 dX4_fitsBoard_85 (by decide) (fun c_5 => ?_) (fun c_5 => ?_)
          · refine lv_iconst (v := bm_b false) hx hb dX4_fitsBoard_112 (by decide) ?_
            exact bm_zretR (v := false) hx hb hr (by simp [q_fits, c_1, c_4, c_5]) dX4_fitsBoard_113 hlocks
          · refine lv_lload hx hb dX4_fitsBoard_88 (lv_at hl 6 rfl) ?_
            refine lv_lconst (v := 0) hx hb dX4_fitsBoard_90 (by decide) ?_
            refine bm_lc_lt (x := y) (y := 0) (tgt := 112) hx hb dX4_fitsBoard_91 dX4_fitsBoard_92 (by decide) (fun c_6 => ?_) (fun c_6 => ?_)
            · refine lv_iconst (v := bm_b false) hx hb dX4_fitsBoard_112 (by decide) ?_
              exact bm_zretR (v := false) hx hb hr (by simp [q_fits, c_1, c_4, c_5, c_6]) dX4_fitsBoard_113 hlocks
            · refine lv_lload hx hb dX4_fitsBoard_95 (lv_at hl 6 rfl) ?_
              refine lv_aload_n hx hb dX4_fitsBoard_97 rfl (lv_at hl 3 rfl) ?_
              refine va_get (D := D) (ci := 4) (v := .long bm.2.1) (C := RX4) (T := TX4) (N := 10) hx hb hts (inT inX4) hown hK hP 0 rfl rfl 1 (by decide) (hts (.fieldLink RX4 65 "BoardMoves" "boardHigh" "J") (by decide +kernel)) (fun _ h9 => h9) rfl dX4_fitsBoard_98 ?_
              refine lv_lload hx hb dX4_fitsBoard_101 (lv_at hl 0 rfl) ?_
              refine lv_lsub hx hb dX4_fitsBoard_103 ?_
              refine bm_lc_gt (x := y) (y := (bm.2.1 - (pa.1 j))) (tgt := 112) hx hb dX4_fitsBoard_104 dX4_fitsBoard_105 (by decide) (fun c_7 => ?_) (fun c_7 => ?_)
              · refine lv_iconst (v := bm_b false) hx hb dX4_fitsBoard_112 (by decide) ?_
                exact bm_zretR (v := false) hx hb hr (by simp [q_fits, c_1, c_4, c_5, c_6, c_7]) dX4_fitsBoard_113 hlocks
              · refine lv_iconst (v := bm_b true) hx hb dX4_fitsBoard_108 (by decide) ?_
                refine lv_goto (tgt := 113) hx hb dX4_fitsBoard_109 (by decide) ?_
                exact bm_zretR (v := true) hx hb hr (by simp [q_fits, c_1, c_4, c_5, c_6, c_7]) dX4_fitsBoard_113 hlocks
      · exact absurd c_3 (by decide)
    · exact absurd c_2 (by decide)
  · refine lv_iconst (v := bm_b true) hx hb dX4_fitsBoard_7 (by decide) ?_
    refine lv_goto (tgt := 12) hx hb dX4_fitsBoard_8 (by decide) ?_
    refine lv_istore (lv' := [(7, .int (bm_b true)), (0, .ref (ad 0)), (1, .int (nI j)), (2, .long x), (4, .long y), (6, .int (nI t))]) hx hb dX4_fitsBoard_12 hl (by decide) rfl (fun ls hl => ?_)
    refine lv_iload hx hb dX4_fitsBoard_14 (lv_at hl 0 rfl) ?_
    refine bm_zb_eq (x := true) (tgt := 31) hx hb dX4_fitsBoard_16 (by decide) (fun c_8 => ?_) (fun c_8 => ?_)
    · exact absurd c_8 (by decide)
    · refine lv_aload_n hx hb dX4_fitsBoard_19 rfl (lv_at hl 1 rfl) ?_
      refine va_get (D := D) (ci := 4) (v := .ref (ad 1)) (C := RX4) (T := TX4) (N := 10) hx hb hts (inT inX4) hown hK hP 0 rfl rfl 2 (by decide) (hts (.fieldLink RX4 12 "BoardMoves" "parts" "LBoardMoves$Parts;") (by decide +kernel)) (fun _ h9 => h9) rfl dX4_fitsBoard_20 ?_
      refine va_get (D := D) (ci := 1) (v := .ref (ad 2)) (C := RX1) (T := TX1) (N := 7) hx hb hts (inT inX1) hown hK hP 1 rfl rfl 0 (by decide) (hts (.fieldLink RX4 148 "BoardMoves$Parts" "w" "[J") (by decide +kernel)) (fun _ h9 => h9) rfl dX4_fitsBoard_23 ?_
      refine lv_iload_n hx hb dX4_fitsBoard_26 rfl (lv_at hl 2 rfl) ?_
      refine bm_lald (f := pa.1) hx hb hK hP 2 0 rfl rfl (j := j) (by omega) (by decide) dX4_fitsBoard_27 ?_
      refine lv_goto (tgt := 40) hx hb dX4_fitsBoard_28 (by decide) ?_
      refine lv_lstore (lv' := [(8, .long (pa.1 j)), (7, .int (bm_b true)), (0, .ref (ad 0)), (1, .int (nI j)), (2, .long x), (4, .long y), (6, .int (nI t))]) hx hb dX4_fitsBoard_40 hl (by decide) rfl (fun ls hl => ?_)
      refine lv_iload hx hb dX4_fitsBoard_42 (lv_at hl 1 rfl) ?_
      refine bm_zb_eq (x := true) (tgt := 59) hx hb dX4_fitsBoard_44 (by decide) (fun c_9 => ?_) (fun c_9 => ?_)
      · exact absurd c_9 (by decide)
      · refine lv_aload_n hx hb dX4_fitsBoard_47 rfl (lv_at hl 2 rfl) ?_
        refine va_get (D := D) (ci := 4) (v := .ref (ad 1)) (C := RX4) (T := TX4) (N := 10) hx hb hts (inT inX4) hown hK hP 0 rfl rfl 2 (by decide) (hts (.fieldLink RX4 12 "BoardMoves" "parts" "LBoardMoves$Parts;") (by decide +kernel)) (fun _ h9 => h9) rfl dX4_fitsBoard_48 ?_
        refine va_get (D := D) (ci := 1) (v := .ref (ad 3)) (C := RX1) (T := TX1) (N := 7) hx hb hts (inT inX1) hown hK hP 1 rfl rfl 1 (by decide) (hts (.fieldLink RX4 151 "BoardMoves$Parts" "h" "[J") (by decide +kernel)) (fun _ h9 => h9) rfl dX4_fitsBoard_51 ?_
        refine lv_iload_n hx hb dX4_fitsBoard_54 rfl (lv_at hl 3 rfl) ?_
        refine bm_lald (f := pa.2.1) hx hb hK hP 3 0 rfl rfl (j := j) (by omega) (by decide) dX4_fitsBoard_55 ?_
        refine lv_goto (tgt := 68) hx hb dX4_fitsBoard_56 (by decide) ?_
        refine lv_lstore (lv' := [(10, .long (pa.2.1 j)), (8, .long (pa.1 j)), (7, .int (bm_b true)), (0, .ref (ad 0)), (1, .int (nI j)), (2, .long x), (4, .long y), (6, .int (nI t))]) hx hb dX4_fitsBoard_68 hl (by decide) rfl (fun ls hl => ?_)
        refine lv_lload_n hx hb dX4_fitsBoard_70 rfl (lv_at hl 5 rfl) ?_
        refine lv_lconst (v := 0) hx hb dX4_fitsBoard_71 (by decide) ?_
        refine bm_lc_lt (x := x) (y := 0) (tgt := 112) hx hb dX4_fitsBoard_72 dX4_fitsBoard_73 (by decide) (fun c_10 => ?_) (fun c_10 => ?_)
        · refine lv_iconst (v := bm_b false) hx hb dX4_fitsBoard_112 (by decide) ?_
          exact bm_zretR (v := false) hx hb hr (by simp [q_fits, c_1, c_10]) dX4_fitsBoard_113 hlocks
        · refine lv_lload_n hx hb dX4_fitsBoard_76 rfl (lv_at hl 5 rfl) ?_
          refine lv_aload_n hx hb dX4_fitsBoard_77 rfl (lv_at hl 3 rfl) ?_
          refine va_get (D := D) (ci := 4) (v := .long bm.1) (C := RX4) (T := TX4) (N := 10) hx hb hts (inT inX4) hown hK hP 0 rfl rfl 0 (by decide) (hts (.fieldLink RX4 62 "BoardMoves" "boardWide" "J") (by decide +kernel)) (fun _ h9 => h9) rfl dX4_fitsBoard_78 ?_
          refine lv_lload hx hb dX4_fitsBoard_81 (lv_at hl 1 rfl) ?_
          refine lv_lsub hx hb dX4_fitsBoard_83 ?_
          refine bm_lc_gt (x := x) (y := (bm.1 - (pa.1 j))) (tgt := 112) hx hb dX4_fitsBoard_84 dX4_fitsBoard_85 (by decide) (fun c_11 => ?_) (fun c_11 => ?_)
          · refine lv_iconst (v := bm_b false) hx hb dX4_fitsBoard_112 (by decide) ?_
            exact bm_zretR (v := false) hx hb hr (by simp [q_fits, c_1, c_10, c_11]) dX4_fitsBoard_113 hlocks
          · refine lv_lload hx hb dX4_fitsBoard_88 (lv_at hl 6 rfl) ?_
            refine lv_lconst (v := 0) hx hb dX4_fitsBoard_90 (by decide) ?_
            refine bm_lc_lt (x := y) (y := 0) (tgt := 112) hx hb dX4_fitsBoard_91 dX4_fitsBoard_92 (by decide) (fun c_12 => ?_) (fun c_12 => ?_)
            · refine lv_iconst (v := bm_b false) hx hb dX4_fitsBoard_112 (by decide) ?_
              exact bm_zretR (v := false) hx hb hr (by simp [q_fits, c_1, c_10, c_11, c_12]) dX4_fitsBoard_113 hlocks
            · refine lv_lload hx hb dX4_fitsBoard_95 (lv_at hl 6 rfl) ?_
              refine lv_aload_n hx hb dX4_fitsBoard_97 rfl (lv_at hl 3 rfl) ?_
              refine va_get (D := D) (ci := 4) (v := .long bm.2.1) (C := RX4) (T := TX4) (N := 10) hx hb hts (inT inX4) hown hK hP 0 rfl rfl 1 (by decide) (hts (.fieldLink RX4 65 "BoardMoves" "boardHigh" "J") (by decide +kernel)) (fun _ h9 => h9) rfl dX4_fitsBoard_98 ?_
              refine lv_lload hx hb dX4_fitsBoard_101 (lv_at hl 0 rfl) ?_
              refine lv_lsub hx hb dX4_fitsBoard_103 ?_
              refine bm_lc_gt (x := y) (y := (bm.2.1 - (pa.2.1 j))) (tgt := 112) hx hb dX4_fitsBoard_104 dX4_fitsBoard_105 (by decide) (fun c_13 => ?_) (fun c_13 => ?_)
              · refine lv_iconst (v := bm_b false) hx hb dX4_fitsBoard_112 (by decide) ?_
                exact bm_zretR (v := false) hx hb hr (by simp [q_fits, c_1, c_10, c_11, c_12, c_13]) dX4_fitsBoard_113 hlocks
              · refine lv_iconst (v := bm_b true) hx hb dX4_fitsBoard_108 (by decide) ?_
                refine lv_goto (tgt := 113) hx hb dX4_fitsBoard_109 (by decide) ?_
                exact bm_zretR (v := true) hx hb hr (by simp [q_fits, c_1, c_10, c_11, c_12, c_13]) dX4_fitsBoard_113 hlocks
end
section
set_option maxHeartbeats 4000000 in
set_option maxRecDepth 100000 in
theorem r_well {l : Launch} {D : va_G} {ad : Nat → Nat} {cJ cI cZ : ClassId} {bm : gBM} {pa : gPA} {p0 p1 p2 : gPL} {li : gLI} {wi : gWI} (hoA : q_okA pa) (hoL : q_okL p0) (hoI : q_okI li) {j : Nat} (h1 : j < 40) : bm_Rd l yX4_standsWell wsX4_standsWell ({ frames := 3, cells := 0, slots := 0, locals := 77 }) D vwCl [(cJ, .long), (cI, .int), (cZ, .boolean)] (Wd ad cJ cI cZ bm pa p0 p1 p2 li wi) [.ref (ad 0), .int (nI j)] (.int (bm_b (q_well bm pa p0 li j))) := by
  obtain ⟨hn, hsd, hlw⟩ := hoA
  refine Met.ofW (cc := cX4_standsWell) (maxL := 2) (ret := (some .boolean)) (by decide) rfl ?_
  intro p e s m args below meth c s₁ B hml hv
  obtain ⟨ha, hP, hK⟩ := hv
  have hx := B.exec
  have hb := B.bytes
  have hr := B.returns
  have hts := atoms_spec (ws := wsX4_standsWell) B.pre
  have hown : s.vm.findClass RX4 = some m.cls := findClass_of_methodNamed B.named
  have hlocks := B.notSynchronized
  have hl := lv_entry ([.ref (ad 0), .int (nI j)]) (n := 2) (Nat.le_of_ble_eq_true rfl)
  refine W.eq (g2 := entryFrame m ([.ref (ad 0), .int (nI j)] : List Value).toArray 2) (by rw [ha]) ?_
  rw [lg_entry_eq]
  generalize (lg_sl ([.ref (ad 0), .int (nI j)]) ++ List.replicate (2 - (lg_sl ([.ref (ad 0), .int (nI j)])).length) Slot.unset).toArray = ls at hl ⊢
  have hl : lv_has ls 2 [(0, .ref (ad 0)), (1, .int (nI j))] := hl
  refine lv_aload_n hx hb dX4_standsWell_0 rfl (lv_at hl 0 rfl) ?_
  refine va_get (D := D) (ci := 4) (v := .ref (ad 8)) (C := RX4) (T := TX4) (N := 10) hx hb hts (inT inX4) hown hK hP 0 rfl rfl 5 (by decide) (hts (.fieldLink RX4 37 "BoardMoves" "now" "LBoardMoves$Placement;") (by decide +kernel)) (fun _ h9 => h9) rfl dX4_standsWell_1 ?_
  refine va_get (D := D) (ci := 2) (v := .ref (ad 12)) (C := RX2) (T := TX2) (N := 5) hx hb hts (inT inX2) hown hK hP 8 rfl rfl 4 (by decide) (hts (.fieldLink RX4 96 "BoardMoves$Placement" "placed" "[Z") (by decide +kernel)) (fun _ h9 => h9) rfl dX4_standsWell_4 ?_
  refine lv_iload_n hx hb dX4_standsWell_7 rfl (lv_at hl 1 rfl) ?_
  refine bm_zald (f := p0.2.2.2) hx hb hK hP 12 2 rfl rfl (j := j) (by omega) (by decide) dX4_standsWell_8 ?_
  refine bm_zb_ne (x := (p0.2.2.2 j)) (tgt := 14) hx hb dX4_standsWell_9 (by decide) (fun c_1 => ?_) (fun c_1 => ?_)
  · refine lv_aload_n hx hb dX4_standsWell_14 rfl (lv_at hl 0 rfl) ?_
    refine lv_iload_n hx hb dX4_standsWell_15 rfl (lv_at hl 1 rfl) ?_
    refine lv_aload_n hx hb dX4_standsWell_16 rfl (lv_at hl 0 rfl) ?_
    refine va_get (D := D) (ci := 4) (v := .ref (ad 8)) (C := RX4) (T := TX4) (N := 10) hx hb hts (inT inX4) hown hK hP 0 rfl rfl 5 (by decide) (hts (.fieldLink RX4 37 "BoardMoves" "now" "LBoardMoves$Placement;") (by decide +kernel)) (fun _ h9 => h9) rfl dX4_standsWell_17 ?_
    refine va_get (D := D) (ci := 2) (v := .ref (ad 9)) (C := RX2) (T := TX2) (N := 5) hx hb hts (inT inX2) hown hK hP 8 rfl rfl 1 (by decide) (hts (.fieldLink RX4 112 "BoardMoves$Placement" "x" "[J") (by decide +kernel)) (fun _ h9 => h9) rfl dX4_standsWell_20 ?_
    refine lv_iload_n hx hb dX4_standsWell_23 rfl (lv_at hl 1 rfl) ?_
    refine bm_lald (f := p0.1) hx hb hK hP 9 0 rfl rfl (j := j) (by omega) (by decide) dX4_standsWell_24 ?_
    refine lv_aload_n hx hb dX4_standsWell_25 rfl (lv_at hl 0 rfl) ?_
    refine va_get (D := D) (ci := 4) (v := .ref (ad 8)) (C := RX4) (T := TX4) (N := 10) hx hb hts (inT inX4) hown hK hP 0 rfl rfl 5 (by decide) (hts (.fieldLink RX4 37 "BoardMoves" "now" "LBoardMoves$Placement;") (by decide +kernel)) (fun _ h9 => h9) rfl dX4_standsWell_26 ?_
    refine va_get (D := D) (ci := 2) (v := .ref (ad 10)) (C := RX2) (T := TX2) (N := 5) hx hb hts (inT inX2) hown hK hP 8 rfl rfl 2 (by decide) (hts (.fieldLink RX4 116 "BoardMoves$Placement" "y" "[J") (by decide +kernel)) (fun _ h9 => h9) rfl dX4_standsWell_29 ?_
    refine lv_iload_n hx hb dX4_standsWell_32 rfl (lv_at hl 1 rfl) ?_
    refine bm_lald (f := p0.2.1) hx hb hK hP 10 0 rfl rfl (j := j) (by omega) (by decide) dX4_standsWell_33 ?_
    refine lv_aload_n hx hb dX4_standsWell_34 rfl (lv_at hl 0 rfl) ?_
    refine va_get (D := D) (ci := 4) (v := .ref (ad 8)) (C := RX4) (T := TX4) (N := 10) hx hb hts (inT inX4) hown hK hP 0 rfl rfl 5 (by decide) (hts (.fieldLink RX4 37 "BoardMoves" "now" "LBoardMoves$Placement;") (by decide +kernel)) (fun _ h9 => h9) rfl dX4_standsWell_35 ?_
    refine va_get (D := D) (ci := 2) (v := .ref (ad 11)) (C := RX2) (T := TX2) (N := 5) hx hb hts (inT inX2) hown hK hP 8 rfl rfl 3 (by decide) (hts (.fieldLink RX4 100 "BoardMoves$Placement" "turn" "[I") (by decide +kernel)) (fun _ h9 => h9) rfl dX4_standsWell_38 ?_
    refine lv_iload_n hx hb dX4_standsWell_41 rfl (lv_at hl 1 rfl) ?_
    refine bm_nald (f := p0.2.2.1) hx hb hK hP 11 1 rfl rfl (j := j) (by omega) (by decide) dX4_standsWell_42 ?_
    refine bm_rcallV (As := [.int (nI j), .long (p0.1 j), .long (p0.2.1 j), .int (nI (p0.2.2.1 j))]) (rest := []) ⟨hx, hb, hml, hown, hts⟩ (r_fits (j := j) (t := (p0.2.2.1 j)) (by omega) (bm40 (hoL _))) (cwV 4 hts (gdV (by decide +kernel) (by decide +kernel) (by decide +kernel) (by decide +kernel) (by decide +kernel)) rfl rfl rfl (by decide +kernel) ⟨Nat.le_of_ble_eq_true rfl, Nat.le_of_ble_eq_true rfl⟩) hK hP 0 4 rfl rfl rfl hl.1 rfl (Nat.le_of_ble_eq_true rfl) dX4_standsWell_43 ⟨Nat.le_of_ble_eq_true rfl, Nat.le_of_ble_eq_true rfl⟩ ?_
    refine bm_zb_eq (x := (q_fits bm pa j (p0.1 j) (p0.2.1 j) (p0.2.2.1 j))) (tgt := 96) hx hb dX4_standsWell_46 (by decide) (fun c_2 => ?_) (fun c_2 => ?_)
    · refine lv_iconst (v := bm_b false) hx hb dX4_standsWell_96 (by decide) ?_
      exact bm_zretR (v := false) hx hb hr (by simp [q_well, c_1, c_2]) dX4_standsWell_97 hlocks
    · refine lv_aload_n hx hb dX4_standsWell_49 rfl (lv_at hl 0 rfl) ?_
      refine va_get (D := D) (ci := 4) (v := .ref (ad 8)) (C := RX4) (T := TX4) (N := 10) hx hb hts (inT inX4) hown hK hP 0 rfl rfl 5 (by decide) (hts (.fieldLink RX4 37 "BoardMoves" "now" "LBoardMoves$Placement;") (by decide +kernel)) (fun _ h9 => h9) rfl dX4_standsWell_50 ?_
      refine lv_iload_n hx hb dX4_standsWell_53 rfl (lv_at hl 1 rfl) ?_
      refine lv_iconst (v := nI 0) hx hb dX4_standsWell_54 (by decide) ?_
      refine bm_rcallV (As := [.int (nI j), .int (nI 0)]) (rest := []) ⟨hx, hb, hml, hown, hts⟩ (r_over (j := j) (f := 0) ⟨hn, hsd, hlw⟩ hoL (by omega) (by omega)) (cwV 2 hts (gdV (by decide +kernel) (by decide +kernel) (by decide +kernel) (by decide +kernel) (by decide +kernel)) rfl rfl rfl (by decide +kernel) ⟨Nat.le_of_ble_eq_true rfl, Nat.le_of_ble_eq_true rfl⟩) hK hP 8 2 rfl rfl rfl hl.1 rfl (Nat.le_of_ble_eq_true rfl) dX4_standsWell_55 ⟨Nat.le_of_ble_eq_true rfl, Nat.le_of_ble_eq_true rfl⟩ ?_
      rcases hO_4 : q_over pa p0 j 0 with _ | o_3
      · refine lv_iconst (v := -1) hx hb dX4_standsWell_58 (by decide) ?_
        refine lv_icmp_ne (x := (-1)) (y := -1) (tgt := 96) hx hb dX4_standsWell_59 (by decide) (fun c_5 => ?_) (fun c_5 => ?_)
        · exact absurd rfl c_5
        · refine lv_aload_n hx hb dX4_standsWell_62 rfl (lv_at hl 0 rfl) ?_
          refine va_get (D := D) (ci := 4) (v := .ref (ad 23)) (C := RX4) (T := TX4) (N := 10) hx hb hts (inT inX4) hown hK hP 0 rfl rfl 3 (by decide) (hts (.fieldLink RX4 23 "BoardMoves" "limits" "LBoardMoves$Limits;") (by decide +kernel)) (fun _ h9 => h9) rfl dX4_standsWell_63 ?_
          refine lv_aload_n hx hb dX4_standsWell_66 rfl (lv_at hl 0 rfl) ?_
          refine va_get (D := D) (ci := 4) (v := .ref (ad 8)) (C := RX4) (T := TX4) (N := 10) hx hb hts (inT inX4) hown hK hP 0 rfl rfl 5 (by decide) (hts (.fieldLink RX4 37 "BoardMoves" "now" "LBoardMoves$Placement;") (by decide +kernel)) (fun _ h9 => h9) rfl dX4_standsWell_67 ?_
          refine lv_iload_n hx hb dX4_standsWell_70 rfl (lv_at hl 1 rfl) ?_
          refine bm_rcallV (As := [.ref (ad 8), .int (nI j)]) (rest := []) ⟨hx, hb, hml, hown, hts⟩ (r_low (j := j) hoL hoI (by omega)) (cwV 2 hts (gdV (by decide +kernel) (by decide +kernel) (by decide +kernel) (by decide +kernel) (by decide +kernel)) rfl rfl rfl (by decide +kernel) ⟨Nat.le_of_ble_eq_true rfl, Nat.le_of_ble_eq_true rfl⟩) hK hP 23 0 rfl rfl rfl hl.1 rfl (Nat.le_of_ble_eq_true rfl) dX4_standsWell_71 ⟨Nat.le_of_ble_eq_true rfl, Nat.le_of_ble_eq_true rfl⟩ ?_
          refine bm_zb_eq (x := (q_low pa p0 li j)) (tgt := 96) hx hb dX4_standsWell_74 (by decide) (fun c_6 => ?_) (fun c_6 => ?_)
          · refine lv_iconst (v := bm_b false) hx hb dX4_standsWell_96 (by decide) ?_
            exact bm_zretR (v := false) hx hb hr (by simp [q_well, c_1, c_2, hO_4, c_6]) dX4_standsWell_97 hlocks
          · refine lv_aload_n hx hb dX4_standsWell_77 rfl (lv_at hl 0 rfl) ?_
            refine va_get (D := D) (ci := 4) (v := .ref (ad 23)) (C := RX4) (T := TX4) (N := 10) hx hb hts (inT inX4) hown hK hP 0 rfl rfl 3 (by decide) (hts (.fieldLink RX4 23 "BoardMoves" "limits" "LBoardMoves$Limits;") (by decide +kernel)) (fun _ h9 => h9) rfl dX4_standsWell_78 ?_
            refine lv_aload_n hx hb dX4_standsWell_81 rfl (lv_at hl 0 rfl) ?_
            refine va_get (D := D) (ci := 4) (v := .ref (ad 8)) (C := RX4) (T := TX4) (N := 10) hx hb hts (inT inX4) hown hK hP 0 rfl rfl 5 (by decide) (hts (.fieldLink RX4 37 "BoardMoves" "now" "LBoardMoves$Placement;") (by decide +kernel)) (fun _ h9 => h9) rfl dX4_standsWell_82 ?_
            refine lv_iload_n hx hb dX4_standsWell_85 rfl (lv_at hl 1 rfl) ?_
            refine bm_rcallV (As := [.ref (ad 8), .int (nI j)]) (rest := []) ⟨hx, hb, hml, hown, hts⟩ (r_nears (j := j) hoL hoI (by omega)) (cwV 2 hts (gdV (by decide +kernel) (by decide +kernel) (by decide +kernel) (by decide +kernel) (by decide +kernel)) rfl rfl rfl (by decide +kernel) ⟨Nat.le_of_ble_eq_true rfl, Nat.le_of_ble_eq_true rfl⟩) hK hP 23 0 rfl rfl rfl hl.1 rfl (Nat.le_of_ble_eq_true rfl) dX4_standsWell_86 ⟨Nat.le_of_ble_eq_true rfl, Nat.le_of_ble_eq_true rfl⟩ ?_
            refine bm_zb_eq (x := (q_nears pa p0 li j)) (tgt := 96) hx hb dX4_standsWell_89 (by decide) (fun c_7 => ?_) (fun c_7 => ?_)
            · refine lv_iconst (v := bm_b false) hx hb dX4_standsWell_96 (by decide) ?_
              exact bm_zretR (v := false) hx hb hr (by simp [q_well, c_1, c_2, hO_4, c_6, c_7]) dX4_standsWell_97 hlocks
            · refine lv_iconst (v := bm_b true) hx hb dX4_standsWell_92 (by decide) ?_
              refine lv_goto (tgt := 97) hx hb dX4_standsWell_93 (by decide) ?_
              exact bm_zretR (v := true) hx hb hr (by simp [q_well, c_1, c_2, hO_4, c_6, c_7]) dX4_standsWell_97 hlocks
      · have hB_hO_4 := q_over_lt hO_4
        refine lv_iconst (v := -1) hx hb dX4_standsWell_58 (by decide) ?_
        refine lv_icmp_ne (x := (nI o_3)) (y := -1) (tgt := 96) hx hb dX4_standsWell_59 (by decide) (fun c_8 => ?_) (fun c_8 => ?_)
        · refine lv_iconst (v := bm_b false) hx hb dX4_standsWell_96 (by decide) ?_
          exact bm_zretR (v := false) hx hb hr (by simp [q_well, c_1, c_2, hO_4]) dX4_standsWell_97 hlocks
        · exact absurd c_8 (bm_nm1 (by omega))
  · refine lv_iconst (v := bm_b true) hx hb dX4_standsWell_12 (by decide) ?_
    exact bm_zretR (v := true) hx hb hr (by simp [q_well, c_1]) dX4_standsWell_13 hlocks
end
section
set_option maxHeartbeats 4000000 in
set_option maxRecDepth 100000 in
theorem r_all {l : Launch} {D : va_G} {ad : Nat → Nat} {cJ cI cZ : ClassId} {bm : gBM} {pa : gPA} {p0 p1 p2 : gPL} {li : gLI} {wi : gWI} (hoA : q_okA pa) (hoL : q_okL p0) (hoI : q_okI li) : bm_Rd l yX4_allStandWell wsX4_allStandWell ({ frames := 4, cells := 0, slots := 0, locals := 98 }) D vwCl [(cJ, .long), (cI, .int), (cZ, .boolean)] (Wd ad cJ cI cZ bm pa p0 p1 p2 li wi) [.ref (ad 0)] (.int (bm_b (q_allWell bm pa p0 li))) := by
  obtain ⟨hn, hsd, hlw⟩ := hoA
  refine Met.ofW (cc := cX4_allStandWell) (maxL := 2) (ret := (some .boolean)) (by decide) rfl ?_
  intro p e s m args below meth c s₁ B hml hv
  obtain ⟨ha, hP, hK⟩ := hv
  have hx := B.exec
  have hb := B.bytes
  have hr := B.returns
  have hts := atoms_spec (ws := wsX4_allStandWell) B.pre
  have hown : s.vm.findClass RX4 = some m.cls := findClass_of_methodNamed B.named
  have hlocks := B.notSynchronized
  have lp : ∀ (k : Nat) (i : Nat), i ≤ 40 → 40 + 1 < i + k → q_find (fun i => !q_well bm pa p0 li i) (pa.2.2.2.2.2.2 - i) i = q_find (fun i => !q_well bm pa p0 li i) (pa.2.2.2.2.2.2 - 0) 0 → ∀ (ls : Array Slot), lv_has ls 2 [(0, .ref (ad 0)), (1, .int (nI i))] → W p l e (headSpec wsX4_allStandWell ({ frames := 4, cells := 0, slots := 0, locals := 98 })).room s m args below meth c s.heap [] 0 0 (MQ below (k2_QcV (.int (bm_b (q_allWell bm pa p0 li)))) args s 0 0 (fun _ => False)) (F0 m 2 ls []) := by
    intro k
    induction k with
    | zero => intro i hi hk he; exfalso; omega
    | succ k ih =>
      intro i hi hk he ls hl
      refine lv_iload_n hx hb dX4_allStandWell_2 rfl (lv_at hl 1 rfl) ?_
      refine lv_aload_n hx hb dX4_allStandWell_3 rfl (lv_at hl 0 rfl) ?_
      refine va_get (D := D) (ci := 4) (v := .ref (ad 1)) (C := RX4) (T := TX4) (N := 10) hx hb hts (inT inX4) hown hK hP 0 rfl rfl 2 (by decide) (hts (.fieldLink RX4 12 "BoardMoves" "parts" "LBoardMoves$Parts;") (by decide +kernel)) (fun _ h9 => h9) rfl dX4_allStandWell_4 ?_
      refine va_get (D := D) (ci := 1) (v := .int (nI pa.2.2.2.2.2.2)) (C := RX1) (T := TX1) (N := 7) hx hb hts (inT inX1) hown hK hP 1 rfl rfl 6 (by decide) (hts (.fieldLink RX4 197 "BoardMoves$Parts" "count" "I") (by decide +kernel)) (fun _ h9 => h9) rfl dX4_allStandWell_7 ?_
      refine bm_ni_ge (x := i) (y := pa.2.2.2.2.2.2) (tgt := 29) hx hb (by omega) (by omega) dX4_allStandWell_10 (by decide) (fun c_1 => ?_) (fun c_1 => ?_)
      · refine lv_iconst (v := bm_b true) hx hb dX4_allStandWell_29 (by decide) ?_
        exact bm_zretR (v := true) hx hb hr (by rw [q_allWell, ← he, q_find_end (by assumption)]; rfl) dX4_allStandWell_30 hlocks
      · refine lv_aload_n hx hb dX4_allStandWell_13 rfl (lv_at hl 0 rfl) ?_
        refine lv_iload_n hx hb dX4_allStandWell_14 rfl (lv_at hl 1 rfl) ?_
        refine bm_rcallV (As := [.int (nI i)]) (rest := []) ⟨hx, hb, hml, hown, hts⟩ (r_well (j := i) ⟨hn, hsd, hlw⟩ hoL hoI (by omega)) (cwV 1 hts (gdV (by decide +kernel) (by decide +kernel) (by decide +kernel) (by decide +kernel) (by decide +kernel)) rfl rfl rfl (by decide +kernel) ⟨Nat.le_of_ble_eq_true rfl, Nat.le_of_ble_eq_true rfl⟩) hK hP 0 4 rfl rfl rfl hl.1 rfl (Nat.le_of_ble_eq_true rfl) dX4_allStandWell_15 ⟨Nat.le_of_ble_eq_true rfl, Nat.le_of_ble_eq_true rfl⟩ ?_
        refine bm_zb_ne (x := (q_well bm pa p0 li i)) (tgt := 23) hx hb dX4_allStandWell_18 (by decide) (fun c_2 => ?_) (fun c_2 => ?_)
        · refine lv_iinc (v := (nI (i + 1))) (lv' := [(1, .int (nI (i + 1))), (0, .ref (ad 0))]) hx hb dX4_allStandWell_23 hl (k := 1) rfl (nI_1 i) (by decide) rfl (fun ls hl => ?_)
          refine lv_goto (tgt := 2) hx hb dX4_allStandWell_26 (by decide) ?_
          exact ih (i + 1) (by omega) (by omega) (by rw [← he]; exact q_find_go (by assumption) (by simp [c_2]; done)) _ (lv_sub hl [1, 0] rfl)
        · refine lv_iconst (v := bm_b false) hx hb dX4_allStandWell_21 (by decide) ?_
          exact bm_zretR (v := false) hx hb hr (by rw [q_allWell, ← he, q_find_hit (by assumption) (by simp [c_2]; done)]; rfl) dX4_allStandWell_22 hlocks
  have hl := lv_entry ([.ref (ad 0)]) (n := 2) (Nat.le_of_ble_eq_true rfl)
  refine W.eq (g2 := entryFrame m ([.ref (ad 0)] : List Value).toArray 2) (by rw [ha]) ?_
  rw [lg_entry_eq]
  generalize (lg_sl ([.ref (ad 0)]) ++ List.replicate (2 - (lg_sl ([.ref (ad 0)])).length) Slot.unset).toArray = ls at hl ⊢
  have hl : lv_has ls 2 [(0, .ref (ad 0))] := hl
  refine lv_iconst (v := nI 0) hx hb dX4_allStandWell_0 (by decide) ?_
  refine lv_istore_n (lv' := [(1, .int (nI 0)), (0, .ref (ad 0))]) hx hb dX4_allStandWell_1 rfl hl (by decide) rfl (fun ls hl => ?_)
  exact lp 42 0 (by omega) (by omega) rfl _ (lv_sub hl [1, 0] rfl)
end
section
set_option maxHeartbeats 4000000 in
set_option maxRecDepth 100000 in
theorem r_goes {l : Launch} {D : va_G} {ad : Nat → Nat} {cJ cI cZ : ClassId} {bm : gBM} {pa : gPA} {p0 p1 p2 : gPL} {li : gLI} {wi : gWI} (hoA : q_okA pa) {lo hi pu : Nat} (h1 : lo < 40) (h2 : hi < 40) (h3 : pu < 40) {ax up : Bool} : bm_Rd l yX4_goesOn wsX4_goesOn ({ frames := 1, cells := 0, slots := 0, locals := 22 }) D vwCl [(cJ, .long), (cI, .int), (cZ, .boolean)] (Wd ad cJ cI cZ bm pa p0 p1 p2 li wi) [.ref (ad 0), .int (nI lo), .int (nI hi), .int (nI pu), .int (bm_b ax), .int (bm_b up)] (.int (bm_b (q_goes pa p0 lo hi pu ax up))) := by
  obtain ⟨hn, hsd, hlw⟩ := hoA
  refine Met.ofW (cc := cX4_goesOn) (maxL := 10) (ret := (some .boolean)) (by decide) rfl ?_
  intro p e s m args below meth c s₁ B hml hv
  obtain ⟨ha, hP, hK⟩ := hv
  have hx := B.exec
  have hb := B.bytes
  have hr := B.returns
  have hts := atoms_spec (ws := wsX4_goesOn) B.pre
  have hown : s.vm.findClass RX4 = some m.cls := findClass_of_methodNamed B.named
  have hlocks := B.notSynchronized
  have hl := lv_entry ([.ref (ad 0), .int (nI lo), .int (nI hi), .int (nI pu), .int (bm_b ax), .int (bm_b up)]) (n := 10) (Nat.le_of_ble_eq_true rfl)
  refine W.eq (g2 := entryFrame m ([.ref (ad 0), .int (nI lo), .int (nI hi), .int (nI pu), .int (bm_b ax), .int (bm_b up)] : List Value).toArray 10) (by rw [ha]) ?_
  rw [lg_entry_eq]
  generalize (lg_sl ([.ref (ad 0), .int (nI lo), .int (nI hi), .int (nI pu), .int (bm_b ax), .int (bm_b up)]) ++ List.replicate (10 - (lg_sl ([.ref (ad 0), .int (nI lo), .int (nI hi), .int (nI pu), .int (bm_b ax), .int (bm_b up)])).length) Slot.unset).toArray = ls at hl ⊢
  have hl : lv_has ls 10 [(0, .ref (ad 0)), (1, .int (nI lo)), (2, .int (nI hi)), (3, .int (nI pu)), (4, .int (bm_b ax)), (5, .int (bm_b up))] := hl
  refine lv_aload_n hx hb dX4_goesOn_0 rfl (lv_at hl 0 rfl) ?_
  refine va_get (D := D) (ci := 4) (v := .ref (ad 1)) (C := RX4) (T := TX4) (N := 10) hx hb hts (inT inX4) hown hK hP 0 rfl rfl 2 (by decide) (hts (.fieldLink RX4 12 "BoardMoves" "parts" "LBoardMoves$Parts;") (by decide +kernel)) (fun _ h9 => h9) rfl dX4_goesOn_1 ?_
  refine lv_iload_n hx hb dX4_goesOn_4 rfl (lv_at hl 1 rfl) ?_
  refine lv_iload_n hx hb dX4_goesOn_5 rfl (lv_at hl 3 rfl) ?_
  refine bm_rcallV (As := [.int (nI lo), .int (nI pu)]) (rest := []) ⟨hx, hb, hml, hown, hts⟩ (r_mates (a := lo) (b := pu) ⟨hn, hsd, hlw⟩ (by omega) (by omega)) (cwV 2 hts (gdV (by decide +kernel) (by decide +kernel) (by decide +kernel) (by decide +kernel) (by decide +kernel)) rfl rfl rfl (by decide +kernel) ⟨Nat.le_of_ble_eq_true rfl, Nat.le_of_ble_eq_true rfl⟩) hK hP 1 1 rfl rfl rfl hl.1 rfl (Nat.le_of_ble_eq_true rfl) dX4_goesOn_6 ⟨Nat.le_of_ble_eq_true rfl, Nat.le_of_ble_eq_true rfl⟩ ?_
  refine bm_zb_eq (x := (q_mates pa lo pu)) (tgt := 14) hx hb dX4_goesOn_9 (by decide) (fun c_1 => ?_) (fun c_1 => ?_)
  · refine lv_aload_n hx hb dX4_goesOn_14 rfl (lv_at hl 0 rfl) ?_
    refine va_get (D := D) (ci := 4) (v := .ref (ad 1)) (C := RX4) (T := TX4) (N := 10) hx hb hts (inT inX4) hown hK hP 0 rfl rfl 2 (by decide) (hts (.fieldLink RX4 12 "BoardMoves" "parts" "LBoardMoves$Parts;") (by decide +kernel)) (fun _ h9 => h9) rfl dX4_goesOn_15 ?_
    refine lv_iload_n hx hb dX4_goesOn_18 rfl (lv_at hl 2 rfl) ?_
    refine lv_iload_n hx hb dX4_goesOn_19 rfl (lv_at hl 3 rfl) ?_
    refine bm_rcallV (As := [.int (nI hi), .int (nI pu)]) (rest := []) ⟨hx, hb, hml, hown, hts⟩ (r_mates (a := hi) (b := pu) ⟨hn, hsd, hlw⟩ (by omega) (by omega)) (cwV 2 hts (gdV (by decide +kernel) (by decide +kernel) (by decide +kernel) (by decide +kernel) (by decide +kernel)) rfl rfl rfl (by decide +kernel) ⟨Nat.le_of_ble_eq_true rfl, Nat.le_of_ble_eq_true rfl⟩) hK hP 1 1 rfl rfl rfl hl.1 rfl (Nat.le_of_ble_eq_true rfl) dX4_goesOn_20 ⟨Nat.le_of_ble_eq_true rfl, Nat.le_of_ble_eq_true rfl⟩ ?_
    refine bm_zb_eq (x := (q_mates pa hi pu)) (tgt := 28) hx hb dX4_goesOn_23 (by decide) (fun c_2 => ?_) (fun c_2 => ?_)
    · refine lv_iload hx hb dX4_goesOn_28 (lv_at hl 4 rfl) ?_
      refine bm_zb_eq (x := ax) (tgt := 45) hx hb dX4_goesOn_30 (by decide) (fun c_3 => ?_) (fun c_3 => ?_)
      · refine lv_aload_n hx hb dX4_goesOn_45 rfl (lv_at hl 0 rfl) ?_
        refine va_get (D := D) (ci := 4) (v := .ref (ad 8)) (C := RX4) (T := TX4) (N := 10) hx hb hts (inT inX4) hown hK hP 0 rfl rfl 5 (by decide) (hts (.fieldLink RX4 37 "BoardMoves" "now" "LBoardMoves$Placement;") (by decide +kernel)) (fun _ h9 => h9) rfl dX4_goesOn_46 ?_
        refine va_get (D := D) (ci := 2) (v := .ref (ad 10)) (C := RX2) (T := TX2) (N := 5) hx hb hts (inT inX2) hown hK hP 8 rfl rfl 2 (by decide) (hts (.fieldLink RX4 116 "BoardMoves$Placement" "y" "[J") (by decide +kernel)) (fun _ h9 => h9) rfl dX4_goesOn_49 ?_
        refine lv_iload_n hx hb dX4_goesOn_52 rfl (lv_at hl 1 rfl) ?_
        refine bm_lald (f := p0.2.1) hx hb hK hP 10 0 rfl rfl (j := lo) (by omega) (by decide) dX4_goesOn_53 ?_
        refine lv_lstore (lv' := [(6, .long (p0.2.1 lo)), (0, .ref (ad 0)), (1, .int (nI lo)), (2, .int (nI hi)), (3, .int (nI pu)), (4, .int (bm_b ax)), (5, .int (bm_b up))]) hx hb dX4_goesOn_54 hl (by decide) rfl (fun ls hl => ?_)
        refine lv_iload hx hb dX4_goesOn_56 (lv_at hl 5 rfl) ?_
        refine bm_zb_eq (x := ax) (tgt := 73) hx hb dX4_goesOn_58 (by decide) (fun c_4 => ?_) (fun c_4 => ?_)
        · refine lv_aload_n hx hb dX4_goesOn_73 rfl (lv_at hl 1 rfl) ?_
          refine va_get (D := D) (ci := 4) (v := .ref (ad 8)) (C := RX4) (T := TX4) (N := 10) hx hb hts (inT inX4) hown hK hP 0 rfl rfl 5 (by decide) (hts (.fieldLink RX4 37 "BoardMoves" "now" "LBoardMoves$Placement;") (by decide +kernel)) (fun _ h9 => h9) rfl dX4_goesOn_74 ?_
          refine va_get (D := D) (ci := 2) (v := .ref (ad 10)) (C := RX2) (T := TX2) (N := 5) hx hb hts (inT inX2) hown hK hP 8 rfl rfl 2 (by decide) (hts (.fieldLink RX4 116 "BoardMoves$Placement" "y" "[J") (by decide +kernel)) (fun _ h9 => h9) rfl dX4_goesOn_77 ?_
          refine lv_iload_n hx hb dX4_goesOn_80 rfl (lv_at hl 3 rfl) ?_
          refine bm_lald (f := p0.2.1) hx hb hK hP 10 0 rfl rfl (j := hi) (by omega) (by decide) dX4_goesOn_81 ?_
          refine lv_lstore (lv' := [(8, .long (p0.2.1 hi)), (6, .long (p0.2.1 lo)), (0, .ref (ad 0)), (1, .int (nI lo)), (2, .int (nI hi)), (3, .int (nI pu)), (4, .int (bm_b ax)), (5, .int (bm_b up))]) hx hb dX4_goesOn_82 hl (by decide) rfl (fun ls hl => ?_)
          refine lv_iload hx hb dX4_goesOn_84 (lv_at hl 7 rfl) ?_
          refine bm_zb_eq (x := up) (tgt := 105) hx hb dX4_goesOn_86 (by decide) (fun c_5 => ?_) (fun c_5 => ?_)
          · refine lv_lload hx hb dX4_goesOn_105 (lv_at hl 1 rfl) ?_
            refine lv_lload hx hb dX4_goesOn_107 (lv_at hl 0 rfl) ?_
            refine bm_lc_ge (x := (p0.2.1 lo)) (y := (p0.2.1 hi)) (tgt := 117) hx hb dX4_goesOn_109 dX4_goesOn_110 (by decide) (fun c_6 => ?_) (fun c_6 => ?_)
            · refine lv_iconst (v := bm_b false) hx hb dX4_goesOn_117 (by decide) ?_
              exact bm_zretR (v := false) hx hb hr (by first | (simp [q_goes, c_1, c_2, c_3, c_4, c_5, c_6]; done) | exact absurd (c_1.symm.trans c_2) (by decide) | exact absurd (c_1.symm.trans c_3) (by decide) | exact absurd (c_1.symm.trans c_4) (by decide) | exact absurd (c_1.symm.trans c_5) (by decide) | exact absurd (c_1.symm.trans c_6) (by decide) | exact absurd (c_2.symm.trans c_3) (by decide) | exact absurd (c_2.symm.trans c_4) (by decide) | exact absurd (c_2.symm.trans c_5) (by decide) | exact absurd (c_2.symm.trans c_6) (by decide) | exact absurd (c_3.symm.trans c_4) (by decide) | exact absurd (c_3.symm.trans c_5) (by decide) | exact absurd (c_3.symm.trans c_6) (by decide) | exact absurd (c_4.symm.trans c_5) (by decide) | exact absurd (c_4.symm.trans c_6) (by decide) | exact absurd (c_5.symm.trans c_6) (by decide)) dX4_goesOn_118 hlocks
            · refine lv_iconst (v := bm_b true) hx hb dX4_goesOn_113 (by decide) ?_
              refine lv_goto (tgt := 118) hx hb dX4_goesOn_114 (by decide) ?_
              exact bm_zretR (v := true) hx hb hr (by first | (simp [q_goes, c_1, c_2, c_3, c_4, c_5, c_6]; done) | exact absurd (c_1.symm.trans c_2) (by decide) | exact absurd (c_1.symm.trans c_3) (by decide) | exact absurd (c_1.symm.trans c_4) (by decide) | exact absurd (c_1.symm.trans c_5) (by decide) | exact absurd (c_1.symm.trans c_6) (by decide) | exact absurd (c_2.symm.trans c_3) (by decide) | exact absurd (c_2.symm.trans c_4) (by decide) | exact absurd (c_2.symm.trans c_5) (by decide) | exact absurd (c_2.symm.trans c_6) (by decide) | exact absurd (c_3.symm.trans c_4) (by decide) | exact absurd (c_3.symm.trans c_5) (by decide) | exact absurd (c_3.symm.trans c_6) (by decide) | exact absurd (c_4.symm.trans c_5) (by decide) | exact absurd (c_4.symm.trans c_6) (by decide) | exact absurd (c_5.symm.trans c_6) (by decide)) dX4_goesOn_118 hlocks
          · refine lv_lload hx hb dX4_goesOn_89 (lv_at hl 1 rfl) ?_
            refine lv_lload hx hb dX4_goesOn_91 (lv_at hl 0 rfl) ?_
            refine bm_lc_le (x := (p0.2.1 lo)) (y := (p0.2.1 hi)) (tgt := 101) hx hb dX4_goesOn_93 dX4_goesOn_94 (by decide) (fun c_7 => ?_) (fun c_7 => ?_)
            · refine lv_iconst (v := bm_b false) hx hb dX4_goesOn_101 (by decide) ?_
              refine lv_goto (tgt := 118) hx hb dX4_goesOn_102 (by decide) ?_
              exact bm_zretR (v := false) hx hb hr (by first | (simp [q_goes, c_1, c_2, c_3, c_4, c_5, c_7]; done) | exact absurd (c_1.symm.trans c_2) (by decide) | exact absurd (c_1.symm.trans c_3) (by decide) | exact absurd (c_1.symm.trans c_4) (by decide) | exact absurd (c_1.symm.trans c_5) (by decide) | exact absurd (c_1.symm.trans c_7) (by decide) | exact absurd (c_2.symm.trans c_3) (by decide) | exact absurd (c_2.symm.trans c_4) (by decide) | exact absurd (c_2.symm.trans c_5) (by decide) | exact absurd (c_2.symm.trans c_7) (by decide) | exact absurd (c_3.symm.trans c_4) (by decide) | exact absurd (c_3.symm.trans c_5) (by decide) | exact absurd (c_3.symm.trans c_7) (by decide) | exact absurd (c_4.symm.trans c_5) (by decide) | exact absurd (c_4.symm.trans c_7) (by decide) | exact absurd (c_5.symm.trans c_7) (by decide)) dX4_goesOn_118 hlocks
            · refine lv_iconst (v := bm_b true) hx hb dX4_goesOn_97 (by decide) ?_
              refine lv_goto (tgt := 118) hx hb dX4_goesOn_98 (by decide) ?_
              exact bm_zretR (v := true) hx hb hr (by first | (simp [q_goes, c_1, c_2, c_3, c_4, c_5, c_7]; done) | exact absurd (c_1.symm.trans c_2) (by decide) | exact absurd (c_1.symm.trans c_3) (by decide) | exact absurd (c_1.symm.trans c_4) (by decide) | exact absurd (c_1.symm.trans c_5) (by decide) | exact absurd (c_1.symm.trans c_7) (by decide) | exact absurd (c_2.symm.trans c_3) (by decide) | exact absurd (c_2.symm.trans c_4) (by decide) | exact absurd (c_2.symm.trans c_5) (by decide) | exact absurd (c_2.symm.trans c_7) (by decide) | exact absurd (c_3.symm.trans c_4) (by decide) | exact absurd (c_3.symm.trans c_5) (by decide) | exact absurd (c_3.symm.trans c_7) (by decide) | exact absurd (c_4.symm.trans c_5) (by decide) | exact absurd (c_4.symm.trans c_7) (by decide) | exact absurd (c_5.symm.trans c_7) (by decide)) dX4_goesOn_118 hlocks
        · refine lv_aload_n hx hb dX4_goesOn_61 rfl (lv_at hl 1 rfl) ?_
          refine va_get (D := D) (ci := 4) (v := .ref (ad 8)) (C := RX4) (T := TX4) (N := 10) hx hb hts (inT inX4) hown hK hP 0 rfl rfl 5 (by decide) (hts (.fieldLink RX4 37 "BoardMoves" "now" "LBoardMoves$Placement;") (by decide +kernel)) (fun _ h9 => h9) rfl dX4_goesOn_62 ?_
          refine va_get (D := D) (ci := 2) (v := .ref (ad 9)) (C := RX2) (T := TX2) (N := 5) hx hb hts (inT inX2) hown hK hP 8 rfl rfl 1 (by decide) (hts (.fieldLink RX4 112 "BoardMoves$Placement" "x" "[J") (by decide +kernel)) (fun _ h9 => h9) rfl dX4_goesOn_65 ?_
          refine lv_iload_n hx hb dX4_goesOn_68 rfl (lv_at hl 3 rfl) ?_
          refine bm_lald (f := p0.1) hx hb hK hP 9 0 rfl rfl (j := hi) (by omega) (by decide) dX4_goesOn_69 ?_
          refine lv_goto (tgt := 82) hx hb dX4_goesOn_70 (by decide) ?_
          refine lv_lstore (lv' := [(8, .long (p0.1 hi)), (6, .long (p0.2.1 lo)), (0, .ref (ad 0)), (1, .int (nI lo)), (2, .int (nI hi)), (3, .int (nI pu)), (4, .int (bm_b ax)), (5, .int (bm_b up))]) hx hb dX4_goesOn_82 hl (by decide) rfl (fun ls hl => ?_)
          refine lv_iload hx hb dX4_goesOn_84 (lv_at hl 7 rfl) ?_
          refine bm_zb_eq (x := up) (tgt := 105) hx hb dX4_goesOn_86 (by decide) (fun c_8 => ?_) (fun c_8 => ?_)
          · refine lv_lload hx hb dX4_goesOn_105 (lv_at hl 1 rfl) ?_
            refine lv_lload hx hb dX4_goesOn_107 (lv_at hl 0 rfl) ?_
            refine bm_lc_ge (x := (p0.2.1 lo)) (y := (p0.1 hi)) (tgt := 117) hx hb dX4_goesOn_109 dX4_goesOn_110 (by decide) (fun c_9 => ?_) (fun c_9 => ?_)
            · refine lv_iconst (v := bm_b false) hx hb dX4_goesOn_117 (by decide) ?_
              exact bm_zretR (v := false) hx hb hr (by first | (simp [q_goes, c_1, c_2, c_3, c_4, c_8, c_9]; done) | exact absurd (c_1.symm.trans c_2) (by decide) | exact absurd (c_1.symm.trans c_3) (by decide) | exact absurd (c_1.symm.trans c_4) (by decide) | exact absurd (c_1.symm.trans c_8) (by decide) | exact absurd (c_1.symm.trans c_9) (by decide) | exact absurd (c_2.symm.trans c_3) (by decide) | exact absurd (c_2.symm.trans c_4) (by decide) | exact absurd (c_2.symm.trans c_8) (by decide) | exact absurd (c_2.symm.trans c_9) (by decide) | exact absurd (c_3.symm.trans c_4) (by decide) | exact absurd (c_3.symm.trans c_8) (by decide) | exact absurd (c_3.symm.trans c_9) (by decide) | exact absurd (c_4.symm.trans c_8) (by decide) | exact absurd (c_4.symm.trans c_9) (by decide) | exact absurd (c_8.symm.trans c_9) (by decide)) dX4_goesOn_118 hlocks
            · refine lv_iconst (v := bm_b true) hx hb dX4_goesOn_113 (by decide) ?_
              refine lv_goto (tgt := 118) hx hb dX4_goesOn_114 (by decide) ?_
              exact bm_zretR (v := true) hx hb hr (by first | (simp [q_goes, c_1, c_2, c_3, c_4, c_8, c_9]; done) | exact absurd (c_1.symm.trans c_2) (by decide) | exact absurd (c_1.symm.trans c_3) (by decide) | exact absurd (c_1.symm.trans c_4) (by decide) | exact absurd (c_1.symm.trans c_8) (by decide) | exact absurd (c_1.symm.trans c_9) (by decide) | exact absurd (c_2.symm.trans c_3) (by decide) | exact absurd (c_2.symm.trans c_4) (by decide) | exact absurd (c_2.symm.trans c_8) (by decide) | exact absurd (c_2.symm.trans c_9) (by decide) | exact absurd (c_3.symm.trans c_4) (by decide) | exact absurd (c_3.symm.trans c_8) (by decide) | exact absurd (c_3.symm.trans c_9) (by decide) | exact absurd (c_4.symm.trans c_8) (by decide) | exact absurd (c_4.symm.trans c_9) (by decide) | exact absurd (c_8.symm.trans c_9) (by decide)) dX4_goesOn_118 hlocks
          · refine lv_lload hx hb dX4_goesOn_89 (lv_at hl 1 rfl) ?_
            refine lv_lload hx hb dX4_goesOn_91 (lv_at hl 0 rfl) ?_
            refine bm_lc_le (x := (p0.2.1 lo)) (y := (p0.1 hi)) (tgt := 101) hx hb dX4_goesOn_93 dX4_goesOn_94 (by decide) (fun c_10 => ?_) (fun c_10 => ?_)
            · refine lv_iconst (v := bm_b false) hx hb dX4_goesOn_101 (by decide) ?_
              refine lv_goto (tgt := 118) hx hb dX4_goesOn_102 (by decide) ?_
              exact bm_zretR (v := false) hx hb hr (by first | (simp [q_goes, c_1, c_2, c_3, c_4, c_8, c_10]; done) | exact absurd (c_1.symm.trans c_2) (by decide) | exact absurd (c_1.symm.trans c_3) (by decide) | exact absurd (c_1.symm.trans c_4) (by decide) | exact absurd (c_1.symm.trans c_8) (by decide) | exact absurd (c_1.symm.trans c_10) (by decide) | exact absurd (c_2.symm.trans c_3) (by decide) | exact absurd (c_2.symm.trans c_4) (by decide) | exact absurd (c_2.symm.trans c_8) (by decide) | exact absurd (c_2.symm.trans c_10) (by decide) | exact absurd (c_3.symm.trans c_4) (by decide) | exact absurd (c_3.symm.trans c_8) (by decide) | exact absurd (c_3.symm.trans c_10) (by decide) | exact absurd (c_4.symm.trans c_8) (by decide) | exact absurd (c_4.symm.trans c_10) (by decide) | exact absurd (c_8.symm.trans c_10) (by decide)) dX4_goesOn_118 hlocks
            · refine lv_iconst (v := bm_b true) hx hb dX4_goesOn_97 (by decide) ?_
              refine lv_goto (tgt := 118) hx hb dX4_goesOn_98 (by decide) ?_
              exact bm_zretR (v := true) hx hb hr (by first | (simp [q_goes, c_1, c_2, c_3, c_4, c_8, c_10]; done) | exact absurd (c_1.symm.trans c_2) (by decide) | exact absurd (c_1.symm.trans c_3) (by decide) | exact absurd (c_1.symm.trans c_4) (by decide) | exact absurd (c_1.symm.trans c_8) (by decide) | exact absurd (c_1.symm.trans c_10) (by decide) | exact absurd (c_2.symm.trans c_3) (by decide) | exact absurd (c_2.symm.trans c_4) (by decide) | exact absurd (c_2.symm.trans c_8) (by decide) | exact absurd (c_2.symm.trans c_10) (by decide) | exact absurd (c_3.symm.trans c_4) (by decide) | exact absurd (c_3.symm.trans c_8) (by decide) | exact absurd (c_3.symm.trans c_10) (by decide) | exact absurd (c_4.symm.trans c_8) (by decide) | exact absurd (c_4.symm.trans c_10) (by decide) | exact absurd (c_8.symm.trans c_10) (by decide)) dX4_goesOn_118 hlocks
      · refine lv_aload_n hx hb dX4_goesOn_33 rfl (lv_at hl 0 rfl) ?_
        refine va_get (D := D) (ci := 4) (v := .ref (ad 8)) (C := RX4) (T := TX4) (N := 10) hx hb hts (inT inX4) hown hK hP 0 rfl rfl 5 (by decide) (hts (.fieldLink RX4 37 "BoardMoves" "now" "LBoardMoves$Placement;") (by decide +kernel)) (fun _ h9 => h9) rfl dX4_goesOn_34 ?_
        refine va_get (D := D) (ci := 2) (v := .ref (ad 9)) (C := RX2) (T := TX2) (N := 5) hx hb hts (inT inX2) hown hK hP 8 rfl rfl 1 (by decide) (hts (.fieldLink RX4 112 "BoardMoves$Placement" "x" "[J") (by decide +kernel)) (fun _ h9 => h9) rfl dX4_goesOn_37 ?_
        refine lv_iload_n hx hb dX4_goesOn_40 rfl (lv_at hl 1 rfl) ?_
        refine bm_lald (f := p0.1) hx hb hK hP 9 0 rfl rfl (j := lo) (by omega) (by decide) dX4_goesOn_41 ?_
        refine lv_goto (tgt := 54) hx hb dX4_goesOn_42 (by decide) ?_
        refine lv_lstore (lv' := [(6, .long (p0.1 lo)), (0, .ref (ad 0)), (1, .int (nI lo)), (2, .int (nI hi)), (3, .int (nI pu)), (4, .int (bm_b ax)), (5, .int (bm_b up))]) hx hb dX4_goesOn_54 hl (by decide) rfl (fun ls hl => ?_)
        refine lv_iload hx hb dX4_goesOn_56 (lv_at hl 5 rfl) ?_
        refine bm_zb_eq (x := ax) (tgt := 73) hx hb dX4_goesOn_58 (by decide) (fun c_11 => ?_) (fun c_11 => ?_)
        · refine lv_aload_n hx hb dX4_goesOn_73 rfl (lv_at hl 1 rfl) ?_
          refine va_get (D := D) (ci := 4) (v := .ref (ad 8)) (C := RX4) (T := TX4) (N := 10) hx hb hts (inT inX4) hown hK hP 0 rfl rfl 5 (by decide) (hts (.fieldLink RX4 37 "BoardMoves" "now" "LBoardMoves$Placement;") (by decide +kernel)) (fun _ h9 => h9) rfl dX4_goesOn_74 ?_
          refine va_get (D := D) (ci := 2) (v := .ref (ad 10)) (C := RX2) (T := TX2) (N := 5) hx hb hts (inT inX2) hown hK hP 8 rfl rfl 2 (by decide) (hts (.fieldLink RX4 116 "BoardMoves$Placement" "y" "[J") (by decide +kernel)) (fun _ h9 => h9) rfl dX4_goesOn_77 ?_
          refine lv_iload_n hx hb dX4_goesOn_80 rfl (lv_at hl 3 rfl) ?_
          refine bm_lald (f := p0.2.1) hx hb hK hP 10 0 rfl rfl (j := hi) (by omega) (by decide) dX4_goesOn_81 ?_
          refine lv_lstore (lv' := [(8, .long (p0.2.1 hi)), (6, .long (p0.1 lo)), (0, .ref (ad 0)), (1, .int (nI lo)), (2, .int (nI hi)), (3, .int (nI pu)), (4, .int (bm_b ax)), (5, .int (bm_b up))]) hx hb dX4_goesOn_82 hl (by decide) rfl (fun ls hl => ?_)
          refine lv_iload hx hb dX4_goesOn_84 (lv_at hl 7 rfl) ?_
          refine bm_zb_eq (x := up) (tgt := 105) hx hb dX4_goesOn_86 (by decide) (fun c_12 => ?_) (fun c_12 => ?_)
          · refine lv_lload hx hb dX4_goesOn_105 (lv_at hl 1 rfl) ?_
            refine lv_lload hx hb dX4_goesOn_107 (lv_at hl 0 rfl) ?_
            refine bm_lc_ge (x := (p0.1 lo)) (y := (p0.2.1 hi)) (tgt := 117) hx hb dX4_goesOn_109 dX4_goesOn_110 (by decide) (fun c_13 => ?_) (fun c_13 => ?_)
            · refine lv_iconst (v := bm_b false) hx hb dX4_goesOn_117 (by decide) ?_
              exact bm_zretR (v := false) hx hb hr (by first | (simp [q_goes, c_1, c_2, c_3, c_11, c_12, c_13]; done) | exact absurd (c_1.symm.trans c_2) (by decide) | exact absurd (c_1.symm.trans c_3) (by decide) | exact absurd (c_1.symm.trans c_11) (by decide) | exact absurd (c_1.symm.trans c_12) (by decide) | exact absurd (c_1.symm.trans c_13) (by decide) | exact absurd (c_2.symm.trans c_3) (by decide) | exact absurd (c_2.symm.trans c_11) (by decide) | exact absurd (c_2.symm.trans c_12) (by decide) | exact absurd (c_2.symm.trans c_13) (by decide) | exact absurd (c_3.symm.trans c_11) (by decide) | exact absurd (c_3.symm.trans c_12) (by decide) | exact absurd (c_3.symm.trans c_13) (by decide) | exact absurd (c_11.symm.trans c_12) (by decide) | exact absurd (c_11.symm.trans c_13) (by decide) | exact absurd (c_12.symm.trans c_13) (by decide)) dX4_goesOn_118 hlocks
            · refine lv_iconst (v := bm_b true) hx hb dX4_goesOn_113 (by decide) ?_
              refine lv_goto (tgt := 118) hx hb dX4_goesOn_114 (by decide) ?_
              exact bm_zretR (v := true) hx hb hr (by first | (simp [q_goes, c_1, c_2, c_3, c_11, c_12, c_13]; done) | exact absurd (c_1.symm.trans c_2) (by decide) | exact absurd (c_1.symm.trans c_3) (by decide) | exact absurd (c_1.symm.trans c_11) (by decide) | exact absurd (c_1.symm.trans c_12) (by decide) | exact absurd (c_1.symm.trans c_13) (by decide) | exact absurd (c_2.symm.trans c_3) (by decide) | exact absurd (c_2.symm.trans c_11) (by decide) | exact absurd (c_2.symm.trans c_12) (by decide) | exact absurd (c_2.symm.trans c_13) (by decide) | exact absurd (c_3.symm.trans c_11) (by decide) | exact absurd (c_3.symm.trans c_12) (by decide) | exact absurd (c_3.symm.trans c_13) (by decide) | exact absurd (c_11.symm.trans c_12) (by decide) | exact absurd (c_11.symm.trans c_13) (by decide) | exact absurd (c_12.symm.trans c_13) (by decide)) dX4_goesOn_118 hlocks
          · refine lv_lload hx hb dX4_goesOn_89 (lv_at hl 1 rfl) ?_
            refine lv_lload hx hb dX4_goesOn_91 (lv_at hl 0 rfl) ?_
            refine bm_lc_le (x := (p0.1 lo)) (y := (p0.2.1 hi)) (tgt := 101) hx hb dX4_goesOn_93 dX4_goesOn_94 (by decide) (fun c_14 => ?_) (fun c_14 => ?_)
            · refine lv_iconst (v := bm_b false) hx hb dX4_goesOn_101 (by decide) ?_
              refine lv_goto (tgt := 118) hx hb dX4_goesOn_102 (by decide) ?_
              exact bm_zretR (v := false) hx hb hr (by first | (simp [q_goes, c_1, c_2, c_3, c_11, c_12, c_14]; done) | exact absurd (c_1.symm.trans c_2) (by decide) | exact absurd (c_1.symm.trans c_3) (by decide) | exact absurd (c_1.symm.trans c_11) (by decide) | exact absurd (c_1.symm.trans c_12) (by decide) | exact absurd (c_1.symm.trans c_14) (by decide) | exact absurd (c_2.symm.trans c_3) (by decide) | exact absurd (c_2.symm.trans c_11) (by decide) | exact absurd (c_2.symm.trans c_12) (by decide) | exact absurd (c_2.symm.trans c_14) (by decide) | exact absurd (c_3.symm.trans c_11) (by decide) | exact absurd (c_3.symm.trans c_12) (by decide) | exact absurd (c_3.symm.trans c_14) (by decide) | exact absurd (c_11.symm.trans c_12) (by decide) | exact absurd (c_11.symm.trans c_14) (by decide) | exact absurd (c_12.symm.trans c_14) (by decide)) dX4_goesOn_118 hlocks
            · refine lv_iconst (v := bm_b true) hx hb dX4_goesOn_97 (by decide) ?_
              refine lv_goto (tgt := 118) hx hb dX4_goesOn_98 (by decide) ?_
              exact bm_zretR (v := true) hx hb hr (by first | (simp [q_goes, c_1, c_2, c_3, c_11, c_12, c_14]; done) | exact absurd (c_1.symm.trans c_2) (by decide) | exact absurd (c_1.symm.trans c_3) (by decide) | exact absurd (c_1.symm.trans c_11) (by decide) | exact absurd (c_1.symm.trans c_12) (by decide) | exact absurd (c_1.symm.trans c_14) (by decide) | exact absurd (c_2.symm.trans c_3) (by decide) | exact absurd (c_2.symm.trans c_11) (by decide) | exact absurd (c_2.symm.trans c_12) (by decide) | exact absurd (c_2.symm.trans c_14) (by decide) | exact absurd (c_3.symm.trans c_11) (by decide) | exact absurd (c_3.symm.trans c_12) (by decide) | exact absurd (c_3.symm.trans c_14) (by decide) | exact absurd (c_11.symm.trans c_12) (by decide) | exact absurd (c_11.symm.trans c_14) (by decide) | exact absurd (c_12.symm.trans c_14) (by decide)) dX4_goesOn_118 hlocks
        · refine lv_aload_n hx hb dX4_goesOn_61 rfl (lv_at hl 1 rfl) ?_
          refine va_get (D := D) (ci := 4) (v := .ref (ad 8)) (C := RX4) (T := TX4) (N := 10) hx hb hts (inT inX4) hown hK hP 0 rfl rfl 5 (by decide) (hts (.fieldLink RX4 37 "BoardMoves" "now" "LBoardMoves$Placement;") (by decide +kernel)) (fun _ h9 => h9) rfl dX4_goesOn_62 ?_
          refine va_get (D := D) (ci := 2) (v := .ref (ad 9)) (C := RX2) (T := TX2) (N := 5) hx hb hts (inT inX2) hown hK hP 8 rfl rfl 1 (by decide) (hts (.fieldLink RX4 112 "BoardMoves$Placement" "x" "[J") (by decide +kernel)) (fun _ h9 => h9) rfl dX4_goesOn_65 ?_
          refine lv_iload_n hx hb dX4_goesOn_68 rfl (lv_at hl 3 rfl) ?_
          refine bm_lald (f := p0.1) hx hb hK hP 9 0 rfl rfl (j := hi) (by omega) (by decide) dX4_goesOn_69 ?_
          refine lv_goto (tgt := 82) hx hb dX4_goesOn_70 (by decide) ?_
          refine lv_lstore (lv' := [(8, .long (p0.1 hi)), (6, .long (p0.1 lo)), (0, .ref (ad 0)), (1, .int (nI lo)), (2, .int (nI hi)), (3, .int (nI pu)), (4, .int (bm_b ax)), (5, .int (bm_b up))]) hx hb dX4_goesOn_82 hl (by decide) rfl (fun ls hl => ?_)
          refine lv_iload hx hb dX4_goesOn_84 (lv_at hl 7 rfl) ?_
          refine bm_zb_eq (x := up) (tgt := 105) hx hb dX4_goesOn_86 (by decide) (fun c_15 => ?_) (fun c_15 => ?_)
          · refine lv_lload hx hb dX4_goesOn_105 (lv_at hl 1 rfl) ?_
            refine lv_lload hx hb dX4_goesOn_107 (lv_at hl 0 rfl) ?_
            refine bm_lc_ge (x := (p0.1 lo)) (y := (p0.1 hi)) (tgt := 117) hx hb dX4_goesOn_109 dX4_goesOn_110 (by decide) (fun c_16 => ?_) (fun c_16 => ?_)
            · refine lv_iconst (v := bm_b false) hx hb dX4_goesOn_117 (by decide) ?_
              exact bm_zretR (v := false) hx hb hr (by first | (simp [q_goes, c_1, c_2, c_3, c_11, c_15, c_16]; done) | exact absurd (c_1.symm.trans c_2) (by decide) | exact absurd (c_1.symm.trans c_3) (by decide) | exact absurd (c_1.symm.trans c_11) (by decide) | exact absurd (c_1.symm.trans c_15) (by decide) | exact absurd (c_1.symm.trans c_16) (by decide) | exact absurd (c_2.symm.trans c_3) (by decide) | exact absurd (c_2.symm.trans c_11) (by decide) | exact absurd (c_2.symm.trans c_15) (by decide) | exact absurd (c_2.symm.trans c_16) (by decide) | exact absurd (c_3.symm.trans c_11) (by decide) | exact absurd (c_3.symm.trans c_15) (by decide) | exact absurd (c_3.symm.trans c_16) (by decide) | exact absurd (c_11.symm.trans c_15) (by decide) | exact absurd (c_11.symm.trans c_16) (by decide) | exact absurd (c_15.symm.trans c_16) (by decide)) dX4_goesOn_118 hlocks
            · refine lv_iconst (v := bm_b true) hx hb dX4_goesOn_113 (by decide) ?_
              refine lv_goto (tgt := 118) hx hb dX4_goesOn_114 (by decide) ?_
              exact bm_zretR (v := true) hx hb hr (by first | (simp [q_goes, c_1, c_2, c_3, c_11, c_15, c_16]; done) | exact absurd (c_1.symm.trans c_2) (by decide) | exact absurd (c_1.symm.trans c_3) (by decide) | exact absurd (c_1.symm.trans c_11) (by decide) | exact absurd (c_1.symm.trans c_15) (by decide) | exact absurd (c_1.symm.trans c_16) (by decide) | exact absurd (c_2.symm.trans c_3) (by decide) | exact absurd (c_2.symm.trans c_11) (by decide) | exact absurd (c_2.symm.trans c_15) (by decide) | exact absurd (c_2.symm.trans c_16) (by decide) | exact absurd (c_3.symm.trans c_11) (by decide) | exact absurd (c_3.symm.trans c_15) (by decide) | exact absurd (c_3.symm.trans c_16) (by decide) | exact absurd (c_11.symm.trans c_15) (by decide) | exact absurd (c_11.symm.trans c_16) (by decide) | exact absurd (c_15.symm.trans c_16) (by decide)) dX4_goesOn_118 hlocks
          · refine lv_lload hx hb dX4_goesOn_89 (lv_at hl 1 rfl) ?_
            refine lv_lload hx hb dX4_goesOn_91 (lv_at hl 0 rfl) ?_
            refine bm_lc_le (x := (p0.1 lo)) (y := (p0.1 hi)) (tgt := 101) hx hb dX4_goesOn_93 dX4_goesOn_94 (by decide) (fun c_17 => ?_) (fun c_17 => ?_)
            · refine lv_iconst (v := bm_b false) hx hb dX4_goesOn_101 (by decide) ?_
              refine lv_goto (tgt := 118) hx hb dX4_goesOn_102 (by decide) ?_
              exact bm_zretR (v := false) hx hb hr (by first | (simp [q_goes, c_1, c_2, c_3, c_11, c_15, c_17]; done) | exact absurd (c_1.symm.trans c_2) (by decide) | exact absurd (c_1.symm.trans c_3) (by decide) | exact absurd (c_1.symm.trans c_11) (by decide) | exact absurd (c_1.symm.trans c_15) (by decide) | exact absurd (c_1.symm.trans c_17) (by decide) | exact absurd (c_2.symm.trans c_3) (by decide) | exact absurd (c_2.symm.trans c_11) (by decide) | exact absurd (c_2.symm.trans c_15) (by decide) | exact absurd (c_2.symm.trans c_17) (by decide) | exact absurd (c_3.symm.trans c_11) (by decide) | exact absurd (c_3.symm.trans c_15) (by decide) | exact absurd (c_3.symm.trans c_17) (by decide) | exact absurd (c_11.symm.trans c_15) (by decide) | exact absurd (c_11.symm.trans c_17) (by decide) | exact absurd (c_15.symm.trans c_17) (by decide)) dX4_goesOn_118 hlocks
            · refine lv_iconst (v := bm_b true) hx hb dX4_goesOn_97 (by decide) ?_
              refine lv_goto (tgt := 118) hx hb dX4_goesOn_98 (by decide) ?_
              exact bm_zretR (v := true) hx hb hr (by first | (simp [q_goes, c_1, c_2, c_3, c_11, c_15, c_17]; done) | exact absurd (c_1.symm.trans c_2) (by decide) | exact absurd (c_1.symm.trans c_3) (by decide) | exact absurd (c_1.symm.trans c_11) (by decide) | exact absurd (c_1.symm.trans c_15) (by decide) | exact absurd (c_1.symm.trans c_17) (by decide) | exact absurd (c_2.symm.trans c_3) (by decide) | exact absurd (c_2.symm.trans c_11) (by decide) | exact absurd (c_2.symm.trans c_15) (by decide) | exact absurd (c_2.symm.trans c_17) (by decide) | exact absurd (c_3.symm.trans c_11) (by decide) | exact absurd (c_3.symm.trans c_15) (by decide) | exact absurd (c_3.symm.trans c_17) (by decide) | exact absurd (c_11.symm.trans c_15) (by decide) | exact absurd (c_11.symm.trans c_17) (by decide) | exact absurd (c_15.symm.trans c_17) (by decide)) dX4_goesOn_118 hlocks
    · refine lv_iconst (v := bm_b true) hx hb dX4_goesOn_26 (by decide) ?_
      exact bm_zretR (v := true) hx hb hr (by first | (simp [q_goes, c_1, c_2]; done) | exact absurd (c_1.symm.trans c_2) (by decide)) dX4_goesOn_27 hlocks
  · refine lv_iconst (v := bm_b false) hx hb dX4_goesOn_12 (by decide) ?_
    exact bm_zretR (v := false) hx hb hr (by first | (simp [q_goes, c_1]; done)) dX4_goesOn_13 hlocks
end
section
set_option maxHeartbeats 4000000 in
set_option maxRecDepth 100000 in
theorem r_changed {l : Launch} {D : va_G} {ad : Nat → Nat} {cJ cI cZ : ClassId} {bm : gBM} {pa : gPA} {p0 p1 p2 : gPL} {li : gLI} {wi : gWI} (hoA : q_okA pa) (hoL : q_okL p0) (hoL1 : q_okL p1) {x : Int32} : bm_Rd l yX4_countChanged wsX4_countChanged ({ frames := 1, cells := 0, slots := 0, locals := 22 }) D vwCl [(cJ, .long), (cI, .int), (cZ, .boolean)] (Wd ad cJ cI cZ bm pa p0 p1 p2 li wi) [.ref (ad 0), .int x] (.int (nI (q_count (q_changed p0 p1 x) pa.2.2.2.2.2.2))) := by
  obtain ⟨hn, hsd, hlw⟩ := hoA
  refine Met.ofW (cc := cX4_countChanged) (maxL := 4) (ret := (some .int)) (by decide) rfl ?_
  intro p e s m args below meth c s₁ B hml hv
  obtain ⟨ha, hP, hK⟩ := hv
  have hx := B.exec
  have hb := B.bytes
  have hr := B.returns
  have hts := atoms_spec (ws := wsX4_countChanged) B.pre
  have hown : s.vm.findClass RX4 = some m.cls := findClass_of_methodNamed B.named
  have hlocks := B.notSynchronized
  have lp : ∀ (k : Nat) (i : Nat), i ≤ pa.2.2.2.2.2.2 → pa.2.2.2.2.2.2 < i + k → ∀ (ls : Array Slot), lv_has ls 4 [(0, .ref (ad 0)), (1, .int x), (2, .int (nI (q_count (q_changed p0 p1 x) i))), (3, .int (nI i))] → W p l e (headSpec wsX4_countChanged ({ frames := 1, cells := 0, slots := 0, locals := 22 })).room s m args below meth c s.heap [] 0 0 (MQ below (k2_QcV (.int (nI (q_count (q_changed p0 p1 x) pa.2.2.2.2.2.2)))) args s 0 0 (fun _ => False)) (F0 m 4 ls []) := by
    intro k
    induction k with
    | zero => intro i hi hk; exfalso; omega
    | succ k ih =>
      intro i hi hk ls hl
      refine lv_iload_n hx hb dX4_countChanged_4 rfl (lv_at hl 3 rfl) ?_
      refine lv_aload_n hx hb dX4_countChanged_5 rfl (lv_at hl 0 rfl) ?_
      refine va_get (D := D) (ci := 4) (v := .ref (ad 1)) (C := RX4) (T := TX4) (N := 10) hx hb hts (inT inX4) hown hK hP 0 rfl rfl 2 (by decide) (hts (.fieldLink RX4 12 "BoardMoves" "parts" "LBoardMoves$Parts;") (by decide +kernel)) (fun _ h9 => h9) rfl dX4_countChanged_6 ?_
      refine va_get (D := D) (ci := 1) (v := .int (nI pa.2.2.2.2.2.2)) (C := RX1) (T := TX1) (N := 7) hx hb hts (inT inX1) hown hK hP 1 rfl rfl 6 (by decide) (hts (.fieldLink RX4 197 "BoardMoves$Parts" "count" "I") (by decide +kernel)) (fun _ h9 => h9) rfl dX4_countChanged_9 ?_
      refine bm_ni_ge (x := i) (y := pa.2.2.2.2.2.2) (tgt := 44) hx hb (by omega) (by omega) dX4_countChanged_12 (by decide) (fun c_1 => ?_) (fun c_1 => ?_)
      · refine lv_iload_n hx hb dX4_countChanged_44 rfl (lv_at hl 2 rfl) ?_
        exact bm_iretR (v := (nI (q_count (q_changed p0 p1 x) i))) hx hb hr (by rw [show i = pa.2.2.2.2.2.2 from by omega]) dX4_countChanged_45 hlocks
      · refine lv_iload_n hx hb dX4_countChanged_15 rfl (lv_at hl 3 rfl) ?_
        refine lv_iload_n hx hb dX4_countChanged_16 rfl (lv_at hl 1 rfl) ?_
        refine lv_icmp_eq (x := (nI i)) (y := x) (tgt := 38) hx hb dX4_countChanged_17 (by decide) (fun c_2 => ?_) (fun c_2 => ?_)
        · refine lv_iinc (v := (nI (i + 1))) (lv' := [(3, .int (nI (i + 1))), (0, .ref (ad 0)), (1, .int x), (2, .int (nI (q_count (q_changed p0 p1 x) i)))]) hx hb dX4_countChanged_38 hl (k := 3) rfl (nI_1 i) (by decide) rfl (fun ls hl => ?_)
          refine lv_goto (tgt := 4) hx hb dX4_countChanged_41 (by decide) ?_
          rw [show q_count (q_changed p0 p1 x) i = q_count (q_changed p0 p1 x) (i + 1) from by simp [q_count, q_changed, c_2]] at hl
          exact ih (i + 1) (by omega) (by omega) _ (lv_sub hl [1, 2, 3, 0] rfl)
        · refine lv_aload_n hx hb dX4_countChanged_20 rfl (lv_at hl 0 rfl) ?_
          refine va_get (D := D) (ci := 4) (v := .ref (ad 8)) (C := RX4) (T := TX4) (N := 10) hx hb hts (inT inX4) hown hK hP 0 rfl rfl 5 (by decide) (hts (.fieldLink RX4 37 "BoardMoves" "now" "LBoardMoves$Placement;") (by decide +kernel)) (fun _ h9 => h9) rfl dX4_countChanged_21 ?_
          refine lv_aload_n hx hb dX4_countChanged_24 rfl (lv_at hl 0 rfl) ?_
          refine va_get (D := D) (ci := 4) (v := .ref (ad 13)) (C := RX4) (T := TX4) (N := 10) hx hb hts (inT inX4) hown hK hP 0 rfl rfl 6 (by decide) (hts (.fieldLink RX4 41 "BoardMoves" "before" "LBoardMoves$Placement;") (by decide +kernel)) (fun _ h9 => h9) rfl dX4_countChanged_25 ?_
          refine lv_iload_n hx hb dX4_countChanged_28 rfl (lv_at hl 3 rfl) ?_
          refine bm_rcallV (As := [.ref (ad 13), .int (nI i)]) (rest := []) ⟨hx, hb, hml, hown, hts⟩ (r_differs (j := i) hoL hoL1 (by omega)) (cwV 2 hts (gdV (by decide +kernel) (by decide +kernel) (by decide +kernel) (by decide +kernel) (by decide +kernel)) rfl rfl rfl (by decide +kernel) ⟨Nat.le_of_ble_eq_true rfl, Nat.le_of_ble_eq_true rfl⟩) hK hP 8 2 rfl rfl rfl hl.1 rfl (Nat.le_of_ble_eq_true rfl) dX4_countChanged_29 ⟨Nat.le_of_ble_eq_true rfl, Nat.le_of_ble_eq_true rfl⟩ ?_
          refine bm_zb_eq (x := (q_differs p0 p1 i)) (tgt := 38) hx hb dX4_countChanged_32 (by decide) (fun c_3 => ?_) (fun c_3 => ?_)
          · refine lv_iinc (v := (nI (i + 1))) (lv' := [(3, .int (nI (i + 1))), (0, .ref (ad 0)), (1, .int x), (2, .int (nI (q_count (q_changed p0 p1 x) i)))]) hx hb dX4_countChanged_38 hl (k := 3) rfl (nI_1 i) (by decide) rfl (fun ls hl => ?_)
            refine lv_goto (tgt := 4) hx hb dX4_countChanged_41 (by decide) ?_
            rw [show q_count (q_changed p0 p1 x) i = q_count (q_changed p0 p1 x) (i + 1) from by simp [q_count, q_changed, c_2, c_3]] at hl
            exact ih (i + 1) (by omega) (by omega) _ (lv_sub hl [1, 2, 3, 0] rfl)
          · refine lv_iinc (v := (nI ((q_count (q_changed p0 p1 x) i) + 1))) (lv' := [(2, .int (nI ((q_count (q_changed p0 p1 x) i) + 1))), (0, .ref (ad 0)), (1, .int x), (3, .int (nI i))]) hx hb dX4_countChanged_35 hl (k := 2) rfl (nI_1 (q_count (q_changed p0 p1 x) i)) (by decide) rfl (fun ls hl => ?_)
            refine lv_iinc (v := (nI (i + 1))) (lv' := [(3, .int (nI (i + 1))), (2, .int (nI ((q_count (q_changed p0 p1 x) i) + 1))), (0, .ref (ad 0)), (1, .int x)]) hx hb dX4_countChanged_38 hl (k := 3) rfl (nI_1 i) (by decide) rfl (fun ls hl => ?_)
            refine lv_goto (tgt := 4) hx hb dX4_countChanged_41 (by decide) ?_
            rw [show (q_count (q_changed p0 p1 x) i) + 1 = q_count (q_changed p0 p1 x) (i + 1) from by simp [q_count, q_changed, c_2, c_3]] at hl
            exact ih (i + 1) (by omega) (by omega) _ (lv_sub hl [2, 3, 1, 0] rfl)
  have hl := lv_entry ([.ref (ad 0), .int x]) (n := 4) (Nat.le_of_ble_eq_true rfl)
  refine W.eq (g2 := entryFrame m ([.ref (ad 0), .int x] : List Value).toArray 4) (by rw [ha]) ?_
  rw [lg_entry_eq]
  generalize (lg_sl ([.ref (ad 0), .int x]) ++ List.replicate (4 - (lg_sl ([.ref (ad 0), .int x])).length) Slot.unset).toArray = ls at hl ⊢
  have hl : lv_has ls 4 [(0, .ref (ad 0)), (1, .int x)] := hl
  refine lv_iconst (v := nI 0) hx hb dX4_countChanged_0 (by decide) ?_
  refine lv_istore_n (lv' := [(2, .int (nI 0)), (0, .ref (ad 0)), (1, .int x)]) hx hb dX4_countChanged_1 rfl hl (by decide) rfl (fun ls hl => ?_)
  refine lv_iconst (v := nI 0) hx hb dX4_countChanged_2 (by decide) ?_
  refine lv_istore_n (lv' := [(3, .int (nI 0)), (2, .int (nI 0)), (0, .ref (ad 0)), (1, .int x)]) hx hb dX4_countChanged_3 rfl hl (by decide) rfl (fun ls hl => ?_)
  exact lp (pa.2.2.2.2.2.2 + 1) 0 (by omega) (by omega) _ (lv_sub hl [2, 3, 1, 0] rfl)
end
section
abbrev cX2_shiftGroup : ByteArray := prog_4_method_5_code
def yX2_shiftGroup : MethodName := ⟨RX2, "shiftGroup", "(IJJ)V"⟩
def wsX2_shiftGroup : List Cond := .code yX2_shiftGroup cX2_shiftGroup 7 none :: bT
theorem dX2_shiftGroup_0 : decode cX2_shiftGroup 0 = .ok (.iconst 0, 1) := by decide +kernel
theorem dX2_shiftGroup_1 : decode cX2_shiftGroup 1 = .ok (.istore 6, 2) := by decide +kernel
theorem dX2_shiftGroup_3 : decode cX2_shiftGroup 3 = .ok (.iload 6, 2) := by decide +kernel
theorem dX2_shiftGroup_5 : decode cX2_shiftGroup 5 = .ok (.aload_n 0, 1) := by decide +kernel
theorem dX2_shiftGroup_6 : decode cX2_shiftGroup 6 = .ok (.getfield 26, 3) := by decide +kernel
theorem dX2_shiftGroup_9 : decode cX2_shiftGroup 9 = .ok (.getfield 30, 3) := by decide +kernel
theorem dX2_shiftGroup_12 : decode cX2_shiftGroup 12 = .ok (.if_icmp .ge (55), 3) := by decide +kernel
theorem dX2_shiftGroup_15 : decode cX2_shiftGroup 15 = .ok (.aload_n 0, 1) := by decide +kernel
theorem dX2_shiftGroup_16 : decode cX2_shiftGroup 16 = .ok (.getfield 22, 3) := by decide +kernel
theorem dX2_shiftGroup_19 : decode cX2_shiftGroup 19 = .ok (.iload 6, 2) := by decide +kernel
theorem dX2_shiftGroup_21 : decode cX2_shiftGroup 21 = .ok (.baload, 1) := by decide +kernel
theorem dX2_shiftGroup_22 : decode cX2_shiftGroup 22 = .ok (.ifCond .eq (39), 3) := by decide +kernel
theorem dX2_shiftGroup_25 : decode cX2_shiftGroup 25 = .ok (.aload_n 0, 1) := by decide +kernel
theorem dX2_shiftGroup_26 : decode cX2_shiftGroup 26 = .ok (.getfield 26, 3) := by decide +kernel
theorem dX2_shiftGroup_29 : decode cX2_shiftGroup 29 = .ok (.iload 6, 2) := by decide +kernel
theorem dX2_shiftGroup_31 : decode cX2_shiftGroup 31 = .ok (.iload_n 1, 1) := by decide +kernel
theorem dX2_shiftGroup_32 : decode cX2_shiftGroup 32 = .ok (.invokevirtual 36, 3) := by decide +kernel
theorem dX2_shiftGroup_35 : decode cX2_shiftGroup 35 = .ok (.ifCond .eq (26), 3) := by decide +kernel
theorem dX2_shiftGroup_38 : decode cX2_shiftGroup 38 = .ok (.aload_n 0, 1) := by decide +kernel
theorem dX2_shiftGroup_39 : decode cX2_shiftGroup 39 = .ok (.getfield 9, 3) := by decide +kernel
theorem dX2_shiftGroup_42 : decode cX2_shiftGroup 42 = .ok (.iload 6, 2) := by decide +kernel
theorem dX2_shiftGroup_44 : decode cX2_shiftGroup 44 = .ok (.dup2, 1) := by decide +kernel
theorem dX2_shiftGroup_45 : decode cX2_shiftGroup 45 = .ok (.laload, 1) := by decide +kernel
theorem dX2_shiftGroup_46 : decode cX2_shiftGroup 46 = .ok (.lload_n 2, 1) := by decide +kernel
theorem dX2_shiftGroup_47 : decode cX2_shiftGroup 47 = .ok (.ladd, 1) := by decide +kernel
theorem dX2_shiftGroup_48 : decode cX2_shiftGroup 48 = .ok (.lastore, 1) := by decide +kernel
theorem dX2_shiftGroup_49 : decode cX2_shiftGroup 49 = .ok (.aload_n 0, 1) := by decide +kernel
theorem dX2_shiftGroup_50 : decode cX2_shiftGroup 50 = .ok (.getfield 15, 3) := by decide +kernel
theorem dX2_shiftGroup_53 : decode cX2_shiftGroup 53 = .ok (.iload 6, 2) := by decide +kernel
theorem dX2_shiftGroup_55 : decode cX2_shiftGroup 55 = .ok (.dup2, 1) := by decide +kernel
theorem dX2_shiftGroup_56 : decode cX2_shiftGroup 56 = .ok (.laload, 1) := by decide +kernel
theorem dX2_shiftGroup_57 : decode cX2_shiftGroup 57 = .ok (.lload 4, 2) := by decide +kernel
theorem dX2_shiftGroup_59 : decode cX2_shiftGroup 59 = .ok (.ladd, 1) := by decide +kernel
theorem dX2_shiftGroup_60 : decode cX2_shiftGroup 60 = .ok (.lastore, 1) := by decide +kernel
theorem dX2_shiftGroup_61 : decode cX2_shiftGroup 61 = .ok (.iinc 6 1, 3) := by decide +kernel
theorem dX2_shiftGroup_64 : decode cX2_shiftGroup 64 = .ok (.goto (-61), 3) := by decide +kernel
theorem dX2_shiftGroup_67 : decode cX2_shiftGroup 67 = .ok (.return_, 1) := by decide +kernel
abbrev cX2_copyFrom : ByteArray := prog_4_method_2_code
def yX2_copyFrom : MethodName := ⟨RX2, "copyFrom", "(LBoardMoves$Placement;)V"⟩
def wsX2_copyFrom : List Cond := .code yX2_copyFrom cX2_copyFrom 3 none :: bT
theorem dX2_copyFrom_0 : decode cX2_copyFrom 0 = .ok (.iconst 0, 1) := by decide +kernel
theorem dX2_copyFrom_1 : decode cX2_copyFrom 1 = .ok (.istore_n 2, 1) := by decide +kernel
theorem dX2_copyFrom_2 : decode cX2_copyFrom 2 = .ok (.iload_n 2, 1) := by decide +kernel
theorem dX2_copyFrom_3 : decode cX2_copyFrom 3 = .ok (.aload_n 0, 1) := by decide +kernel
theorem dX2_copyFrom_4 : decode cX2_copyFrom 4 = .ok (.getfield 26, 3) := by decide +kernel
theorem dX2_copyFrom_7 : decode cX2_copyFrom 7 = .ok (.getfield 30, 3) := by decide +kernel
theorem dX2_copyFrom_10 : decode cX2_copyFrom 10 = .ok (.if_icmp .ge (57), 3) := by decide +kernel
theorem dX2_copyFrom_13 : decode cX2_copyFrom 13 = .ok (.aload_n 0, 1) := by decide +kernel
theorem dX2_copyFrom_14 : decode cX2_copyFrom 14 = .ok (.getfield 9, 3) := by decide +kernel
theorem dX2_copyFrom_17 : decode cX2_copyFrom 17 = .ok (.iload_n 2, 1) := by decide +kernel
theorem dX2_copyFrom_18 : decode cX2_copyFrom 18 = .ok (.aload_n 1, 1) := by decide +kernel
theorem dX2_copyFrom_19 : decode cX2_copyFrom 19 = .ok (.getfield 9, 3) := by decide +kernel
theorem dX2_copyFrom_22 : decode cX2_copyFrom 22 = .ok (.iload_n 2, 1) := by decide +kernel
theorem dX2_copyFrom_23 : decode cX2_copyFrom 23 = .ok (.laload, 1) := by decide +kernel
theorem dX2_copyFrom_24 : decode cX2_copyFrom 24 = .ok (.lastore, 1) := by decide +kernel
theorem dX2_copyFrom_25 : decode cX2_copyFrom 25 = .ok (.aload_n 0, 1) := by decide +kernel
theorem dX2_copyFrom_26 : decode cX2_copyFrom 26 = .ok (.getfield 15, 3) := by decide +kernel
theorem dX2_copyFrom_29 : decode cX2_copyFrom 29 = .ok (.iload_n 2, 1) := by decide +kernel
theorem dX2_copyFrom_30 : decode cX2_copyFrom 30 = .ok (.aload_n 1, 1) := by decide +kernel
theorem dX2_copyFrom_31 : decode cX2_copyFrom 31 = .ok (.getfield 15, 3) := by decide +kernel
theorem dX2_copyFrom_34 : decode cX2_copyFrom 34 = .ok (.iload_n 2, 1) := by decide +kernel
theorem dX2_copyFrom_35 : decode cX2_copyFrom 35 = .ok (.laload, 1) := by decide +kernel
theorem dX2_copyFrom_36 : decode cX2_copyFrom 36 = .ok (.lastore, 1) := by decide +kernel
theorem dX2_copyFrom_37 : decode cX2_copyFrom 37 = .ok (.aload_n 0, 1) := by decide +kernel
theorem dX2_copyFrom_38 : decode cX2_copyFrom 38 = .ok (.getfield 18, 3) := by decide +kernel
theorem dX2_copyFrom_41 : decode cX2_copyFrom 41 = .ok (.iload_n 2, 1) := by decide +kernel
theorem dX2_copyFrom_42 : decode cX2_copyFrom 42 = .ok (.aload_n 1, 1) := by decide +kernel
theorem dX2_copyFrom_43 : decode cX2_copyFrom 43 = .ok (.getfield 18, 3) := by decide +kernel
theorem dX2_copyFrom_46 : decode cX2_copyFrom 46 = .ok (.iload_n 2, 1) := by decide +kernel
theorem dX2_copyFrom_47 : decode cX2_copyFrom 47 = .ok (.iaload, 1) := by decide +kernel
theorem dX2_copyFrom_48 : decode cX2_copyFrom 48 = .ok (.iastore, 1) := by decide +kernel
theorem dX2_copyFrom_49 : decode cX2_copyFrom 49 = .ok (.aload_n 0, 1) := by decide +kernel
theorem dX2_copyFrom_50 : decode cX2_copyFrom 50 = .ok (.getfield 22, 3) := by decide +kernel
theorem dX2_copyFrom_53 : decode cX2_copyFrom 53 = .ok (.iload_n 2, 1) := by decide +kernel
theorem dX2_copyFrom_54 : decode cX2_copyFrom 54 = .ok (.aload_n 1, 1) := by decide +kernel
theorem dX2_copyFrom_55 : decode cX2_copyFrom 55 = .ok (.getfield 22, 3) := by decide +kernel
theorem dX2_copyFrom_58 : decode cX2_copyFrom 58 = .ok (.iload_n 2, 1) := by decide +kernel
theorem dX2_copyFrom_59 : decode cX2_copyFrom 59 = .ok (.baload, 1) := by decide +kernel
theorem dX2_copyFrom_60 : decode cX2_copyFrom 60 = .ok (.bastore, 1) := by decide +kernel
theorem dX2_copyFrom_61 : decode cX2_copyFrom 61 = .ok (.iinc 2 1, 3) := by decide +kernel
theorem dX2_copyFrom_64 : decode cX2_copyFrom 64 = .ok (.goto (-62), 3) := by decide +kernel
theorem dX2_copyFrom_67 : decode cX2_copyFrom 67 = .ok (.return_, 1) := by decide +kernel
abbrev cX2_place : ByteArray := prog_4_method_4_code
def yX2_place : MethodName := ⟨RX2, "place", "(IJJI)V"⟩
def wsX2_place : List Cond := .code yX2_place cX2_place 7 none :: bT
theorem dX2_place_0 : decode cX2_place 0 = .ok (.aload_n 0, 1) := by decide +kernel
theorem dX2_place_1 : decode cX2_place 1 = .ok (.getfield 9, 3) := by decide +kernel
theorem dX2_place_4 : decode cX2_place 4 = .ok (.iload_n 1, 1) := by decide +kernel
theorem dX2_place_5 : decode cX2_place 5 = .ok (.lload_n 2, 1) := by decide +kernel
theorem dX2_place_6 : decode cX2_place 6 = .ok (.lastore, 1) := by decide +kernel
theorem dX2_place_7 : decode cX2_place 7 = .ok (.aload_n 0, 1) := by decide +kernel
theorem dX2_place_8 : decode cX2_place 8 = .ok (.getfield 15, 3) := by decide +kernel
theorem dX2_place_11 : decode cX2_place 11 = .ok (.iload_n 1, 1) := by decide +kernel
theorem dX2_place_12 : decode cX2_place 12 = .ok (.lload 4, 2) := by decide +kernel
theorem dX2_place_14 : decode cX2_place 14 = .ok (.lastore, 1) := by decide +kernel
theorem dX2_place_15 : decode cX2_place 15 = .ok (.aload_n 0, 1) := by decide +kernel
theorem dX2_place_16 : decode cX2_place 16 = .ok (.getfield 18, 3) := by decide +kernel
theorem dX2_place_19 : decode cX2_place 19 = .ok (.iload_n 1, 1) := by decide +kernel
theorem dX2_place_20 : decode cX2_place 20 = .ok (.iload 6, 2) := by decide +kernel
theorem dX2_place_22 : decode cX2_place 22 = .ok (.iastore, 1) := by decide +kernel
theorem dX2_place_23 : decode cX2_place 23 = .ok (.aload_n 0, 1) := by decide +kernel
theorem dX2_place_24 : decode cX2_place 24 = .ok (.getfield 22, 3) := by decide +kernel
theorem dX2_place_27 : decode cX2_place 27 = .ok (.iload_n 1, 1) := by decide +kernel
theorem dX2_place_28 : decode cX2_place 28 = .ok (.iconst 1, 1) := by decide +kernel
theorem dX2_place_29 : decode cX2_place 29 = .ok (.bastore, 1) := by decide +kernel
theorem dX2_place_30 : decode cX2_place 30 = .ok (.return_, 1) := by decide +kernel
abbrev cX1_add : ByteArray := prog_3_method_2_code
def yX1_add : MethodName := ⟨RX1, "add", "(JJI)I"⟩
def wsX1_add : List Cond := .code yX1_add cX1_add 6 (some .int) :: bT
theorem dX1_add_0 : decode cX1_add 0 = .ok (.aload_n 0, 1) := by decide +kernel
theorem dX1_add_1 : decode cX1_add 1 = .ok (.getfield 32, 3) := by decide +kernel
theorem dX1_add_4 : decode cX1_add 4 = .ok (.bipush 40, 2) := by decide +kernel
theorem dX1_add_6 : decode cX1_add 6 = .ok (.if_icmp .lt (5), 3) := by decide +kernel
theorem dX1_add_9 : decode cX1_add 9 = .ok (.iconst (-1), 1) := by decide +kernel
theorem dX1_add_10 : decode cX1_add 10 = .ok (.ireturn, 1) := by decide +kernel
theorem dX1_add_11 : decode cX1_add 11 = .ok (.aload_n 0, 1) := by decide +kernel
theorem dX1_add_12 : decode cX1_add 12 = .ok (.getfield 9, 3) := by decide +kernel
theorem dX1_add_15 : decode cX1_add 15 = .ok (.aload_n 0, 1) := by decide +kernel
theorem dX1_add_16 : decode cX1_add 16 = .ok (.getfield 32, 3) := by decide +kernel
theorem dX1_add_19 : decode cX1_add 19 = .ok (.lload_n 1, 1) := by decide +kernel
theorem dX1_add_20 : decode cX1_add 20 = .ok (.lastore, 1) := by decide +kernel
theorem dX1_add_21 : decode cX1_add 21 = .ok (.aload_n 0, 1) := by decide +kernel
theorem dX1_add_22 : decode cX1_add 22 = .ok (.getfield 15, 3) := by decide +kernel
theorem dX1_add_25 : decode cX1_add 25 = .ok (.aload_n 0, 1) := by decide +kernel
theorem dX1_add_26 : decode cX1_add 26 = .ok (.getfield 32, 3) := by decide +kernel
theorem dX1_add_29 : decode cX1_add 29 = .ok (.lload_n 3, 1) := by decide +kernel
theorem dX1_add_30 : decode cX1_add 30 = .ok (.lastore, 1) := by decide +kernel
theorem dX1_add_31 : decode cX1_add 31 = .ok (.aload_n 0, 1) := by decide +kernel
theorem dX1_add_32 : decode cX1_add 32 = .ok (.getfield 18, 3) := by decide +kernel
theorem dX1_add_35 : decode cX1_add 35 = .ok (.aload_n 0, 1) := by decide +kernel
theorem dX1_add_36 : decode cX1_add 36 = .ok (.getfield 32, 3) := by decide +kernel
theorem dX1_add_39 : decode cX1_add 39 = .ok (.iload 5, 2) := by decide +kernel
theorem dX1_add_41 : decode cX1_add 41 = .ok (.iastore, 1) := by decide +kernel
theorem dX1_add_42 : decode cX1_add 42 = .ok (.aload_n 0, 1) := by decide +kernel
theorem dX1_add_43 : decode cX1_add 43 = .ok (.getfield 29, 3) := by decide +kernel
theorem dX1_add_46 : decode cX1_add 46 = .ok (.aload_n 0, 1) := by decide +kernel
theorem dX1_add_47 : decode cX1_add 47 = .ok (.getfield 32, 3) := by decide +kernel
theorem dX1_add_50 : decode cX1_add 50 = .ok (.aload_n 0, 1) := by decide +kernel
theorem dX1_add_51 : decode cX1_add 51 = .ok (.getfield 32, 3) := by decide +kernel
theorem dX1_add_54 : decode cX1_add 54 = .ok (.iastore, 1) := by decide +kernel
theorem dX1_add_55 : decode cX1_add 55 = .ok (.aload_n 0, 1) := by decide +kernel
theorem dX1_add_56 : decode cX1_add 56 = .ok (.dup, 1) := by decide +kernel
theorem dX1_add_57 : decode cX1_add 57 = .ok (.getfield 32, 3) := by decide +kernel
theorem dX1_add_60 : decode cX1_add 60 = .ok (.iconst 1, 1) := by decide +kernel
theorem dX1_add_61 : decode cX1_add 61 = .ok (.iadd, 1) := by decide +kernel
theorem dX1_add_62 : decode cX1_add 62 = .ok (.putfield 32, 3) := by decide +kernel
theorem dX1_add_65 : decode cX1_add 65 = .ok (.aload_n 0, 1) := by decide +kernel
theorem dX1_add_66 : decode cX1_add 66 = .ok (.getfield 32, 3) := by decide +kernel
theorem dX1_add_69 : decode cX1_add 69 = .ok (.iconst 1, 1) := by decide +kernel
theorem dX1_add_70 : decode cX1_add 70 = .ok (.isub, 1) := by decide +kernel
theorem dX1_add_71 : decode cX1_add 71 = .ok (.ireturn, 1) := by decide +kernel
abbrev cX0_addKeepOut : ByteArray := prog_2_method_2_code
def yX0_addKeepOut : MethodName := ⟨RX0, "addKeepOut", "(JJJJJ)Z"⟩
def wsX0_addKeepOut : List Cond := .code yX0_addKeepOut cX0_addKeepOut 11 (some .boolean) :: bT
theorem dX0_addKeepOut_0 : decode cX0_addKeepOut 0 = .ok (.aload_n 0, 1) := by decide +kernel
theorem dX0_addKeepOut_1 : decode cX0_addKeepOut 1 = .ok (.getfield 37, 3) := by decide +kernel
theorem dX0_addKeepOut_4 : decode cX0_addKeepOut 4 = .ok (.bipush 10, 2) := by decide +kernel
theorem dX0_addKeepOut_6 : decode cX0_addKeepOut 6 = .ok (.if_icmp .lt (5), 3) := by decide +kernel
theorem dX0_addKeepOut_9 : decode cX0_addKeepOut 9 = .ok (.iconst 0, 1) := by decide +kernel
theorem dX0_addKeepOut_10 : decode cX0_addKeepOut 10 = .ok (.ireturn, 1) := by decide +kernel
theorem dX0_addKeepOut_11 : decode cX0_addKeepOut 11 = .ok (.aload_n 0, 1) := by decide +kernel
theorem dX0_addKeepOut_12 : decode cX0_addKeepOut 12 = .ok (.getfield 9, 3) := by decide +kernel
theorem dX0_addKeepOut_15 : decode cX0_addKeepOut 15 = .ok (.aload_n 0, 1) := by decide +kernel
theorem dX0_addKeepOut_16 : decode cX0_addKeepOut 16 = .ok (.getfield 37, 3) := by decide +kernel
theorem dX0_addKeepOut_19 : decode cX0_addKeepOut 19 = .ok (.lload_n 1, 1) := by decide +kernel
theorem dX0_addKeepOut_20 : decode cX0_addKeepOut 20 = .ok (.lastore, 1) := by decide +kernel
theorem dX0_addKeepOut_21 : decode cX0_addKeepOut 21 = .ok (.aload_n 0, 1) := by decide +kernel
theorem dX0_addKeepOut_22 : decode cX0_addKeepOut 22 = .ok (.getfield 15, 3) := by decide +kernel
theorem dX0_addKeepOut_25 : decode cX0_addKeepOut 25 = .ok (.aload_n 0, 1) := by decide +kernel
theorem dX0_addKeepOut_26 : decode cX0_addKeepOut 26 = .ok (.getfield 37, 3) := by decide +kernel
theorem dX0_addKeepOut_29 : decode cX0_addKeepOut 29 = .ok (.lload_n 3, 1) := by decide +kernel
theorem dX0_addKeepOut_30 : decode cX0_addKeepOut 30 = .ok (.lastore, 1) := by decide +kernel
theorem dX0_addKeepOut_31 : decode cX0_addKeepOut 31 = .ok (.aload_n 0, 1) := by decide +kernel
theorem dX0_addKeepOut_32 : decode cX0_addKeepOut 32 = .ok (.getfield 18, 3) := by decide +kernel
theorem dX0_addKeepOut_35 : decode cX0_addKeepOut 35 = .ok (.aload_n 0, 1) := by decide +kernel
theorem dX0_addKeepOut_36 : decode cX0_addKeepOut 36 = .ok (.getfield 37, 3) := by decide +kernel
theorem dX0_addKeepOut_39 : decode cX0_addKeepOut 39 = .ok (.lload 5, 2) := by decide +kernel
theorem dX0_addKeepOut_41 : decode cX0_addKeepOut 41 = .ok (.lastore, 1) := by decide +kernel
theorem dX0_addKeepOut_42 : decode cX0_addKeepOut 42 = .ok (.aload_n 0, 1) := by decide +kernel
theorem dX0_addKeepOut_43 : decode cX0_addKeepOut 43 = .ok (.getfield 21, 3) := by decide +kernel
theorem dX0_addKeepOut_46 : decode cX0_addKeepOut 46 = .ok (.aload_n 0, 1) := by decide +kernel
theorem dX0_addKeepOut_47 : decode cX0_addKeepOut 47 = .ok (.getfield 37, 3) := by decide +kernel
theorem dX0_addKeepOut_50 : decode cX0_addKeepOut 50 = .ok (.lload 7, 2) := by decide +kernel
theorem dX0_addKeepOut_52 : decode cX0_addKeepOut 52 = .ok (.lastore, 1) := by decide +kernel
theorem dX0_addKeepOut_53 : decode cX0_addKeepOut 53 = .ok (.aload_n 0, 1) := by decide +kernel
theorem dX0_addKeepOut_54 : decode cX0_addKeepOut 54 = .ok (.getfield 24, 3) := by decide +kernel
theorem dX0_addKeepOut_57 : decode cX0_addKeepOut 57 = .ok (.aload_n 0, 1) := by decide +kernel
theorem dX0_addKeepOut_58 : decode cX0_addKeepOut 58 = .ok (.getfield 37, 3) := by decide +kernel
theorem dX0_addKeepOut_61 : decode cX0_addKeepOut 61 = .ok (.lload 9, 2) := by decide +kernel
theorem dX0_addKeepOut_63 : decode cX0_addKeepOut 63 = .ok (.lastore, 1) := by decide +kernel
theorem dX0_addKeepOut_64 : decode cX0_addKeepOut 64 = .ok (.aload_n 0, 1) := by decide +kernel
theorem dX0_addKeepOut_65 : decode cX0_addKeepOut 65 = .ok (.dup, 1) := by decide +kernel
theorem dX0_addKeepOut_66 : decode cX0_addKeepOut 66 = .ok (.getfield 37, 3) := by decide +kernel
theorem dX0_addKeepOut_69 : decode cX0_addKeepOut 69 = .ok (.iconst 1, 1) := by decide +kernel
theorem dX0_addKeepOut_70 : decode cX0_addKeepOut 70 = .ok (.iadd, 1) := by decide +kernel
theorem dX0_addKeepOut_71 : decode cX0_addKeepOut 71 = .ok (.putfield 37, 3) := by decide +kernel
theorem dX0_addKeepOut_74 : decode cX0_addKeepOut 74 = .ok (.iconst 1, 1) := by decide +kernel
theorem dX0_addKeepOut_75 : decode cX0_addKeepOut 75 = .ok (.ireturn, 1) := by decide +kernel
abbrev cX0_addNear : ByteArray := prog_2_method_4_code
def yX0_addNear : MethodName := ⟨RX0, "addNear", "(IIJ)Z"⟩
def wsX0_addNear : List Cond := .code yX0_addNear cX0_addNear 5 (some .boolean) :: bT
theorem dX0_addNear_0 : decode cX0_addNear 0 = .ok (.aload_n 0, 1) := by decide +kernel
theorem dX0_addNear_1 : decode cX0_addNear 1 = .ok (.getfield 41, 3) := by decide +kernel
theorem dX0_addNear_4 : decode cX0_addNear 4 = .ok (.bipush 20, 2) := by decide +kernel
theorem dX0_addNear_6 : decode cX0_addNear 6 = .ok (.if_icmp .lt (5), 3) := by decide +kernel
theorem dX0_addNear_9 : decode cX0_addNear 9 = .ok (.iconst 0, 1) := by decide +kernel
theorem dX0_addNear_10 : decode cX0_addNear 10 = .ok (.ireturn, 1) := by decide +kernel
theorem dX0_addNear_11 : decode cX0_addNear 11 = .ok (.aload_n 0, 1) := by decide +kernel
theorem dX0_addNear_12 : decode cX0_addNear 12 = .ok (.getfield 27, 3) := by decide +kernel
theorem dX0_addNear_15 : decode cX0_addNear 15 = .ok (.aload_n 0, 1) := by decide +kernel
theorem dX0_addNear_16 : decode cX0_addNear 16 = .ok (.getfield 41, 3) := by decide +kernel
theorem dX0_addNear_19 : decode cX0_addNear 19 = .ok (.iload_n 1, 1) := by decide +kernel
theorem dX0_addNear_20 : decode cX0_addNear 20 = .ok (.iastore, 1) := by decide +kernel
theorem dX0_addNear_21 : decode cX0_addNear 21 = .ok (.aload_n 0, 1) := by decide +kernel
theorem dX0_addNear_22 : decode cX0_addNear 22 = .ok (.getfield 31, 3) := by decide +kernel
theorem dX0_addNear_25 : decode cX0_addNear 25 = .ok (.aload_n 0, 1) := by decide +kernel
theorem dX0_addNear_26 : decode cX0_addNear 26 = .ok (.getfield 41, 3) := by decide +kernel
theorem dX0_addNear_29 : decode cX0_addNear 29 = .ok (.iload_n 2, 1) := by decide +kernel
theorem dX0_addNear_30 : decode cX0_addNear 30 = .ok (.iastore, 1) := by decide +kernel
theorem dX0_addNear_31 : decode cX0_addNear 31 = .ok (.aload_n 0, 1) := by decide +kernel
theorem dX0_addNear_32 : decode cX0_addNear 32 = .ok (.getfield 34, 3) := by decide +kernel
theorem dX0_addNear_35 : decode cX0_addNear 35 = .ok (.aload_n 0, 1) := by decide +kernel
theorem dX0_addNear_36 : decode cX0_addNear 36 = .ok (.getfield 41, 3) := by decide +kernel
theorem dX0_addNear_39 : decode cX0_addNear 39 = .ok (.lload_n 3, 1) := by decide +kernel
theorem dX0_addNear_40 : decode cX0_addNear 40 = .ok (.lastore, 1) := by decide +kernel
theorem dX0_addNear_41 : decode cX0_addNear 41 = .ok (.aload_n 0, 1) := by decide +kernel
theorem dX0_addNear_42 : decode cX0_addNear 42 = .ok (.dup, 1) := by decide +kernel
theorem dX0_addNear_43 : decode cX0_addNear 43 = .ok (.getfield 41, 3) := by decide +kernel
theorem dX0_addNear_46 : decode cX0_addNear 46 = .ok (.iconst 1, 1) := by decide +kernel
theorem dX0_addNear_47 : decode cX0_addNear 47 = .ok (.iadd, 1) := by decide +kernel
theorem dX0_addNear_48 : decode cX0_addNear 48 = .ok (.putfield 41, 3) := by decide +kernel
theorem dX0_addNear_51 : decode cX0_addNear 51 = .ok (.iconst 1, 1) := by decide +kernel
theorem dX0_addNear_52 : decode cX0_addNear 52 = .ok (.ireturn, 1) := by decide +kernel
abbrev cX3_addNet : ByteArray := prog_5_method_2_code
def yX3_addNet : MethodName := ⟨RX3, "addNet", "()I"⟩
def wsX3_addNet : List Cond := .code yX3_addNet cX3_addNet 1 (some .int) :: bT
theorem dX3_addNet_0 : decode cX3_addNet 0 = .ok (.aload_n 0, 1) := by decide +kernel
theorem dX3_addNet_1 : decode cX3_addNet 1 = .ok (.getfield 41, 3) := by decide +kernel
theorem dX3_addNet_4 : decode cX3_addNet 4 = .ok (.bipush 40, 2) := by decide +kernel
theorem dX3_addNet_6 : decode cX3_addNet 6 = .ok (.if_icmp .lt (5), 3) := by decide +kernel
theorem dX3_addNet_9 : decode cX3_addNet 9 = .ok (.iconst (-1), 1) := by decide +kernel
theorem dX3_addNet_10 : decode cX3_addNet 10 = .ok (.ireturn, 1) := by decide +kernel
theorem dX3_addNet_11 : decode cX3_addNet 11 = .ok (.aload_n 0, 1) := by decide +kernel
theorem dX3_addNet_12 : decode cX3_addNet 12 = .ok (.dup, 1) := by decide +kernel
theorem dX3_addNet_13 : decode cX3_addNet 13 = .ok (.getfield 41, 3) := by decide +kernel
theorem dX3_addNet_16 : decode cX3_addNet 16 = .ok (.iconst 1, 1) := by decide +kernel
theorem dX3_addNet_17 : decode cX3_addNet 17 = .ok (.iadd, 1) := by decide +kernel
theorem dX3_addNet_18 : decode cX3_addNet 18 = .ok (.putfield 41, 3) := by decide +kernel
theorem dX3_addNet_21 : decode cX3_addNet 21 = .ok (.aload_n 0, 1) := by decide +kernel
theorem dX3_addNet_22 : decode cX3_addNet 22 = .ok (.getfield 41, 3) := by decide +kernel
theorem dX3_addNet_25 : decode cX3_addNet 25 = .ok (.iconst 1, 1) := by decide +kernel
theorem dX3_addNet_26 : decode cX3_addNet 26 = .ok (.isub, 1) := by decide +kernel
theorem dX3_addNet_27 : decode cX3_addNet 27 = .ok (.ireturn, 1) := by decide +kernel
abbrev cX3_addPin : ByteArray := prog_5_method_3_code
def yX3_addPin : MethodName := ⟨RX3, "addPin", "(IIJJ)Z"⟩
def wsX3_addPin : List Cond := .code yX3_addPin cX3_addPin 7 (some .boolean) :: bT
theorem dX3_addPin_0 : decode cX3_addPin 0 = .ok (.aload_n 0, 1) := by decide +kernel
theorem dX3_addPin_1 : decode cX3_addPin 1 = .ok (.getfield 45, 3) := by decide +kernel
theorem dX3_addPin_4 : decode cX3_addPin 4 = .ok (.bipush 120, 2) := by decide +kernel
theorem dX3_addPin_6 : decode cX3_addPin 6 = .ok (.if_icmp .lt (5), 3) := by decide +kernel
theorem dX3_addPin_9 : decode cX3_addPin 9 = .ok (.iconst 0, 1) := by decide +kernel
theorem dX3_addPin_10 : decode cX3_addPin 10 = .ok (.ireturn, 1) := by decide +kernel
theorem dX3_addPin_11 : decode cX3_addPin 11 = .ok (.aload_n 0, 1) := by decide +kernel
theorem dX3_addPin_12 : decode cX3_addPin 12 = .ok (.getfield 9, 3) := by decide +kernel
theorem dX3_addPin_15 : decode cX3_addPin 15 = .ok (.aload_n 0, 1) := by decide +kernel
theorem dX3_addPin_16 : decode cX3_addPin 16 = .ok (.getfield 45, 3) := by decide +kernel
theorem dX3_addPin_19 : decode cX3_addPin 19 = .ok (.iload_n 1, 1) := by decide +kernel
theorem dX3_addPin_20 : decode cX3_addPin 20 = .ok (.iastore, 1) := by decide +kernel
theorem dX3_addPin_21 : decode cX3_addPin 21 = .ok (.aload_n 0, 1) := by decide +kernel
theorem dX3_addPin_22 : decode cX3_addPin 22 = .ok (.getfield 15, 3) := by decide +kernel
theorem dX3_addPin_25 : decode cX3_addPin 25 = .ok (.aload_n 0, 1) := by decide +kernel
theorem dX3_addPin_26 : decode cX3_addPin 26 = .ok (.getfield 45, 3) := by decide +kernel
theorem dX3_addPin_29 : decode cX3_addPin 29 = .ok (.iload_n 2, 1) := by decide +kernel
theorem dX3_addPin_30 : decode cX3_addPin 30 = .ok (.iastore, 1) := by decide +kernel
theorem dX3_addPin_31 : decode cX3_addPin 31 = .ok (.aload_n 0, 1) := by decide +kernel
theorem dX3_addPin_32 : decode cX3_addPin 32 = .ok (.getfield 18, 3) := by decide +kernel
theorem dX3_addPin_35 : decode cX3_addPin 35 = .ok (.aload_n 0, 1) := by decide +kernel
theorem dX3_addPin_36 : decode cX3_addPin 36 = .ok (.getfield 45, 3) := by decide +kernel
theorem dX3_addPin_39 : decode cX3_addPin 39 = .ok (.lload_n 3, 1) := by decide +kernel
theorem dX3_addPin_40 : decode cX3_addPin 40 = .ok (.lastore, 1) := by decide +kernel
theorem dX3_addPin_41 : decode cX3_addPin 41 = .ok (.aload_n 0, 1) := by decide +kernel
theorem dX3_addPin_42 : decode cX3_addPin 42 = .ok (.getfield 22, 3) := by decide +kernel
theorem dX3_addPin_45 : decode cX3_addPin 45 = .ok (.aload_n 0, 1) := by decide +kernel
theorem dX3_addPin_46 : decode cX3_addPin 46 = .ok (.getfield 45, 3) := by decide +kernel
theorem dX3_addPin_49 : decode cX3_addPin 49 = .ok (.lload 5, 2) := by decide +kernel
theorem dX3_addPin_51 : decode cX3_addPin 51 = .ok (.lastore, 1) := by decide +kernel
theorem dX3_addPin_52 : decode cX3_addPin 52 = .ok (.aload_n 0, 1) := by decide +kernel
theorem dX3_addPin_53 : decode cX3_addPin 53 = .ok (.dup, 1) := by decide +kernel
theorem dX3_addPin_54 : decode cX3_addPin 54 = .ok (.getfield 45, 3) := by decide +kernel
theorem dX3_addPin_57 : decode cX3_addPin 57 = .ok (.iconst 1, 1) := by decide +kernel
theorem dX3_addPin_58 : decode cX3_addPin 58 = .ok (.iadd, 1) := by decide +kernel
theorem dX3_addPin_59 : decode cX3_addPin 59 = .ok (.putfield 45, 3) := by decide +kernel
theorem dX3_addPin_62 : decode cX3_addPin 62 = .ok (.iconst 1, 1) := by decide +kernel
theorem dX3_addPin_63 : decode cX3_addPin 63 = .ok (.ireturn, 1) := by decide +kernel
abbrev cX3_turnedX : ByteArray := prog_5_method_6_code
def yX3_turnedX : MethodName := ⟨RX3, "turnedX", "(III)J"⟩
def wsX3_turnedX : List Cond := .code yX3_turnedX cX3_turnedX 4 (some .long) :: bT
theorem dX3_turnedX_0 : decode cX3_turnedX 0 = .ok (.iload_n 3, 1) := by decide +kernel
theorem dX3_turnedX_1 : decode cX3_turnedX 1 = .ok (.tableswitch 68 1 3 #[27, 44, 61], 27) := by decide +kernel
theorem dX3_turnedX_28 : decode cX3_turnedX 28 = .ok (.aload_n 0, 1) := by decide +kernel
theorem dX3_turnedX_29 : decode cX3_turnedX 29 = .ok (.getfield 48, 3) := by decide +kernel
theorem dX3_turnedX_32 : decode cX3_turnedX 32 = .ok (.getfield 86, 3) := by decide +kernel
theorem dX3_turnedX_35 : decode cX3_turnedX 35 = .ok (.iload_n 2, 1) := by decide +kernel
theorem dX3_turnedX_36 : decode cX3_turnedX 36 = .ok (.laload, 1) := by decide +kernel
theorem dX3_turnedX_37 : decode cX3_turnedX 37 = .ok (.aload_n 0, 1) := by decide +kernel
theorem dX3_turnedX_38 : decode cX3_turnedX 38 = .ok (.getfield 22, 3) := by decide +kernel
theorem dX3_turnedX_41 : decode cX3_turnedX 41 = .ok (.iload_n 1, 1) := by decide +kernel
theorem dX3_turnedX_42 : decode cX3_turnedX 42 = .ok (.laload, 1) := by decide +kernel
theorem dX3_turnedX_43 : decode cX3_turnedX 43 = .ok (.lsub, 1) := by decide +kernel
theorem dX3_turnedX_44 : decode cX3_turnedX 44 = .ok (.lreturn, 1) := by decide +kernel
theorem dX3_turnedX_45 : decode cX3_turnedX 45 = .ok (.aload_n 0, 1) := by decide +kernel
theorem dX3_turnedX_46 : decode cX3_turnedX 46 = .ok (.getfield 48, 3) := by decide +kernel
theorem dX3_turnedX_49 : decode cX3_turnedX 49 = .ok (.getfield 91, 3) := by decide +kernel
theorem dX3_turnedX_52 : decode cX3_turnedX 52 = .ok (.iload_n 2, 1) := by decide +kernel
theorem dX3_turnedX_53 : decode cX3_turnedX 53 = .ok (.laload, 1) := by decide +kernel
theorem dX3_turnedX_54 : decode cX3_turnedX 54 = .ok (.aload_n 0, 1) := by decide +kernel
theorem dX3_turnedX_55 : decode cX3_turnedX 55 = .ok (.getfield 18, 3) := by decide +kernel
theorem dX3_turnedX_58 : decode cX3_turnedX 58 = .ok (.iload_n 1, 1) := by decide +kernel
theorem dX3_turnedX_59 : decode cX3_turnedX 59 = .ok (.laload, 1) := by decide +kernel
theorem dX3_turnedX_60 : decode cX3_turnedX 60 = .ok (.lsub, 1) := by decide +kernel
theorem dX3_turnedX_61 : decode cX3_turnedX 61 = .ok (.lreturn, 1) := by decide +kernel
theorem dX3_turnedX_62 : decode cX3_turnedX 62 = .ok (.aload_n 0, 1) := by decide +kernel
theorem dX3_turnedX_63 : decode cX3_turnedX 63 = .ok (.getfield 22, 3) := by decide +kernel
theorem dX3_turnedX_66 : decode cX3_turnedX 66 = .ok (.iload_n 1, 1) := by decide +kernel
theorem dX3_turnedX_67 : decode cX3_turnedX 67 = .ok (.laload, 1) := by decide +kernel
theorem dX3_turnedX_68 : decode cX3_turnedX 68 = .ok (.lreturn, 1) := by decide +kernel
theorem dX3_turnedX_69 : decode cX3_turnedX 69 = .ok (.aload_n 0, 1) := by decide +kernel
theorem dX3_turnedX_70 : decode cX3_turnedX 70 = .ok (.getfield 18, 3) := by decide +kernel
theorem dX3_turnedX_73 : decode cX3_turnedX 73 = .ok (.iload_n 1, 1) := by decide +kernel
theorem dX3_turnedX_74 : decode cX3_turnedX 74 = .ok (.laload, 1) := by decide +kernel
theorem dX3_turnedX_75 : decode cX3_turnedX 75 = .ok (.lreturn, 1) := by decide +kernel
abbrev cX3_turnedY : ByteArray := prog_5_method_7_code
def yX3_turnedY : MethodName := ⟨RX3, "turnedY", "(III)J"⟩
def wsX3_turnedY : List Cond := .code yX3_turnedY cX3_turnedY 4 (some .long) :: bT
theorem dX3_turnedY_0 : decode cX3_turnedY 0 = .ok (.iload_n 3, 1) := by decide +kernel
theorem dX3_turnedY_1 : decode cX3_turnedY 1 = .ok (.tableswitch 68 1 3 #[27, 34, 51], 27) := by decide +kernel
theorem dX3_turnedY_28 : decode cX3_turnedY 28 = .ok (.aload_n 0, 1) := by decide +kernel
theorem dX3_turnedY_29 : decode cX3_turnedY 29 = .ok (.getfield 18, 3) := by decide +kernel
theorem dX3_turnedY_32 : decode cX3_turnedY 32 = .ok (.iload_n 1, 1) := by decide +kernel
theorem dX3_turnedY_33 : decode cX3_turnedY 33 = .ok (.laload, 1) := by decide +kernel
theorem dX3_turnedY_34 : decode cX3_turnedY 34 = .ok (.lreturn, 1) := by decide +kernel
theorem dX3_turnedY_35 : decode cX3_turnedY 35 = .ok (.aload_n 0, 1) := by decide +kernel
theorem dX3_turnedY_36 : decode cX3_turnedY 36 = .ok (.getfield 48, 3) := by decide +kernel
theorem dX3_turnedY_39 : decode cX3_turnedY 39 = .ok (.getfield 86, 3) := by decide +kernel
theorem dX3_turnedY_42 : decode cX3_turnedY 42 = .ok (.iload_n 2, 1) := by decide +kernel
theorem dX3_turnedY_43 : decode cX3_turnedY 43 = .ok (.laload, 1) := by decide +kernel
theorem dX3_turnedY_44 : decode cX3_turnedY 44 = .ok (.aload_n 0, 1) := by decide +kernel
theorem dX3_turnedY_45 : decode cX3_turnedY 45 = .ok (.getfield 22, 3) := by decide +kernel
theorem dX3_turnedY_48 : decode cX3_turnedY 48 = .ok (.iload_n 1, 1) := by decide +kernel
theorem dX3_turnedY_49 : decode cX3_turnedY 49 = .ok (.laload, 1) := by decide +kernel
theorem dX3_turnedY_50 : decode cX3_turnedY 50 = .ok (.lsub, 1) := by decide +kernel
theorem dX3_turnedY_51 : decode cX3_turnedY 51 = .ok (.lreturn, 1) := by decide +kernel
theorem dX3_turnedY_52 : decode cX3_turnedY 52 = .ok (.aload_n 0, 1) := by decide +kernel
theorem dX3_turnedY_53 : decode cX3_turnedY 53 = .ok (.getfield 48, 3) := by decide +kernel
theorem dX3_turnedY_56 : decode cX3_turnedY 56 = .ok (.getfield 91, 3) := by decide +kernel
theorem dX3_turnedY_59 : decode cX3_turnedY 59 = .ok (.iload_n 2, 1) := by decide +kernel
theorem dX3_turnedY_60 : decode cX3_turnedY 60 = .ok (.laload, 1) := by decide +kernel
theorem dX3_turnedY_61 : decode cX3_turnedY 61 = .ok (.aload_n 0, 1) := by decide +kernel
theorem dX3_turnedY_62 : decode cX3_turnedY 62 = .ok (.getfield 18, 3) := by decide +kernel
theorem dX3_turnedY_65 : decode cX3_turnedY 65 = .ok (.iload_n 1, 1) := by decide +kernel
theorem dX3_turnedY_66 : decode cX3_turnedY 66 = .ok (.laload, 1) := by decide +kernel
theorem dX3_turnedY_67 : decode cX3_turnedY 67 = .ok (.lsub, 1) := by decide +kernel
theorem dX3_turnedY_68 : decode cX3_turnedY 68 = .ok (.lreturn, 1) := by decide +kernel
theorem dX3_turnedY_69 : decode cX3_turnedY 69 = .ok (.aload_n 0, 1) := by decide +kernel
theorem dX3_turnedY_70 : decode cX3_turnedY 70 = .ok (.getfield 22, 3) := by decide +kernel
theorem dX3_turnedY_73 : decode cX3_turnedY 73 = .ok (.iload_n 1, 1) := by decide +kernel
theorem dX3_turnedY_74 : decode cX3_turnedY 74 = .ok (.laload, 1) := by decide +kernel
theorem dX3_turnedY_75 : decode cX3_turnedY 75 = .ok (.lreturn, 1) := by decide +kernel
abbrev cX3_reach : ByteArray := prog_5_method_5_code
def yX3_reach : MethodName := ⟨RX3, "reach", "(IJJ)V"⟩
def wsX3_reach : List Cond := .code yX3_reach cX3_reach 7 none :: bT
theorem dX3_reach_0 : decode cX3_reach 0 = .ok (.aload_n 0, 1) := by decide +kernel
theorem dX3_reach_1 : decode cX3_reach 1 = .ok (.getfield 25, 3) := by decide +kernel
theorem dX3_reach_4 : decode cX3_reach 4 = .ok (.iload_n 1, 1) := by decide +kernel
theorem dX3_reach_5 : decode cX3_reach 5 = .ok (.baload, 1) := by decide +kernel
theorem dX3_reach_6 : decode cX3_reach 6 = .ok (.ifCond .ne (7), 3) := by decide +kernel
theorem dX3_reach_9 : decode cX3_reach 9 = .ok (.iconst 1, 1) := by decide +kernel
theorem dX3_reach_10 : decode cX3_reach 10 = .ok (.goto (4), 3) := by decide +kernel
theorem dX3_reach_13 : decode cX3_reach 13 = .ok (.iconst 0, 1) := by decide +kernel
theorem dX3_reach_14 : decode cX3_reach 14 = .ok (.istore 6, 2) := by decide +kernel
theorem dX3_reach_16 : decode cX3_reach 16 = .ok (.aload_n 0, 1) := by decide +kernel
theorem dX3_reach_17 : decode cX3_reach 17 = .ok (.getfield 25, 3) := by decide +kernel
theorem dX3_reach_20 : decode cX3_reach 20 = .ok (.iload_n 1, 1) := by decide +kernel
theorem dX3_reach_21 : decode cX3_reach 21 = .ok (.iconst 1, 1) := by decide +kernel
theorem dX3_reach_22 : decode cX3_reach 22 = .ok (.bastore, 1) := by decide +kernel
theorem dX3_reach_23 : decode cX3_reach 23 = .ok (.aload_n 0, 1) := by decide +kernel
theorem dX3_reach_24 : decode cX3_reach 24 = .ok (.getfield 29, 3) := by decide +kernel
theorem dX3_reach_27 : decode cX3_reach 27 = .ok (.iload_n 1, 1) := by decide +kernel
theorem dX3_reach_28 : decode cX3_reach 28 = .ok (.iload 6, 2) := by decide +kernel
theorem dX3_reach_30 : decode cX3_reach 30 = .ok (.ifCond .eq (7), 3) := by decide +kernel
theorem dX3_reach_33 : decode cX3_reach 33 = .ok (.lload_n 2, 1) := by decide +kernel
theorem dX3_reach_34 : decode cX3_reach 34 = .ok (.goto (13), 3) := by decide +kernel
theorem dX3_reach_37 : decode cX3_reach 37 = .ok (.aload_n 0, 1) := by decide +kernel
theorem dX3_reach_38 : decode cX3_reach 38 = .ok (.getfield 29, 3) := by decide +kernel
theorem dX3_reach_41 : decode cX3_reach 41 = .ok (.iload_n 1, 1) := by decide +kernel
theorem dX3_reach_42 : decode cX3_reach 42 = .ok (.laload, 1) := by decide +kernel
theorem dX3_reach_43 : decode cX3_reach 43 = .ok (.lload_n 2, 1) := by decide +kernel
theorem dX3_reach_44 : decode cX3_reach 44 = .ok (.invokestatic 77, 3) := by decide +kernel
theorem dX3_reach_47 : decode cX3_reach 47 = .ok (.lastore, 1) := by decide +kernel
theorem dX3_reach_48 : decode cX3_reach 48 = .ok (.aload_n 0, 1) := by decide +kernel
theorem dX3_reach_49 : decode cX3_reach 49 = .ok (.getfield 32, 3) := by decide +kernel
theorem dX3_reach_52 : decode cX3_reach 52 = .ok (.iload_n 1, 1) := by decide +kernel
theorem dX3_reach_53 : decode cX3_reach 53 = .ok (.iload 6, 2) := by decide +kernel
theorem dX3_reach_55 : decode cX3_reach 55 = .ok (.ifCond .eq (7), 3) := by decide +kernel
theorem dX3_reach_58 : decode cX3_reach 58 = .ok (.lload_n 2, 1) := by decide +kernel
theorem dX3_reach_59 : decode cX3_reach 59 = .ok (.goto (13), 3) := by decide +kernel
theorem dX3_reach_62 : decode cX3_reach 62 = .ok (.aload_n 0, 1) := by decide +kernel
theorem dX3_reach_63 : decode cX3_reach 63 = .ok (.getfield 32, 3) := by decide +kernel
theorem dX3_reach_66 : decode cX3_reach 66 = .ok (.iload_n 1, 1) := by decide +kernel
theorem dX3_reach_67 : decode cX3_reach 67 = .ok (.laload, 1) := by decide +kernel
theorem dX3_reach_68 : decode cX3_reach 68 = .ok (.lload_n 2, 1) := by decide +kernel
theorem dX3_reach_69 : decode cX3_reach 69 = .ok (.invokestatic 83, 3) := by decide +kernel
theorem dX3_reach_72 : decode cX3_reach 72 = .ok (.lastore, 1) := by decide +kernel
theorem dX3_reach_73 : decode cX3_reach 73 = .ok (.aload_n 0, 1) := by decide +kernel
theorem dX3_reach_74 : decode cX3_reach 74 = .ok (.getfield 35, 3) := by decide +kernel
theorem dX3_reach_77 : decode cX3_reach 77 = .ok (.iload_n 1, 1) := by decide +kernel
theorem dX3_reach_78 : decode cX3_reach 78 = .ok (.iload 6, 2) := by decide +kernel
theorem dX3_reach_80 : decode cX3_reach 80 = .ok (.ifCond .eq (8), 3) := by decide +kernel
theorem dX3_reach_83 : decode cX3_reach 83 = .ok (.lload 4, 2) := by decide +kernel
theorem dX3_reach_85 : decode cX3_reach 85 = .ok (.goto (14), 3) := by decide +kernel
theorem dX3_reach_88 : decode cX3_reach 88 = .ok (.aload_n 0, 1) := by decide +kernel
theorem dX3_reach_89 : decode cX3_reach 89 = .ok (.getfield 35, 3) := by decide +kernel
theorem dX3_reach_92 : decode cX3_reach 92 = .ok (.iload_n 1, 1) := by decide +kernel
theorem dX3_reach_93 : decode cX3_reach 93 = .ok (.laload, 1) := by decide +kernel
theorem dX3_reach_94 : decode cX3_reach 94 = .ok (.lload 4, 2) := by decide +kernel
theorem dX3_reach_96 : decode cX3_reach 96 = .ok (.invokestatic 77, 3) := by decide +kernel
theorem dX3_reach_99 : decode cX3_reach 99 = .ok (.lastore, 1) := by decide +kernel
theorem dX3_reach_100 : decode cX3_reach 100 = .ok (.aload_n 0, 1) := by decide +kernel
theorem dX3_reach_101 : decode cX3_reach 101 = .ok (.getfield 38, 3) := by decide +kernel
theorem dX3_reach_104 : decode cX3_reach 104 = .ok (.iload_n 1, 1) := by decide +kernel
theorem dX3_reach_105 : decode cX3_reach 105 = .ok (.iload 6, 2) := by decide +kernel
theorem dX3_reach_107 : decode cX3_reach 107 = .ok (.ifCond .eq (8), 3) := by decide +kernel
theorem dX3_reach_110 : decode cX3_reach 110 = .ok (.lload 4, 2) := by decide +kernel
theorem dX3_reach_112 : decode cX3_reach 112 = .ok (.goto (14), 3) := by decide +kernel
theorem dX3_reach_115 : decode cX3_reach 115 = .ok (.aload_n 0, 1) := by decide +kernel
theorem dX3_reach_116 : decode cX3_reach 116 = .ok (.getfield 38, 3) := by decide +kernel
theorem dX3_reach_119 : decode cX3_reach 119 = .ok (.iload_n 1, 1) := by decide +kernel
theorem dX3_reach_120 : decode cX3_reach 120 = .ok (.laload, 1) := by decide +kernel
theorem dX3_reach_121 : decode cX3_reach 121 = .ok (.lload 4, 2) := by decide +kernel
theorem dX3_reach_123 : decode cX3_reach 123 = .ok (.invokestatic 83, 3) := by decide +kernel
theorem dX3_reach_126 : decode cX3_reach 126 = .ok (.lastore, 1) := by decide +kernel
theorem dX3_reach_127 : decode cX3_reach 127 = .ok (.return_, 1) := by decide +kernel
abbrev cX3_measure : ByteArray := prog_5_method_4_code
def yX3_measure : MethodName := ⟨RX3, "measure", "(LBoardMoves$Placement;)J"⟩
def wsX3_measure : List Cond := .code yX3_measure cX3_measure 5 (some .long) :: bT
theorem dX3_measure_0 : decode cX3_measure 0 = .ok (.iconst 0, 1) := by decide +kernel
theorem dX3_measure_1 : decode cX3_measure 1 = .ok (.istore_n 2, 1) := by decide +kernel
theorem dX3_measure_2 : decode cX3_measure 2 = .ok (.iload_n 2, 1) := by decide +kernel
theorem dX3_measure_3 : decode cX3_measure 3 = .ok (.aload_n 0, 1) := by decide +kernel
theorem dX3_measure_4 : decode cX3_measure 4 = .ok (.getfield 41, 3) := by decide +kernel
theorem dX3_measure_7 : decode cX3_measure 7 = .ok (.if_icmp .ge (16), 3) := by decide +kernel
theorem dX3_measure_10 : decode cX3_measure 10 = .ok (.aload_n 0, 1) := by decide +kernel
theorem dX3_measure_11 : decode cX3_measure 11 = .ok (.getfield 25, 3) := by decide +kernel
theorem dX3_measure_14 : decode cX3_measure 14 = .ok (.iload_n 2, 1) := by decide +kernel
theorem dX3_measure_15 : decode cX3_measure 15 = .ok (.iconst 0, 1) := by decide +kernel
theorem dX3_measure_16 : decode cX3_measure 16 = .ok (.bastore, 1) := by decide +kernel
theorem dX3_measure_17 : decode cX3_measure 17 = .ok (.iinc 2 1, 3) := by decide +kernel
theorem dX3_measure_20 : decode cX3_measure 20 = .ok (.goto (-18), 3) := by decide +kernel
theorem dX3_measure_23 : decode cX3_measure 23 = .ok (.iconst 0, 1) := by decide +kernel
theorem dX3_measure_24 : decode cX3_measure 24 = .ok (.istore_n 2, 1) := by decide +kernel
theorem dX3_measure_25 : decode cX3_measure 25 = .ok (.iload_n 2, 1) := by decide +kernel
theorem dX3_measure_26 : decode cX3_measure 26 = .ok (.aload_n 0, 1) := by decide +kernel
theorem dX3_measure_27 : decode cX3_measure 27 = .ok (.getfield 45, 3) := by decide +kernel
theorem dX3_measure_30 : decode cX3_measure 30 = .ok (.if_icmp .ge (73), 3) := by decide +kernel
theorem dX3_measure_33 : decode cX3_measure 33 = .ok (.aload_n 0, 1) := by decide +kernel
theorem dX3_measure_34 : decode cX3_measure 34 = .ok (.getfield 15, 3) := by decide +kernel
theorem dX3_measure_37 : decode cX3_measure 37 = .ok (.iload_n 2, 1) := by decide +kernel
theorem dX3_measure_38 : decode cX3_measure 38 = .ok (.iaload, 1) := by decide +kernel
theorem dX3_measure_39 : decode cX3_measure 39 = .ok (.istore_n 3, 1) := by decide +kernel
theorem dX3_measure_40 : decode cX3_measure 40 = .ok (.aload_n 1, 1) := by decide +kernel
theorem dX3_measure_41 : decode cX3_measure 41 = .ok (.getfield 52, 3) := by decide +kernel
theorem dX3_measure_44 : decode cX3_measure 44 = .ok (.iload_n 3, 1) := by decide +kernel
theorem dX3_measure_45 : decode cX3_measure 45 = .ok (.baload, 1) := by decide +kernel
theorem dX3_measure_46 : decode cX3_measure 46 = .ok (.ifCond .eq (51), 3) := by decide +kernel
theorem dX3_measure_49 : decode cX3_measure 49 = .ok (.aload_n 1, 1) := by decide +kernel
theorem dX3_measure_50 : decode cX3_measure 50 = .ok (.getfield 57, 3) := by decide +kernel
theorem dX3_measure_53 : decode cX3_measure 53 = .ok (.iload_n 3, 1) := by decide +kernel
theorem dX3_measure_54 : decode cX3_measure 54 = .ok (.iaload, 1) := by decide +kernel
theorem dX3_measure_55 : decode cX3_measure 55 = .ok (.istore 4, 2) := by decide +kernel
theorem dX3_measure_57 : decode cX3_measure 57 = .ok (.aload_n 0, 1) := by decide +kernel
theorem dX3_measure_58 : decode cX3_measure 58 = .ok (.aload_n 0, 1) := by decide +kernel
theorem dX3_measure_59 : decode cX3_measure 59 = .ok (.getfield 9, 3) := by decide +kernel
theorem dX3_measure_62 : decode cX3_measure 62 = .ok (.iload_n 2, 1) := by decide +kernel
theorem dX3_measure_63 : decode cX3_measure 63 = .ok (.iaload, 1) := by decide +kernel
theorem dX3_measure_64 : decode cX3_measure 64 = .ok (.aload_n 1, 1) := by decide +kernel
theorem dX3_measure_65 : decode cX3_measure 65 = .ok (.getfield 60, 3) := by decide +kernel
theorem dX3_measure_68 : decode cX3_measure 68 = .ok (.iload_n 3, 1) := by decide +kernel
theorem dX3_measure_69 : decode cX3_measure 69 = .ok (.laload, 1) := by decide +kernel
theorem dX3_measure_70 : decode cX3_measure 70 = .ok (.aload_n 0, 1) := by decide +kernel
theorem dX3_measure_71 : decode cX3_measure 71 = .ok (.iload_n 2, 1) := by decide +kernel
theorem dX3_measure_72 : decode cX3_measure 72 = .ok (.iload_n 3, 1) := by decide +kernel
theorem dX3_measure_73 : decode cX3_measure 73 = .ok (.iload 4, 2) := by decide +kernel
theorem dX3_measure_75 : decode cX3_measure 75 = .ok (.invokevirtual 63, 3) := by decide +kernel
theorem dX3_measure_78 : decode cX3_measure 78 = .ok (.ladd, 1) := by decide +kernel
theorem dX3_measure_79 : decode cX3_measure 79 = .ok (.aload_n 1, 1) := by decide +kernel
theorem dX3_measure_80 : decode cX3_measure 80 = .ok (.getfield 67, 3) := by decide +kernel
theorem dX3_measure_83 : decode cX3_measure 83 = .ok (.iload_n 3, 1) := by decide +kernel
theorem dX3_measure_84 : decode cX3_measure 84 = .ok (.laload, 1) := by decide +kernel
theorem dX3_measure_85 : decode cX3_measure 85 = .ok (.aload_n 0, 1) := by decide +kernel
theorem dX3_measure_86 : decode cX3_measure 86 = .ok (.iload_n 2, 1) := by decide +kernel
theorem dX3_measure_87 : decode cX3_measure 87 = .ok (.iload_n 3, 1) := by decide +kernel
theorem dX3_measure_88 : decode cX3_measure 88 = .ok (.iload 4, 2) := by decide +kernel
theorem dX3_measure_90 : decode cX3_measure 90 = .ok (.invokevirtual 70, 3) := by decide +kernel
theorem dX3_measure_93 : decode cX3_measure 93 = .ok (.ladd, 1) := by decide +kernel
theorem dX3_measure_94 : decode cX3_measure 94 = .ok (.invokevirtual 73, 3) := by decide +kernel
theorem dX3_measure_97 : decode cX3_measure 97 = .ok (.iinc 2 1, 3) := by decide +kernel
theorem dX3_measure_100 : decode cX3_measure 100 = .ok (.goto (-75), 3) := by decide +kernel
theorem dX3_measure_103 : decode cX3_measure 103 = .ok (.lconst 0, 1) := by decide +kernel
theorem dX3_measure_104 : decode cX3_measure 104 = .ok (.lstore_n 2, 1) := by decide +kernel
theorem dX3_measure_105 : decode cX3_measure 105 = .ok (.iconst 0, 1) := by decide +kernel
theorem dX3_measure_106 : decode cX3_measure 106 = .ok (.istore 4, 2) := by decide +kernel
theorem dX3_measure_108 : decode cX3_measure 108 = .ok (.iload 4, 2) := by decide +kernel
theorem dX3_measure_110 : decode cX3_measure 110 = .ok (.aload_n 0, 1) := by decide +kernel
theorem dX3_measure_111 : decode cX3_measure 111 = .ok (.getfield 41, 3) := by decide +kernel
theorem dX3_measure_114 : decode cX3_measure 114 = .ok (.if_icmp .ge (53), 3) := by decide +kernel
theorem dX3_measure_117 : decode cX3_measure 117 = .ok (.aload_n 0, 1) := by decide +kernel
theorem dX3_measure_118 : decode cX3_measure 118 = .ok (.getfield 25, 3) := by decide +kernel
theorem dX3_measure_121 : decode cX3_measure 121 = .ok (.iload 4, 2) := by decide +kernel
theorem dX3_measure_123 : decode cX3_measure 123 = .ok (.baload, 1) := by decide +kernel
theorem dX3_measure_124 : decode cX3_measure 124 = .ok (.ifCond .eq (37), 3) := by decide +kernel
theorem dX3_measure_127 : decode cX3_measure 127 = .ok (.lload_n 2, 1) := by decide +kernel
theorem dX3_measure_128 : decode cX3_measure 128 = .ok (.aload_n 0, 1) := by decide +kernel
theorem dX3_measure_129 : decode cX3_measure 129 = .ok (.getfield 32, 3) := by decide +kernel
theorem dX3_measure_132 : decode cX3_measure 132 = .ok (.iload 4, 2) := by decide +kernel
theorem dX3_measure_134 : decode cX3_measure 134 = .ok (.laload, 1) := by decide +kernel
theorem dX3_measure_135 : decode cX3_measure 135 = .ok (.aload_n 0, 1) := by decide +kernel
theorem dX3_measure_136 : decode cX3_measure 136 = .ok (.getfield 29, 3) := by decide +kernel
theorem dX3_measure_139 : decode cX3_measure 139 = .ok (.iload 4, 2) := by decide +kernel
theorem dX3_measure_141 : decode cX3_measure 141 = .ok (.laload, 1) := by decide +kernel
theorem dX3_measure_142 : decode cX3_measure 142 = .ok (.lsub, 1) := by decide +kernel
theorem dX3_measure_143 : decode cX3_measure 143 = .ok (.aload_n 0, 1) := by decide +kernel
theorem dX3_measure_144 : decode cX3_measure 144 = .ok (.getfield 38, 3) := by decide +kernel
theorem dX3_measure_147 : decode cX3_measure 147 = .ok (.iload 4, 2) := by decide +kernel
theorem dX3_measure_149 : decode cX3_measure 149 = .ok (.laload, 1) := by decide +kernel
theorem dX3_measure_150 : decode cX3_measure 150 = .ok (.ladd, 1) := by decide +kernel
theorem dX3_measure_151 : decode cX3_measure 151 = .ok (.aload_n 0, 1) := by decide +kernel
theorem dX3_measure_152 : decode cX3_measure 152 = .ok (.getfield 35, 3) := by decide +kernel
theorem dX3_measure_155 : decode cX3_measure 155 = .ok (.iload 4, 2) := by decide +kernel
theorem dX3_measure_157 : decode cX3_measure 157 = .ok (.laload, 1) := by decide +kernel
theorem dX3_measure_158 : decode cX3_measure 158 = .ok (.lsub, 1) := by decide +kernel
theorem dX3_measure_159 : decode cX3_measure 159 = .ok (.ladd, 1) := by decide +kernel
theorem dX3_measure_160 : decode cX3_measure 160 = .ok (.lstore_n 2, 1) := by decide +kernel
theorem dX3_measure_161 : decode cX3_measure 161 = .ok (.iinc 4 1, 3) := by decide +kernel
theorem dX3_measure_164 : decode cX3_measure 164 = .ok (.goto (-56), 3) := by decide +kernel
theorem dX3_measure_167 : decode cX3_measure 167 = .ok (.lload_n 2, 1) := by decide +kernel
theorem dX3_measure_168 : decode cX3_measure 168 = .ok (.lreturn, 1) := by decide +kernel
abbrev cX4_draw : ByteArray := prog_1_method_28_code
def yX4_draw : MethodName := ⟨RX4, "draw", "()J"⟩
def wsX4_draw : List Cond := .code yX4_draw cX4_draw 1 (some .long) :: bT
theorem dX4_draw_0 : decode cX4_draw 0 = .ok (.aload_n 0, 1) := by decide +kernel
theorem dX4_draw_1 : decode cX4_draw 1 = .ok (.aload_n 0, 1) := by decide +kernel
theorem dX4_draw_2 : decode cX4_draw 2 = .ok (.getfield 68, 3) := by decide +kernel
theorem dX4_draw_5 : decode cX4_draw 5 = .ok (.ldc2_w 268, 3) := by decide +kernel
theorem dX4_draw_8 : decode cX4_draw 8 = .ok (.lmul, 1) := by decide +kernel
theorem dX4_draw_9 : decode cX4_draw 9 = .ok (.ldc2_w 270, 3) := by decide +kernel
theorem dX4_draw_12 : decode cX4_draw 12 = .ok (.ladd, 1) := by decide +kernel
theorem dX4_draw_13 : decode cX4_draw 13 = .ok (.putfield 68, 3) := by decide +kernel
theorem dX4_draw_16 : decode cX4_draw 16 = .ok (.aload_n 0, 1) := by decide +kernel
theorem dX4_draw_17 : decode cX4_draw 17 = .ok (.getfield 68, 3) := by decide +kernel
theorem dX4_draw_20 : decode cX4_draw 20 = .ok (.bipush 33, 2) := by decide +kernel
theorem dX4_draw_22 : decode cX4_draw 22 = .ok (.lushr, 1) := by decide +kernel
theorem dX4_draw_23 : decode cX4_draw 23 = .ok (.lreturn, 1) := by decide +kernel
abbrev cX4_takeBack : ByteArray := prog_1_method_24_code
def yX4_takeBack : MethodName := ⟨RX4, "takeBack", "()Z"⟩
def wsX4_takeBack : List Cond := .code yX4_takeBack cX4_takeBack 1 (some .boolean) :: bT
theorem dX4_takeBack_0 : decode cX4_takeBack 0 = .ok (.aload_n 0, 1) := by decide +kernel
theorem dX4_takeBack_1 : decode cX4_takeBack 1 = .ok (.getfield 37, 3) := by decide +kernel
theorem dX4_takeBack_4 : decode cX4_takeBack 4 = .ok (.aload_n 0, 1) := by decide +kernel
theorem dX4_takeBack_5 : decode cX4_takeBack 5 = .ok (.getfield 41, 3) := by decide +kernel
theorem dX4_takeBack_8 : decode cX4_takeBack 8 = .ok (.invokevirtual 108, 3) := by decide +kernel
theorem dX4_takeBack_11 : decode cX4_takeBack 11 = .ok (.iconst 0, 1) := by decide +kernel
theorem dX4_takeBack_12 : decode cX4_takeBack 12 = .ok (.ireturn, 1) := by decide +kernel
abbrev cX4_keepChange : ByteArray := prog_1_method_23_code
def yX4_keepChange : MethodName := ⟨RX4, "keepChange", "(J)Z"⟩
def wsX4_keepChange : List Cond := .code yX4_keepChange cX4_keepChange 5 (some .boolean) :: bT
theorem dX4_keepChange_0 : decode cX4_keepChange 0 = .ok (.iconst 0, 1) := by decide +kernel
theorem dX4_keepChange_1 : decode cX4_keepChange 1 = .ok (.istore_n 3, 1) := by decide +kernel
theorem dX4_keepChange_2 : decode cX4_keepChange 2 = .ok (.iload_n 3, 1) := by decide +kernel
theorem dX4_keepChange_3 : decode cX4_keepChange 3 = .ok (.aload_n 0, 1) := by decide +kernel
theorem dX4_keepChange_4 : decode cX4_keepChange 4 = .ok (.getfield 12, 3) := by decide +kernel
theorem dX4_keepChange_7 : decode cX4_keepChange 7 = .ok (.getfield 197, 3) := by decide +kernel
theorem dX4_keepChange_10 : decode cX4_keepChange 10 = .ok (.if_icmp .ge (73), 3) := by decide +kernel
theorem dX4_keepChange_13 : decode cX4_keepChange 13 = .ok (.aload_n 0, 1) := by decide +kernel
theorem dX4_keepChange_14 : decode cX4_keepChange 14 = .ok (.getfield 37, 3) := by decide +kernel
theorem dX4_keepChange_17 : decode cX4_keepChange 17 = .ok (.aload_n 0, 1) := by decide +kernel
theorem dX4_keepChange_18 : decode cX4_keepChange 18 = .ok (.getfield 41, 3) := by decide +kernel
theorem dX4_keepChange_21 : decode cX4_keepChange 21 = .ok (.iload_n 3, 1) := by decide +kernel
theorem dX4_keepChange_22 : decode cX4_keepChange 22 = .ok (.invokevirtual 250, 3) := by decide +kernel
theorem dX4_keepChange_25 : decode cX4_keepChange 25 = .ok (.ifCond .eq (52), 3) := by decide +kernel
theorem dX4_keepChange_28 : decode cX4_keepChange 28 = .ok (.aload_n 0, 1) := by decide +kernel
theorem dX4_keepChange_29 : decode cX4_keepChange 29 = .ok (.getfield 12, 3) := by decide +kernel
theorem dX4_keepChange_32 : decode cX4_keepChange 32 = .ok (.getfield 132, 3) := by decide +kernel
theorem dX4_keepChange_35 : decode cX4_keepChange 35 = .ok (.iload_n 3, 1) := by decide +kernel
theorem dX4_keepChange_36 : decode cX4_keepChange 36 = .ok (.baload, 1) := by decide +kernel
theorem dX4_keepChange_37 : decode cX4_keepChange 37 = .ok (.ifCond .eq (19), 3) := by decide +kernel
theorem dX4_keepChange_40 : decode cX4_keepChange 40 = .ok (.aload_n 0, 1) := by decide +kernel
theorem dX4_keepChange_41 : decode cX4_keepChange 41 = .ok (.getfield 41, 3) := by decide +kernel
theorem dX4_keepChange_44 : decode cX4_keepChange 44 = .ok (.getfield 96, 3) := by decide +kernel
theorem dX4_keepChange_47 : decode cX4_keepChange 47 = .ok (.iload_n 3, 1) := by decide +kernel
theorem dX4_keepChange_48 : decode cX4_keepChange 48 = .ok (.baload, 1) := by decide +kernel
theorem dX4_keepChange_49 : decode cX4_keepChange 49 = .ok (.ifCond .eq (7), 3) := by decide +kernel
theorem dX4_keepChange_52 : decode cX4_keepChange 52 = .ok (.iconst 1, 1) := by decide +kernel
theorem dX4_keepChange_53 : decode cX4_keepChange 53 = .ok (.goto (4), 3) := by decide +kernel
theorem dX4_keepChange_56 : decode cX4_keepChange 56 = .ok (.iconst 0, 1) := by decide +kernel
theorem dX4_keepChange_57 : decode cX4_keepChange 57 = .ok (.istore 4, 2) := by decide +kernel
theorem dX4_keepChange_59 : decode cX4_keepChange 59 = .ok (.iload 4, 2) := by decide +kernel
theorem dX4_keepChange_61 : decode cX4_keepChange 61 = .ok (.ifCond .ne (11), 3) := by decide +kernel
theorem dX4_keepChange_64 : decode cX4_keepChange 64 = .ok (.aload_n 0, 1) := by decide +kernel
theorem dX4_keepChange_65 : decode cX4_keepChange 65 = .ok (.iload_n 3, 1) := by decide +kernel
theorem dX4_keepChange_66 : decode cX4_keepChange 66 = .ok (.invokevirtual 220, 3) := by decide +kernel
theorem dX4_keepChange_69 : decode cX4_keepChange 69 = .ok (.ifCond .ne (8), 3) := by decide +kernel
theorem dX4_keepChange_72 : decode cX4_keepChange 72 = .ok (.aload_n 0, 1) := by decide +kernel
theorem dX4_keepChange_73 : decode cX4_keepChange 73 = .ok (.invokevirtual 177, 3) := by decide +kernel
theorem dX4_keepChange_76 : decode cX4_keepChange 76 = .ok (.ireturn, 1) := by decide +kernel
theorem dX4_keepChange_77 : decode cX4_keepChange 77 = .ok (.iinc 3 1, 3) := by decide +kernel
theorem dX4_keepChange_80 : decode cX4_keepChange 80 = .ok (.goto (-78), 3) := by decide +kernel
theorem dX4_keepChange_83 : decode cX4_keepChange 83 = .ok (.aload_n 0, 1) := by decide +kernel
theorem dX4_keepChange_84 : decode cX4_keepChange 84 = .ok (.getfield 30, 3) := by decide +kernel
theorem dX4_keepChange_87 : decode cX4_keepChange 87 = .ok (.aload_n 0, 1) := by decide +kernel
theorem dX4_keepChange_88 : decode cX4_keepChange 88 = .ok (.getfield 37, 3) := by decide +kernel
theorem dX4_keepChange_91 : decode cX4_keepChange 91 = .ok (.invokevirtual 160, 3) := by decide +kernel
theorem dX4_keepChange_94 : decode cX4_keepChange 94 = .ok (.lstore_n 3, 1) := by decide +kernel
theorem dX4_keepChange_95 : decode cX4_keepChange 95 = .ok (.lload_n 3, 1) := by decide +kernel
theorem dX4_keepChange_96 : decode cX4_keepChange 96 = .ok (.aload_n 0, 1) := by decide +kernel
theorem dX4_keepChange_97 : decode cX4_keepChange 97 = .ok (.getfield 47, 3) := by decide +kernel
theorem dX4_keepChange_100 : decode cX4_keepChange 100 = .ok (.lsub, 1) := by decide +kernel
theorem dX4_keepChange_101 : decode cX4_keepChange 101 = .ok (.lload_n 1, 1) := by decide +kernel
theorem dX4_keepChange_102 : decode cX4_keepChange 102 = .ok (.lcmp, 1) := by decide +kernel
theorem dX4_keepChange_103 : decode cX4_keepChange 103 = .ok (.ifCond .le (8), 3) := by decide +kernel
theorem dX4_keepChange_106 : decode cX4_keepChange 106 = .ok (.aload_n 0, 1) := by decide +kernel
theorem dX4_keepChange_107 : decode cX4_keepChange 107 = .ok (.invokevirtual 177, 3) := by decide +kernel
theorem dX4_keepChange_110 : decode cX4_keepChange 110 = .ok (.ireturn, 1) := by decide +kernel
theorem dX4_keepChange_111 : decode cX4_keepChange 111 = .ok (.aload_n 0, 1) := by decide +kernel
theorem dX4_keepChange_112 : decode cX4_keepChange 112 = .ok (.lload_n 3, 1) := by decide +kernel
theorem dX4_keepChange_113 : decode cX4_keepChange 113 = .ok (.putfield 47, 3) := by decide +kernel
theorem dX4_keepChange_116 : decode cX4_keepChange 116 = .ok (.iconst 1, 1) := by decide +kernel
theorem dX4_keepChange_117 : decode cX4_keepChange 117 = .ok (.ireturn, 1) := by decide +kernel
abbrev cX4_clearTheWay : ByteArray := prog_1_method_26_code
def yX4_clearTheWay : MethodName := ⟨RX4, "clearTheWay", "(IZZ)Z"⟩
def wsX4_clearTheWay : List Cond := .code yX4_clearTheWay cX4_clearTheWay 12 (some .boolean) :: bT
theorem dX4_clearTheWay_0 : decode cX4_clearTheWay 0 = .ok (.iconst 0, 1) := by decide +kernel
theorem dX4_clearTheWay_1 : decode cX4_clearTheWay 1 = .ok (.istore 4, 2) := by decide +kernel
theorem dX4_clearTheWay_3 : decode cX4_clearTheWay 3 = .ok (.iload 4, 2) := by decide +kernel
theorem dX4_clearTheWay_5 : decode cX4_clearTheWay 5 = .ok (.sipush 200, 3) := by decide +kernel
theorem dX4_clearTheWay_8 : decode cX4_clearTheWay 8 = .ok (.if_icmp .ge (148), 3) := by decide +kernel
theorem dX4_clearTheWay_11 : decode cX4_clearTheWay 11 = .ok (.aload_n 0, 1) := by decide +kernel
theorem dX4_clearTheWay_12 : decode cX4_clearTheWay 12 = .ok (.getfield 37, 3) := by decide +kernel
theorem dX4_clearTheWay_15 : decode cX4_clearTheWay 15 = .ok (.invokevirtual 253, 3) := by decide +kernel
theorem dX4_clearTheWay_18 : decode cX4_clearTheWay 18 = .ok (.istore 5, 2) := by decide +kernel
theorem dX4_clearTheWay_20 : decode cX4_clearTheWay 20 = .ok (.iload 5, 2) := by decide +kernel
theorem dX4_clearTheWay_22 : decode cX4_clearTheWay 22 = .ok (.iconst (-1), 1) := by decide +kernel
theorem dX4_clearTheWay_23 : decode cX4_clearTheWay 23 = .ok (.if_icmp .ne (5), 3) := by decide +kernel
theorem dX4_clearTheWay_26 : decode cX4_clearTheWay 26 = .ok (.iconst 1, 1) := by decide +kernel
theorem dX4_clearTheWay_27 : decode cX4_clearTheWay 27 = .ok (.ireturn, 1) := by decide +kernel
theorem dX4_clearTheWay_28 : decode cX4_clearTheWay 28 = .ok (.aload_n 0, 1) := by decide +kernel
theorem dX4_clearTheWay_29 : decode cX4_clearTheWay 29 = .ok (.getfield 37, 3) := by decide +kernel
theorem dX4_clearTheWay_32 : decode cX4_clearTheWay 32 = .ok (.iload 5, 2) := by decide +kernel
theorem dX4_clearTheWay_34 : decode cX4_clearTheWay 34 = .ok (.iload 5, 2) := by decide +kernel
theorem dX4_clearTheWay_36 : decode cX4_clearTheWay 36 = .ok (.iconst 1, 1) := by decide +kernel
theorem dX4_clearTheWay_37 : decode cX4_clearTheWay 37 = .ok (.iadd, 1) := by decide +kernel
theorem dX4_clearTheWay_38 : decode cX4_clearTheWay 38 = .ok (.invokevirtual 240, 3) := by decide +kernel
theorem dX4_clearTheWay_41 : decode cX4_clearTheWay 41 = .ok (.istore 6, 2) := by decide +kernel
theorem dX4_clearTheWay_43 : decode cX4_clearTheWay 43 = .ok (.iload 6, 2) := by decide +kernel
theorem dX4_clearTheWay_45 : decode cX4_clearTheWay 45 = .ok (.iconst (-1), 1) := by decide +kernel
theorem dX4_clearTheWay_46 : decode cX4_clearTheWay 46 = .ok (.if_icmp .eq (17), 3) := by decide +kernel
theorem dX4_clearTheWay_49 : decode cX4_clearTheWay 49 = .ok (.aload_n 0, 1) := by decide +kernel
theorem dX4_clearTheWay_50 : decode cX4_clearTheWay 50 = .ok (.getfield 12, 3) := by decide +kernel
theorem dX4_clearTheWay_53 : decode cX4_clearTheWay 53 = .ok (.iload 5, 2) := by decide +kernel
theorem dX4_clearTheWay_55 : decode cX4_clearTheWay 55 = .ok (.iload 6, 2) := by decide +kernel
theorem dX4_clearTheWay_57 : decode cX4_clearTheWay 57 = .ok (.invokevirtual 256, 3) := by decide +kernel
theorem dX4_clearTheWay_60 : decode cX4_clearTheWay 60 = .ok (.ifCond .eq (5), 3) := by decide +kernel
theorem dX4_clearTheWay_63 : decode cX4_clearTheWay 63 = .ok (.iconst 0, 1) := by decide +kernel
theorem dX4_clearTheWay_64 : decode cX4_clearTheWay 64 = .ok (.ireturn, 1) := by decide +kernel
theorem dX4_clearTheWay_65 : decode cX4_clearTheWay 65 = .ok (.aload_n 0, 1) := by decide +kernel
theorem dX4_clearTheWay_66 : decode cX4_clearTheWay 66 = .ok (.iload 5, 2) := by decide +kernel
theorem dX4_clearTheWay_68 : decode cX4_clearTheWay 68 = .ok (.iload 6, 2) := by decide +kernel
theorem dX4_clearTheWay_70 : decode cX4_clearTheWay 70 = .ok (.iload_n 1, 1) := by decide +kernel
theorem dX4_clearTheWay_71 : decode cX4_clearTheWay 71 = .ok (.iload_n 2, 1) := by decide +kernel
theorem dX4_clearTheWay_72 : decode cX4_clearTheWay 72 = .ok (.iload_n 3, 1) := by decide +kernel
theorem dX4_clearTheWay_73 : decode cX4_clearTheWay 73 = .ok (.invokevirtual 260, 3) := by decide +kernel
theorem dX4_clearTheWay_76 : decode cX4_clearTheWay 76 = .ok (.istore 7, 2) := by decide +kernel
theorem dX4_clearTheWay_78 : decode cX4_clearTheWay 78 = .ok (.iload 7, 2) := by decide +kernel
theorem dX4_clearTheWay_80 : decode cX4_clearTheWay 80 = .ok (.ifCond .eq (8), 3) := by decide +kernel
theorem dX4_clearTheWay_83 : decode cX4_clearTheWay 83 = .ok (.iload 5, 2) := by decide +kernel
theorem dX4_clearTheWay_85 : decode cX4_clearTheWay 85 = .ok (.goto (5), 3) := by decide +kernel
theorem dX4_clearTheWay_88 : decode cX4_clearTheWay 88 = .ok (.iload 6, 2) := by decide +kernel
theorem dX4_clearTheWay_90 : decode cX4_clearTheWay 90 = .ok (.istore 8, 2) := by decide +kernel
theorem dX4_clearTheWay_92 : decode cX4_clearTheWay 92 = .ok (.iload 7, 2) := by decide +kernel
theorem dX4_clearTheWay_94 : decode cX4_clearTheWay 94 = .ok (.ifCond .eq (8), 3) := by decide +kernel
theorem dX4_clearTheWay_97 : decode cX4_clearTheWay 97 = .ok (.iload 6, 2) := by decide +kernel
theorem dX4_clearTheWay_99 : decode cX4_clearTheWay 99 = .ok (.goto (5), 3) := by decide +kernel
theorem dX4_clearTheWay_102 : decode cX4_clearTheWay 102 = .ok (.iload 5, 2) := by decide +kernel
theorem dX4_clearTheWay_104 : decode cX4_clearTheWay 104 = .ok (.istore 9, 2) := by decide +kernel
theorem dX4_clearTheWay_106 : decode cX4_clearTheWay 106 = .ok (.aload_n 0, 1) := by decide +kernel
theorem dX4_clearTheWay_107 : decode cX4_clearTheWay 107 = .ok (.getfield 37, 3) := by decide +kernel
theorem dX4_clearTheWay_110 : decode cX4_clearTheWay 110 = .ok (.iload 8, 2) := by decide +kernel
theorem dX4_clearTheWay_112 : decode cX4_clearTheWay 112 = .ok (.iload 9, 2) := by decide +kernel
theorem dX4_clearTheWay_114 : decode cX4_clearTheWay 114 = .ok (.iload_n 2, 1) := by decide +kernel
theorem dX4_clearTheWay_115 : decode cX4_clearTheWay 115 = .ok (.iload_n 3, 1) := by decide +kernel
theorem dX4_clearTheWay_116 : decode cX4_clearTheWay 116 = .ok (.invokevirtual 264, 3) := by decide +kernel
theorem dX4_clearTheWay_119 : decode cX4_clearTheWay 119 = .ok (.lstore 10, 2) := by decide +kernel
theorem dX4_clearTheWay_121 : decode cX4_clearTheWay 121 = .ok (.aload_n 0, 1) := by decide +kernel
theorem dX4_clearTheWay_122 : decode cX4_clearTheWay 122 = .ok (.getfield 37, 3) := by decide +kernel
theorem dX4_clearTheWay_125 : decode cX4_clearTheWay 125 = .ok (.iload 8, 2) := by decide +kernel
theorem dX4_clearTheWay_127 : decode cX4_clearTheWay 127 = .ok (.iload_n 2, 1) := by decide +kernel
theorem dX4_clearTheWay_128 : decode cX4_clearTheWay 128 = .ok (.ifCond .eq (8), 3) := by decide +kernel
theorem dX4_clearTheWay_131 : decode cX4_clearTheWay 131 = .ok (.lload 10, 2) := by decide +kernel
theorem dX4_clearTheWay_133 : decode cX4_clearTheWay 133 = .ok (.goto (4), 3) := by decide +kernel
theorem dX4_clearTheWay_136 : decode cX4_clearTheWay 136 = .ok (.lconst 0, 1) := by decide +kernel
theorem dX4_clearTheWay_137 : decode cX4_clearTheWay 137 = .ok (.iload_n 2, 1) := by decide +kernel
theorem dX4_clearTheWay_138 : decode cX4_clearTheWay 138 = .ok (.ifCond .eq (7), 3) := by decide +kernel
theorem dX4_clearTheWay_141 : decode cX4_clearTheWay 141 = .ok (.lconst 0, 1) := by decide +kernel
theorem dX4_clearTheWay_142 : decode cX4_clearTheWay 142 = .ok (.goto (5), 3) := by decide +kernel
theorem dX4_clearTheWay_145 : decode cX4_clearTheWay 145 = .ok (.lload 10, 2) := by decide +kernel
theorem dX4_clearTheWay_147 : decode cX4_clearTheWay 147 = .ok (.invokevirtual 119, 3) := by decide +kernel
theorem dX4_clearTheWay_150 : decode cX4_clearTheWay 150 = .ok (.iinc 4 1, 3) := by decide +kernel
theorem dX4_clearTheWay_153 : decode cX4_clearTheWay 153 = .ok (.goto (-150), 3) := by decide +kernel
theorem dX4_clearTheWay_156 : decode cX4_clearTheWay 156 = .ok (.iconst 0, 1) := by decide +kernel
theorem dX4_clearTheWay_157 : decode cX4_clearTheWay 157 = .ok (.ireturn, 1) := by decide +kernel
abbrev cX4_swapPlaces : ByteArray := prog_1_method_30_code
def yX4_swapPlaces : MethodName := ⟨RX4, "swapPlaces", "(II)V"⟩
def wsX4_swapPlaces : List Cond := .code yX4_swapPlaces cX4_swapPlaces 7 none :: bT
theorem dX4_swapPlaces_0 : decode cX4_swapPlaces 0 = .ok (.aload_n 0, 1) := by decide +kernel
theorem dX4_swapPlaces_1 : decode cX4_swapPlaces 1 = .ok (.getfield 37, 3) := by decide +kernel
theorem dX4_swapPlaces_4 : decode cX4_swapPlaces 4 = .ok (.getfield 96, 3) := by decide +kernel
theorem dX4_swapPlaces_7 : decode cX4_swapPlaces 7 = .ok (.iload_n 2, 1) := by decide +kernel
theorem dX4_swapPlaces_8 : decode cX4_swapPlaces 8 = .ok (.baload, 1) := by decide +kernel
theorem dX4_swapPlaces_9 : decode cX4_swapPlaces 9 = .ok (.ifCond .eq (15), 3) := by decide +kernel
theorem dX4_swapPlaces_12 : decode cX4_swapPlaces 12 = .ok (.aload_n 0, 1) := by decide +kernel
theorem dX4_swapPlaces_13 : decode cX4_swapPlaces 13 = .ok (.getfield 12, 3) := by decide +kernel
theorem dX4_swapPlaces_16 : decode cX4_swapPlaces 16 = .ok (.iload_n 1, 1) := by decide +kernel
theorem dX4_swapPlaces_17 : decode cX4_swapPlaces 17 = .ok (.iload_n 2, 1) := by decide +kernel
theorem dX4_swapPlaces_18 : decode cX4_swapPlaces 18 = .ok (.invokevirtual 256, 3) := by decide +kernel
theorem dX4_swapPlaces_21 : decode cX4_swapPlaces 21 = .ok (.ifCond .eq (4), 3) := by decide +kernel
theorem dX4_swapPlaces_24 : decode cX4_swapPlaces 24 = .ok (.return_, 1) := by decide +kernel
theorem dX4_swapPlaces_25 : decode cX4_swapPlaces 25 = .ok (.aload_n 0, 1) := by decide +kernel
theorem dX4_swapPlaces_26 : decode cX4_swapPlaces 26 = .ok (.getfield 37, 3) := by decide +kernel
theorem dX4_swapPlaces_29 : decode cX4_swapPlaces 29 = .ok (.getfield 112, 3) := by decide +kernel
theorem dX4_swapPlaces_32 : decode cX4_swapPlaces 32 = .ok (.iload_n 2, 1) := by decide +kernel
theorem dX4_swapPlaces_33 : decode cX4_swapPlaces 33 = .ok (.laload, 1) := by decide +kernel
theorem dX4_swapPlaces_34 : decode cX4_swapPlaces 34 = .ok (.aload_n 0, 1) := by decide +kernel
theorem dX4_swapPlaces_35 : decode cX4_swapPlaces 35 = .ok (.getfield 37, 3) := by decide +kernel
theorem dX4_swapPlaces_38 : decode cX4_swapPlaces 38 = .ok (.getfield 112, 3) := by decide +kernel
theorem dX4_swapPlaces_41 : decode cX4_swapPlaces 41 = .ok (.iload_n 1, 1) := by decide +kernel
theorem dX4_swapPlaces_42 : decode cX4_swapPlaces 42 = .ok (.laload, 1) := by decide +kernel
theorem dX4_swapPlaces_43 : decode cX4_swapPlaces 43 = .ok (.lsub, 1) := by decide +kernel
theorem dX4_swapPlaces_44 : decode cX4_swapPlaces 44 = .ok (.lstore_n 3, 1) := by decide +kernel
theorem dX4_swapPlaces_45 : decode cX4_swapPlaces 45 = .ok (.aload_n 0, 1) := by decide +kernel
theorem dX4_swapPlaces_46 : decode cX4_swapPlaces 46 = .ok (.getfield 37, 3) := by decide +kernel
theorem dX4_swapPlaces_49 : decode cX4_swapPlaces 49 = .ok (.getfield 116, 3) := by decide +kernel
theorem dX4_swapPlaces_52 : decode cX4_swapPlaces 52 = .ok (.iload_n 2, 1) := by decide +kernel
theorem dX4_swapPlaces_53 : decode cX4_swapPlaces 53 = .ok (.laload, 1) := by decide +kernel
theorem dX4_swapPlaces_54 : decode cX4_swapPlaces 54 = .ok (.aload_n 0, 1) := by decide +kernel
theorem dX4_swapPlaces_55 : decode cX4_swapPlaces 55 = .ok (.getfield 37, 3) := by decide +kernel
theorem dX4_swapPlaces_58 : decode cX4_swapPlaces 58 = .ok (.getfield 116, 3) := by decide +kernel
theorem dX4_swapPlaces_61 : decode cX4_swapPlaces 61 = .ok (.iload_n 1, 1) := by decide +kernel
theorem dX4_swapPlaces_62 : decode cX4_swapPlaces 62 = .ok (.laload, 1) := by decide +kernel
theorem dX4_swapPlaces_63 : decode cX4_swapPlaces 63 = .ok (.lsub, 1) := by decide +kernel
theorem dX4_swapPlaces_64 : decode cX4_swapPlaces 64 = .ok (.lstore 5, 2) := by decide +kernel
theorem dX4_swapPlaces_66 : decode cX4_swapPlaces 66 = .ok (.aload_n 0, 1) := by decide +kernel
theorem dX4_swapPlaces_67 : decode cX4_swapPlaces 67 = .ok (.getfield 37, 3) := by decide +kernel
theorem dX4_swapPlaces_70 : decode cX4_swapPlaces 70 = .ok (.iload_n 1, 1) := by decide +kernel
theorem dX4_swapPlaces_71 : decode cX4_swapPlaces 71 = .ok (.lload_n 3, 1) := by decide +kernel
theorem dX4_swapPlaces_72 : decode cX4_swapPlaces 72 = .ok (.lload 5, 2) := by decide +kernel
theorem dX4_swapPlaces_74 : decode cX4_swapPlaces 74 = .ok (.invokevirtual 119, 3) := by decide +kernel
theorem dX4_swapPlaces_77 : decode cX4_swapPlaces 77 = .ok (.aload_n 0, 1) := by decide +kernel
theorem dX4_swapPlaces_78 : decode cX4_swapPlaces 78 = .ok (.getfield 37, 3) := by decide +kernel
theorem dX4_swapPlaces_81 : decode cX4_swapPlaces 81 = .ok (.iload_n 2, 1) := by decide +kernel
theorem dX4_swapPlaces_82 : decode cX4_swapPlaces 82 = .ok (.lload_n 3, 1) := by decide +kernel
theorem dX4_swapPlaces_83 : decode cX4_swapPlaces 83 = .ok (.lneg, 1) := by decide +kernel
theorem dX4_swapPlaces_84 : decode cX4_swapPlaces 84 = .ok (.lload 5, 2) := by decide +kernel
theorem dX4_swapPlaces_86 : decode cX4_swapPlaces 86 = .ok (.lneg, 1) := by decide +kernel
theorem dX4_swapPlaces_87 : decode cX4_swapPlaces 87 = .ok (.invokevirtual 119, 3) := by decide +kernel
theorem dX4_swapPlaces_90 : decode cX4_swapPlaces 90 = .ok (.return_, 1) := by decide +kernel
abbrev cX4_turnAlone : ByteArray := prog_1_method_31_code
def yX4_turnAlone : MethodName := ⟨RX4, "turnAlone", "(II)V"⟩
def wsX4_turnAlone : List Cond := .code yX4_turnAlone cX4_turnAlone 3 none :: bT
theorem dX4_turnAlone_0 : decode cX4_turnAlone 0 = .ok (.aload_n 0, 1) := by decide +kernel
theorem dX4_turnAlone_1 : decode cX4_turnAlone 1 = .ok (.getfield 37, 3) := by decide +kernel
theorem dX4_turnAlone_4 : decode cX4_turnAlone 4 = .ok (.iload_n 1, 1) := by decide +kernel
theorem dX4_turnAlone_5 : decode cX4_turnAlone 5 = .ok (.invokevirtual 104, 3) := by decide +kernel
theorem dX4_turnAlone_8 : decode cX4_turnAlone 8 = .ok (.ifCond .ne (25), 3) := by decide +kernel
theorem dX4_turnAlone_11 : decode cX4_turnAlone 11 = .ok (.aload_n 0, 1) := by decide +kernel
theorem dX4_turnAlone_12 : decode cX4_turnAlone 12 = .ok (.getfield 37, 3) := by decide +kernel
theorem dX4_turnAlone_15 : decode cX4_turnAlone 15 = .ok (.getfield 100, 3) := by decide +kernel
theorem dX4_turnAlone_18 : decode cX4_turnAlone 18 = .ok (.iload_n 1, 1) := by decide +kernel
theorem dX4_turnAlone_19 : decode cX4_turnAlone 19 = .ok (.aload_n 0, 1) := by decide +kernel
theorem dX4_turnAlone_20 : decode cX4_turnAlone 20 = .ok (.getfield 37, 3) := by decide +kernel
theorem dX4_turnAlone_23 : decode cX4_turnAlone 23 = .ok (.getfield 100, 3) := by decide +kernel
theorem dX4_turnAlone_26 : decode cX4_turnAlone 26 = .ok (.iload_n 1, 1) := by decide +kernel
theorem dX4_turnAlone_27 : decode cX4_turnAlone 27 = .ok (.iaload, 1) := by decide +kernel
theorem dX4_turnAlone_28 : decode cX4_turnAlone 28 = .ok (.iload_n 2, 1) := by decide +kernel
theorem dX4_turnAlone_29 : decode cX4_turnAlone 29 = .ok (.iadd, 1) := by decide +kernel
theorem dX4_turnAlone_30 : decode cX4_turnAlone 30 = .ok (.iconst 4, 1) := by decide +kernel
theorem dX4_turnAlone_31 : decode cX4_turnAlone 31 = .ok (.irem, 1) := by decide +kernel
theorem dX4_turnAlone_32 : decode cX4_turnAlone 32 = .ok (.iastore, 1) := by decide +kernel
theorem dX4_turnAlone_33 : decode cX4_turnAlone 33 = .ok (.return_, 1) := by decide +kernel
end
section
set_option maxHeartbeats 4000000 in
set_option maxRecDepth 100000 in
theorem w_shift {l : Launch} {D : va_G} {ad : Nat → Nat} {cJ cI cZ : ClassId} {bm : gBM} {pa : gPA} {p0 p1 p2 : gPL} {li : gLI} {wi : gWI} (hoA : q_okA pa) {j : Nat} (h1 : j < 40) {dx dy : Int64} : bm_Wr l yX2_shiftGroup wsX2_shiftGroup ({ frames := 1, cells := 0, slots := 0, locals := 22 }) D vwCl [(cJ, .long), (cI, .int), (cZ, .boolean)] (Wd ad cJ cI cZ bm pa p0 p1 p2 li wi) [.ref (ad 8), .int (nI j), .long dx, .long dy] (Wd ad cJ cI cZ bm pa (q_shift pa p0 j dx dy) p1 p2 li wi) (none) := by
  obtain ⟨hn, hsd, hlw⟩ := hoA
  intro sz
  refine Met.ofW (cc := cX2_shiftGroup) (maxL := 7) (ret := none) (by decide) rfl ?_
  intro p e s m args below meth c s₁ B hml hv
  obtain ⟨ha, hsz, hP, hK, hD0⟩ := hv
  have hx := B.exec
  have hb := B.bytes
  have hr := B.returns
  have hts := atoms_spec (ws := wsX2_shiftGroup) B.pre
  have hown : s.vm.findClass RX2 = some m.cls := findClass_of_methodNamed B.named
  have hlocks := B.notSynchronized
  subst hsz
  have hD := hD0.self (sz := s.heap.size)
  generalize hAe : va_A (Wd ad cJ cI cZ bm pa p0 p1 p2 li wi) s.heap.size = A at hD ⊢
  have hA : ∀ q : Nat, s.heap.size ≤ q → A q := fun q h => by rw [← hAe]; exact Or.inr h
  have hS : va_S A s.heap s.heap [] := va_S.rf
  have lp : ∀ (k : Nat) (i : Nat), i ≤ pa.2.2.2.2.2.2 → pa.2.2.2.2.2.2 < i + k → ∀ (H : Heap) (locs : List Loc), va_P D vwCl (Wd ad cJ cI cZ bm pa (q_shiftU pa p0 j dx dy i) p1 p2 li wi) H → va_D A (Wd ad cJ cI cZ bm pa (q_shiftU pa p0 j dx dy i) p1 p2 li wi) → va_S A s.heap H locs → ∀ (ls : Array Slot), lv_has ls 7 [(0, .ref (ad 8)), (1, .int (nI j)), (2, .long dx), (4, .long dy), (6, .int (nI i))] → W p l e (headSpec wsX2_shiftGroup ({ frames := 1, cells := 0, slots := 0, locals := 22 })).room s m args below meth c H locs 0 0 (MQ below (bm_Wq D vwCl [(cJ, .long), (cI, .int), (cZ, .boolean)] (Wd ad cJ cI cZ bm pa (q_shift pa p0 j dx dy) p1 p2 li wi) (none) A) args s 0 0 A) (F0 m 3 ls []) := by
    intro k
    induction k with
    | zero => intro i hi hk; exfalso; omega
    | succ k ih =>
      intro i hi hk H locs hP hD hS ls hl
      refine lv_iload hx hb dX2_shiftGroup_3 (lv_at hl 4 rfl) ?_
      refine lv_aload_n hx hb dX2_shiftGroup_5 rfl (lv_at hl 0 rfl) ?_
      refine va_get (D := D) (ci := 2) (v := .ref (ad 1)) (C := RX2) (T := TX2) (N := 5) hx hb hts (inT inX2) hown hK hP 8 rfl rfl 0 (by decide) (hts (.fieldLink RX2 26 "BoardMoves$Placement" "parts" "LBoardMoves$Parts;") (by decide +kernel)) (fun _ h9 => h9) rfl dX2_shiftGroup_6 ?_
      refine va_get (D := D) (ci := 1) (v := .int (nI pa.2.2.2.2.2.2)) (C := RX1) (T := TX1) (N := 7) hx hb hts (inT inX1) hown hK hP 1 rfl rfl 6 (by decide) (hts (.fieldLink RX2 30 "BoardMoves$Parts" "count" "I") (by decide +kernel)) (fun _ h9 => h9) rfl dX2_shiftGroup_9 ?_
      refine bm_ni_ge (x := i) (y := pa.2.2.2.2.2.2) (tgt := 67) hx hb (by omega) (by omega) dX2_shiftGroup_12 (by decide) (fun c_1 => ?_) (fun c_1 => ?_)
      · exact bm_vretW hx hb hr hP hD hK hS (by rw [show i = pa.2.2.2.2.2.2 from by omega]) dX2_shiftGroup_67 hlocks
      · refine lv_aload_n hx hb dX2_shiftGroup_15 rfl (lv_at hl 0 rfl) ?_
        refine va_get (D := D) (ci := 2) (v := .ref (ad 12)) (C := RX2) (T := TX2) (N := 5) hx hb hts (inT inX2) hown hK hP 8 rfl rfl 4 (by decide) (hts (.fieldLink RX2 22 "BoardMoves$Placement" "placed" "[Z") (by decide +kernel)) (fun _ h9 => h9) rfl dX2_shiftGroup_16 ?_
        refine lv_iload hx hb dX2_shiftGroup_19 (lv_at hl 4 rfl) ?_
        refine bm_zald (f := ((q_shiftU pa p0 j dx dy i).2.2.2)) hx hb hK hP 12 2 rfl rfl (j := i) (by omega) (by decide) dX2_shiftGroup_21 ?_
        refine bm_zb_eq (x := (((q_shiftU pa p0 j dx dy i).2.2.2) i)) (tgt := 61) hx hb dX2_shiftGroup_22 (by decide) (fun c_2 => ?_) (fun c_2 => ?_)
        · refine lv_iinc (v := (nI (i + 1))) (lv' := [(6, .int (nI (i + 1))), (0, .ref (ad 8)), (1, .int (nI j)), (2, .long dx), (4, .long dy)]) hx hb dX2_shiftGroup_61 hl (k := 4) rfl (nI_1 i) (by decide) rfl (fun ls hl => ?_)
          refine lv_goto (tgt := 3) hx hb dX2_shiftGroup_64 (by decide) ?_
          have e0 : (q_shiftU pa p0 j dx dy i) = q_shiftU pa p0 j dx dy (i + 1) := q_shift_miss (fun q => by have h9 : p0.2.2.2 i = false := c_2; rw [h9] at q; exact absurd q.1 (by decide))
          rw [e0] at hP hD
          exact ih (i + 1) (by omega) (by omega) _ _ hP hD hS _ (lv_sub hl [1, 2, 3, 4, 0] rfl)
        · refine lv_aload_n hx hb dX2_shiftGroup_25 rfl (lv_at hl 0 rfl) ?_
          refine va_get (D := D) (ci := 2) (v := .ref (ad 1)) (C := RX2) (T := TX2) (N := 5) hx hb hts (inT inX2) hown hK hP 8 rfl rfl 0 (by decide) (hts (.fieldLink RX2 26 "BoardMoves$Placement" "parts" "LBoardMoves$Parts;") (by decide +kernel)) (fun _ h9 => h9) rfl dX2_shiftGroup_26 ?_
          refine lv_iload hx hb dX2_shiftGroup_29 (lv_at hl 4 rfl) ?_
          refine lv_iload_n hx hb dX2_shiftGroup_31 rfl (lv_at hl 1 rfl) ?_
          refine bm_rcallV (As := [.int (nI i), .int (nI j)]) (rest := []) ⟨hx, hb, hml, hown, hts⟩ (r_mates (a := i) (b := j) ⟨hn, hsd, hlw⟩ (by omega) (by omega)) (cwV 2 hts (gdV (by decide +kernel) (by decide +kernel) (by decide +kernel) (by decide +kernel) (by decide +kernel)) rfl rfl rfl (by decide +kernel) ⟨Nat.le_of_ble_eq_true rfl, Nat.le_of_ble_eq_true rfl⟩) hK hP 1 1 rfl rfl rfl hl.1 rfl (Nat.le_of_ble_eq_true rfl) dX2_shiftGroup_32 ⟨Nat.le_of_ble_eq_true rfl, Nat.le_of_ble_eq_true rfl⟩ ?_
          refine bm_zb_eq (x := (q_mates pa i j)) (tgt := 61) hx hb dX2_shiftGroup_35 (by decide) (fun c_3 => ?_) (fun c_3 => ?_)
          · refine lv_iinc (v := (nI (i + 1))) (lv' := [(6, .int (nI (i + 1))), (0, .ref (ad 8)), (1, .int (nI j)), (2, .long dx), (4, .long dy)]) hx hb dX2_shiftGroup_61 hl (k := 4) rfl (nI_1 i) (by decide) rfl (fun ls hl => ?_)
            refine lv_goto (tgt := 3) hx hb dX2_shiftGroup_64 (by decide) ?_
            have e0 : (q_shiftU pa p0 j dx dy i) = q_shiftU pa p0 j dx dy (i + 1) := q_shift_miss (fun q => by rw [c_3] at q; exact absurd q.2 (by decide))
            rw [e0] at hP hD
            exact ih (i + 1) (by omega) (by omega) _ _ hP hD hS _ (lv_sub hl [1, 2, 3, 4, 0] rfl)
          · refine lv_aload_n hx hb dX2_shiftGroup_38 rfl (lv_at hl 0 rfl) ?_
            refine va_get (D := D) (ci := 2) (v := .ref (ad 9)) (C := RX2) (T := TX2) (N := 5) hx hb hts (inT inX2) hown hK hP 8 rfl rfl 1 (by decide) (hts (.fieldLink RX2 9 "BoardMoves$Placement" "x" "[J") (by decide +kernel)) (fun _ h9 => h9) rfl dX2_shiftGroup_39 ?_
            refine lv_iload hx hb dX2_shiftGroup_42 (lv_at hl 4 rfl) ?_
            refine lv_dup2_11 hx hb dX2_shiftGroup_44 rfl rfl ?_
            refine bm_lald (f := ((q_shiftU pa p0 j dx dy i).1)) hx hb hK hP 9 0 rfl rfl (j := i) (by omega) (by decide) dX2_shiftGroup_45 ?_
            refine lv_lload_n hx hb dX2_shiftGroup_46 rfl (lv_at hl 2 rfl) ?_
            refine lv_ladd hx hb dX2_shiftGroup_47 ?_
            refine bm_last (f := ((q_shiftU pa p0 j dx dy i).1)) hx hb hK hP hD hS 9 0 rfl rfl (j := i) (x := ((((q_shiftU pa p0 j dx dy i).1) i) + dx)) (by omega) (by decide) dX2_shiftGroup_48 (fun H locs hP hD hS => ?_)
            have hP : va_P D vwCl (Wd ad cJ cI cZ bm pa (va_up ((q_shiftU pa p0 j dx dy i).1) i ((((q_shiftU pa p0 j dx dy i).1) i) + dx), (q_shiftU pa p0 j dx dy i).2.1, (q_shiftU pa p0 j dx dy i).2.2.1, (q_shiftU pa p0 j dx dy i).2.2.2) p1 p2 li wi) H := hP
            have hD : va_D A (Wd ad cJ cI cZ bm pa (va_up ((q_shiftU pa p0 j dx dy i).1) i ((((q_shiftU pa p0 j dx dy i).1) i) + dx), (q_shiftU pa p0 j dx dy i).2.1, (q_shiftU pa p0 j dx dy i).2.2.1, (q_shiftU pa p0 j dx dy i).2.2.2) p1 p2 li wi) := hD
            refine lv_aload_n hx hb dX2_shiftGroup_49 rfl (lv_at hl 0 rfl) ?_
            refine va_get (D := D) (ci := 2) (v := .ref (ad 10)) (C := RX2) (T := TX2) (N := 5) hx hb hts (inT inX2) hown hK hP 8 rfl rfl 2 (by decide) (hts (.fieldLink RX2 15 "BoardMoves$Placement" "y" "[J") (by decide +kernel)) (fun _ h9 => h9) rfl dX2_shiftGroup_50 ?_
            refine lv_iload hx hb dX2_shiftGroup_53 (lv_at hl 4 rfl) ?_
            refine lv_dup2_11 hx hb dX2_shiftGroup_55 rfl rfl ?_
            refine bm_lald (f := ((q_shiftU pa p0 j dx dy i).2.1)) hx hb hK hP 10 0 rfl rfl (j := i) (by omega) (by decide) dX2_shiftGroup_56 ?_
            refine lv_lload hx hb dX2_shiftGroup_57 (lv_at hl 3 rfl) ?_
            refine lv_ladd hx hb dX2_shiftGroup_59 ?_
            refine bm_last (f := ((q_shiftU pa p0 j dx dy i).2.1)) hx hb hK hP hD hS 10 0 rfl rfl (j := i) (x := ((((q_shiftU pa p0 j dx dy i).2.1) i) + dy)) (by omega) (by decide) dX2_shiftGroup_60 (fun H locs hP hD hS => ?_)
            have hP : va_P D vwCl (Wd ad cJ cI cZ bm pa (va_up ((q_shiftU pa p0 j dx dy i).1) i ((((q_shiftU pa p0 j dx dy i).1) i) + dx), va_up ((q_shiftU pa p0 j dx dy i).2.1) i ((((q_shiftU pa p0 j dx dy i).2.1) i) + dy), (q_shiftU pa p0 j dx dy i).2.2.1, (q_shiftU pa p0 j dx dy i).2.2.2) p1 p2 li wi) H := hP
            have hD : va_D A (Wd ad cJ cI cZ bm pa (va_up ((q_shiftU pa p0 j dx dy i).1) i ((((q_shiftU pa p0 j dx dy i).1) i) + dx), va_up ((q_shiftU pa p0 j dx dy i).2.1) i ((((q_shiftU pa p0 j dx dy i).2.1) i) + dy), (q_shiftU pa p0 j dx dy i).2.2.1, (q_shiftU pa p0 j dx dy i).2.2.2) p1 p2 li wi) := hD
            refine lv_iinc (v := (nI (i + 1))) (lv' := [(6, .int (nI (i + 1))), (0, .ref (ad 8)), (1, .int (nI j)), (2, .long dx), (4, .long dy)]) hx hb dX2_shiftGroup_61 hl (k := 4) rfl (nI_1 i) (by decide) rfl (fun ls hl => ?_)
            refine lv_goto (tgt := 3) hx hb dX2_shiftGroup_64 (by decide) ?_
            have e0 : (va_up ((q_shiftU pa p0 j dx dy i).1) i ((((q_shiftU pa p0 j dx dy i).1) i) + dx), va_up ((q_shiftU pa p0 j dx dy i).2.1) i ((((q_shiftU pa p0 j dx dy i).2.1) i) + dy), (q_shiftU pa p0 j dx dy i).2.2.1, (q_shiftU pa p0 j dx dy i).2.2.2) = q_shiftU pa p0 j dx dy (i + 1) := q_shift_hit c_2 c_3
            rw [e0] at hP hD
            exact ih (i + 1) (by omega) (by omega) _ _ hP hD hS _ (lv_sub hl [1, 2, 3, 4, 0] rfl)
  have hl := lv_entry ([.ref (ad 8), .int (nI j), .long dx, .long dy]) (n := 7) (Nat.le_of_ble_eq_true rfl)
  refine W.eq (g2 := entryFrame m ([.ref (ad 8), .int (nI j), .long dx, .long dy] : List Value).toArray 7) (by rw [ha]) ?_
  rw [lg_entry_eq]
  generalize (lg_sl ([.ref (ad 8), .int (nI j), .long dx, .long dy]) ++ List.replicate (7 - (lg_sl ([.ref (ad 8), .int (nI j), .long dx, .long dy])).length) Slot.unset).toArray = ls at hl ⊢
  have hl : lv_has ls 7 [(0, .ref (ad 8)), (1, .int (nI j)), (2, .long dx), (4, .long dy)] := hl
  refine lv_iconst (v := nI 0) hx hb dX2_shiftGroup_0 (by decide) ?_
  refine lv_istore (lv' := [(6, .int (nI 0)), (0, .ref (ad 8)), (1, .int (nI j)), (2, .long dx), (4, .long dy)]) hx hb dX2_shiftGroup_1 hl (by decide) rfl (fun ls hl => ?_)
  have e0 := q_shift_0 pa p0 j dx dy
  have hP : va_P D vwCl (Wd ad cJ cI cZ bm pa (q_shiftU pa p0 j dx dy 0) p1 p2 li wi) s.heap := by rw [← e0]; exact hP
  have hD : va_D A (Wd ad cJ cI cZ bm pa (q_shiftU pa p0 j dx dy 0) p1 p2 li wi) := by rw [← e0]; exact hD
  exact lp (pa.2.2.2.2.2.2 + 1) 0 (by omega) (by omega) _ _ hP hD hS _ (lv_sub hl [1, 2, 3, 4, 0] rfl)
end
section
set_option maxHeartbeats 4000000 in
set_option maxRecDepth 100000 in
theorem w_copyp1p0 {l : Launch} {D : va_G} {ad : Nat → Nat} {cJ cI cZ : ClassId} {bm : gBM} {pa : gPA} {p0 p1 p2 : gPL} {li : gLI} {wi : gWI} (hoA : q_okA pa) : bm_Wr l yX2_copyFrom wsX2_copyFrom ({ frames := 0, cells := 0, slots := 0, locals := 0 }) D vwCl [(cJ, .long), (cI, .int), (cZ, .boolean)] (Wd ad cJ cI cZ bm pa p0 p1 p2 li wi) [.ref (ad 13), .ref (ad 8)] (Wd ad cJ cI cZ bm pa p0 (q_copyU p0 p1 pa.2.2.2.2.2.2) p2 li wi) (none) := by
  obtain ⟨hn, hsd, hlw⟩ := hoA
  intro sz
  refine Met.ofW (cc := cX2_copyFrom) (maxL := 3) (ret := none) (by decide) rfl ?_
  intro p e s m args below meth c s₁ B hml hv
  obtain ⟨ha, hsz, hP, hK, hD0⟩ := hv
  have hx := B.exec
  have hb := B.bytes
  have hr := B.returns
  have hts := atoms_spec (ws := wsX2_copyFrom) B.pre
  have hown : s.vm.findClass RX2 = some m.cls := findClass_of_methodNamed B.named
  have hlocks := B.notSynchronized
  subst hsz
  have hD := hD0.self (sz := s.heap.size)
  generalize hAe : va_A (Wd ad cJ cI cZ bm pa p0 p1 p2 li wi) s.heap.size = A at hD ⊢
  have hA : ∀ q : Nat, s.heap.size ≤ q → A q := fun q h => by rw [← hAe]; exact Or.inr h
  have hS : va_S A s.heap s.heap [] := va_S.rf
  have lp : ∀ (k : Nat) (i : Nat), i ≤ pa.2.2.2.2.2.2 → pa.2.2.2.2.2.2 < i + k → ∀ (H : Heap) (locs : List Loc), va_P D vwCl (Wd ad cJ cI cZ bm pa p0 (q_copyU p0 p1 i) p2 li wi) H → va_D A (Wd ad cJ cI cZ bm pa p0 (q_copyU p0 p1 i) p2 li wi) → va_S A s.heap H locs → ∀ (ls : Array Slot), lv_has ls 3 [(0, .ref (ad 13)), (1, .ref (ad 8)), (2, .int (nI i))] → W p l e (headSpec wsX2_copyFrom ({ frames := 0, cells := 0, slots := 0, locals := 0 })).room s m args below meth c H locs 0 0 (MQ below (bm_Wq D vwCl [(cJ, .long), (cI, .int), (cZ, .boolean)] (Wd ad cJ cI cZ bm pa p0 (q_copyU p0 p1 pa.2.2.2.2.2.2) p2 li wi) (none) A) args s 0 0 A) (F0 m 2 ls []) := by
    intro k
    induction k with
    | zero => intro i hi hk; exfalso; omega
    | succ k ih =>
      intro i hi hk H locs hP hD hS ls hl
      refine lv_iload_n hx hb dX2_copyFrom_2 rfl (lv_at hl 2 rfl) ?_
      refine lv_aload_n hx hb dX2_copyFrom_3 rfl (lv_at hl 0 rfl) ?_
      refine va_get (D := D) (ci := 2) (v := .ref (ad 1)) (C := RX2) (T := TX2) (N := 5) hx hb hts (inT inX2) hown hK hP 13 rfl rfl 0 (by decide) (hts (.fieldLink RX2 26 "BoardMoves$Placement" "parts" "LBoardMoves$Parts;") (by decide +kernel)) (fun _ h9 => h9) rfl dX2_copyFrom_4 ?_
      refine va_get (D := D) (ci := 1) (v := .int (nI pa.2.2.2.2.2.2)) (C := RX1) (T := TX1) (N := 7) hx hb hts (inT inX1) hown hK hP 1 rfl rfl 6 (by decide) (hts (.fieldLink RX2 30 "BoardMoves$Parts" "count" "I") (by decide +kernel)) (fun _ h9 => h9) rfl dX2_copyFrom_7 ?_
      refine bm_ni_ge (x := i) (y := pa.2.2.2.2.2.2) (tgt := 67) hx hb (by omega) (by omega) dX2_copyFrom_10 (by decide) (fun c_1 => ?_) (fun c_1 => ?_)
      · exact bm_vretW hx hb hr hP hD hK hS (by rw [show i = pa.2.2.2.2.2.2 from by omega]) dX2_copyFrom_67 hlocks
      · refine lv_aload_n hx hb dX2_copyFrom_13 rfl (lv_at hl 0 rfl) ?_
        refine va_get (D := D) (ci := 2) (v := .ref (ad 14)) (C := RX2) (T := TX2) (N := 5) hx hb hts (inT inX2) hown hK hP 13 rfl rfl 1 (by decide) (hts (.fieldLink RX2 9 "BoardMoves$Placement" "x" "[J") (by decide +kernel)) (fun _ h9 => h9) rfl dX2_copyFrom_14 ?_
        refine lv_iload_n hx hb dX2_copyFrom_17 rfl (lv_at hl 2 rfl) ?_
        refine lv_aload_n hx hb dX2_copyFrom_18 rfl (lv_at hl 1 rfl) ?_
        refine va_get (D := D) (ci := 2) (v := .ref (ad 9)) (C := RX2) (T := TX2) (N := 5) hx hb hts (inT inX2) hown hK hP 8 rfl rfl 1 (by decide) (hts (.fieldLink RX2 9 "BoardMoves$Placement" "x" "[J") (by decide +kernel)) (fun _ h9 => h9) rfl dX2_copyFrom_19 ?_
        refine lv_iload_n hx hb dX2_copyFrom_22 rfl (lv_at hl 2 rfl) ?_
        refine bm_lald (f := p0.1) hx hb hK hP 9 0 rfl rfl (j := i) (by omega) (by decide) dX2_copyFrom_23 ?_
        refine bm_last (f := ((q_copyU p0 p1 i).1)) hx hb hK hP hD hS 14 0 rfl rfl (j := i) (x := (p0.1 i)) (by omega) (by decide) dX2_copyFrom_24 (fun H locs hP hD hS => ?_)
        have hP : va_P D vwCl (Wd ad cJ cI cZ bm pa p0 (va_up ((q_copyU p0 p1 i).1) i (p0.1 i), (q_copyU p0 p1 i).2.1, (q_copyU p0 p1 i).2.2.1, (q_copyU p0 p1 i).2.2.2) p2 li wi) H := hP
        have hD : va_D A (Wd ad cJ cI cZ bm pa p0 (va_up ((q_copyU p0 p1 i).1) i (p0.1 i), (q_copyU p0 p1 i).2.1, (q_copyU p0 p1 i).2.2.1, (q_copyU p0 p1 i).2.2.2) p2 li wi) := hD
        refine lv_aload_n hx hb dX2_copyFrom_25 rfl (lv_at hl 0 rfl) ?_
        refine va_get (D := D) (ci := 2) (v := .ref (ad 15)) (C := RX2) (T := TX2) (N := 5) hx hb hts (inT inX2) hown hK hP 13 rfl rfl 2 (by decide) (hts (.fieldLink RX2 15 "BoardMoves$Placement" "y" "[J") (by decide +kernel)) (fun _ h9 => h9) rfl dX2_copyFrom_26 ?_
        refine lv_iload_n hx hb dX2_copyFrom_29 rfl (lv_at hl 2 rfl) ?_
        refine lv_aload_n hx hb dX2_copyFrom_30 rfl (lv_at hl 1 rfl) ?_
        refine va_get (D := D) (ci := 2) (v := .ref (ad 10)) (C := RX2) (T := TX2) (N := 5) hx hb hts (inT inX2) hown hK hP 8 rfl rfl 2 (by decide) (hts (.fieldLink RX2 15 "BoardMoves$Placement" "y" "[J") (by decide +kernel)) (fun _ h9 => h9) rfl dX2_copyFrom_31 ?_
        refine lv_iload_n hx hb dX2_copyFrom_34 rfl (lv_at hl 2 rfl) ?_
        refine bm_lald (f := p0.2.1) hx hb hK hP 10 0 rfl rfl (j := i) (by omega) (by decide) dX2_copyFrom_35 ?_
        refine bm_last (f := ((q_copyU p0 p1 i).2.1)) hx hb hK hP hD hS 15 0 rfl rfl (j := i) (x := (p0.2.1 i)) (by omega) (by decide) dX2_copyFrom_36 (fun H locs hP hD hS => ?_)
        have hP : va_P D vwCl (Wd ad cJ cI cZ bm pa p0 (va_up ((q_copyU p0 p1 i).1) i (p0.1 i), va_up ((q_copyU p0 p1 i).2.1) i (p0.2.1 i), (q_copyU p0 p1 i).2.2.1, (q_copyU p0 p1 i).2.2.2) p2 li wi) H := hP
        have hD : va_D A (Wd ad cJ cI cZ bm pa p0 (va_up ((q_copyU p0 p1 i).1) i (p0.1 i), va_up ((q_copyU p0 p1 i).2.1) i (p0.2.1 i), (q_copyU p0 p1 i).2.2.1, (q_copyU p0 p1 i).2.2.2) p2 li wi) := hD
        refine lv_aload_n hx hb dX2_copyFrom_37 rfl (lv_at hl 0 rfl) ?_
        refine va_get (D := D) (ci := 2) (v := .ref (ad 16)) (C := RX2) (T := TX2) (N := 5) hx hb hts (inT inX2) hown hK hP 13 rfl rfl 3 (by decide) (hts (.fieldLink RX2 18 "BoardMoves$Placement" "turn" "[I") (by decide +kernel)) (fun _ h9 => h9) rfl dX2_copyFrom_38 ?_
        refine lv_iload_n hx hb dX2_copyFrom_41 rfl (lv_at hl 2 rfl) ?_
        refine lv_aload_n hx hb dX2_copyFrom_42 rfl (lv_at hl 1 rfl) ?_
        refine va_get (D := D) (ci := 2) (v := .ref (ad 11)) (C := RX2) (T := TX2) (N := 5) hx hb hts (inT inX2) hown hK hP 8 rfl rfl 3 (by decide) (hts (.fieldLink RX2 18 "BoardMoves$Placement" "turn" "[I") (by decide +kernel)) (fun _ h9 => h9) rfl dX2_copyFrom_43 ?_
        refine lv_iload_n hx hb dX2_copyFrom_46 rfl (lv_at hl 2 rfl) ?_
        refine bm_nald (f := p0.2.2.1) hx hb hK hP 11 1 rfl rfl (j := i) (by omega) (by decide) dX2_copyFrom_47 ?_
        refine bm_nast (f := ((q_copyU p0 p1 i).2.2.1)) hx hb hK hP hD hS 16 1 rfl rfl (j := i) (x := (p0.2.2.1 i)) (by omega) (by decide) dX2_copyFrom_48 (fun H locs hP hD hS => ?_)
        have hP : va_P D vwCl (Wd ad cJ cI cZ bm pa p0 (va_up ((q_copyU p0 p1 i).1) i (p0.1 i), va_up ((q_copyU p0 p1 i).2.1) i (p0.2.1 i), va_up ((q_copyU p0 p1 i).2.2.1) i (p0.2.2.1 i), (q_copyU p0 p1 i).2.2.2) p2 li wi) H := hP
        have hD : va_D A (Wd ad cJ cI cZ bm pa p0 (va_up ((q_copyU p0 p1 i).1) i (p0.1 i), va_up ((q_copyU p0 p1 i).2.1) i (p0.2.1 i), va_up ((q_copyU p0 p1 i).2.2.1) i (p0.2.2.1 i), (q_copyU p0 p1 i).2.2.2) p2 li wi) := hD
        refine lv_aload_n hx hb dX2_copyFrom_49 rfl (lv_at hl 0 rfl) ?_
        refine va_get (D := D) (ci := 2) (v := .ref (ad 17)) (C := RX2) (T := TX2) (N := 5) hx hb hts (inT inX2) hown hK hP 13 rfl rfl 4 (by decide) (hts (.fieldLink RX2 22 "BoardMoves$Placement" "placed" "[Z") (by decide +kernel)) (fun _ h9 => h9) rfl dX2_copyFrom_50 ?_
        refine lv_iload_n hx hb dX2_copyFrom_53 rfl (lv_at hl 2 rfl) ?_
        refine lv_aload_n hx hb dX2_copyFrom_54 rfl (lv_at hl 1 rfl) ?_
        refine va_get (D := D) (ci := 2) (v := .ref (ad 12)) (C := RX2) (T := TX2) (N := 5) hx hb hts (inT inX2) hown hK hP 8 rfl rfl 4 (by decide) (hts (.fieldLink RX2 22 "BoardMoves$Placement" "placed" "[Z") (by decide +kernel)) (fun _ h9 => h9) rfl dX2_copyFrom_55 ?_
        refine lv_iload_n hx hb dX2_copyFrom_58 rfl (lv_at hl 2 rfl) ?_
        refine bm_zald (f := p0.2.2.2) hx hb hK hP 12 2 rfl rfl (j := i) (by omega) (by decide) dX2_copyFrom_59 ?_
        refine bm_zast (f := ((q_copyU p0 p1 i).2.2.2)) hx hb hK hP hD hS 17 2 rfl rfl (j := i) (x := (p0.2.2.2 i)) (by omega) (by decide) dX2_copyFrom_60 (fun H locs hP hD hS => ?_)
        have hP : va_P D vwCl (Wd ad cJ cI cZ bm pa p0 (va_up ((q_copyU p0 p1 i).1) i (p0.1 i), va_up ((q_copyU p0 p1 i).2.1) i (p0.2.1 i), va_up ((q_copyU p0 p1 i).2.2.1) i (p0.2.2.1 i), va_up ((q_copyU p0 p1 i).2.2.2) i (p0.2.2.2 i)) p2 li wi) H := hP
        have hD : va_D A (Wd ad cJ cI cZ bm pa p0 (va_up ((q_copyU p0 p1 i).1) i (p0.1 i), va_up ((q_copyU p0 p1 i).2.1) i (p0.2.1 i), va_up ((q_copyU p0 p1 i).2.2.1) i (p0.2.2.1 i), va_up ((q_copyU p0 p1 i).2.2.2) i (p0.2.2.2 i)) p2 li wi) := hD
        refine lv_iinc (v := (nI (i + 1))) (lv' := [(2, .int (nI (i + 1))), (0, .ref (ad 13)), (1, .ref (ad 8))]) hx hb dX2_copyFrom_61 hl (k := 2) rfl (nI_1 i) (by decide) rfl (fun ls hl => ?_)
        refine lv_goto (tgt := 2) hx hb dX2_copyFrom_64 (by decide) ?_
        have e0 : (va_up ((q_copyU p0 p1 i).1) i (p0.1 i), va_up ((q_copyU p0 p1 i).2.1) i (p0.2.1 i), va_up ((q_copyU p0 p1 i).2.2.1) i (p0.2.2.1 i), va_up ((q_copyU p0 p1 i).2.2.2) i (p0.2.2.2 i)) = q_copyU p0 p1 (i + 1) := q_copy_s p0 p1 i
        rw [e0] at hP hD
        exact ih (i + 1) (by omega) (by omega) _ _ hP hD hS _ (lv_sub hl [1, 2, 0] rfl)
  have hl := lv_entry ([.ref (ad 13), .ref (ad 8)]) (n := 3) (Nat.le_of_ble_eq_true rfl)
  refine W.eq (g2 := entryFrame m ([.ref (ad 13), .ref (ad 8)] : List Value).toArray 3) (by rw [ha]) ?_
  rw [lg_entry_eq]
  generalize (lg_sl ([.ref (ad 13), .ref (ad 8)]) ++ List.replicate (3 - (lg_sl ([.ref (ad 13), .ref (ad 8)])).length) Slot.unset).toArray = ls at hl ⊢
  have hl : lv_has ls 3 [(0, .ref (ad 13)), (1, .ref (ad 8))] := hl
  refine lv_iconst (v := nI 0) hx hb dX2_copyFrom_0 (by decide) ?_
  refine lv_istore_n (lv' := [(2, .int (nI 0)), (0, .ref (ad 13)), (1, .ref (ad 8))]) hx hb dX2_copyFrom_1 rfl hl (by decide) rfl (fun ls hl => ?_)
  have e0 := q_copy_0 p0 p1
  have hP : va_P D vwCl (Wd ad cJ cI cZ bm pa p0 (q_copyU p0 p1 0) p2 li wi) s.heap := by rw [← e0]; exact hP
  have hD : va_D A (Wd ad cJ cI cZ bm pa p0 (q_copyU p0 p1 0) p2 li wi) := by rw [← e0]; exact hD
  exact lp (pa.2.2.2.2.2.2 + 1) 0 (by omega) (by omega) _ _ hP hD hS _ (lv_sub hl [1, 2, 0] rfl)
end
section
set_option maxHeartbeats 4000000 in
set_option maxRecDepth 100000 in
theorem w_copyp2p0 {l : Launch} {D : va_G} {ad : Nat → Nat} {cJ cI cZ : ClassId} {bm : gBM} {pa : gPA} {p0 p1 p2 : gPL} {li : gLI} {wi : gWI} (hoA : q_okA pa) : bm_Wr l yX2_copyFrom wsX2_copyFrom ({ frames := 0, cells := 0, slots := 0, locals := 0 }) D vwCl [(cJ, .long), (cI, .int), (cZ, .boolean)] (Wd ad cJ cI cZ bm pa p0 p1 p2 li wi) [.ref (ad 18), .ref (ad 8)] (Wd ad cJ cI cZ bm pa p0 p1 (q_copyU p0 p2 pa.2.2.2.2.2.2) li wi) (none) := by
  obtain ⟨hn, hsd, hlw⟩ := hoA
  intro sz
  refine Met.ofW (cc := cX2_copyFrom) (maxL := 3) (ret := none) (by decide) rfl ?_
  intro p e s m args below meth c s₁ B hml hv
  obtain ⟨ha, hsz, hP, hK, hD0⟩ := hv
  have hx := B.exec
  have hb := B.bytes
  have hr := B.returns
  have hts := atoms_spec (ws := wsX2_copyFrom) B.pre
  have hown : s.vm.findClass RX2 = some m.cls := findClass_of_methodNamed B.named
  have hlocks := B.notSynchronized
  subst hsz
  have hD := hD0.self (sz := s.heap.size)
  generalize hAe : va_A (Wd ad cJ cI cZ bm pa p0 p1 p2 li wi) s.heap.size = A at hD ⊢
  have hA : ∀ q : Nat, s.heap.size ≤ q → A q := fun q h => by rw [← hAe]; exact Or.inr h
  have hS : va_S A s.heap s.heap [] := va_S.rf
  have lp : ∀ (k : Nat) (i : Nat), i ≤ pa.2.2.2.2.2.2 → pa.2.2.2.2.2.2 < i + k → ∀ (H : Heap) (locs : List Loc), va_P D vwCl (Wd ad cJ cI cZ bm pa p0 p1 (q_copyU p0 p2 i) li wi) H → va_D A (Wd ad cJ cI cZ bm pa p0 p1 (q_copyU p0 p2 i) li wi) → va_S A s.heap H locs → ∀ (ls : Array Slot), lv_has ls 3 [(0, .ref (ad 18)), (1, .ref (ad 8)), (2, .int (nI i))] → W p l e (headSpec wsX2_copyFrom ({ frames := 0, cells := 0, slots := 0, locals := 0 })).room s m args below meth c H locs 0 0 (MQ below (bm_Wq D vwCl [(cJ, .long), (cI, .int), (cZ, .boolean)] (Wd ad cJ cI cZ bm pa p0 p1 (q_copyU p0 p2 pa.2.2.2.2.2.2) li wi) (none) A) args s 0 0 A) (F0 m 2 ls []) := by
    intro k
    induction k with
    | zero => intro i hi hk; exfalso; omega
    | succ k ih =>
      intro i hi hk H locs hP hD hS ls hl
      refine lv_iload_n hx hb dX2_copyFrom_2 rfl (lv_at hl 2 rfl) ?_
      refine lv_aload_n hx hb dX2_copyFrom_3 rfl (lv_at hl 0 rfl) ?_
      refine va_get (D := D) (ci := 2) (v := .ref (ad 1)) (C := RX2) (T := TX2) (N := 5) hx hb hts (inT inX2) hown hK hP 18 rfl rfl 0 (by decide) (hts (.fieldLink RX2 26 "BoardMoves$Placement" "parts" "LBoardMoves$Parts;") (by decide +kernel)) (fun _ h9 => h9) rfl dX2_copyFrom_4 ?_
      refine va_get (D := D) (ci := 1) (v := .int (nI pa.2.2.2.2.2.2)) (C := RX1) (T := TX1) (N := 7) hx hb hts (inT inX1) hown hK hP 1 rfl rfl 6 (by decide) (hts (.fieldLink RX2 30 "BoardMoves$Parts" "count" "I") (by decide +kernel)) (fun _ h9 => h9) rfl dX2_copyFrom_7 ?_
      refine bm_ni_ge (x := i) (y := pa.2.2.2.2.2.2) (tgt := 67) hx hb (by omega) (by omega) dX2_copyFrom_10 (by decide) (fun c_1 => ?_) (fun c_1 => ?_)
      · exact bm_vretW hx hb hr hP hD hK hS (by rw [show i = pa.2.2.2.2.2.2 from by omega]) dX2_copyFrom_67 hlocks
      · refine lv_aload_n hx hb dX2_copyFrom_13 rfl (lv_at hl 0 rfl) ?_
        refine va_get (D := D) (ci := 2) (v := .ref (ad 19)) (C := RX2) (T := TX2) (N := 5) hx hb hts (inT inX2) hown hK hP 18 rfl rfl 1 (by decide) (hts (.fieldLink RX2 9 "BoardMoves$Placement" "x" "[J") (by decide +kernel)) (fun _ h9 => h9) rfl dX2_copyFrom_14 ?_
        refine lv_iload_n hx hb dX2_copyFrom_17 rfl (lv_at hl 2 rfl) ?_
        refine lv_aload_n hx hb dX2_copyFrom_18 rfl (lv_at hl 1 rfl) ?_
        refine va_get (D := D) (ci := 2) (v := .ref (ad 9)) (C := RX2) (T := TX2) (N := 5) hx hb hts (inT inX2) hown hK hP 8 rfl rfl 1 (by decide) (hts (.fieldLink RX2 9 "BoardMoves$Placement" "x" "[J") (by decide +kernel)) (fun _ h9 => h9) rfl dX2_copyFrom_19 ?_
        refine lv_iload_n hx hb dX2_copyFrom_22 rfl (lv_at hl 2 rfl) ?_
        refine bm_lald (f := p0.1) hx hb hK hP 9 0 rfl rfl (j := i) (by omega) (by decide) dX2_copyFrom_23 ?_
        refine bm_last (f := ((q_copyU p0 p2 i).1)) hx hb hK hP hD hS 19 0 rfl rfl (j := i) (x := (p0.1 i)) (by omega) (by decide) dX2_copyFrom_24 (fun H locs hP hD hS => ?_)
        have hP : va_P D vwCl (Wd ad cJ cI cZ bm pa p0 p1 (va_up ((q_copyU p0 p2 i).1) i (p0.1 i), (q_copyU p0 p2 i).2.1, (q_copyU p0 p2 i).2.2.1, (q_copyU p0 p2 i).2.2.2) li wi) H := hP
        have hD : va_D A (Wd ad cJ cI cZ bm pa p0 p1 (va_up ((q_copyU p0 p2 i).1) i (p0.1 i), (q_copyU p0 p2 i).2.1, (q_copyU p0 p2 i).2.2.1, (q_copyU p0 p2 i).2.2.2) li wi) := hD
        refine lv_aload_n hx hb dX2_copyFrom_25 rfl (lv_at hl 0 rfl) ?_
        refine va_get (D := D) (ci := 2) (v := .ref (ad 20)) (C := RX2) (T := TX2) (N := 5) hx hb hts (inT inX2) hown hK hP 18 rfl rfl 2 (by decide) (hts (.fieldLink RX2 15 "BoardMoves$Placement" "y" "[J") (by decide +kernel)) (fun _ h9 => h9) rfl dX2_copyFrom_26 ?_
        refine lv_iload_n hx hb dX2_copyFrom_29 rfl (lv_at hl 2 rfl) ?_
        refine lv_aload_n hx hb dX2_copyFrom_30 rfl (lv_at hl 1 rfl) ?_
        refine va_get (D := D) (ci := 2) (v := .ref (ad 10)) (C := RX2) (T := TX2) (N := 5) hx hb hts (inT inX2) hown hK hP 8 rfl rfl 2 (by decide) (hts (.fieldLink RX2 15 "BoardMoves$Placement" "y" "[J") (by decide +kernel)) (fun _ h9 => h9) rfl dX2_copyFrom_31 ?_
        refine lv_iload_n hx hb dX2_copyFrom_34 rfl (lv_at hl 2 rfl) ?_
        refine bm_lald (f := p0.2.1) hx hb hK hP 10 0 rfl rfl (j := i) (by omega) (by decide) dX2_copyFrom_35 ?_
        refine bm_last (f := ((q_copyU p0 p2 i).2.1)) hx hb hK hP hD hS 20 0 rfl rfl (j := i) (x := (p0.2.1 i)) (by omega) (by decide) dX2_copyFrom_36 (fun H locs hP hD hS => ?_)
        have hP : va_P D vwCl (Wd ad cJ cI cZ bm pa p0 p1 (va_up ((q_copyU p0 p2 i).1) i (p0.1 i), va_up ((q_copyU p0 p2 i).2.1) i (p0.2.1 i), (q_copyU p0 p2 i).2.2.1, (q_copyU p0 p2 i).2.2.2) li wi) H := hP
        have hD : va_D A (Wd ad cJ cI cZ bm pa p0 p1 (va_up ((q_copyU p0 p2 i).1) i (p0.1 i), va_up ((q_copyU p0 p2 i).2.1) i (p0.2.1 i), (q_copyU p0 p2 i).2.2.1, (q_copyU p0 p2 i).2.2.2) li wi) := hD
        refine lv_aload_n hx hb dX2_copyFrom_37 rfl (lv_at hl 0 rfl) ?_
        refine va_get (D := D) (ci := 2) (v := .ref (ad 21)) (C := RX2) (T := TX2) (N := 5) hx hb hts (inT inX2) hown hK hP 18 rfl rfl 3 (by decide) (hts (.fieldLink RX2 18 "BoardMoves$Placement" "turn" "[I") (by decide +kernel)) (fun _ h9 => h9) rfl dX2_copyFrom_38 ?_
        refine lv_iload_n hx hb dX2_copyFrom_41 rfl (lv_at hl 2 rfl) ?_
        refine lv_aload_n hx hb dX2_copyFrom_42 rfl (lv_at hl 1 rfl) ?_
        refine va_get (D := D) (ci := 2) (v := .ref (ad 11)) (C := RX2) (T := TX2) (N := 5) hx hb hts (inT inX2) hown hK hP 8 rfl rfl 3 (by decide) (hts (.fieldLink RX2 18 "BoardMoves$Placement" "turn" "[I") (by decide +kernel)) (fun _ h9 => h9) rfl dX2_copyFrom_43 ?_
        refine lv_iload_n hx hb dX2_copyFrom_46 rfl (lv_at hl 2 rfl) ?_
        refine bm_nald (f := p0.2.2.1) hx hb hK hP 11 1 rfl rfl (j := i) (by omega) (by decide) dX2_copyFrom_47 ?_
        refine bm_nast (f := ((q_copyU p0 p2 i).2.2.1)) hx hb hK hP hD hS 21 1 rfl rfl (j := i) (x := (p0.2.2.1 i)) (by omega) (by decide) dX2_copyFrom_48 (fun H locs hP hD hS => ?_)
        have hP : va_P D vwCl (Wd ad cJ cI cZ bm pa p0 p1 (va_up ((q_copyU p0 p2 i).1) i (p0.1 i), va_up ((q_copyU p0 p2 i).2.1) i (p0.2.1 i), va_up ((q_copyU p0 p2 i).2.2.1) i (p0.2.2.1 i), (q_copyU p0 p2 i).2.2.2) li wi) H := hP
        have hD : va_D A (Wd ad cJ cI cZ bm pa p0 p1 (va_up ((q_copyU p0 p2 i).1) i (p0.1 i), va_up ((q_copyU p0 p2 i).2.1) i (p0.2.1 i), va_up ((q_copyU p0 p2 i).2.2.1) i (p0.2.2.1 i), (q_copyU p0 p2 i).2.2.2) li wi) := hD
        refine lv_aload_n hx hb dX2_copyFrom_49 rfl (lv_at hl 0 rfl) ?_
        refine va_get (D := D) (ci := 2) (v := .ref (ad 22)) (C := RX2) (T := TX2) (N := 5) hx hb hts (inT inX2) hown hK hP 18 rfl rfl 4 (by decide) (hts (.fieldLink RX2 22 "BoardMoves$Placement" "placed" "[Z") (by decide +kernel)) (fun _ h9 => h9) rfl dX2_copyFrom_50 ?_
        refine lv_iload_n hx hb dX2_copyFrom_53 rfl (lv_at hl 2 rfl) ?_
        refine lv_aload_n hx hb dX2_copyFrom_54 rfl (lv_at hl 1 rfl) ?_
        refine va_get (D := D) (ci := 2) (v := .ref (ad 12)) (C := RX2) (T := TX2) (N := 5) hx hb hts (inT inX2) hown hK hP 8 rfl rfl 4 (by decide) (hts (.fieldLink RX2 22 "BoardMoves$Placement" "placed" "[Z") (by decide +kernel)) (fun _ h9 => h9) rfl dX2_copyFrom_55 ?_
        refine lv_iload_n hx hb dX2_copyFrom_58 rfl (lv_at hl 2 rfl) ?_
        refine bm_zald (f := p0.2.2.2) hx hb hK hP 12 2 rfl rfl (j := i) (by omega) (by decide) dX2_copyFrom_59 ?_
        refine bm_zast (f := ((q_copyU p0 p2 i).2.2.2)) hx hb hK hP hD hS 22 2 rfl rfl (j := i) (x := (p0.2.2.2 i)) (by omega) (by decide) dX2_copyFrom_60 (fun H locs hP hD hS => ?_)
        have hP : va_P D vwCl (Wd ad cJ cI cZ bm pa p0 p1 (va_up ((q_copyU p0 p2 i).1) i (p0.1 i), va_up ((q_copyU p0 p2 i).2.1) i (p0.2.1 i), va_up ((q_copyU p0 p2 i).2.2.1) i (p0.2.2.1 i), va_up ((q_copyU p0 p2 i).2.2.2) i (p0.2.2.2 i)) li wi) H := hP
        have hD : va_D A (Wd ad cJ cI cZ bm pa p0 p1 (va_up ((q_copyU p0 p2 i).1) i (p0.1 i), va_up ((q_copyU p0 p2 i).2.1) i (p0.2.1 i), va_up ((q_copyU p0 p2 i).2.2.1) i (p0.2.2.1 i), va_up ((q_copyU p0 p2 i).2.2.2) i (p0.2.2.2 i)) li wi) := hD
        refine lv_iinc (v := (nI (i + 1))) (lv' := [(2, .int (nI (i + 1))), (0, .ref (ad 18)), (1, .ref (ad 8))]) hx hb dX2_copyFrom_61 hl (k := 2) rfl (nI_1 i) (by decide) rfl (fun ls hl => ?_)
        refine lv_goto (tgt := 2) hx hb dX2_copyFrom_64 (by decide) ?_
        have e0 : (va_up ((q_copyU p0 p2 i).1) i (p0.1 i), va_up ((q_copyU p0 p2 i).2.1) i (p0.2.1 i), va_up ((q_copyU p0 p2 i).2.2.1) i (p0.2.2.1 i), va_up ((q_copyU p0 p2 i).2.2.2) i (p0.2.2.2 i)) = q_copyU p0 p2 (i + 1) := q_copy_s p0 p2 i
        rw [e0] at hP hD
        exact ih (i + 1) (by omega) (by omega) _ _ hP hD hS _ (lv_sub hl [1, 2, 0] rfl)
  have hl := lv_entry ([.ref (ad 18), .ref (ad 8)]) (n := 3) (Nat.le_of_ble_eq_true rfl)
  refine W.eq (g2 := entryFrame m ([.ref (ad 18), .ref (ad 8)] : List Value).toArray 3) (by rw [ha]) ?_
  rw [lg_entry_eq]
  generalize (lg_sl ([.ref (ad 18), .ref (ad 8)]) ++ List.replicate (3 - (lg_sl ([.ref (ad 18), .ref (ad 8)])).length) Slot.unset).toArray = ls at hl ⊢
  have hl : lv_has ls 3 [(0, .ref (ad 18)), (1, .ref (ad 8))] := hl
  refine lv_iconst (v := nI 0) hx hb dX2_copyFrom_0 (by decide) ?_
  refine lv_istore_n (lv' := [(2, .int (nI 0)), (0, .ref (ad 18)), (1, .ref (ad 8))]) hx hb dX2_copyFrom_1 rfl hl (by decide) rfl (fun ls hl => ?_)
  have e0 := q_copy_0 p0 p2
  have hP : va_P D vwCl (Wd ad cJ cI cZ bm pa p0 p1 (q_copyU p0 p2 0) li wi) s.heap := by rw [← e0]; exact hP
  have hD : va_D A (Wd ad cJ cI cZ bm pa p0 p1 (q_copyU p0 p2 0) li wi) := by rw [← e0]; exact hD
  exact lp (pa.2.2.2.2.2.2 + 1) 0 (by omega) (by omega) _ _ hP hD hS _ (lv_sub hl [1, 2, 0] rfl)
end
section
set_option maxHeartbeats 4000000 in
set_option maxRecDepth 100000 in
theorem w_copyp0p1 {l : Launch} {D : va_G} {ad : Nat → Nat} {cJ cI cZ : ClassId} {bm : gBM} {pa : gPA} {p0 p1 p2 : gPL} {li : gLI} {wi : gWI} (hoA : q_okA pa) : bm_Wr l yX2_copyFrom wsX2_copyFrom ({ frames := 0, cells := 0, slots := 0, locals := 0 }) D vwCl [(cJ, .long), (cI, .int), (cZ, .boolean)] (Wd ad cJ cI cZ bm pa p0 p1 p2 li wi) [.ref (ad 8), .ref (ad 13)] (Wd ad cJ cI cZ bm pa (q_copyU p1 p0 pa.2.2.2.2.2.2) p1 p2 li wi) (none) := by
  obtain ⟨hn, hsd, hlw⟩ := hoA
  intro sz
  refine Met.ofW (cc := cX2_copyFrom) (maxL := 3) (ret := none) (by decide) rfl ?_
  intro p e s m args below meth c s₁ B hml hv
  obtain ⟨ha, hsz, hP, hK, hD0⟩ := hv
  have hx := B.exec
  have hb := B.bytes
  have hr := B.returns
  have hts := atoms_spec (ws := wsX2_copyFrom) B.pre
  have hown : s.vm.findClass RX2 = some m.cls := findClass_of_methodNamed B.named
  have hlocks := B.notSynchronized
  subst hsz
  have hD := hD0.self (sz := s.heap.size)
  generalize hAe : va_A (Wd ad cJ cI cZ bm pa p0 p1 p2 li wi) s.heap.size = A at hD ⊢
  have hA : ∀ q : Nat, s.heap.size ≤ q → A q := fun q h => by rw [← hAe]; exact Or.inr h
  have hS : va_S A s.heap s.heap [] := va_S.rf
  have lp : ∀ (k : Nat) (i : Nat), i ≤ pa.2.2.2.2.2.2 → pa.2.2.2.2.2.2 < i + k → ∀ (H : Heap) (locs : List Loc), va_P D vwCl (Wd ad cJ cI cZ bm pa (q_copyU p1 p0 i) p1 p2 li wi) H → va_D A (Wd ad cJ cI cZ bm pa (q_copyU p1 p0 i) p1 p2 li wi) → va_S A s.heap H locs → ∀ (ls : Array Slot), lv_has ls 3 [(0, .ref (ad 8)), (1, .ref (ad 13)), (2, .int (nI i))] → W p l e (headSpec wsX2_copyFrom ({ frames := 0, cells := 0, slots := 0, locals := 0 })).room s m args below meth c H locs 0 0 (MQ below (bm_Wq D vwCl [(cJ, .long), (cI, .int), (cZ, .boolean)] (Wd ad cJ cI cZ bm pa (q_copyU p1 p0 pa.2.2.2.2.2.2) p1 p2 li wi) (none) A) args s 0 0 A) (F0 m 2 ls []) := by
    intro k
    induction k with
    | zero => intro i hi hk; exfalso; omega
    | succ k ih =>
      intro i hi hk H locs hP hD hS ls hl
      refine lv_iload_n hx hb dX2_copyFrom_2 rfl (lv_at hl 2 rfl) ?_
      refine lv_aload_n hx hb dX2_copyFrom_3 rfl (lv_at hl 0 rfl) ?_
      refine va_get (D := D) (ci := 2) (v := .ref (ad 1)) (C := RX2) (T := TX2) (N := 5) hx hb hts (inT inX2) hown hK hP 8 rfl rfl 0 (by decide) (hts (.fieldLink RX2 26 "BoardMoves$Placement" "parts" "LBoardMoves$Parts;") (by decide +kernel)) (fun _ h9 => h9) rfl dX2_copyFrom_4 ?_
      refine va_get (D := D) (ci := 1) (v := .int (nI pa.2.2.2.2.2.2)) (C := RX1) (T := TX1) (N := 7) hx hb hts (inT inX1) hown hK hP 1 rfl rfl 6 (by decide) (hts (.fieldLink RX2 30 "BoardMoves$Parts" "count" "I") (by decide +kernel)) (fun _ h9 => h9) rfl dX2_copyFrom_7 ?_
      refine bm_ni_ge (x := i) (y := pa.2.2.2.2.2.2) (tgt := 67) hx hb (by omega) (by omega) dX2_copyFrom_10 (by decide) (fun c_1 => ?_) (fun c_1 => ?_)
      · exact bm_vretW hx hb hr hP hD hK hS (by rw [show i = pa.2.2.2.2.2.2 from by omega]) dX2_copyFrom_67 hlocks
      · refine lv_aload_n hx hb dX2_copyFrom_13 rfl (lv_at hl 0 rfl) ?_
        refine va_get (D := D) (ci := 2) (v := .ref (ad 9)) (C := RX2) (T := TX2) (N := 5) hx hb hts (inT inX2) hown hK hP 8 rfl rfl 1 (by decide) (hts (.fieldLink RX2 9 "BoardMoves$Placement" "x" "[J") (by decide +kernel)) (fun _ h9 => h9) rfl dX2_copyFrom_14 ?_
        refine lv_iload_n hx hb dX2_copyFrom_17 rfl (lv_at hl 2 rfl) ?_
        refine lv_aload_n hx hb dX2_copyFrom_18 rfl (lv_at hl 1 rfl) ?_
        refine va_get (D := D) (ci := 2) (v := .ref (ad 14)) (C := RX2) (T := TX2) (N := 5) hx hb hts (inT inX2) hown hK hP 13 rfl rfl 1 (by decide) (hts (.fieldLink RX2 9 "BoardMoves$Placement" "x" "[J") (by decide +kernel)) (fun _ h9 => h9) rfl dX2_copyFrom_19 ?_
        refine lv_iload_n hx hb dX2_copyFrom_22 rfl (lv_at hl 2 rfl) ?_
        refine bm_lald (f := p1.1) hx hb hK hP 14 0 rfl rfl (j := i) (by omega) (by decide) dX2_copyFrom_23 ?_
        refine bm_last (f := ((q_copyU p1 p0 i).1)) hx hb hK hP hD hS 9 0 rfl rfl (j := i) (x := (p1.1 i)) (by omega) (by decide) dX2_copyFrom_24 (fun H locs hP hD hS => ?_)
        have hP : va_P D vwCl (Wd ad cJ cI cZ bm pa (va_up ((q_copyU p1 p0 i).1) i (p1.1 i), (q_copyU p1 p0 i).2.1, (q_copyU p1 p0 i).2.2.1, (q_copyU p1 p0 i).2.2.2) p1 p2 li wi) H := hP
        have hD : va_D A (Wd ad cJ cI cZ bm pa (va_up ((q_copyU p1 p0 i).1) i (p1.1 i), (q_copyU p1 p0 i).2.1, (q_copyU p1 p0 i).2.2.1, (q_copyU p1 p0 i).2.2.2) p1 p2 li wi) := hD
        refine lv_aload_n hx hb dX2_copyFrom_25 rfl (lv_at hl 0 rfl) ?_
        refine va_get (D := D) (ci := 2) (v := .ref (ad 10)) (C := RX2) (T := TX2) (N := 5) hx hb hts (inT inX2) hown hK hP 8 rfl rfl 2 (by decide) (hts (.fieldLink RX2 15 "BoardMoves$Placement" "y" "[J") (by decide +kernel)) (fun _ h9 => h9) rfl dX2_copyFrom_26 ?_
        refine lv_iload_n hx hb dX2_copyFrom_29 rfl (lv_at hl 2 rfl) ?_
        refine lv_aload_n hx hb dX2_copyFrom_30 rfl (lv_at hl 1 rfl) ?_
        refine va_get (D := D) (ci := 2) (v := .ref (ad 15)) (C := RX2) (T := TX2) (N := 5) hx hb hts (inT inX2) hown hK hP 13 rfl rfl 2 (by decide) (hts (.fieldLink RX2 15 "BoardMoves$Placement" "y" "[J") (by decide +kernel)) (fun _ h9 => h9) rfl dX2_copyFrom_31 ?_
        refine lv_iload_n hx hb dX2_copyFrom_34 rfl (lv_at hl 2 rfl) ?_
        refine bm_lald (f := p1.2.1) hx hb hK hP 15 0 rfl rfl (j := i) (by omega) (by decide) dX2_copyFrom_35 ?_
        refine bm_last (f := ((q_copyU p1 p0 i).2.1)) hx hb hK hP hD hS 10 0 rfl rfl (j := i) (x := (p1.2.1 i)) (by omega) (by decide) dX2_copyFrom_36 (fun H locs hP hD hS => ?_)
        have hP : va_P D vwCl (Wd ad cJ cI cZ bm pa (va_up ((q_copyU p1 p0 i).1) i (p1.1 i), va_up ((q_copyU p1 p0 i).2.1) i (p1.2.1 i), (q_copyU p1 p0 i).2.2.1, (q_copyU p1 p0 i).2.2.2) p1 p2 li wi) H := hP
        have hD : va_D A (Wd ad cJ cI cZ bm pa (va_up ((q_copyU p1 p0 i).1) i (p1.1 i), va_up ((q_copyU p1 p0 i).2.1) i (p1.2.1 i), (q_copyU p1 p0 i).2.2.1, (q_copyU p1 p0 i).2.2.2) p1 p2 li wi) := hD
        refine lv_aload_n hx hb dX2_copyFrom_37 rfl (lv_at hl 0 rfl) ?_
        refine va_get (D := D) (ci := 2) (v := .ref (ad 11)) (C := RX2) (T := TX2) (N := 5) hx hb hts (inT inX2) hown hK hP 8 rfl rfl 3 (by decide) (hts (.fieldLink RX2 18 "BoardMoves$Placement" "turn" "[I") (by decide +kernel)) (fun _ h9 => h9) rfl dX2_copyFrom_38 ?_
        refine lv_iload_n hx hb dX2_copyFrom_41 rfl (lv_at hl 2 rfl) ?_
        refine lv_aload_n hx hb dX2_copyFrom_42 rfl (lv_at hl 1 rfl) ?_
        refine va_get (D := D) (ci := 2) (v := .ref (ad 16)) (C := RX2) (T := TX2) (N := 5) hx hb hts (inT inX2) hown hK hP 13 rfl rfl 3 (by decide) (hts (.fieldLink RX2 18 "BoardMoves$Placement" "turn" "[I") (by decide +kernel)) (fun _ h9 => h9) rfl dX2_copyFrom_43 ?_
        refine lv_iload_n hx hb dX2_copyFrom_46 rfl (lv_at hl 2 rfl) ?_
        refine bm_nald (f := p1.2.2.1) hx hb hK hP 16 1 rfl rfl (j := i) (by omega) (by decide) dX2_copyFrom_47 ?_
        refine bm_nast (f := ((q_copyU p1 p0 i).2.2.1)) hx hb hK hP hD hS 11 1 rfl rfl (j := i) (x := (p1.2.2.1 i)) (by omega) (by decide) dX2_copyFrom_48 (fun H locs hP hD hS => ?_)
        have hP : va_P D vwCl (Wd ad cJ cI cZ bm pa (va_up ((q_copyU p1 p0 i).1) i (p1.1 i), va_up ((q_copyU p1 p0 i).2.1) i (p1.2.1 i), va_up ((q_copyU p1 p0 i).2.2.1) i (p1.2.2.1 i), (q_copyU p1 p0 i).2.2.2) p1 p2 li wi) H := hP
        have hD : va_D A (Wd ad cJ cI cZ bm pa (va_up ((q_copyU p1 p0 i).1) i (p1.1 i), va_up ((q_copyU p1 p0 i).2.1) i (p1.2.1 i), va_up ((q_copyU p1 p0 i).2.2.1) i (p1.2.2.1 i), (q_copyU p1 p0 i).2.2.2) p1 p2 li wi) := hD
        refine lv_aload_n hx hb dX2_copyFrom_49 rfl (lv_at hl 0 rfl) ?_
        refine va_get (D := D) (ci := 2) (v := .ref (ad 12)) (C := RX2) (T := TX2) (N := 5) hx hb hts (inT inX2) hown hK hP 8 rfl rfl 4 (by decide) (hts (.fieldLink RX2 22 "BoardMoves$Placement" "placed" "[Z") (by decide +kernel)) (fun _ h9 => h9) rfl dX2_copyFrom_50 ?_
        refine lv_iload_n hx hb dX2_copyFrom_53 rfl (lv_at hl 2 rfl) ?_
        refine lv_aload_n hx hb dX2_copyFrom_54 rfl (lv_at hl 1 rfl) ?_
        refine va_get (D := D) (ci := 2) (v := .ref (ad 17)) (C := RX2) (T := TX2) (N := 5) hx hb hts (inT inX2) hown hK hP 13 rfl rfl 4 (by decide) (hts (.fieldLink RX2 22 "BoardMoves$Placement" "placed" "[Z") (by decide +kernel)) (fun _ h9 => h9) rfl dX2_copyFrom_55 ?_
        refine lv_iload_n hx hb dX2_copyFrom_58 rfl (lv_at hl 2 rfl) ?_
        refine bm_zald (f := p1.2.2.2) hx hb hK hP 17 2 rfl rfl (j := i) (by omega) (by decide) dX2_copyFrom_59 ?_
        refine bm_zast (f := ((q_copyU p1 p0 i).2.2.2)) hx hb hK hP hD hS 12 2 rfl rfl (j := i) (x := (p1.2.2.2 i)) (by omega) (by decide) dX2_copyFrom_60 (fun H locs hP hD hS => ?_)
        have hP : va_P D vwCl (Wd ad cJ cI cZ bm pa (va_up ((q_copyU p1 p0 i).1) i (p1.1 i), va_up ((q_copyU p1 p0 i).2.1) i (p1.2.1 i), va_up ((q_copyU p1 p0 i).2.2.1) i (p1.2.2.1 i), va_up ((q_copyU p1 p0 i).2.2.2) i (p1.2.2.2 i)) p1 p2 li wi) H := hP
        have hD : va_D A (Wd ad cJ cI cZ bm pa (va_up ((q_copyU p1 p0 i).1) i (p1.1 i), va_up ((q_copyU p1 p0 i).2.1) i (p1.2.1 i), va_up ((q_copyU p1 p0 i).2.2.1) i (p1.2.2.1 i), va_up ((q_copyU p1 p0 i).2.2.2) i (p1.2.2.2 i)) p1 p2 li wi) := hD
        refine lv_iinc (v := (nI (i + 1))) (lv' := [(2, .int (nI (i + 1))), (0, .ref (ad 8)), (1, .ref (ad 13))]) hx hb dX2_copyFrom_61 hl (k := 2) rfl (nI_1 i) (by decide) rfl (fun ls hl => ?_)
        refine lv_goto (tgt := 2) hx hb dX2_copyFrom_64 (by decide) ?_
        have e0 : (va_up ((q_copyU p1 p0 i).1) i (p1.1 i), va_up ((q_copyU p1 p0 i).2.1) i (p1.2.1 i), va_up ((q_copyU p1 p0 i).2.2.1) i (p1.2.2.1 i), va_up ((q_copyU p1 p0 i).2.2.2) i (p1.2.2.2 i)) = q_copyU p1 p0 (i + 1) := q_copy_s p1 p0 i
        rw [e0] at hP hD
        exact ih (i + 1) (by omega) (by omega) _ _ hP hD hS _ (lv_sub hl [1, 2, 0] rfl)
  have hl := lv_entry ([.ref (ad 8), .ref (ad 13)]) (n := 3) (Nat.le_of_ble_eq_true rfl)
  refine W.eq (g2 := entryFrame m ([.ref (ad 8), .ref (ad 13)] : List Value).toArray 3) (by rw [ha]) ?_
  rw [lg_entry_eq]
  generalize (lg_sl ([.ref (ad 8), .ref (ad 13)]) ++ List.replicate (3 - (lg_sl ([.ref (ad 8), .ref (ad 13)])).length) Slot.unset).toArray = ls at hl ⊢
  have hl : lv_has ls 3 [(0, .ref (ad 8)), (1, .ref (ad 13))] := hl
  refine lv_iconst (v := nI 0) hx hb dX2_copyFrom_0 (by decide) ?_
  refine lv_istore_n (lv' := [(2, .int (nI 0)), (0, .ref (ad 8)), (1, .ref (ad 13))]) hx hb dX2_copyFrom_1 rfl hl (by decide) rfl (fun ls hl => ?_)
  have e0 := q_copy_0 p1 p0
  have hP : va_P D vwCl (Wd ad cJ cI cZ bm pa (q_copyU p1 p0 0) p1 p2 li wi) s.heap := by rw [← e0]; exact hP
  have hD : va_D A (Wd ad cJ cI cZ bm pa (q_copyU p1 p0 0) p1 p2 li wi) := by rw [← e0]; exact hD
  exact lp (pa.2.2.2.2.2.2 + 1) 0 (by omega) (by omega) _ _ hP hD hS _ (lv_sub hl [1, 2, 0] rfl)
end
section
set_option maxHeartbeats 4000000 in
set_option maxRecDepth 100000 in
theorem w_copyp0p2 {l : Launch} {D : va_G} {ad : Nat → Nat} {cJ cI cZ : ClassId} {bm : gBM} {pa : gPA} {p0 p1 p2 : gPL} {li : gLI} {wi : gWI} (hoA : q_okA pa) : bm_Wr l yX2_copyFrom wsX2_copyFrom ({ frames := 0, cells := 0, slots := 0, locals := 0 }) D vwCl [(cJ, .long), (cI, .int), (cZ, .boolean)] (Wd ad cJ cI cZ bm pa p0 p1 p2 li wi) [.ref (ad 8), .ref (ad 18)] (Wd ad cJ cI cZ bm pa (q_copyU p2 p0 pa.2.2.2.2.2.2) p1 p2 li wi) (none) := by
  obtain ⟨hn, hsd, hlw⟩ := hoA
  intro sz
  refine Met.ofW (cc := cX2_copyFrom) (maxL := 3) (ret := none) (by decide) rfl ?_
  intro p e s m args below meth c s₁ B hml hv
  obtain ⟨ha, hsz, hP, hK, hD0⟩ := hv
  have hx := B.exec
  have hb := B.bytes
  have hr := B.returns
  have hts := atoms_spec (ws := wsX2_copyFrom) B.pre
  have hown : s.vm.findClass RX2 = some m.cls := findClass_of_methodNamed B.named
  have hlocks := B.notSynchronized
  subst hsz
  have hD := hD0.self (sz := s.heap.size)
  generalize hAe : va_A (Wd ad cJ cI cZ bm pa p0 p1 p2 li wi) s.heap.size = A at hD ⊢
  have hA : ∀ q : Nat, s.heap.size ≤ q → A q := fun q h => by rw [← hAe]; exact Or.inr h
  have hS : va_S A s.heap s.heap [] := va_S.rf
  have lp : ∀ (k : Nat) (i : Nat), i ≤ pa.2.2.2.2.2.2 → pa.2.2.2.2.2.2 < i + k → ∀ (H : Heap) (locs : List Loc), va_P D vwCl (Wd ad cJ cI cZ bm pa (q_copyU p2 p0 i) p1 p2 li wi) H → va_D A (Wd ad cJ cI cZ bm pa (q_copyU p2 p0 i) p1 p2 li wi) → va_S A s.heap H locs → ∀ (ls : Array Slot), lv_has ls 3 [(0, .ref (ad 8)), (1, .ref (ad 18)), (2, .int (nI i))] → W p l e (headSpec wsX2_copyFrom ({ frames := 0, cells := 0, slots := 0, locals := 0 })).room s m args below meth c H locs 0 0 (MQ below (bm_Wq D vwCl [(cJ, .long), (cI, .int), (cZ, .boolean)] (Wd ad cJ cI cZ bm pa (q_copyU p2 p0 pa.2.2.2.2.2.2) p1 p2 li wi) (none) A) args s 0 0 A) (F0 m 2 ls []) := by
    intro k
    induction k with
    | zero => intro i hi hk; exfalso; omega
    | succ k ih =>
      intro i hi hk H locs hP hD hS ls hl
      refine lv_iload_n hx hb dX2_copyFrom_2 rfl (lv_at hl 2 rfl) ?_
      refine lv_aload_n hx hb dX2_copyFrom_3 rfl (lv_at hl 0 rfl) ?_
      refine va_get (D := D) (ci := 2) (v := .ref (ad 1)) (C := RX2) (T := TX2) (N := 5) hx hb hts (inT inX2) hown hK hP 8 rfl rfl 0 (by decide) (hts (.fieldLink RX2 26 "BoardMoves$Placement" "parts" "LBoardMoves$Parts;") (by decide +kernel)) (fun _ h9 => h9) rfl dX2_copyFrom_4 ?_
      refine va_get (D := D) (ci := 1) (v := .int (nI pa.2.2.2.2.2.2)) (C := RX1) (T := TX1) (N := 7) hx hb hts (inT inX1) hown hK hP 1 rfl rfl 6 (by decide) (hts (.fieldLink RX2 30 "BoardMoves$Parts" "count" "I") (by decide +kernel)) (fun _ h9 => h9) rfl dX2_copyFrom_7 ?_
      refine bm_ni_ge (x := i) (y := pa.2.2.2.2.2.2) (tgt := 67) hx hb (by omega) (by omega) dX2_copyFrom_10 (by decide) (fun c_1 => ?_) (fun c_1 => ?_)
      · exact bm_vretW hx hb hr hP hD hK hS (by rw [show i = pa.2.2.2.2.2.2 from by omega]) dX2_copyFrom_67 hlocks
      · refine lv_aload_n hx hb dX2_copyFrom_13 rfl (lv_at hl 0 rfl) ?_
        refine va_get (D := D) (ci := 2) (v := .ref (ad 9)) (C := RX2) (T := TX2) (N := 5) hx hb hts (inT inX2) hown hK hP 8 rfl rfl 1 (by decide) (hts (.fieldLink RX2 9 "BoardMoves$Placement" "x" "[J") (by decide +kernel)) (fun _ h9 => h9) rfl dX2_copyFrom_14 ?_
        refine lv_iload_n hx hb dX2_copyFrom_17 rfl (lv_at hl 2 rfl) ?_
        refine lv_aload_n hx hb dX2_copyFrom_18 rfl (lv_at hl 1 rfl) ?_
        refine va_get (D := D) (ci := 2) (v := .ref (ad 19)) (C := RX2) (T := TX2) (N := 5) hx hb hts (inT inX2) hown hK hP 18 rfl rfl 1 (by decide) (hts (.fieldLink RX2 9 "BoardMoves$Placement" "x" "[J") (by decide +kernel)) (fun _ h9 => h9) rfl dX2_copyFrom_19 ?_
        refine lv_iload_n hx hb dX2_copyFrom_22 rfl (lv_at hl 2 rfl) ?_
        refine bm_lald (f := p2.1) hx hb hK hP 19 0 rfl rfl (j := i) (by omega) (by decide) dX2_copyFrom_23 ?_
        refine bm_last (f := ((q_copyU p2 p0 i).1)) hx hb hK hP hD hS 9 0 rfl rfl (j := i) (x := (p2.1 i)) (by omega) (by decide) dX2_copyFrom_24 (fun H locs hP hD hS => ?_)
        have hP : va_P D vwCl (Wd ad cJ cI cZ bm pa (va_up ((q_copyU p2 p0 i).1) i (p2.1 i), (q_copyU p2 p0 i).2.1, (q_copyU p2 p0 i).2.2.1, (q_copyU p2 p0 i).2.2.2) p1 p2 li wi) H := hP
        have hD : va_D A (Wd ad cJ cI cZ bm pa (va_up ((q_copyU p2 p0 i).1) i (p2.1 i), (q_copyU p2 p0 i).2.1, (q_copyU p2 p0 i).2.2.1, (q_copyU p2 p0 i).2.2.2) p1 p2 li wi) := hD
        refine lv_aload_n hx hb dX2_copyFrom_25 rfl (lv_at hl 0 rfl) ?_
        refine va_get (D := D) (ci := 2) (v := .ref (ad 10)) (C := RX2) (T := TX2) (N := 5) hx hb hts (inT inX2) hown hK hP 8 rfl rfl 2 (by decide) (hts (.fieldLink RX2 15 "BoardMoves$Placement" "y" "[J") (by decide +kernel)) (fun _ h9 => h9) rfl dX2_copyFrom_26 ?_
        refine lv_iload_n hx hb dX2_copyFrom_29 rfl (lv_at hl 2 rfl) ?_
        refine lv_aload_n hx hb dX2_copyFrom_30 rfl (lv_at hl 1 rfl) ?_
        refine va_get (D := D) (ci := 2) (v := .ref (ad 20)) (C := RX2) (T := TX2) (N := 5) hx hb hts (inT inX2) hown hK hP 18 rfl rfl 2 (by decide) (hts (.fieldLink RX2 15 "BoardMoves$Placement" "y" "[J") (by decide +kernel)) (fun _ h9 => h9) rfl dX2_copyFrom_31 ?_
        refine lv_iload_n hx hb dX2_copyFrom_34 rfl (lv_at hl 2 rfl) ?_
        refine bm_lald (f := p2.2.1) hx hb hK hP 20 0 rfl rfl (j := i) (by omega) (by decide) dX2_copyFrom_35 ?_
        refine bm_last (f := ((q_copyU p2 p0 i).2.1)) hx hb hK hP hD hS 10 0 rfl rfl (j := i) (x := (p2.2.1 i)) (by omega) (by decide) dX2_copyFrom_36 (fun H locs hP hD hS => ?_)
        have hP : va_P D vwCl (Wd ad cJ cI cZ bm pa (va_up ((q_copyU p2 p0 i).1) i (p2.1 i), va_up ((q_copyU p2 p0 i).2.1) i (p2.2.1 i), (q_copyU p2 p0 i).2.2.1, (q_copyU p2 p0 i).2.2.2) p1 p2 li wi) H := hP
        have hD : va_D A (Wd ad cJ cI cZ bm pa (va_up ((q_copyU p2 p0 i).1) i (p2.1 i), va_up ((q_copyU p2 p0 i).2.1) i (p2.2.1 i), (q_copyU p2 p0 i).2.2.1, (q_copyU p2 p0 i).2.2.2) p1 p2 li wi) := hD
        refine lv_aload_n hx hb dX2_copyFrom_37 rfl (lv_at hl 0 rfl) ?_
        refine va_get (D := D) (ci := 2) (v := .ref (ad 11)) (C := RX2) (T := TX2) (N := 5) hx hb hts (inT inX2) hown hK hP 8 rfl rfl 3 (by decide) (hts (.fieldLink RX2 18 "BoardMoves$Placement" "turn" "[I") (by decide +kernel)) (fun _ h9 => h9) rfl dX2_copyFrom_38 ?_
        refine lv_iload_n hx hb dX2_copyFrom_41 rfl (lv_at hl 2 rfl) ?_
        refine lv_aload_n hx hb dX2_copyFrom_42 rfl (lv_at hl 1 rfl) ?_
        refine va_get (D := D) (ci := 2) (v := .ref (ad 21)) (C := RX2) (T := TX2) (N := 5) hx hb hts (inT inX2) hown hK hP 18 rfl rfl 3 (by decide) (hts (.fieldLink RX2 18 "BoardMoves$Placement" "turn" "[I") (by decide +kernel)) (fun _ h9 => h9) rfl dX2_copyFrom_43 ?_
        refine lv_iload_n hx hb dX2_copyFrom_46 rfl (lv_at hl 2 rfl) ?_
        refine bm_nald (f := p2.2.2.1) hx hb hK hP 21 1 rfl rfl (j := i) (by omega) (by decide) dX2_copyFrom_47 ?_
        refine bm_nast (f := ((q_copyU p2 p0 i).2.2.1)) hx hb hK hP hD hS 11 1 rfl rfl (j := i) (x := (p2.2.2.1 i)) (by omega) (by decide) dX2_copyFrom_48 (fun H locs hP hD hS => ?_)
        have hP : va_P D vwCl (Wd ad cJ cI cZ bm pa (va_up ((q_copyU p2 p0 i).1) i (p2.1 i), va_up ((q_copyU p2 p0 i).2.1) i (p2.2.1 i), va_up ((q_copyU p2 p0 i).2.2.1) i (p2.2.2.1 i), (q_copyU p2 p0 i).2.2.2) p1 p2 li wi) H := hP
        have hD : va_D A (Wd ad cJ cI cZ bm pa (va_up ((q_copyU p2 p0 i).1) i (p2.1 i), va_up ((q_copyU p2 p0 i).2.1) i (p2.2.1 i), va_up ((q_copyU p2 p0 i).2.2.1) i (p2.2.2.1 i), (q_copyU p2 p0 i).2.2.2) p1 p2 li wi) := hD
        refine lv_aload_n hx hb dX2_copyFrom_49 rfl (lv_at hl 0 rfl) ?_
        refine va_get (D := D) (ci := 2) (v := .ref (ad 12)) (C := RX2) (T := TX2) (N := 5) hx hb hts (inT inX2) hown hK hP 8 rfl rfl 4 (by decide) (hts (.fieldLink RX2 22 "BoardMoves$Placement" "placed" "[Z") (by decide +kernel)) (fun _ h9 => h9) rfl dX2_copyFrom_50 ?_
        refine lv_iload_n hx hb dX2_copyFrom_53 rfl (lv_at hl 2 rfl) ?_
        refine lv_aload_n hx hb dX2_copyFrom_54 rfl (lv_at hl 1 rfl) ?_
        refine va_get (D := D) (ci := 2) (v := .ref (ad 22)) (C := RX2) (T := TX2) (N := 5) hx hb hts (inT inX2) hown hK hP 18 rfl rfl 4 (by decide) (hts (.fieldLink RX2 22 "BoardMoves$Placement" "placed" "[Z") (by decide +kernel)) (fun _ h9 => h9) rfl dX2_copyFrom_55 ?_
        refine lv_iload_n hx hb dX2_copyFrom_58 rfl (lv_at hl 2 rfl) ?_
        refine bm_zald (f := p2.2.2.2) hx hb hK hP 22 2 rfl rfl (j := i) (by omega) (by decide) dX2_copyFrom_59 ?_
        refine bm_zast (f := ((q_copyU p2 p0 i).2.2.2)) hx hb hK hP hD hS 12 2 rfl rfl (j := i) (x := (p2.2.2.2 i)) (by omega) (by decide) dX2_copyFrom_60 (fun H locs hP hD hS => ?_)
        have hP : va_P D vwCl (Wd ad cJ cI cZ bm pa (va_up ((q_copyU p2 p0 i).1) i (p2.1 i), va_up ((q_copyU p2 p0 i).2.1) i (p2.2.1 i), va_up ((q_copyU p2 p0 i).2.2.1) i (p2.2.2.1 i), va_up ((q_copyU p2 p0 i).2.2.2) i (p2.2.2.2 i)) p1 p2 li wi) H := hP
        have hD : va_D A (Wd ad cJ cI cZ bm pa (va_up ((q_copyU p2 p0 i).1) i (p2.1 i), va_up ((q_copyU p2 p0 i).2.1) i (p2.2.1 i), va_up ((q_copyU p2 p0 i).2.2.1) i (p2.2.2.1 i), va_up ((q_copyU p2 p0 i).2.2.2) i (p2.2.2.2 i)) p1 p2 li wi) := hD
        refine lv_iinc (v := (nI (i + 1))) (lv' := [(2, .int (nI (i + 1))), (0, .ref (ad 8)), (1, .ref (ad 18))]) hx hb dX2_copyFrom_61 hl (k := 2) rfl (nI_1 i) (by decide) rfl (fun ls hl => ?_)
        refine lv_goto (tgt := 2) hx hb dX2_copyFrom_64 (by decide) ?_
        have e0 : (va_up ((q_copyU p2 p0 i).1) i (p2.1 i), va_up ((q_copyU p2 p0 i).2.1) i (p2.2.1 i), va_up ((q_copyU p2 p0 i).2.2.1) i (p2.2.2.1 i), va_up ((q_copyU p2 p0 i).2.2.2) i (p2.2.2.2 i)) = q_copyU p2 p0 (i + 1) := q_copy_s p2 p0 i
        rw [e0] at hP hD
        exact ih (i + 1) (by omega) (by omega) _ _ hP hD hS _ (lv_sub hl [1, 2, 0] rfl)
  have hl := lv_entry ([.ref (ad 8), .ref (ad 18)]) (n := 3) (Nat.le_of_ble_eq_true rfl)
  refine W.eq (g2 := entryFrame m ([.ref (ad 8), .ref (ad 18)] : List Value).toArray 3) (by rw [ha]) ?_
  rw [lg_entry_eq]
  generalize (lg_sl ([.ref (ad 8), .ref (ad 18)]) ++ List.replicate (3 - (lg_sl ([.ref (ad 8), .ref (ad 18)])).length) Slot.unset).toArray = ls at hl ⊢
  have hl : lv_has ls 3 [(0, .ref (ad 8)), (1, .ref (ad 18))] := hl
  refine lv_iconst (v := nI 0) hx hb dX2_copyFrom_0 (by decide) ?_
  refine lv_istore_n (lv' := [(2, .int (nI 0)), (0, .ref (ad 8)), (1, .ref (ad 18))]) hx hb dX2_copyFrom_1 rfl hl (by decide) rfl (fun ls hl => ?_)
  have e0 := q_copy_0 p2 p0
  have hP : va_P D vwCl (Wd ad cJ cI cZ bm pa (q_copyU p2 p0 0) p1 p2 li wi) s.heap := by rw [← e0]; exact hP
  have hD : va_D A (Wd ad cJ cI cZ bm pa (q_copyU p2 p0 0) p1 p2 li wi) := by rw [← e0]; exact hD
  exact lp (pa.2.2.2.2.2.2 + 1) 0 (by omega) (by omega) _ _ hP hD hS _ (lv_sub hl [1, 2, 0] rfl)
end
section
set_option maxHeartbeats 4000000 in
set_option maxRecDepth 100000 in
theorem w_place {l : Launch} {D : va_G} {ad : Nat → Nat} {cJ cI cZ : ClassId} {bm : gBM} {pa : gPA} {p0 p1 p2 : gPL} {li : gLI} {wi : gWI} {j t : Nat} (h1 : j < 40) {x y : Int64} : bm_Wr l yX2_place wsX2_place ({ frames := 0, cells := 0, slots := 0, locals := 0 }) D vwCl [(cJ, .long), (cI, .int), (cZ, .boolean)] (Wd ad cJ cI cZ bm pa p0 p1 p2 li wi) [.ref (ad 8), .int (nI j), .long x, .long y, .int (nI t)] (Wd ad cJ cI cZ bm pa (va_up p0.1 j x, va_up p0.2.1 j y, va_up p0.2.2.1 j t, va_up p0.2.2.2 j true) p1 p2 li wi) (none) := by
  intro sz
  refine Met.ofW (cc := cX2_place) (maxL := 7) (ret := none) (by decide) rfl ?_
  intro p e s m args below meth c s₁ B hml hv
  obtain ⟨ha, hsz, hP, hK, hD0⟩ := hv
  have hx := B.exec
  have hb := B.bytes
  have hr := B.returns
  have hts := atoms_spec (ws := wsX2_place) B.pre
  have hown : s.vm.findClass RX2 = some m.cls := findClass_of_methodNamed B.named
  have hlocks := B.notSynchronized
  subst hsz
  have hD := hD0.self (sz := s.heap.size)
  generalize hAe : va_A (Wd ad cJ cI cZ bm pa p0 p1 p2 li wi) s.heap.size = A at hD ⊢
  have hA : ∀ q : Nat, s.heap.size ≤ q → A q := fun q h => by rw [← hAe]; exact Or.inr h
  have hS : va_S A s.heap s.heap [] := va_S.rf
  have hl := lv_entry ([.ref (ad 8), .int (nI j), .long x, .long y, .int (nI t)]) (n := 7) (Nat.le_of_ble_eq_true rfl)
  refine W.eq (g2 := entryFrame m ([.ref (ad 8), .int (nI j), .long x, .long y, .int (nI t)] : List Value).toArray 7) (by rw [ha]) ?_
  rw [lg_entry_eq]
  generalize (lg_sl ([.ref (ad 8), .int (nI j), .long x, .long y, .int (nI t)]) ++ List.replicate (7 - (lg_sl ([.ref (ad 8), .int (nI j), .long x, .long y, .int (nI t)])).length) Slot.unset).toArray = ls at hl ⊢
  have hl : lv_has ls 7 [(0, .ref (ad 8)), (1, .int (nI j)), (2, .long x), (4, .long y), (6, .int (nI t))] := hl
  refine lv_aload_n hx hb dX2_place_0 rfl (lv_at hl 0 rfl) ?_
  refine va_get (D := D) (ci := 2) (v := .ref (ad 9)) (C := RX2) (T := TX2) (N := 5) hx hb hts (inT inX2) hown hK hP 8 rfl rfl 1 (by decide) (hts (.fieldLink RX2 9 "BoardMoves$Placement" "x" "[J") (by decide +kernel)) (fun _ h9 => h9) rfl dX2_place_1 ?_
  refine lv_iload_n hx hb dX2_place_4 rfl (lv_at hl 1 rfl) ?_
  refine lv_lload_n hx hb dX2_place_5 rfl (lv_at hl 2 rfl) ?_
  refine bm_last (f := p0.1) hx hb hK hP hD hS 9 0 rfl rfl (j := j) (x := x) (by omega) (by decide) dX2_place_6 (fun H locs hP hD hS => ?_)
  have hP : va_P D vwCl (Wd ad cJ cI cZ bm pa (va_up p0.1 j x, p0.2.1, p0.2.2.1, p0.2.2.2) p1 p2 li wi) H := hP
  have hD : va_D A (Wd ad cJ cI cZ bm pa (va_up p0.1 j x, p0.2.1, p0.2.2.1, p0.2.2.2) p1 p2 li wi) := hD
  refine lv_aload_n hx hb dX2_place_7 rfl (lv_at hl 0 rfl) ?_
  refine va_get (D := D) (ci := 2) (v := .ref (ad 10)) (C := RX2) (T := TX2) (N := 5) hx hb hts (inT inX2) hown hK hP 8 rfl rfl 2 (by decide) (hts (.fieldLink RX2 15 "BoardMoves$Placement" "y" "[J") (by decide +kernel)) (fun _ h9 => h9) rfl dX2_place_8 ?_
  refine lv_iload_n hx hb dX2_place_11 rfl (lv_at hl 1 rfl) ?_
  refine lv_lload hx hb dX2_place_12 (lv_at hl 3 rfl) ?_
  refine bm_last (f := p0.2.1) hx hb hK hP hD hS 10 0 rfl rfl (j := j) (x := y) (by omega) (by decide) dX2_place_14 (fun H locs hP hD hS => ?_)
  have hP : va_P D vwCl (Wd ad cJ cI cZ bm pa (va_up p0.1 j x, va_up p0.2.1 j y, p0.2.2.1, p0.2.2.2) p1 p2 li wi) H := hP
  have hD : va_D A (Wd ad cJ cI cZ bm pa (va_up p0.1 j x, va_up p0.2.1 j y, p0.2.2.1, p0.2.2.2) p1 p2 li wi) := hD
  refine lv_aload_n hx hb dX2_place_15 rfl (lv_at hl 0 rfl) ?_
  refine va_get (D := D) (ci := 2) (v := .ref (ad 11)) (C := RX2) (T := TX2) (N := 5) hx hb hts (inT inX2) hown hK hP 8 rfl rfl 3 (by decide) (hts (.fieldLink RX2 18 "BoardMoves$Placement" "turn" "[I") (by decide +kernel)) (fun _ h9 => h9) rfl dX2_place_16 ?_
  refine lv_iload_n hx hb dX2_place_19 rfl (lv_at hl 1 rfl) ?_
  refine lv_iload hx hb dX2_place_20 (lv_at hl 4 rfl) ?_
  refine bm_nast (f := p0.2.2.1) hx hb hK hP hD hS 11 1 rfl rfl (j := j) (x := t) (by omega) (by decide) dX2_place_22 (fun H locs hP hD hS => ?_)
  have hP : va_P D vwCl (Wd ad cJ cI cZ bm pa (va_up p0.1 j x, va_up p0.2.1 j y, va_up p0.2.2.1 j t, p0.2.2.2) p1 p2 li wi) H := hP
  have hD : va_D A (Wd ad cJ cI cZ bm pa (va_up p0.1 j x, va_up p0.2.1 j y, va_up p0.2.2.1 j t, p0.2.2.2) p1 p2 li wi) := hD
  refine lv_aload_n hx hb dX2_place_23 rfl (lv_at hl 0 rfl) ?_
  refine va_get (D := D) (ci := 2) (v := .ref (ad 12)) (C := RX2) (T := TX2) (N := 5) hx hb hts (inT inX2) hown hK hP 8 rfl rfl 4 (by decide) (hts (.fieldLink RX2 22 "BoardMoves$Placement" "placed" "[Z") (by decide +kernel)) (fun _ h9 => h9) rfl dX2_place_24 ?_
  refine lv_iload_n hx hb dX2_place_27 rfl (lv_at hl 1 rfl) ?_
  refine lv_iconst (v := bm_b true) hx hb dX2_place_28 (by decide) ?_
  refine bm_zast (f := p0.2.2.2) hx hb hK hP hD hS 12 2 rfl rfl (j := j) (x := true) (by omega) (by decide) dX2_place_29 (fun H locs hP hD hS => ?_)
  have hP : va_P D vwCl (Wd ad cJ cI cZ bm pa (va_up p0.1 j x, va_up p0.2.1 j y, va_up p0.2.2.1 j t, va_up p0.2.2.2 j true) p1 p2 li wi) H := hP
  have hD : va_D A (Wd ad cJ cI cZ bm pa (va_up p0.1 j x, va_up p0.2.1 j y, va_up p0.2.2.1 j t, va_up p0.2.2.2 j true) p1 p2 li wi) := hD
  exact bm_vretW hx hb hr hP hD hK hS rfl dX2_place_30 hlocks
end
section
set_option maxHeartbeats 4000000 in
set_option maxRecDepth 100000 in
theorem w_add {l : Launch} {D : va_G} {ad : Nat → Nat} {cJ cI cZ : ClassId} {bm : gBM} {pa : gPA} {p0 p1 p2 : gPL} {li : gLI} {wi : gWI} (hoA : q_okA pa) {a b : Int64} {sd : Nat} : bm_Wr l yX1_add wsX1_add ({ frames := 0, cells := 0, slots := 0, locals := 0 }) D vwCl [(cJ, .long), (cI, .int), (cZ, .boolean)] (Wd ad cJ cI cZ bm pa p0 p1 p2 li wi) [.ref (ad 1), .long a, .long b, .int (nI sd)] (Wd ad cJ cI cZ bm (if pa.2.2.2.2.2.2 < 40 then (va_up pa.1 pa.2.2.2.2.2.2 a, va_up pa.2.1 pa.2.2.2.2.2.2 b, va_up pa.2.2.1 pa.2.2.2.2.2.2 sd, pa.2.2.2.1, pa.2.2.2.2.1, va_up pa.2.2.2.2.2.1 pa.2.2.2.2.2.2 pa.2.2.2.2.2.2, pa.2.2.2.2.2.2 + 1) else pa) p0 p1 p2 li wi) (some (.int (if pa.2.2.2.2.2.2 < 40 then nI pa.2.2.2.2.2.2 else -1))) := by
  obtain ⟨hn, hsd, hlw⟩ := hoA
  intro sz
  refine Met.ofW (cc := cX1_add) (maxL := 6) (ret := (some .int)) (by decide) rfl ?_
  intro p e s m args below meth c s₁ B hml hv
  obtain ⟨ha, hsz, hP, hK, hD0⟩ := hv
  have hx := B.exec
  have hb := B.bytes
  have hr := B.returns
  have hts := atoms_spec (ws := wsX1_add) B.pre
  have hown : s.vm.findClass RX1 = some m.cls := findClass_of_methodNamed B.named
  have hlocks := B.notSynchronized
  subst hsz
  have hD := hD0.self (sz := s.heap.size)
  generalize hAe : va_A (Wd ad cJ cI cZ bm pa p0 p1 p2 li wi) s.heap.size = A at hD ⊢
  have hA : ∀ q : Nat, s.heap.size ≤ q → A q := fun q h => by rw [← hAe]; exact Or.inr h
  have hS : va_S A s.heap s.heap [] := va_S.rf
  have hl := lv_entry ([.ref (ad 1), .long a, .long b, .int (nI sd)]) (n := 6) (Nat.le_of_ble_eq_true rfl)
  refine W.eq (g2 := entryFrame m ([.ref (ad 1), .long a, .long b, .int (nI sd)] : List Value).toArray 6) (by rw [ha]) ?_
  rw [lg_entry_eq]
  generalize (lg_sl ([.ref (ad 1), .long a, .long b, .int (nI sd)]) ++ List.replicate (6 - (lg_sl ([.ref (ad 1), .long a, .long b, .int (nI sd)])).length) Slot.unset).toArray = ls at hl ⊢
  have hl : lv_has ls 6 [(0, .ref (ad 1)), (1, .long a), (3, .long b), (5, .int (nI sd))] := hl
  refine lv_aload_n hx hb dX1_add_0 rfl (lv_at hl 0 rfl) ?_
  refine va_get (D := D) (ci := 1) (v := .int (nI pa.2.2.2.2.2.2)) (C := RX1) (T := TX1) (N := 7) hx hb hts (inT inX1) hown hK hP 1 rfl rfl 6 (by decide) (hts (.fieldLink RX1 32 "BoardMoves$Parts" "count" "I") (by decide +kernel)) (fun _ h9 => h9) rfl dX1_add_1 ?_
  refine lv_bipush (v := nI 40) hx hb dX1_add_4 (by decide) ?_
  refine bm_ni_lt (x := pa.2.2.2.2.2.2) (y := 40) (tgt := 11) hx hb (by omega) (by omega) dX1_add_6 (by decide) (fun c_1 => ?_) (fun c_1 => ?_)
  · refine lv_aload_n hx hb dX1_add_11 rfl (lv_at hl 0 rfl) ?_
    refine va_get (D := D) (ci := 1) (v := .ref (ad 2)) (C := RX1) (T := TX1) (N := 7) hx hb hts (inT inX1) hown hK hP 1 rfl rfl 0 (by decide) (hts (.fieldLink RX1 9 "BoardMoves$Parts" "w" "[J") (by decide +kernel)) (fun _ h9 => h9) rfl dX1_add_12 ?_
    refine lv_aload_n hx hb dX1_add_15 rfl (lv_at hl 0 rfl) ?_
    refine va_get (D := D) (ci := 1) (v := .int (nI pa.2.2.2.2.2.2)) (C := RX1) (T := TX1) (N := 7) hx hb hts (inT inX1) hown hK hP 1 rfl rfl 6 (by decide) (hts (.fieldLink RX1 32 "BoardMoves$Parts" "count" "I") (by decide +kernel)) (fun _ h9 => h9) rfl dX1_add_16 ?_
    refine lv_lload_n hx hb dX1_add_19 rfl (lv_at hl 1 rfl) ?_
    refine bm_last (f := pa.1) hx hb hK hP hD hS 2 0 rfl rfl (j := pa.2.2.2.2.2.2) (x := a) (by omega) (by decide) dX1_add_20 (fun H locs hP hD hS => ?_)
    have hP : va_P D vwCl (Wd ad cJ cI cZ bm (va_up pa.1 pa.2.2.2.2.2.2 a, pa.2.1, pa.2.2.1, pa.2.2.2.1, pa.2.2.2.2.1, pa.2.2.2.2.2.1, pa.2.2.2.2.2.2) p0 p1 p2 li wi) H := hP
    have hD : va_D A (Wd ad cJ cI cZ bm (va_up pa.1 pa.2.2.2.2.2.2 a, pa.2.1, pa.2.2.1, pa.2.2.2.1, pa.2.2.2.2.1, pa.2.2.2.2.2.1, pa.2.2.2.2.2.2) p0 p1 p2 li wi) := hD
    refine lv_aload_n hx hb dX1_add_21 rfl (lv_at hl 0 rfl) ?_
    refine va_get (D := D) (ci := 1) (v := .ref (ad 3)) (C := RX1) (T := TX1) (N := 7) hx hb hts (inT inX1) hown hK hP 1 rfl rfl 1 (by decide) (hts (.fieldLink RX1 15 "BoardMoves$Parts" "h" "[J") (by decide +kernel)) (fun _ h9 => h9) rfl dX1_add_22 ?_
    refine lv_aload_n hx hb dX1_add_25 rfl (lv_at hl 0 rfl) ?_
    refine va_get (D := D) (ci := 1) (v := .int (nI pa.2.2.2.2.2.2)) (C := RX1) (T := TX1) (N := 7) hx hb hts (inT inX1) hown hK hP 1 rfl rfl 6 (by decide) (hts (.fieldLink RX1 32 "BoardMoves$Parts" "count" "I") (by decide +kernel)) (fun _ h9 => h9) rfl dX1_add_26 ?_
    refine lv_lload_n hx hb dX1_add_29 rfl (lv_at hl 2 rfl) ?_
    refine bm_last (f := pa.2.1) hx hb hK hP hD hS 3 0 rfl rfl (j := pa.2.2.2.2.2.2) (x := b) (by omega) (by decide) dX1_add_30 (fun H locs hP hD hS => ?_)
    have hP : va_P D vwCl (Wd ad cJ cI cZ bm (va_up pa.1 pa.2.2.2.2.2.2 a, va_up pa.2.1 pa.2.2.2.2.2.2 b, pa.2.2.1, pa.2.2.2.1, pa.2.2.2.2.1, pa.2.2.2.2.2.1, pa.2.2.2.2.2.2) p0 p1 p2 li wi) H := hP
    have hD : va_D A (Wd ad cJ cI cZ bm (va_up pa.1 pa.2.2.2.2.2.2 a, va_up pa.2.1 pa.2.2.2.2.2.2 b, pa.2.2.1, pa.2.2.2.1, pa.2.2.2.2.1, pa.2.2.2.2.2.1, pa.2.2.2.2.2.2) p0 p1 p2 li wi) := hD
    refine lv_aload_n hx hb dX1_add_31 rfl (lv_at hl 0 rfl) ?_
    refine va_get (D := D) (ci := 1) (v := .ref (ad 4)) (C := RX1) (T := TX1) (N := 7) hx hb hts (inT inX1) hown hK hP 1 rfl rfl 2 (by decide) (hts (.fieldLink RX1 18 "BoardMoves$Parts" "side" "[I") (by decide +kernel)) (fun _ h9 => h9) rfl dX1_add_32 ?_
    refine lv_aload_n hx hb dX1_add_35 rfl (lv_at hl 0 rfl) ?_
    refine va_get (D := D) (ci := 1) (v := .int (nI pa.2.2.2.2.2.2)) (C := RX1) (T := TX1) (N := 7) hx hb hts (inT inX1) hown hK hP 1 rfl rfl 6 (by decide) (hts (.fieldLink RX1 32 "BoardMoves$Parts" "count" "I") (by decide +kernel)) (fun _ h9 => h9) rfl dX1_add_36 ?_
    refine lv_iload hx hb dX1_add_39 (lv_at hl 3 rfl) ?_
    refine bm_nast (f := pa.2.2.1) hx hb hK hP hD hS 4 1 rfl rfl (j := pa.2.2.2.2.2.2) (x := sd) (by omega) (by decide) dX1_add_41 (fun H locs hP hD hS => ?_)
    have hP : va_P D vwCl (Wd ad cJ cI cZ bm (va_up pa.1 pa.2.2.2.2.2.2 a, va_up pa.2.1 pa.2.2.2.2.2.2 b, va_up pa.2.2.1 pa.2.2.2.2.2.2 sd, pa.2.2.2.1, pa.2.2.2.2.1, pa.2.2.2.2.2.1, pa.2.2.2.2.2.2) p0 p1 p2 li wi) H := hP
    have hD : va_D A (Wd ad cJ cI cZ bm (va_up pa.1 pa.2.2.2.2.2.2 a, va_up pa.2.1 pa.2.2.2.2.2.2 b, va_up pa.2.2.1 pa.2.2.2.2.2.2 sd, pa.2.2.2.1, pa.2.2.2.2.1, pa.2.2.2.2.2.1, pa.2.2.2.2.2.2) p0 p1 p2 li wi) := hD
    refine lv_aload_n hx hb dX1_add_42 rfl (lv_at hl 0 rfl) ?_
    refine va_get (D := D) (ci := 1) (v := .ref (ad 7)) (C := RX1) (T := TX1) (N := 7) hx hb hts (inT inX1) hown hK hP 1 rfl rfl 5 (by decide) (hts (.fieldLink RX1 29 "BoardMoves$Parts" "lowest" "[I") (by decide +kernel)) (fun _ h9 => h9) rfl dX1_add_43 ?_
    refine lv_aload_n hx hb dX1_add_46 rfl (lv_at hl 0 rfl) ?_
    refine va_get (D := D) (ci := 1) (v := .int (nI pa.2.2.2.2.2.2)) (C := RX1) (T := TX1) (N := 7) hx hb hts (inT inX1) hown hK hP 1 rfl rfl 6 (by decide) (hts (.fieldLink RX1 32 "BoardMoves$Parts" "count" "I") (by decide +kernel)) (fun _ h9 => h9) rfl dX1_add_47 ?_
    refine lv_aload_n hx hb dX1_add_50 rfl (lv_at hl 0 rfl) ?_
    refine va_get (D := D) (ci := 1) (v := .int (nI pa.2.2.2.2.2.2)) (C := RX1) (T := TX1) (N := 7) hx hb hts (inT inX1) hown hK hP 1 rfl rfl 6 (by decide) (hts (.fieldLink RX1 32 "BoardMoves$Parts" "count" "I") (by decide +kernel)) (fun _ h9 => h9) rfl dX1_add_51 ?_
    refine bm_nast (f := pa.2.2.2.2.2.1) hx hb hK hP hD hS 7 1 rfl rfl (j := pa.2.2.2.2.2.2) (x := pa.2.2.2.2.2.2) (by omega) (by decide) dX1_add_54 (fun H locs hP hD hS => ?_)
    have hP : va_P D vwCl (Wd ad cJ cI cZ bm (va_up pa.1 pa.2.2.2.2.2.2 a, va_up pa.2.1 pa.2.2.2.2.2.2 b, va_up pa.2.2.1 pa.2.2.2.2.2.2 sd, pa.2.2.2.1, pa.2.2.2.2.1, va_up pa.2.2.2.2.2.1 pa.2.2.2.2.2.2 pa.2.2.2.2.2.2, pa.2.2.2.2.2.2) p0 p1 p2 li wi) H := hP
    have hD : va_D A (Wd ad cJ cI cZ bm (va_up pa.1 pa.2.2.2.2.2.2 a, va_up pa.2.1 pa.2.2.2.2.2.2 b, va_up pa.2.2.1 pa.2.2.2.2.2.2 sd, pa.2.2.2.1, pa.2.2.2.2.1, va_up pa.2.2.2.2.2.1 pa.2.2.2.2.2.2 pa.2.2.2.2.2.2, pa.2.2.2.2.2.2) p0 p1 p2 li wi) := hD
    refine lv_aload_n hx hb dX1_add_55 rfl (lv_at hl 0 rfl) ?_
    refine lv_dup hx hb dX1_add_56 rfl ?_
    refine va_get (D := D) (ci := 1) (v := .int (nI pa.2.2.2.2.2.2)) (C := RX1) (T := TX1) (N := 7) hx hb hts (inT inX1) hown hK hP 1 rfl rfl 6 (by decide) (hts (.fieldLink RX1 32 "BoardMoves$Parts" "count" "I") (by decide +kernel)) (fun _ h9 => h9) rfl dX1_add_57 ?_
    refine lv_iconst (v := nI 1) hx hb dX1_add_60 (by decide) ?_
    refine bm_nadd hx hb dX1_add_61 ?_
    refine va_put (D := D) (ci := 1) (v := .int (nI (pa.2.2.2.2.2.2 + 1))) (ty := .int) (C := RX1) (T := TX1) (N := 7) hx hb hts (inT inX1) tyX1 tyX1_ok nmX1 hown hK hP hD hS 1 rfl rfl 6 (by decide) (hts (.fieldLink RX1 32 "BoardMoves$Parts" "count" "I") (by decide +kernel)) (fun _ h9 => h9) rfl (by decide +kernel) rfl rfl (Nat.le_of_ble_eq_true rfl) dX1_add_62 (fun H locs hP hD hS => ?_)
    have hP : va_P D vwCl (Wd ad cJ cI cZ bm (va_up pa.1 pa.2.2.2.2.2.2 a, va_up pa.2.1 pa.2.2.2.2.2.2 b, va_up pa.2.2.1 pa.2.2.2.2.2.2 sd, pa.2.2.2.1, pa.2.2.2.2.1, va_up pa.2.2.2.2.2.1 pa.2.2.2.2.2.2 pa.2.2.2.2.2.2, pa.2.2.2.2.2.2 + 1) p0 p1 p2 li wi) H := hP
    have hD : va_D A (Wd ad cJ cI cZ bm (va_up pa.1 pa.2.2.2.2.2.2 a, va_up pa.2.1 pa.2.2.2.2.2.2 b, va_up pa.2.2.1 pa.2.2.2.2.2.2 sd, pa.2.2.2.1, pa.2.2.2.2.1, va_up pa.2.2.2.2.2.1 pa.2.2.2.2.2.2 pa.2.2.2.2.2.2, pa.2.2.2.2.2.2 + 1) p0 p1 p2 li wi) := hD
    refine lv_aload_n hx hb dX1_add_65 rfl (lv_at hl 0 rfl) ?_
    refine va_get (D := D) (ci := 1) (v := .int (nI (pa.2.2.2.2.2.2 + 1))) (C := RX1) (T := TX1) (N := 7) hx hb hts (inT inX1) hown hK hP 1 rfl rfl 6 (by decide) (hts (.fieldLink RX1 32 "BoardMoves$Parts" "count" "I") (by decide +kernel)) (fun _ h9 => h9) rfl dX1_add_66 ?_
    refine lv_iconst (v := nI 1) hx hb dX1_add_69 (by decide) ?_
    refine bm_nsub hx hb (by omega) dX1_add_70 ?_
    exact bm_iretW (v := (nI ((pa.2.2.2.2.2.2 + 1) - 1))) hx hb hr hP hD hK hS ⟨by simp [c_1], by simp [c_1]⟩ dX1_add_71 hlocks
  · refine lv_iconst (v := -1) hx hb dX1_add_9 (by decide) ?_
    exact bm_iretW (v := (-1)) hx hb hr hP hD hK hS ⟨by simp [c_1], by simp [c_1]⟩ dX1_add_10 hlocks
end
section
set_option maxHeartbeats 4000000 in
set_option maxRecDepth 100000 in
theorem w_addKO {l : Launch} {D : va_G} {ad : Nat → Nat} {cJ cI cZ : ClassId} {bm : gBM} {pa : gPA} {p0 p1 p2 : gPL} {li : gLI} {wi : gWI} (hoI : q_okI li) {xa ya xb yb hh : Int64} : bm_Wr l yX0_addKeepOut wsX0_addKeepOut ({ frames := 0, cells := 0, slots := 0, locals := 0 }) D vwCl [(cJ, .long), (cI, .int), (cZ, .boolean)] (Wd ad cJ cI cZ bm pa p0 p1 p2 li wi) [.ref (ad 23), .long xa, .long ya, .long xb, .long yb, .long hh] (Wd ad cJ cI cZ bm pa p0 p1 p2 (if li.2.2.2.2.2.2.2.2.1 < 10 then (va_up li.1 li.2.2.2.2.2.2.2.2.1 xa, va_up li.2.1 li.2.2.2.2.2.2.2.2.1 ya, va_up li.2.2.1 li.2.2.2.2.2.2.2.2.1 xb, va_up li.2.2.2.1 li.2.2.2.2.2.2.2.2.1 yb, va_up li.2.2.2.2.1 li.2.2.2.2.2.2.2.2.1 hh, li.2.2.2.2.2.1, li.2.2.2.2.2.2.1, li.2.2.2.2.2.2.2.1, li.2.2.2.2.2.2.2.2.1 + 1, li.2.2.2.2.2.2.2.2.2) else li) wi) (some (.int (bm_b (decide (li.2.2.2.2.2.2.2.2.1 < 10))))) := by
  obtain ⟨hon, hot, hko, hne⟩ := hoI
  intro sz
  refine Met.ofW (cc := cX0_addKeepOut) (maxL := 11) (ret := (some .boolean)) (by decide) rfl ?_
  intro p e s m args below meth c s₁ B hml hv
  obtain ⟨ha, hsz, hP, hK, hD0⟩ := hv
  have hx := B.exec
  have hb := B.bytes
  have hr := B.returns
  have hts := atoms_spec (ws := wsX0_addKeepOut) B.pre
  have hown : s.vm.findClass RX0 = some m.cls := findClass_of_methodNamed B.named
  have hlocks := B.notSynchronized
  subst hsz
  have hD := hD0.self (sz := s.heap.size)
  generalize hAe : va_A (Wd ad cJ cI cZ bm pa p0 p1 p2 li wi) s.heap.size = A at hD ⊢
  have hA : ∀ q : Nat, s.heap.size ≤ q → A q := fun q h => by rw [← hAe]; exact Or.inr h
  have hS : va_S A s.heap s.heap [] := va_S.rf
  have hl := lv_entry ([.ref (ad 23), .long xa, .long ya, .long xb, .long yb, .long hh]) (n := 11) (Nat.le_of_ble_eq_true rfl)
  refine W.eq (g2 := entryFrame m ([.ref (ad 23), .long xa, .long ya, .long xb, .long yb, .long hh] : List Value).toArray 11) (by rw [ha]) ?_
  rw [lg_entry_eq]
  generalize (lg_sl ([.ref (ad 23), .long xa, .long ya, .long xb, .long yb, .long hh]) ++ List.replicate (11 - (lg_sl ([.ref (ad 23), .long xa, .long ya, .long xb, .long yb, .long hh])).length) Slot.unset).toArray = ls at hl ⊢
  have hl : lv_has ls 11 [(0, .ref (ad 23)), (1, .long xa), (3, .long ya), (5, .long xb), (7, .long yb), (9, .long hh)] := hl
  refine lv_aload_n hx hb dX0_addKeepOut_0 rfl (lv_at hl 0 rfl) ?_
  refine va_get (D := D) (ci := 0) (v := .int (nI li.2.2.2.2.2.2.2.2.1)) (C := RX0) (T := TX0) (N := 11) hx hb hts (inT inX0) hown hK hP 23 rfl rfl 9 (by decide) (hts (.fieldLink RX0 37 "BoardMoves$Limits" "keepOuts" "I") (by decide +kernel)) (fun _ h9 => h9) rfl dX0_addKeepOut_1 ?_
  refine lv_bipush (v := nI 10) hx hb dX0_addKeepOut_4 (by decide) ?_
  refine bm_ni_lt (x := li.2.2.2.2.2.2.2.2.1) (y := 10) (tgt := 11) hx hb (by omega) (by omega) dX0_addKeepOut_6 (by decide) (fun c_1 => ?_) (fun c_1 => ?_)
  · refine lv_aload_n hx hb dX0_addKeepOut_11 rfl (lv_at hl 0 rfl) ?_
    refine va_get (D := D) (ci := 0) (v := .ref (ad 24)) (C := RX0) (T := TX0) (N := 11) hx hb hts (inT inX0) hown hK hP 23 rfl rfl 1 (by decide) (hts (.fieldLink RX0 9 "BoardMoves$Limits" "x0" "[J") (by decide +kernel)) (fun _ h9 => h9) rfl dX0_addKeepOut_12 ?_
    refine lv_aload_n hx hb dX0_addKeepOut_15 rfl (lv_at hl 0 rfl) ?_
    refine va_get (D := D) (ci := 0) (v := .int (nI li.2.2.2.2.2.2.2.2.1)) (C := RX0) (T := TX0) (N := 11) hx hb hts (inT inX0) hown hK hP 23 rfl rfl 9 (by decide) (hts (.fieldLink RX0 37 "BoardMoves$Limits" "keepOuts" "I") (by decide +kernel)) (fun _ h9 => h9) rfl dX0_addKeepOut_16 ?_
    refine lv_lload_n hx hb dX0_addKeepOut_19 rfl (lv_at hl 1 rfl) ?_
    refine bm_last (f := li.1) hx hb hK hP hD hS 24 0 rfl rfl (j := li.2.2.2.2.2.2.2.2.1) (x := xa) (by omega) (by decide) dX0_addKeepOut_20 (fun H locs hP hD hS => ?_)
    have hP : va_P D vwCl (Wd ad cJ cI cZ bm pa p0 p1 p2 (va_up li.1 li.2.2.2.2.2.2.2.2.1 xa, li.2.1, li.2.2.1, li.2.2.2.1, li.2.2.2.2.1, li.2.2.2.2.2.1, li.2.2.2.2.2.2.1, li.2.2.2.2.2.2.2.1, li.2.2.2.2.2.2.2.2.1, li.2.2.2.2.2.2.2.2.2) wi) H := hP
    have hD : va_D A (Wd ad cJ cI cZ bm pa p0 p1 p2 (va_up li.1 li.2.2.2.2.2.2.2.2.1 xa, li.2.1, li.2.2.1, li.2.2.2.1, li.2.2.2.2.1, li.2.2.2.2.2.1, li.2.2.2.2.2.2.1, li.2.2.2.2.2.2.2.1, li.2.2.2.2.2.2.2.2.1, li.2.2.2.2.2.2.2.2.2) wi) := hD
    refine lv_aload_n hx hb dX0_addKeepOut_21 rfl (lv_at hl 0 rfl) ?_
    refine va_get (D := D) (ci := 0) (v := .ref (ad 25)) (C := RX0) (T := TX0) (N := 11) hx hb hts (inT inX0) hown hK hP 23 rfl rfl 2 (by decide) (hts (.fieldLink RX0 15 "BoardMoves$Limits" "y0" "[J") (by decide +kernel)) (fun _ h9 => h9) rfl dX0_addKeepOut_22 ?_
    refine lv_aload_n hx hb dX0_addKeepOut_25 rfl (lv_at hl 0 rfl) ?_
    refine va_get (D := D) (ci := 0) (v := .int (nI li.2.2.2.2.2.2.2.2.1)) (C := RX0) (T := TX0) (N := 11) hx hb hts (inT inX0) hown hK hP 23 rfl rfl 9 (by decide) (hts (.fieldLink RX0 37 "BoardMoves$Limits" "keepOuts" "I") (by decide +kernel)) (fun _ h9 => h9) rfl dX0_addKeepOut_26 ?_
    refine lv_lload_n hx hb dX0_addKeepOut_29 rfl (lv_at hl 2 rfl) ?_
    refine bm_last (f := li.2.1) hx hb hK hP hD hS 25 0 rfl rfl (j := li.2.2.2.2.2.2.2.2.1) (x := ya) (by omega) (by decide) dX0_addKeepOut_30 (fun H locs hP hD hS => ?_)
    have hP : va_P D vwCl (Wd ad cJ cI cZ bm pa p0 p1 p2 (va_up li.1 li.2.2.2.2.2.2.2.2.1 xa, va_up li.2.1 li.2.2.2.2.2.2.2.2.1 ya, li.2.2.1, li.2.2.2.1, li.2.2.2.2.1, li.2.2.2.2.2.1, li.2.2.2.2.2.2.1, li.2.2.2.2.2.2.2.1, li.2.2.2.2.2.2.2.2.1, li.2.2.2.2.2.2.2.2.2) wi) H := hP
    have hD : va_D A (Wd ad cJ cI cZ bm pa p0 p1 p2 (va_up li.1 li.2.2.2.2.2.2.2.2.1 xa, va_up li.2.1 li.2.2.2.2.2.2.2.2.1 ya, li.2.2.1, li.2.2.2.1, li.2.2.2.2.1, li.2.2.2.2.2.1, li.2.2.2.2.2.2.1, li.2.2.2.2.2.2.2.1, li.2.2.2.2.2.2.2.2.1, li.2.2.2.2.2.2.2.2.2) wi) := hD
    refine lv_aload_n hx hb dX0_addKeepOut_31 rfl (lv_at hl 0 rfl) ?_
    refine va_get (D := D) (ci := 0) (v := .ref (ad 26)) (C := RX0) (T := TX0) (N := 11) hx hb hts (inT inX0) hown hK hP 23 rfl rfl 3 (by decide) (hts (.fieldLink RX0 18 "BoardMoves$Limits" "x1" "[J") (by decide +kernel)) (fun _ h9 => h9) rfl dX0_addKeepOut_32 ?_
    refine lv_aload_n hx hb dX0_addKeepOut_35 rfl (lv_at hl 0 rfl) ?_
    refine va_get (D := D) (ci := 0) (v := .int (nI li.2.2.2.2.2.2.2.2.1)) (C := RX0) (T := TX0) (N := 11) hx hb hts (inT inX0) hown hK hP 23 rfl rfl 9 (by decide) (hts (.fieldLink RX0 37 "BoardMoves$Limits" "keepOuts" "I") (by decide +kernel)) (fun _ h9 => h9) rfl dX0_addKeepOut_36 ?_
    refine lv_lload hx hb dX0_addKeepOut_39 (lv_at hl 3 rfl) ?_
    refine bm_last (f := li.2.2.1) hx hb hK hP hD hS 26 0 rfl rfl (j := li.2.2.2.2.2.2.2.2.1) (x := xb) (by omega) (by decide) dX0_addKeepOut_41 (fun H locs hP hD hS => ?_)
    have hP : va_P D vwCl (Wd ad cJ cI cZ bm pa p0 p1 p2 (va_up li.1 li.2.2.2.2.2.2.2.2.1 xa, va_up li.2.1 li.2.2.2.2.2.2.2.2.1 ya, va_up li.2.2.1 li.2.2.2.2.2.2.2.2.1 xb, li.2.2.2.1, li.2.2.2.2.1, li.2.2.2.2.2.1, li.2.2.2.2.2.2.1, li.2.2.2.2.2.2.2.1, li.2.2.2.2.2.2.2.2.1, li.2.2.2.2.2.2.2.2.2) wi) H := hP
    have hD : va_D A (Wd ad cJ cI cZ bm pa p0 p1 p2 (va_up li.1 li.2.2.2.2.2.2.2.2.1 xa, va_up li.2.1 li.2.2.2.2.2.2.2.2.1 ya, va_up li.2.2.1 li.2.2.2.2.2.2.2.2.1 xb, li.2.2.2.1, li.2.2.2.2.1, li.2.2.2.2.2.1, li.2.2.2.2.2.2.1, li.2.2.2.2.2.2.2.1, li.2.2.2.2.2.2.2.2.1, li.2.2.2.2.2.2.2.2.2) wi) := hD
    refine lv_aload_n hx hb dX0_addKeepOut_42 rfl (lv_at hl 0 rfl) ?_
    refine va_get (D := D) (ci := 0) (v := .ref (ad 27)) (C := RX0) (T := TX0) (N := 11) hx hb hts (inT inX0) hown hK hP 23 rfl rfl 4 (by decide) (hts (.fieldLink RX0 21 "BoardMoves$Limits" "y1" "[J") (by decide +kernel)) (fun _ h9 => h9) rfl dX0_addKeepOut_43 ?_
    refine lv_aload_n hx hb dX0_addKeepOut_46 rfl (lv_at hl 0 rfl) ?_
    refine va_get (D := D) (ci := 0) (v := .int (nI li.2.2.2.2.2.2.2.2.1)) (C := RX0) (T := TX0) (N := 11) hx hb hts (inT inX0) hown hK hP 23 rfl rfl 9 (by decide) (hts (.fieldLink RX0 37 "BoardMoves$Limits" "keepOuts" "I") (by decide +kernel)) (fun _ h9 => h9) rfl dX0_addKeepOut_47 ?_
    refine lv_lload hx hb dX0_addKeepOut_50 (lv_at hl 4 rfl) ?_
    refine bm_last (f := li.2.2.2.1) hx hb hK hP hD hS 27 0 rfl rfl (j := li.2.2.2.2.2.2.2.2.1) (x := yb) (by omega) (by decide) dX0_addKeepOut_52 (fun H locs hP hD hS => ?_)
    have hP : va_P D vwCl (Wd ad cJ cI cZ bm pa p0 p1 p2 (va_up li.1 li.2.2.2.2.2.2.2.2.1 xa, va_up li.2.1 li.2.2.2.2.2.2.2.2.1 ya, va_up li.2.2.1 li.2.2.2.2.2.2.2.2.1 xb, va_up li.2.2.2.1 li.2.2.2.2.2.2.2.2.1 yb, li.2.2.2.2.1, li.2.2.2.2.2.1, li.2.2.2.2.2.2.1, li.2.2.2.2.2.2.2.1, li.2.2.2.2.2.2.2.2.1, li.2.2.2.2.2.2.2.2.2) wi) H := hP
    have hD : va_D A (Wd ad cJ cI cZ bm pa p0 p1 p2 (va_up li.1 li.2.2.2.2.2.2.2.2.1 xa, va_up li.2.1 li.2.2.2.2.2.2.2.2.1 ya, va_up li.2.2.1 li.2.2.2.2.2.2.2.2.1 xb, va_up li.2.2.2.1 li.2.2.2.2.2.2.2.2.1 yb, li.2.2.2.2.1, li.2.2.2.2.2.1, li.2.2.2.2.2.2.1, li.2.2.2.2.2.2.2.1, li.2.2.2.2.2.2.2.2.1, li.2.2.2.2.2.2.2.2.2) wi) := hD
    refine lv_aload_n hx hb dX0_addKeepOut_53 rfl (lv_at hl 0 rfl) ?_
    refine va_get (D := D) (ci := 0) (v := .ref (ad 28)) (C := RX0) (T := TX0) (N := 11) hx hb hts (inT inX0) hown hK hP 23 rfl rfl 5 (by decide) (hts (.fieldLink RX0 24 "BoardMoves$Limits" "tallest" "[J") (by decide +kernel)) (fun _ h9 => h9) rfl dX0_addKeepOut_54 ?_
    refine lv_aload_n hx hb dX0_addKeepOut_57 rfl (lv_at hl 0 rfl) ?_
    refine va_get (D := D) (ci := 0) (v := .int (nI li.2.2.2.2.2.2.2.2.1)) (C := RX0) (T := TX0) (N := 11) hx hb hts (inT inX0) hown hK hP 23 rfl rfl 9 (by decide) (hts (.fieldLink RX0 37 "BoardMoves$Limits" "keepOuts" "I") (by decide +kernel)) (fun _ h9 => h9) rfl dX0_addKeepOut_58 ?_
    refine lv_lload hx hb dX0_addKeepOut_61 (lv_at hl 5 rfl) ?_
    refine bm_last (f := li.2.2.2.2.1) hx hb hK hP hD hS 28 0 rfl rfl (j := li.2.2.2.2.2.2.2.2.1) (x := hh) (by omega) (by decide) dX0_addKeepOut_63 (fun H locs hP hD hS => ?_)
    have hP : va_P D vwCl (Wd ad cJ cI cZ bm pa p0 p1 p2 (va_up li.1 li.2.2.2.2.2.2.2.2.1 xa, va_up li.2.1 li.2.2.2.2.2.2.2.2.1 ya, va_up li.2.2.1 li.2.2.2.2.2.2.2.2.1 xb, va_up li.2.2.2.1 li.2.2.2.2.2.2.2.2.1 yb, va_up li.2.2.2.2.1 li.2.2.2.2.2.2.2.2.1 hh, li.2.2.2.2.2.1, li.2.2.2.2.2.2.1, li.2.2.2.2.2.2.2.1, li.2.2.2.2.2.2.2.2.1, li.2.2.2.2.2.2.2.2.2) wi) H := hP
    have hD : va_D A (Wd ad cJ cI cZ bm pa p0 p1 p2 (va_up li.1 li.2.2.2.2.2.2.2.2.1 xa, va_up li.2.1 li.2.2.2.2.2.2.2.2.1 ya, va_up li.2.2.1 li.2.2.2.2.2.2.2.2.1 xb, va_up li.2.2.2.1 li.2.2.2.2.2.2.2.2.1 yb, va_up li.2.2.2.2.1 li.2.2.2.2.2.2.2.2.1 hh, li.2.2.2.2.2.1, li.2.2.2.2.2.2.1, li.2.2.2.2.2.2.2.1, li.2.2.2.2.2.2.2.2.1, li.2.2.2.2.2.2.2.2.2) wi) := hD
    refine lv_aload_n hx hb dX0_addKeepOut_64 rfl (lv_at hl 0 rfl) ?_
    refine lv_dup hx hb dX0_addKeepOut_65 rfl ?_
    refine va_get (D := D) (ci := 0) (v := .int (nI li.2.2.2.2.2.2.2.2.1)) (C := RX0) (T := TX0) (N := 11) hx hb hts (inT inX0) hown hK hP 23 rfl rfl 9 (by decide) (hts (.fieldLink RX0 37 "BoardMoves$Limits" "keepOuts" "I") (by decide +kernel)) (fun _ h9 => h9) rfl dX0_addKeepOut_66 ?_
    refine lv_iconst (v := nI 1) hx hb dX0_addKeepOut_69 (by decide) ?_
    refine bm_nadd hx hb dX0_addKeepOut_70 ?_
    refine va_put (D := D) (ci := 0) (v := .int (nI (li.2.2.2.2.2.2.2.2.1 + 1))) (ty := .int) (C := RX0) (T := TX0) (N := 11) hx hb hts (inT inX0) tyX0 tyX0_ok nmX0 hown hK hP hD hS 23 rfl rfl 9 (by decide) (hts (.fieldLink RX0 37 "BoardMoves$Limits" "keepOuts" "I") (by decide +kernel)) (fun _ h9 => h9) rfl (by decide +kernel) rfl rfl (Nat.le_of_ble_eq_true rfl) dX0_addKeepOut_71 (fun H locs hP hD hS => ?_)
    have hP : va_P D vwCl (Wd ad cJ cI cZ bm pa p0 p1 p2 (va_up li.1 li.2.2.2.2.2.2.2.2.1 xa, va_up li.2.1 li.2.2.2.2.2.2.2.2.1 ya, va_up li.2.2.1 li.2.2.2.2.2.2.2.2.1 xb, va_up li.2.2.2.1 li.2.2.2.2.2.2.2.2.1 yb, va_up li.2.2.2.2.1 li.2.2.2.2.2.2.2.2.1 hh, li.2.2.2.2.2.1, li.2.2.2.2.2.2.1, li.2.2.2.2.2.2.2.1, li.2.2.2.2.2.2.2.2.1 + 1, li.2.2.2.2.2.2.2.2.2) wi) H := hP
    have hD : va_D A (Wd ad cJ cI cZ bm pa p0 p1 p2 (va_up li.1 li.2.2.2.2.2.2.2.2.1 xa, va_up li.2.1 li.2.2.2.2.2.2.2.2.1 ya, va_up li.2.2.1 li.2.2.2.2.2.2.2.2.1 xb, va_up li.2.2.2.1 li.2.2.2.2.2.2.2.2.1 yb, va_up li.2.2.2.2.1 li.2.2.2.2.2.2.2.2.1 hh, li.2.2.2.2.2.1, li.2.2.2.2.2.2.1, li.2.2.2.2.2.2.2.1, li.2.2.2.2.2.2.2.2.1 + 1, li.2.2.2.2.2.2.2.2.2) wi) := hD
    refine lv_iconst (v := bm_b true) hx hb dX0_addKeepOut_74 (by decide) ?_
    exact bm_zretW (v := true) hx hb hr hP hD hK hS ⟨by simp [c_1], by simp [c_1]⟩ dX0_addKeepOut_75 hlocks
  · refine lv_iconst (v := bm_b false) hx hb dX0_addKeepOut_9 (by decide) ?_
    exact bm_zretW (v := false) hx hb hr hP hD hK hS ⟨by simp [c_1], by simp [c_1]⟩ dX0_addKeepOut_10 hlocks
end
section
set_option maxHeartbeats 4000000 in
set_option maxRecDepth 100000 in
theorem w_addNear {l : Launch} {D : va_G} {ad : Nat → Nat} {cJ cI cZ : ClassId} {bm : gBM} {pa : gPA} {p0 p1 p2 : gPL} {li : gLI} {wi : gWI} (hoI : q_okI li) {a b : Nat} {h : Int64} : bm_Wr l yX0_addNear wsX0_addNear ({ frames := 0, cells := 0, slots := 0, locals := 0 }) D vwCl [(cJ, .long), (cI, .int), (cZ, .boolean)] (Wd ad cJ cI cZ bm pa p0 p1 p2 li wi) [.ref (ad 23), .int (nI a), .int (nI b), .long h] (Wd ad cJ cI cZ bm pa p0 p1 p2 (if li.2.2.2.2.2.2.2.2.2 < 20 then (li.1, li.2.1, li.2.2.1, li.2.2.2.1, li.2.2.2.2.1, va_up li.2.2.2.2.2.1 li.2.2.2.2.2.2.2.2.2 a, va_up li.2.2.2.2.2.2.1 li.2.2.2.2.2.2.2.2.2 b, va_up li.2.2.2.2.2.2.2.1 li.2.2.2.2.2.2.2.2.2 h, li.2.2.2.2.2.2.2.2.1, li.2.2.2.2.2.2.2.2.2 + 1) else li) wi) (some (.int (bm_b (decide (li.2.2.2.2.2.2.2.2.2 < 20))))) := by
  obtain ⟨hon, hot, hko, hne⟩ := hoI
  intro sz
  refine Met.ofW (cc := cX0_addNear) (maxL := 5) (ret := (some .boolean)) (by decide) rfl ?_
  intro p e s m args below meth c s₁ B hml hv
  obtain ⟨ha, hsz, hP, hK, hD0⟩ := hv
  have hx := B.exec
  have hb := B.bytes
  have hr := B.returns
  have hts := atoms_spec (ws := wsX0_addNear) B.pre
  have hown : s.vm.findClass RX0 = some m.cls := findClass_of_methodNamed B.named
  have hlocks := B.notSynchronized
  subst hsz
  have hD := hD0.self (sz := s.heap.size)
  generalize hAe : va_A (Wd ad cJ cI cZ bm pa p0 p1 p2 li wi) s.heap.size = A at hD ⊢
  have hA : ∀ q : Nat, s.heap.size ≤ q → A q := fun q h => by rw [← hAe]; exact Or.inr h
  have hS : va_S A s.heap s.heap [] := va_S.rf
  have hl := lv_entry ([.ref (ad 23), .int (nI a), .int (nI b), .long h]) (n := 5) (Nat.le_of_ble_eq_true rfl)
  refine W.eq (g2 := entryFrame m ([.ref (ad 23), .int (nI a), .int (nI b), .long h] : List Value).toArray 5) (by rw [ha]) ?_
  rw [lg_entry_eq]
  generalize (lg_sl ([.ref (ad 23), .int (nI a), .int (nI b), .long h]) ++ List.replicate (5 - (lg_sl ([.ref (ad 23), .int (nI a), .int (nI b), .long h])).length) Slot.unset).toArray = ls at hl ⊢
  have hl : lv_has ls 5 [(0, .ref (ad 23)), (1, .int (nI a)), (2, .int (nI b)), (3, .long h)] := hl
  refine lv_aload_n hx hb dX0_addNear_0 rfl (lv_at hl 0 rfl) ?_
  refine va_get (D := D) (ci := 0) (v := .int (nI li.2.2.2.2.2.2.2.2.2)) (C := RX0) (T := TX0) (N := 11) hx hb hts (inT inX0) hown hK hP 23 rfl rfl 10 (by decide) (hts (.fieldLink RX0 41 "BoardMoves$Limits" "nears" "I") (by decide +kernel)) (fun _ h9 => h9) rfl dX0_addNear_1 ?_
  refine lv_bipush (v := nI 20) hx hb dX0_addNear_4 (by decide) ?_
  refine bm_ni_lt (x := li.2.2.2.2.2.2.2.2.2) (y := 20) (tgt := 11) hx hb (by omega) (by omega) dX0_addNear_6 (by decide) (fun c_1 => ?_) (fun c_1 => ?_)
  · refine lv_aload_n hx hb dX0_addNear_11 rfl (lv_at hl 0 rfl) ?_
    refine va_get (D := D) (ci := 0) (v := .ref (ad 29)) (C := RX0) (T := TX0) (N := 11) hx hb hts (inT inX0) hown hK hP 23 rfl rfl 6 (by decide) (hts (.fieldLink RX0 27 "BoardMoves$Limits" "one" "[I") (by decide +kernel)) (fun _ h9 => h9) rfl dX0_addNear_12 ?_
    refine lv_aload_n hx hb dX0_addNear_15 rfl (lv_at hl 0 rfl) ?_
    refine va_get (D := D) (ci := 0) (v := .int (nI li.2.2.2.2.2.2.2.2.2)) (C := RX0) (T := TX0) (N := 11) hx hb hts (inT inX0) hown hK hP 23 rfl rfl 10 (by decide) (hts (.fieldLink RX0 41 "BoardMoves$Limits" "nears" "I") (by decide +kernel)) (fun _ h9 => h9) rfl dX0_addNear_16 ?_
    refine lv_iload_n hx hb dX0_addNear_19 rfl (lv_at hl 1 rfl) ?_
    refine bm_nast (f := li.2.2.2.2.2.1) hx hb hK hP hD hS 29 1 rfl rfl (j := li.2.2.2.2.2.2.2.2.2) (x := a) (by omega) (by decide) dX0_addNear_20 (fun H locs hP hD hS => ?_)
    have hP : va_P D vwCl (Wd ad cJ cI cZ bm pa p0 p1 p2 (li.1, li.2.1, li.2.2.1, li.2.2.2.1, li.2.2.2.2.1, va_up li.2.2.2.2.2.1 li.2.2.2.2.2.2.2.2.2 a, li.2.2.2.2.2.2.1, li.2.2.2.2.2.2.2.1, li.2.2.2.2.2.2.2.2.1, li.2.2.2.2.2.2.2.2.2) wi) H := hP
    have hD : va_D A (Wd ad cJ cI cZ bm pa p0 p1 p2 (li.1, li.2.1, li.2.2.1, li.2.2.2.1, li.2.2.2.2.1, va_up li.2.2.2.2.2.1 li.2.2.2.2.2.2.2.2.2 a, li.2.2.2.2.2.2.1, li.2.2.2.2.2.2.2.1, li.2.2.2.2.2.2.2.2.1, li.2.2.2.2.2.2.2.2.2) wi) := hD
    refine lv_aload_n hx hb dX0_addNear_21 rfl (lv_at hl 0 rfl) ?_
    refine va_get (D := D) (ci := 0) (v := .ref (ad 30)) (C := RX0) (T := TX0) (N := 11) hx hb hts (inT inX0) hown hK hP 23 rfl rfl 7 (by decide) (hts (.fieldLink RX0 31 "BoardMoves$Limits" "other" "[I") (by decide +kernel)) (fun _ h9 => h9) rfl dX0_addNear_22 ?_
    refine lv_aload_n hx hb dX0_addNear_25 rfl (lv_at hl 0 rfl) ?_
    refine va_get (D := D) (ci := 0) (v := .int (nI li.2.2.2.2.2.2.2.2.2)) (C := RX0) (T := TX0) (N := 11) hx hb hts (inT inX0) hown hK hP 23 rfl rfl 10 (by decide) (hts (.fieldLink RX0 41 "BoardMoves$Limits" "nears" "I") (by decide +kernel)) (fun _ h9 => h9) rfl dX0_addNear_26 ?_
    refine lv_iload_n hx hb dX0_addNear_29 rfl (lv_at hl 2 rfl) ?_
    refine bm_nast (f := li.2.2.2.2.2.2.1) hx hb hK hP hD hS 30 1 rfl rfl (j := li.2.2.2.2.2.2.2.2.2) (x := b) (by omega) (by decide) dX0_addNear_30 (fun H locs hP hD hS => ?_)
    have hP : va_P D vwCl (Wd ad cJ cI cZ bm pa p0 p1 p2 (li.1, li.2.1, li.2.2.1, li.2.2.2.1, li.2.2.2.2.1, va_up li.2.2.2.2.2.1 li.2.2.2.2.2.2.2.2.2 a, va_up li.2.2.2.2.2.2.1 li.2.2.2.2.2.2.2.2.2 b, li.2.2.2.2.2.2.2.1, li.2.2.2.2.2.2.2.2.1, li.2.2.2.2.2.2.2.2.2) wi) H := hP
    have hD : va_D A (Wd ad cJ cI cZ bm pa p0 p1 p2 (li.1, li.2.1, li.2.2.1, li.2.2.2.1, li.2.2.2.2.1, va_up li.2.2.2.2.2.1 li.2.2.2.2.2.2.2.2.2 a, va_up li.2.2.2.2.2.2.1 li.2.2.2.2.2.2.2.2.2 b, li.2.2.2.2.2.2.2.1, li.2.2.2.2.2.2.2.2.1, li.2.2.2.2.2.2.2.2.2) wi) := hD
    refine lv_aload_n hx hb dX0_addNear_31 rfl (lv_at hl 0 rfl) ?_
    refine va_get (D := D) (ci := 0) (v := .ref (ad 31)) (C := RX0) (T := TX0) (N := 11) hx hb hts (inT inX0) hown hK hP 23 rfl rfl 8 (by decide) (hts (.fieldLink RX0 34 "BoardMoves$Limits" "most" "[J") (by decide +kernel)) (fun _ h9 => h9) rfl dX0_addNear_32 ?_
    refine lv_aload_n hx hb dX0_addNear_35 rfl (lv_at hl 0 rfl) ?_
    refine va_get (D := D) (ci := 0) (v := .int (nI li.2.2.2.2.2.2.2.2.2)) (C := RX0) (T := TX0) (N := 11) hx hb hts (inT inX0) hown hK hP 23 rfl rfl 10 (by decide) (hts (.fieldLink RX0 41 "BoardMoves$Limits" "nears" "I") (by decide +kernel)) (fun _ h9 => h9) rfl dX0_addNear_36 ?_
    refine lv_lload_n hx hb dX0_addNear_39 rfl (lv_at hl 3 rfl) ?_
    refine bm_last (f := li.2.2.2.2.2.2.2.1) hx hb hK hP hD hS 31 0 rfl rfl (j := li.2.2.2.2.2.2.2.2.2) (x := h) (by omega) (by decide) dX0_addNear_40 (fun H locs hP hD hS => ?_)
    have hP : va_P D vwCl (Wd ad cJ cI cZ bm pa p0 p1 p2 (li.1, li.2.1, li.2.2.1, li.2.2.2.1, li.2.2.2.2.1, va_up li.2.2.2.2.2.1 li.2.2.2.2.2.2.2.2.2 a, va_up li.2.2.2.2.2.2.1 li.2.2.2.2.2.2.2.2.2 b, va_up li.2.2.2.2.2.2.2.1 li.2.2.2.2.2.2.2.2.2 h, li.2.2.2.2.2.2.2.2.1, li.2.2.2.2.2.2.2.2.2) wi) H := hP
    have hD : va_D A (Wd ad cJ cI cZ bm pa p0 p1 p2 (li.1, li.2.1, li.2.2.1, li.2.2.2.1, li.2.2.2.2.1, va_up li.2.2.2.2.2.1 li.2.2.2.2.2.2.2.2.2 a, va_up li.2.2.2.2.2.2.1 li.2.2.2.2.2.2.2.2.2 b, va_up li.2.2.2.2.2.2.2.1 li.2.2.2.2.2.2.2.2.2 h, li.2.2.2.2.2.2.2.2.1, li.2.2.2.2.2.2.2.2.2) wi) := hD
    refine lv_aload_n hx hb dX0_addNear_41 rfl (lv_at hl 0 rfl) ?_
    refine lv_dup hx hb dX0_addNear_42 rfl ?_
    refine va_get (D := D) (ci := 0) (v := .int (nI li.2.2.2.2.2.2.2.2.2)) (C := RX0) (T := TX0) (N := 11) hx hb hts (inT inX0) hown hK hP 23 rfl rfl 10 (by decide) (hts (.fieldLink RX0 41 "BoardMoves$Limits" "nears" "I") (by decide +kernel)) (fun _ h9 => h9) rfl dX0_addNear_43 ?_
    refine lv_iconst (v := nI 1) hx hb dX0_addNear_46 (by decide) ?_
    refine bm_nadd hx hb dX0_addNear_47 ?_
    refine va_put (D := D) (ci := 0) (v := .int (nI (li.2.2.2.2.2.2.2.2.2 + 1))) (ty := .int) (C := RX0) (T := TX0) (N := 11) hx hb hts (inT inX0) tyX0 tyX0_ok nmX0 hown hK hP hD hS 23 rfl rfl 10 (by decide) (hts (.fieldLink RX0 41 "BoardMoves$Limits" "nears" "I") (by decide +kernel)) (fun _ h9 => h9) rfl (by decide +kernel) rfl rfl (Nat.le_of_ble_eq_true rfl) dX0_addNear_48 (fun H locs hP hD hS => ?_)
    have hP : va_P D vwCl (Wd ad cJ cI cZ bm pa p0 p1 p2 (li.1, li.2.1, li.2.2.1, li.2.2.2.1, li.2.2.2.2.1, va_up li.2.2.2.2.2.1 li.2.2.2.2.2.2.2.2.2 a, va_up li.2.2.2.2.2.2.1 li.2.2.2.2.2.2.2.2.2 b, va_up li.2.2.2.2.2.2.2.1 li.2.2.2.2.2.2.2.2.2 h, li.2.2.2.2.2.2.2.2.1, li.2.2.2.2.2.2.2.2.2 + 1) wi) H := hP
    have hD : va_D A (Wd ad cJ cI cZ bm pa p0 p1 p2 (li.1, li.2.1, li.2.2.1, li.2.2.2.1, li.2.2.2.2.1, va_up li.2.2.2.2.2.1 li.2.2.2.2.2.2.2.2.2 a, va_up li.2.2.2.2.2.2.1 li.2.2.2.2.2.2.2.2.2 b, va_up li.2.2.2.2.2.2.2.1 li.2.2.2.2.2.2.2.2.2 h, li.2.2.2.2.2.2.2.2.1, li.2.2.2.2.2.2.2.2.2 + 1) wi) := hD
    refine lv_iconst (v := bm_b true) hx hb dX0_addNear_51 (by decide) ?_
    exact bm_zretW (v := true) hx hb hr hP hD hK hS ⟨by simp [c_1], by simp [c_1]⟩ dX0_addNear_52 hlocks
  · refine lv_iconst (v := bm_b false) hx hb dX0_addNear_9 (by decide) ?_
    exact bm_zretW (v := false) hx hb hr hP hD hK hS ⟨by simp [c_1], by simp [c_1]⟩ dX0_addNear_10 hlocks
end
section
set_option maxHeartbeats 4000000 in
set_option maxRecDepth 100000 in
theorem w_addNet {l : Launch} {D : va_G} {ad : Nat → Nat} {cJ cI cZ : ClassId} {bm : gBM} {pa : gPA} {p0 p1 p2 : gPL} {li : gLI} {wi : gWI} (hoW : q_okW wi) : bm_Wr l yX3_addNet wsX3_addNet ({ frames := 0, cells := 0, slots := 0, locals := 0 }) D vwCl [(cJ, .long), (cI, .int), (cZ, .boolean)] (Wd ad cJ cI cZ bm pa p0 p1 p2 li wi) [.ref (ad 32)] (Wd ad cJ cI cZ bm pa p0 p1 p2 li (if wi.2.2.2.2.2.2.2.2.2.1 < 40 then (wi.1, wi.2.1, wi.2.2.1, wi.2.2.2.1, wi.2.2.2.2.1, wi.2.2.2.2.2.1, wi.2.2.2.2.2.2.1, wi.2.2.2.2.2.2.2.1, wi.2.2.2.2.2.2.2.2.1, wi.2.2.2.2.2.2.2.2.2.1 + 1, wi.2.2.2.2.2.2.2.2.2.2) else wi)) (some (.int (if wi.2.2.2.2.2.2.2.2.2.1 < 40 then nI wi.2.2.2.2.2.2.2.2.2.1 else -1))) := by
  obtain ⟨hwn, hwp, hnn, hpn⟩ := hoW
  intro sz
  refine Met.ofW (cc := cX3_addNet) (maxL := 1) (ret := (some .int)) (by decide) rfl ?_
  intro p e s m args below meth c s₁ B hml hv
  obtain ⟨ha, hsz, hP, hK, hD0⟩ := hv
  have hx := B.exec
  have hb := B.bytes
  have hr := B.returns
  have hts := atoms_spec (ws := wsX3_addNet) B.pre
  have hown : s.vm.findClass RX3 = some m.cls := findClass_of_methodNamed B.named
  have hlocks := B.notSynchronized
  subst hsz
  have hD := hD0.self (sz := s.heap.size)
  generalize hAe : va_A (Wd ad cJ cI cZ bm pa p0 p1 p2 li wi) s.heap.size = A at hD ⊢
  have hA : ∀ q : Nat, s.heap.size ≤ q → A q := fun q h => by rw [← hAe]; exact Or.inr h
  have hS : va_S A s.heap s.heap [] := va_S.rf
  have hl := lv_entry ([.ref (ad 32)]) (n := 1) (Nat.le_of_ble_eq_true rfl)
  refine W.eq (g2 := entryFrame m ([.ref (ad 32)] : List Value).toArray 1) (by rw [ha]) ?_
  rw [lg_entry_eq]
  generalize (lg_sl ([.ref (ad 32)]) ++ List.replicate (1 - (lg_sl ([.ref (ad 32)])).length) Slot.unset).toArray = ls at hl ⊢
  have hl : lv_has ls 1 [(0, .ref (ad 32))] := hl
  refine lv_aload_n hx hb dX3_addNet_0 rfl (lv_at hl 0 rfl) ?_
  refine va_get (D := D) (ci := 3) (v := .int (nI wi.2.2.2.2.2.2.2.2.2.1)) (C := RX3) (T := TX3) (N := 12) hx hb hts (inT inX3) hown hK hP 32 rfl rfl 10 (by decide) (hts (.fieldLink RX3 41 "BoardMoves$Wiring" "nets" "I") (by decide +kernel)) (fun _ h9 => h9) rfl dX3_addNet_1 ?_
  refine lv_bipush (v := nI 40) hx hb dX3_addNet_4 (by decide) ?_
  refine bm_ni_lt (x := wi.2.2.2.2.2.2.2.2.2.1) (y := 40) (tgt := 11) hx hb (by omega) (by omega) dX3_addNet_6 (by decide) (fun c_1 => ?_) (fun c_1 => ?_)
  · refine lv_aload_n hx hb dX3_addNet_11 rfl (lv_at hl 0 rfl) ?_
    refine lv_dup hx hb dX3_addNet_12 rfl ?_
    refine va_get (D := D) (ci := 3) (v := .int (nI wi.2.2.2.2.2.2.2.2.2.1)) (C := RX3) (T := TX3) (N := 12) hx hb hts (inT inX3) hown hK hP 32 rfl rfl 10 (by decide) (hts (.fieldLink RX3 41 "BoardMoves$Wiring" "nets" "I") (by decide +kernel)) (fun _ h9 => h9) rfl dX3_addNet_13 ?_
    refine lv_iconst (v := nI 1) hx hb dX3_addNet_16 (by decide) ?_
    refine bm_nadd hx hb dX3_addNet_17 ?_
    refine va_put (D := D) (ci := 3) (v := .int (nI (wi.2.2.2.2.2.2.2.2.2.1 + 1))) (ty := .int) (C := RX3) (T := TX3) (N := 12) hx hb hts (inT inX3) tyX3 tyX3_ok nmX3 hown hK hP hD hS 32 rfl rfl 10 (by decide) (hts (.fieldLink RX3 41 "BoardMoves$Wiring" "nets" "I") (by decide +kernel)) (fun _ h9 => h9) rfl (by decide +kernel) rfl rfl (Nat.le_of_ble_eq_true rfl) dX3_addNet_18 (fun H locs hP hD hS => ?_)
    have hP : va_P D vwCl (Wd ad cJ cI cZ bm pa p0 p1 p2 li (wi.1, wi.2.1, wi.2.2.1, wi.2.2.2.1, wi.2.2.2.2.1, wi.2.2.2.2.2.1, wi.2.2.2.2.2.2.1, wi.2.2.2.2.2.2.2.1, wi.2.2.2.2.2.2.2.2.1, wi.2.2.2.2.2.2.2.2.2.1 + 1, wi.2.2.2.2.2.2.2.2.2.2)) H := hP
    have hD : va_D A (Wd ad cJ cI cZ bm pa p0 p1 p2 li (wi.1, wi.2.1, wi.2.2.1, wi.2.2.2.1, wi.2.2.2.2.1, wi.2.2.2.2.2.1, wi.2.2.2.2.2.2.1, wi.2.2.2.2.2.2.2.1, wi.2.2.2.2.2.2.2.2.1, wi.2.2.2.2.2.2.2.2.2.1 + 1, wi.2.2.2.2.2.2.2.2.2.2)) := hD
    refine lv_aload_n hx hb dX3_addNet_21 rfl (lv_at hl 0 rfl) ?_
    refine va_get (D := D) (ci := 3) (v := .int (nI (wi.2.2.2.2.2.2.2.2.2.1 + 1))) (C := RX3) (T := TX3) (N := 12) hx hb hts (inT inX3) hown hK hP 32 rfl rfl 10 (by decide) (hts (.fieldLink RX3 41 "BoardMoves$Wiring" "nets" "I") (by decide +kernel)) (fun _ h9 => h9) rfl dX3_addNet_22 ?_
    refine lv_iconst (v := nI 1) hx hb dX3_addNet_25 (by decide) ?_
    refine bm_nsub hx hb (by omega) dX3_addNet_26 ?_
    exact bm_iretW (v := (nI ((wi.2.2.2.2.2.2.2.2.2.1 + 1) - 1))) hx hb hr hP hD hK hS ⟨by simp [c_1], by simp [c_1]⟩ dX3_addNet_27 hlocks
  · refine lv_iconst (v := -1) hx hb dX3_addNet_9 (by decide) ?_
    exact bm_iretW (v := (-1)) hx hb hr hP hD hK hS ⟨by simp [c_1], by simp [c_1]⟩ dX3_addNet_10 hlocks
end
section
set_option maxHeartbeats 4000000 in
set_option maxRecDepth 100000 in
theorem w_addPin {l : Launch} {D : va_G} {ad : Nat → Nat} {cJ cI cZ : ClassId} {bm : gBM} {pa : gPA} {p0 p1 p2 : gPL} {li : gLI} {wi : gWI} (hoW : q_okW wi) {a b : Nat} {x y : Int64} : bm_Wr l yX3_addPin wsX3_addPin ({ frames := 0, cells := 0, slots := 0, locals := 0 }) D vwCl [(cJ, .long), (cI, .int), (cZ, .boolean)] (Wd ad cJ cI cZ bm pa p0 p1 p2 li wi) [.ref (ad 32), .int (nI a), .int (nI b), .long x, .long y] (Wd ad cJ cI cZ bm pa p0 p1 p2 li (if wi.2.2.2.2.2.2.2.2.2.2 < 120 then (va_up wi.1 wi.2.2.2.2.2.2.2.2.2.2 a, va_up wi.2.1 wi.2.2.2.2.2.2.2.2.2.2 b, va_up wi.2.2.1 wi.2.2.2.2.2.2.2.2.2.2 x, va_up wi.2.2.2.1 wi.2.2.2.2.2.2.2.2.2.2 y, wi.2.2.2.2.1, wi.2.2.2.2.2.1, wi.2.2.2.2.2.2.1, wi.2.2.2.2.2.2.2.1, wi.2.2.2.2.2.2.2.2.1, wi.2.2.2.2.2.2.2.2.2.1, wi.2.2.2.2.2.2.2.2.2.2 + 1) else wi)) (some (.int (bm_b (decide (wi.2.2.2.2.2.2.2.2.2.2 < 120))))) := by
  obtain ⟨hwn, hwp, hnn, hpn⟩ := hoW
  intro sz
  refine Met.ofW (cc := cX3_addPin) (maxL := 7) (ret := (some .boolean)) (by decide) rfl ?_
  intro p e s m args below meth c s₁ B hml hv
  obtain ⟨ha, hsz, hP, hK, hD0⟩ := hv
  have hx := B.exec
  have hb := B.bytes
  have hr := B.returns
  have hts := atoms_spec (ws := wsX3_addPin) B.pre
  have hown : s.vm.findClass RX3 = some m.cls := findClass_of_methodNamed B.named
  have hlocks := B.notSynchronized
  subst hsz
  have hD := hD0.self (sz := s.heap.size)
  generalize hAe : va_A (Wd ad cJ cI cZ bm pa p0 p1 p2 li wi) s.heap.size = A at hD ⊢
  have hA : ∀ q : Nat, s.heap.size ≤ q → A q := fun q h => by rw [← hAe]; exact Or.inr h
  have hS : va_S A s.heap s.heap [] := va_S.rf
  have hl := lv_entry ([.ref (ad 32), .int (nI a), .int (nI b), .long x, .long y]) (n := 7) (Nat.le_of_ble_eq_true rfl)
  refine W.eq (g2 := entryFrame m ([.ref (ad 32), .int (nI a), .int (nI b), .long x, .long y] : List Value).toArray 7) (by rw [ha]) ?_
  rw [lg_entry_eq]
  generalize (lg_sl ([.ref (ad 32), .int (nI a), .int (nI b), .long x, .long y]) ++ List.replicate (7 - (lg_sl ([.ref (ad 32), .int (nI a), .int (nI b), .long x, .long y])).length) Slot.unset).toArray = ls at hl ⊢
  have hl : lv_has ls 7 [(0, .ref (ad 32)), (1, .int (nI a)), (2, .int (nI b)), (3, .long x), (5, .long y)] := hl
  refine lv_aload_n hx hb dX3_addPin_0 rfl (lv_at hl 0 rfl) ?_
  refine va_get (D := D) (ci := 3) (v := .int (nI wi.2.2.2.2.2.2.2.2.2.2)) (C := RX3) (T := TX3) (N := 12) hx hb hts (inT inX3) hown hK hP 32 rfl rfl 11 (by decide) (hts (.fieldLink RX3 45 "BoardMoves$Wiring" "pins" "I") (by decide +kernel)) (fun _ h9 => h9) rfl dX3_addPin_1 ?_
  refine lv_bipush (v := nI 120) hx hb dX3_addPin_4 (by decide) ?_
  refine bm_ni_lt (x := wi.2.2.2.2.2.2.2.2.2.2) (y := 120) (tgt := 11) hx hb (by omega) (by omega) dX3_addPin_6 (by decide) (fun c_1 => ?_) (fun c_1 => ?_)
  · refine lv_aload_n hx hb dX3_addPin_11 rfl (lv_at hl 0 rfl) ?_
    refine va_get (D := D) (ci := 3) (v := .ref (ad 33)) (C := RX3) (T := TX3) (N := 12) hx hb hts (inT inX3) hown hK hP 32 rfl rfl 1 (by decide) (hts (.fieldLink RX3 9 "BoardMoves$Wiring" "netOf" "[I") (by decide +kernel)) (fun _ h9 => h9) rfl dX3_addPin_12 ?_
    refine lv_aload_n hx hb dX3_addPin_15 rfl (lv_at hl 0 rfl) ?_
    refine va_get (D := D) (ci := 3) (v := .int (nI wi.2.2.2.2.2.2.2.2.2.2)) (C := RX3) (T := TX3) (N := 12) hx hb hts (inT inX3) hown hK hP 32 rfl rfl 11 (by decide) (hts (.fieldLink RX3 45 "BoardMoves$Wiring" "pins" "I") (by decide +kernel)) (fun _ h9 => h9) rfl dX3_addPin_16 ?_
    refine lv_iload_n hx hb dX3_addPin_19 rfl (lv_at hl 1 rfl) ?_
    refine bm_nast (f := wi.1) hx hb hK hP hD hS 33 1 rfl rfl (j := wi.2.2.2.2.2.2.2.2.2.2) (x := a) (by omega) (by decide) dX3_addPin_20 (fun H locs hP hD hS => ?_)
    have hP : va_P D vwCl (Wd ad cJ cI cZ bm pa p0 p1 p2 li (va_up wi.1 wi.2.2.2.2.2.2.2.2.2.2 a, wi.2.1, wi.2.2.1, wi.2.2.2.1, wi.2.2.2.2.1, wi.2.2.2.2.2.1, wi.2.2.2.2.2.2.1, wi.2.2.2.2.2.2.2.1, wi.2.2.2.2.2.2.2.2.1, wi.2.2.2.2.2.2.2.2.2.1, wi.2.2.2.2.2.2.2.2.2.2)) H := hP
    have hD : va_D A (Wd ad cJ cI cZ bm pa p0 p1 p2 li (va_up wi.1 wi.2.2.2.2.2.2.2.2.2.2 a, wi.2.1, wi.2.2.1, wi.2.2.2.1, wi.2.2.2.2.1, wi.2.2.2.2.2.1, wi.2.2.2.2.2.2.1, wi.2.2.2.2.2.2.2.1, wi.2.2.2.2.2.2.2.2.1, wi.2.2.2.2.2.2.2.2.2.1, wi.2.2.2.2.2.2.2.2.2.2)) := hD
    refine lv_aload_n hx hb dX3_addPin_21 rfl (lv_at hl 0 rfl) ?_
    refine va_get (D := D) (ci := 3) (v := .ref (ad 34)) (C := RX3) (T := TX3) (N := 12) hx hb hts (inT inX3) hown hK hP 32 rfl rfl 2 (by decide) (hts (.fieldLink RX3 15 "BoardMoves$Wiring" "partOf" "[I") (by decide +kernel)) (fun _ h9 => h9) rfl dX3_addPin_22 ?_
    refine lv_aload_n hx hb dX3_addPin_25 rfl (lv_at hl 0 rfl) ?_
    refine va_get (D := D) (ci := 3) (v := .int (nI wi.2.2.2.2.2.2.2.2.2.2)) (C := RX3) (T := TX3) (N := 12) hx hb hts (inT inX3) hown hK hP 32 rfl rfl 11 (by decide) (hts (.fieldLink RX3 45 "BoardMoves$Wiring" "pins" "I") (by decide +kernel)) (fun _ h9 => h9) rfl dX3_addPin_26 ?_
    refine lv_iload_n hx hb dX3_addPin_29 rfl (lv_at hl 2 rfl) ?_
    refine bm_nast (f := wi.2.1) hx hb hK hP hD hS 34 1 rfl rfl (j := wi.2.2.2.2.2.2.2.2.2.2) (x := b) (by omega) (by decide) dX3_addPin_30 (fun H locs hP hD hS => ?_)
    have hP : va_P D vwCl (Wd ad cJ cI cZ bm pa p0 p1 p2 li (va_up wi.1 wi.2.2.2.2.2.2.2.2.2.2 a, va_up wi.2.1 wi.2.2.2.2.2.2.2.2.2.2 b, wi.2.2.1, wi.2.2.2.1, wi.2.2.2.2.1, wi.2.2.2.2.2.1, wi.2.2.2.2.2.2.1, wi.2.2.2.2.2.2.2.1, wi.2.2.2.2.2.2.2.2.1, wi.2.2.2.2.2.2.2.2.2.1, wi.2.2.2.2.2.2.2.2.2.2)) H := hP
    have hD : va_D A (Wd ad cJ cI cZ bm pa p0 p1 p2 li (va_up wi.1 wi.2.2.2.2.2.2.2.2.2.2 a, va_up wi.2.1 wi.2.2.2.2.2.2.2.2.2.2 b, wi.2.2.1, wi.2.2.2.1, wi.2.2.2.2.1, wi.2.2.2.2.2.1, wi.2.2.2.2.2.2.1, wi.2.2.2.2.2.2.2.1, wi.2.2.2.2.2.2.2.2.1, wi.2.2.2.2.2.2.2.2.2.1, wi.2.2.2.2.2.2.2.2.2.2)) := hD
    refine lv_aload_n hx hb dX3_addPin_31 rfl (lv_at hl 0 rfl) ?_
    refine va_get (D := D) (ci := 3) (v := .ref (ad 35)) (C := RX3) (T := TX3) (N := 12) hx hb hts (inT inX3) hown hK hP 32 rfl rfl 3 (by decide) (hts (.fieldLink RX3 18 "BoardMoves$Wiring" "dx" "[J") (by decide +kernel)) (fun _ h9 => h9) rfl dX3_addPin_32 ?_
    refine lv_aload_n hx hb dX3_addPin_35 rfl (lv_at hl 0 rfl) ?_
    refine va_get (D := D) (ci := 3) (v := .int (nI wi.2.2.2.2.2.2.2.2.2.2)) (C := RX3) (T := TX3) (N := 12) hx hb hts (inT inX3) hown hK hP 32 rfl rfl 11 (by decide) (hts (.fieldLink RX3 45 "BoardMoves$Wiring" "pins" "I") (by decide +kernel)) (fun _ h9 => h9) rfl dX3_addPin_36 ?_
    refine lv_lload_n hx hb dX3_addPin_39 rfl (lv_at hl 3 rfl) ?_
    refine bm_last (f := wi.2.2.1) hx hb hK hP hD hS 35 0 rfl rfl (j := wi.2.2.2.2.2.2.2.2.2.2) (x := x) (by omega) (by decide) dX3_addPin_40 (fun H locs hP hD hS => ?_)
    have hP : va_P D vwCl (Wd ad cJ cI cZ bm pa p0 p1 p2 li (va_up wi.1 wi.2.2.2.2.2.2.2.2.2.2 a, va_up wi.2.1 wi.2.2.2.2.2.2.2.2.2.2 b, va_up wi.2.2.1 wi.2.2.2.2.2.2.2.2.2.2 x, wi.2.2.2.1, wi.2.2.2.2.1, wi.2.2.2.2.2.1, wi.2.2.2.2.2.2.1, wi.2.2.2.2.2.2.2.1, wi.2.2.2.2.2.2.2.2.1, wi.2.2.2.2.2.2.2.2.2.1, wi.2.2.2.2.2.2.2.2.2.2)) H := hP
    have hD : va_D A (Wd ad cJ cI cZ bm pa p0 p1 p2 li (va_up wi.1 wi.2.2.2.2.2.2.2.2.2.2 a, va_up wi.2.1 wi.2.2.2.2.2.2.2.2.2.2 b, va_up wi.2.2.1 wi.2.2.2.2.2.2.2.2.2.2 x, wi.2.2.2.1, wi.2.2.2.2.1, wi.2.2.2.2.2.1, wi.2.2.2.2.2.2.1, wi.2.2.2.2.2.2.2.1, wi.2.2.2.2.2.2.2.2.1, wi.2.2.2.2.2.2.2.2.2.1, wi.2.2.2.2.2.2.2.2.2.2)) := hD
    refine lv_aload_n hx hb dX3_addPin_41 rfl (lv_at hl 0 rfl) ?_
    refine va_get (D := D) (ci := 3) (v := .ref (ad 36)) (C := RX3) (T := TX3) (N := 12) hx hb hts (inT inX3) hown hK hP 32 rfl rfl 4 (by decide) (hts (.fieldLink RX3 22 "BoardMoves$Wiring" "dy" "[J") (by decide +kernel)) (fun _ h9 => h9) rfl dX3_addPin_42 ?_
    refine lv_aload_n hx hb dX3_addPin_45 rfl (lv_at hl 0 rfl) ?_
    refine va_get (D := D) (ci := 3) (v := .int (nI wi.2.2.2.2.2.2.2.2.2.2)) (C := RX3) (T := TX3) (N := 12) hx hb hts (inT inX3) hown hK hP 32 rfl rfl 11 (by decide) (hts (.fieldLink RX3 45 "BoardMoves$Wiring" "pins" "I") (by decide +kernel)) (fun _ h9 => h9) rfl dX3_addPin_46 ?_
    refine lv_lload hx hb dX3_addPin_49 (lv_at hl 4 rfl) ?_
    refine bm_last (f := wi.2.2.2.1) hx hb hK hP hD hS 36 0 rfl rfl (j := wi.2.2.2.2.2.2.2.2.2.2) (x := y) (by omega) (by decide) dX3_addPin_51 (fun H locs hP hD hS => ?_)
    have hP : va_P D vwCl (Wd ad cJ cI cZ bm pa p0 p1 p2 li (va_up wi.1 wi.2.2.2.2.2.2.2.2.2.2 a, va_up wi.2.1 wi.2.2.2.2.2.2.2.2.2.2 b, va_up wi.2.2.1 wi.2.2.2.2.2.2.2.2.2.2 x, va_up wi.2.2.2.1 wi.2.2.2.2.2.2.2.2.2.2 y, wi.2.2.2.2.1, wi.2.2.2.2.2.1, wi.2.2.2.2.2.2.1, wi.2.2.2.2.2.2.2.1, wi.2.2.2.2.2.2.2.2.1, wi.2.2.2.2.2.2.2.2.2.1, wi.2.2.2.2.2.2.2.2.2.2)) H := hP
    have hD : va_D A (Wd ad cJ cI cZ bm pa p0 p1 p2 li (va_up wi.1 wi.2.2.2.2.2.2.2.2.2.2 a, va_up wi.2.1 wi.2.2.2.2.2.2.2.2.2.2 b, va_up wi.2.2.1 wi.2.2.2.2.2.2.2.2.2.2 x, va_up wi.2.2.2.1 wi.2.2.2.2.2.2.2.2.2.2 y, wi.2.2.2.2.1, wi.2.2.2.2.2.1, wi.2.2.2.2.2.2.1, wi.2.2.2.2.2.2.2.1, wi.2.2.2.2.2.2.2.2.1, wi.2.2.2.2.2.2.2.2.2.1, wi.2.2.2.2.2.2.2.2.2.2)) := hD
    refine lv_aload_n hx hb dX3_addPin_52 rfl (lv_at hl 0 rfl) ?_
    refine lv_dup hx hb dX3_addPin_53 rfl ?_
    refine va_get (D := D) (ci := 3) (v := .int (nI wi.2.2.2.2.2.2.2.2.2.2)) (C := RX3) (T := TX3) (N := 12) hx hb hts (inT inX3) hown hK hP 32 rfl rfl 11 (by decide) (hts (.fieldLink RX3 45 "BoardMoves$Wiring" "pins" "I") (by decide +kernel)) (fun _ h9 => h9) rfl dX3_addPin_54 ?_
    refine lv_iconst (v := nI 1) hx hb dX3_addPin_57 (by decide) ?_
    refine bm_nadd hx hb dX3_addPin_58 ?_
    refine va_put (D := D) (ci := 3) (v := .int (nI (wi.2.2.2.2.2.2.2.2.2.2 + 1))) (ty := .int) (C := RX3) (T := TX3) (N := 12) hx hb hts (inT inX3) tyX3 tyX3_ok nmX3 hown hK hP hD hS 32 rfl rfl 11 (by decide) (hts (.fieldLink RX3 45 "BoardMoves$Wiring" "pins" "I") (by decide +kernel)) (fun _ h9 => h9) rfl (by decide +kernel) rfl rfl (Nat.le_of_ble_eq_true rfl) dX3_addPin_59 (fun H locs hP hD hS => ?_)
    have hP : va_P D vwCl (Wd ad cJ cI cZ bm pa p0 p1 p2 li (va_up wi.1 wi.2.2.2.2.2.2.2.2.2.2 a, va_up wi.2.1 wi.2.2.2.2.2.2.2.2.2.2 b, va_up wi.2.2.1 wi.2.2.2.2.2.2.2.2.2.2 x, va_up wi.2.2.2.1 wi.2.2.2.2.2.2.2.2.2.2 y, wi.2.2.2.2.1, wi.2.2.2.2.2.1, wi.2.2.2.2.2.2.1, wi.2.2.2.2.2.2.2.1, wi.2.2.2.2.2.2.2.2.1, wi.2.2.2.2.2.2.2.2.2.1, wi.2.2.2.2.2.2.2.2.2.2 + 1)) H := hP
    have hD : va_D A (Wd ad cJ cI cZ bm pa p0 p1 p2 li (va_up wi.1 wi.2.2.2.2.2.2.2.2.2.2 a, va_up wi.2.1 wi.2.2.2.2.2.2.2.2.2.2 b, va_up wi.2.2.1 wi.2.2.2.2.2.2.2.2.2.2 x, va_up wi.2.2.2.1 wi.2.2.2.2.2.2.2.2.2.2 y, wi.2.2.2.2.1, wi.2.2.2.2.2.1, wi.2.2.2.2.2.2.1, wi.2.2.2.2.2.2.2.1, wi.2.2.2.2.2.2.2.2.1, wi.2.2.2.2.2.2.2.2.2.1, wi.2.2.2.2.2.2.2.2.2.2 + 1)) := hD
    refine lv_iconst (v := bm_b true) hx hb dX3_addPin_62 (by decide) ?_
    exact bm_zretW (v := true) hx hb hr hP hD hK hS ⟨by simp [c_1], by simp [c_1]⟩ dX3_addPin_63 hlocks
  · refine lv_iconst (v := bm_b false) hx hb dX3_addPin_9 (by decide) ?_
    exact bm_zretW (v := false) hx hb hr hP hD hK hS ⟨by simp [c_1], by simp [c_1]⟩ dX3_addPin_10 hlocks
end
section
set_option maxHeartbeats 4000000 in
set_option maxRecDepth 100000 in
theorem r_turnedX {l : Launch} {D : va_G} {ad : Nat → Nat} {cJ cI cZ : ClassId} {bm : gBM} {pa : gPA} {p0 p1 p2 : gPL} {li : gLI} {wi : gWI} {a j t : Nat} (h1 : a < 120) (h2 : j < 40) (h3 : t < 2 ^ 31) : bm_Rd l yX3_turnedX wsX3_turnedX ({ frames := 0, cells := 0, slots := 0, locals := 0 }) D vwCl [(cJ, .long), (cI, .int), (cZ, .boolean)] (Wd ad cJ cI cZ bm pa p0 p1 p2 li wi) [.ref (ad 32), .int (nI a), .int (nI j), .int (nI t)] (.long (q_tx pa wi a j t)) := by
  refine Met.ofW (cc := cX3_turnedX) (maxL := 4) (ret := (some .long)) (by decide) rfl ?_
  intro p e s m args below meth c s₁ B hml hv
  obtain ⟨ha, hP, hK⟩ := hv
  have hx := B.exec
  have hb := B.bytes
  have hr := B.returns
  have hts := atoms_spec (ws := wsX3_turnedX) B.pre
  have hown : s.vm.findClass RX3 = some m.cls := findClass_of_methodNamed B.named
  have hlocks := B.notSynchronized
  have hl := lv_entry ([.ref (ad 32), .int (nI a), .int (nI j), .int (nI t)]) (n := 4) (Nat.le_of_ble_eq_true rfl)
  refine W.eq (g2 := entryFrame m ([.ref (ad 32), .int (nI a), .int (nI j), .int (nI t)] : List Value).toArray 4) (by rw [ha]) ?_
  rw [lg_entry_eq]
  generalize (lg_sl ([.ref (ad 32), .int (nI a), .int (nI j), .int (nI t)]) ++ List.replicate (4 - (lg_sl ([.ref (ad 32), .int (nI a), .int (nI j), .int (nI t)])).length) Slot.unset).toArray = ls at hl ⊢
  have hl : lv_has ls 4 [(0, .ref (ad 32)), (1, .int (nI a)), (2, .int (nI j)), (3, .int (nI t))] := hl
  refine lv_iload_n hx hb dX3_turnedX_0 rfl (lv_at hl 3 rfl) ?_
  by_cases ht1 : t = 1
  · subst ht1
    refine lv_tableIn (off := 27) (tgt := 28) hx hb dX3_turnedX_1 (by decide) (by decide) (by decide) (by decide) ?_
    refine lv_aload_n hx hb dX3_turnedX_28 rfl (lv_at hl 0 rfl) ?_
    refine va_get (D := D) (ci := 3) (v := .ref (ad 1)) (C := RX3) (T := TX3) (N := 12) hx hb hts (inT inX3) hown hK hP 32 rfl rfl 0 (by decide) (hts (.fieldLink RX3 48 "BoardMoves$Wiring" "parts" "LBoardMoves$Parts;") (by decide +kernel)) (fun _ h9 => h9) rfl dX3_turnedX_29 ?_
    refine va_get (D := D) (ci := 1) (v := .ref (ad 3)) (C := RX1) (T := TX1) (N := 7) hx hb hts (inT inX1) hown hK hP 1 rfl rfl 1 (by decide) (hts (.fieldLink RX3 86 "BoardMoves$Parts" "h" "[J") (by decide +kernel)) (fun _ h9 => h9) rfl dX3_turnedX_32 ?_
    refine lv_iload_n hx hb dX3_turnedX_35 rfl (lv_at hl 2 rfl) ?_
    refine bm_lald (f := pa.2.1) hx hb hK hP 3 0 rfl rfl (j := j) (by omega) (by decide) dX3_turnedX_36 ?_
    refine lv_aload_n hx hb dX3_turnedX_37 rfl (lv_at hl 0 rfl) ?_
    refine va_get (D := D) (ci := 3) (v := .ref (ad 36)) (C := RX3) (T := TX3) (N := 12) hx hb hts (inT inX3) hown hK hP 32 rfl rfl 4 (by decide) (hts (.fieldLink RX3 22 "BoardMoves$Wiring" "dy" "[J") (by decide +kernel)) (fun _ h9 => h9) rfl dX3_turnedX_38 ?_
    refine lv_iload_n hx hb dX3_turnedX_41 rfl (lv_at hl 1 rfl) ?_
    refine bm_lald (f := wi.2.2.2.1) hx hb hK hP 36 0 rfl rfl (j := a) (by omega) (by decide) dX3_turnedX_42 ?_
    refine lv_lsub hx hb dX3_turnedX_43 ?_
    exact bm_lretR (v := ((pa.2.1 j) - (wi.2.2.2.1 a))) hx hb hr (by simp [q_tx]) dX3_turnedX_44 hlocks
  · by_cases ht2 : t = 2
    · subst ht2
      refine lv_tableIn (off := 44) (tgt := 45) hx hb dX3_turnedX_1 (by decide) (by decide) (by decide) (by decide) ?_
      refine lv_aload_n hx hb dX3_turnedX_45 rfl (lv_at hl 0 rfl) ?_
      refine va_get (D := D) (ci := 3) (v := .ref (ad 1)) (C := RX3) (T := TX3) (N := 12) hx hb hts (inT inX3) hown hK hP 32 rfl rfl 0 (by decide) (hts (.fieldLink RX3 48 "BoardMoves$Wiring" "parts" "LBoardMoves$Parts;") (by decide +kernel)) (fun _ h9 => h9) rfl dX3_turnedX_46 ?_
      refine va_get (D := D) (ci := 1) (v := .ref (ad 2)) (C := RX1) (T := TX1) (N := 7) hx hb hts (inT inX1) hown hK hP 1 rfl rfl 0 (by decide) (hts (.fieldLink RX3 91 "BoardMoves$Parts" "w" "[J") (by decide +kernel)) (fun _ h9 => h9) rfl dX3_turnedX_49 ?_
      refine lv_iload_n hx hb dX3_turnedX_52 rfl (lv_at hl 2 rfl) ?_
      refine bm_lald (f := pa.1) hx hb hK hP 2 0 rfl rfl (j := j) (by omega) (by decide) dX3_turnedX_53 ?_
      refine lv_aload_n hx hb dX3_turnedX_54 rfl (lv_at hl 0 rfl) ?_
      refine va_get (D := D) (ci := 3) (v := .ref (ad 35)) (C := RX3) (T := TX3) (N := 12) hx hb hts (inT inX3) hown hK hP 32 rfl rfl 3 (by decide) (hts (.fieldLink RX3 18 "BoardMoves$Wiring" "dx" "[J") (by decide +kernel)) (fun _ h9 => h9) rfl dX3_turnedX_55 ?_
      refine lv_iload_n hx hb dX3_turnedX_58 rfl (lv_at hl 1 rfl) ?_
      refine bm_lald (f := wi.2.2.1) hx hb hK hP 35 0 rfl rfl (j := a) (by omega) (by decide) dX3_turnedX_59 ?_
      refine lv_lsub hx hb dX3_turnedX_60 ?_
      exact bm_lretR (v := ((pa.1 j) - (wi.2.2.1 a))) hx hb hr (by simp [q_tx]) dX3_turnedX_61 hlocks
    · by_cases ht3 : t = 3
      · subst ht3
        refine lv_tableIn (off := 61) (tgt := 62) hx hb dX3_turnedX_1 (by decide) (by decide) (by decide) (by decide) ?_
        refine lv_aload_n hx hb dX3_turnedX_62 rfl (lv_at hl 0 rfl) ?_
        refine va_get (D := D) (ci := 3) (v := .ref (ad 36)) (C := RX3) (T := TX3) (N := 12) hx hb hts (inT inX3) hown hK hP 32 rfl rfl 4 (by decide) (hts (.fieldLink RX3 22 "BoardMoves$Wiring" "dy" "[J") (by decide +kernel)) (fun _ h9 => h9) rfl dX3_turnedX_63 ?_
        refine lv_iload_n hx hb dX3_turnedX_66 rfl (lv_at hl 1 rfl) ?_
        refine bm_lald (f := wi.2.2.2.1) hx hb hK hP 36 0 rfl rfl (j := a) (by omega) (by decide) dX3_turnedX_67 ?_
        exact bm_lretR (v := (wi.2.2.2.1 a)) hx hb hr (by simp [q_tx]) dX3_turnedX_68 hlocks
      · refine lv_tableOut (tgt := 69) hx hb dX3_turnedX_1 (by rw [nI_toInt h3]; omega) (by decide) ?_
        refine lv_aload_n hx hb dX3_turnedX_69 rfl (lv_at hl 0 rfl) ?_
        refine va_get (D := D) (ci := 3) (v := .ref (ad 35)) (C := RX3) (T := TX3) (N := 12) hx hb hts (inT inX3) hown hK hP 32 rfl rfl 3 (by decide) (hts (.fieldLink RX3 18 "BoardMoves$Wiring" "dx" "[J") (by decide +kernel)) (fun _ h9 => h9) rfl dX3_turnedX_70 ?_
        refine lv_iload_n hx hb dX3_turnedX_73 rfl (lv_at hl 1 rfl) ?_
        refine bm_lald (f := wi.2.2.1) hx hb hK hP 35 0 rfl rfl (j := a) (by omega) (by decide) dX3_turnedX_74 ?_
        exact bm_lretR (v := (wi.2.2.1 a)) hx hb hr (by simp [q_tx, ht1, ht2, ht3]) dX3_turnedX_75 hlocks
end
section
set_option maxHeartbeats 4000000 in
set_option maxRecDepth 100000 in
theorem r_turnedY {l : Launch} {D : va_G} {ad : Nat → Nat} {cJ cI cZ : ClassId} {bm : gBM} {pa : gPA} {p0 p1 p2 : gPL} {li : gLI} {wi : gWI} {a j t : Nat} (h1 : a < 120) (h2 : j < 40) (h3 : t < 2 ^ 31) : bm_Rd l yX3_turnedY wsX3_turnedY ({ frames := 0, cells := 0, slots := 0, locals := 0 }) D vwCl [(cJ, .long), (cI, .int), (cZ, .boolean)] (Wd ad cJ cI cZ bm pa p0 p1 p2 li wi) [.ref (ad 32), .int (nI a), .int (nI j), .int (nI t)] (.long (q_ty pa wi a j t)) := by
  refine Met.ofW (cc := cX3_turnedY) (maxL := 4) (ret := (some .long)) (by decide) rfl ?_
  intro p e s m args below meth c s₁ B hml hv
  obtain ⟨ha, hP, hK⟩ := hv
  have hx := B.exec
  have hb := B.bytes
  have hr := B.returns
  have hts := atoms_spec (ws := wsX3_turnedY) B.pre
  have hown : s.vm.findClass RX3 = some m.cls := findClass_of_methodNamed B.named
  have hlocks := B.notSynchronized
  have hl := lv_entry ([.ref (ad 32), .int (nI a), .int (nI j), .int (nI t)]) (n := 4) (Nat.le_of_ble_eq_true rfl)
  refine W.eq (g2 := entryFrame m ([.ref (ad 32), .int (nI a), .int (nI j), .int (nI t)] : List Value).toArray 4) (by rw [ha]) ?_
  rw [lg_entry_eq]
  generalize (lg_sl ([.ref (ad 32), .int (nI a), .int (nI j), .int (nI t)]) ++ List.replicate (4 - (lg_sl ([.ref (ad 32), .int (nI a), .int (nI j), .int (nI t)])).length) Slot.unset).toArray = ls at hl ⊢
  have hl : lv_has ls 4 [(0, .ref (ad 32)), (1, .int (nI a)), (2, .int (nI j)), (3, .int (nI t))] := hl
  refine lv_iload_n hx hb dX3_turnedY_0 rfl (lv_at hl 3 rfl) ?_
  by_cases ht1 : t = 1
  · subst ht1
    refine lv_tableIn (off := 27) (tgt := 28) hx hb dX3_turnedY_1 (by decide) (by decide) (by decide) (by decide) ?_
    refine lv_aload_n hx hb dX3_turnedY_28 rfl (lv_at hl 0 rfl) ?_
    refine va_get (D := D) (ci := 3) (v := .ref (ad 35)) (C := RX3) (T := TX3) (N := 12) hx hb hts (inT inX3) hown hK hP 32 rfl rfl 3 (by decide) (hts (.fieldLink RX3 18 "BoardMoves$Wiring" "dx" "[J") (by decide +kernel)) (fun _ h9 => h9) rfl dX3_turnedY_29 ?_
    refine lv_iload_n hx hb dX3_turnedY_32 rfl (lv_at hl 1 rfl) ?_
    refine bm_lald (f := wi.2.2.1) hx hb hK hP 35 0 rfl rfl (j := a) (by omega) (by decide) dX3_turnedY_33 ?_
    exact bm_lretR (v := (wi.2.2.1 a)) hx hb hr (by simp [q_ty]) dX3_turnedY_34 hlocks
  · by_cases ht2 : t = 2
    · subst ht2
      refine lv_tableIn (off := 34) (tgt := 35) hx hb dX3_turnedY_1 (by decide) (by decide) (by decide) (by decide) ?_
      refine lv_aload_n hx hb dX3_turnedY_35 rfl (lv_at hl 0 rfl) ?_
      refine va_get (D := D) (ci := 3) (v := .ref (ad 1)) (C := RX3) (T := TX3) (N := 12) hx hb hts (inT inX3) hown hK hP 32 rfl rfl 0 (by decide) (hts (.fieldLink RX3 48 "BoardMoves$Wiring" "parts" "LBoardMoves$Parts;") (by decide +kernel)) (fun _ h9 => h9) rfl dX3_turnedY_36 ?_
      refine va_get (D := D) (ci := 1) (v := .ref (ad 3)) (C := RX1) (T := TX1) (N := 7) hx hb hts (inT inX1) hown hK hP 1 rfl rfl 1 (by decide) (hts (.fieldLink RX3 86 "BoardMoves$Parts" "h" "[J") (by decide +kernel)) (fun _ h9 => h9) rfl dX3_turnedY_39 ?_
      refine lv_iload_n hx hb dX3_turnedY_42 rfl (lv_at hl 2 rfl) ?_
      refine bm_lald (f := pa.2.1) hx hb hK hP 3 0 rfl rfl (j := j) (by omega) (by decide) dX3_turnedY_43 ?_
      refine lv_aload_n hx hb dX3_turnedY_44 rfl (lv_at hl 0 rfl) ?_
      refine va_get (D := D) (ci := 3) (v := .ref (ad 36)) (C := RX3) (T := TX3) (N := 12) hx hb hts (inT inX3) hown hK hP 32 rfl rfl 4 (by decide) (hts (.fieldLink RX3 22 "BoardMoves$Wiring" "dy" "[J") (by decide +kernel)) (fun _ h9 => h9) rfl dX3_turnedY_45 ?_
      refine lv_iload_n hx hb dX3_turnedY_48 rfl (lv_at hl 1 rfl) ?_
      refine bm_lald (f := wi.2.2.2.1) hx hb hK hP 36 0 rfl rfl (j := a) (by omega) (by decide) dX3_turnedY_49 ?_
      refine lv_lsub hx hb dX3_turnedY_50 ?_
      exact bm_lretR (v := ((pa.2.1 j) - (wi.2.2.2.1 a))) hx hb hr (by simp [q_ty]) dX3_turnedY_51 hlocks
    · by_cases ht3 : t = 3
      · subst ht3
        refine lv_tableIn (off := 51) (tgt := 52) hx hb dX3_turnedY_1 (by decide) (by decide) (by decide) (by decide) ?_
        refine lv_aload_n hx hb dX3_turnedY_52 rfl (lv_at hl 0 rfl) ?_
        refine va_get (D := D) (ci := 3) (v := .ref (ad 1)) (C := RX3) (T := TX3) (N := 12) hx hb hts (inT inX3) hown hK hP 32 rfl rfl 0 (by decide) (hts (.fieldLink RX3 48 "BoardMoves$Wiring" "parts" "LBoardMoves$Parts;") (by decide +kernel)) (fun _ h9 => h9) rfl dX3_turnedY_53 ?_
        refine va_get (D := D) (ci := 1) (v := .ref (ad 2)) (C := RX1) (T := TX1) (N := 7) hx hb hts (inT inX1) hown hK hP 1 rfl rfl 0 (by decide) (hts (.fieldLink RX3 91 "BoardMoves$Parts" "w" "[J") (by decide +kernel)) (fun _ h9 => h9) rfl dX3_turnedY_56 ?_
        refine lv_iload_n hx hb dX3_turnedY_59 rfl (lv_at hl 2 rfl) ?_
        refine bm_lald (f := pa.1) hx hb hK hP 2 0 rfl rfl (j := j) (by omega) (by decide) dX3_turnedY_60 ?_
        refine lv_aload_n hx hb dX3_turnedY_61 rfl (lv_at hl 0 rfl) ?_
        refine va_get (D := D) (ci := 3) (v := .ref (ad 35)) (C := RX3) (T := TX3) (N := 12) hx hb hts (inT inX3) hown hK hP 32 rfl rfl 3 (by decide) (hts (.fieldLink RX3 18 "BoardMoves$Wiring" "dx" "[J") (by decide +kernel)) (fun _ h9 => h9) rfl dX3_turnedY_62 ?_
        refine lv_iload_n hx hb dX3_turnedY_65 rfl (lv_at hl 1 rfl) ?_
        refine bm_lald (f := wi.2.2.1) hx hb hK hP 35 0 rfl rfl (j := a) (by omega) (by decide) dX3_turnedY_66 ?_
        refine lv_lsub hx hb dX3_turnedY_67 ?_
        exact bm_lretR (v := ((pa.1 j) - (wi.2.2.1 a))) hx hb hr (by simp [q_ty]) dX3_turnedY_68 hlocks
      · refine lv_tableOut (tgt := 69) hx hb dX3_turnedY_1 (by rw [nI_toInt h3]; omega) (by decide) ?_
        refine lv_aload_n hx hb dX3_turnedY_69 rfl (lv_at hl 0 rfl) ?_
        refine va_get (D := D) (ci := 3) (v := .ref (ad 36)) (C := RX3) (T := TX3) (N := 12) hx hb hts (inT inX3) hown hK hP 32 rfl rfl 4 (by decide) (hts (.fieldLink RX3 22 "BoardMoves$Wiring" "dy" "[J") (by decide +kernel)) (fun _ h9 => h9) rfl dX3_turnedY_70 ?_
        refine lv_iload_n hx hb dX3_turnedY_73 rfl (lv_at hl 1 rfl) ?_
        refine bm_lald (f := wi.2.2.2.1) hx hb hK hP 36 0 rfl rfl (j := a) (by omega) (by decide) dX3_turnedY_74 ?_
        exact bm_lretR (v := (wi.2.2.2.1 a)) hx hb hr (by simp [q_ty, ht1, ht2, ht3]) dX3_turnedY_75 hlocks
end
section
set_option maxHeartbeats 4000000 in
set_option maxRecDepth 100000 in
theorem w_reach {l : Launch} {D : va_G} {ad : Nat → Nat} {cJ cI cZ : ClassId} {bm : gBM} {pa : gPA} {p0 p1 p2 : gPL} {li : gLI} {wi : gWI} {k : Nat} (h1 : k < 40) {x y : Int64} : bm_Wr l yX3_reach wsX3_reach ({ frames := 1, cells := 0, slots := 0, locals := 24 }) D vwCl [(cJ, .long), (cI, .int), (cZ, .boolean)] (Wd ad cJ cI cZ bm pa p0 p1 p2 li wi) [.ref (ad 32), .int (nI k), .long x, .long y] (Wd ad cJ cI cZ bm pa p0 p1 p2 li (q_sw wi (q_rch (q_sc wi) k x y))) (none) := by
  intro sz
  refine Met.ofW (cc := cX3_reach) (maxL := 7) (ret := none) (by decide) rfl ?_
  intro p e s m args below meth c s₁ B hml hv
  obtain ⟨ha, hsz, hP, hK, hD0⟩ := hv
  have hx := B.exec
  have hb := B.bytes
  have hr := B.returns
  have hts := atoms_spec (ws := wsX3_reach) B.pre
  have hown : s.vm.findClass RX3 = some m.cls := findClass_of_methodNamed B.named
  have hlocks := B.notSynchronized
  subst hsz
  have hD := hD0.self (sz := s.heap.size)
  generalize hAe : va_A (Wd ad cJ cI cZ bm pa p0 p1 p2 li wi) s.heap.size = A at hD ⊢
  have hA : ∀ q : Nat, s.heap.size ≤ q → A q := fun q h => by rw [← hAe]; exact Or.inr h
  have hS : va_S A s.heap s.heap [] := va_S.rf
  have hl := lv_entry ([.ref (ad 32), .int (nI k), .long x, .long y]) (n := 7) (Nat.le_of_ble_eq_true rfl)
  refine W.eq (g2 := entryFrame m ([.ref (ad 32), .int (nI k), .long x, .long y] : List Value).toArray 7) (by rw [ha]) ?_
  rw [lg_entry_eq]
  generalize (lg_sl ([.ref (ad 32), .int (nI k), .long x, .long y]) ++ List.replicate (7 - (lg_sl ([.ref (ad 32), .int (nI k), .long x, .long y])).length) Slot.unset).toArray = ls at hl ⊢
  have hl : lv_has ls 7 [(0, .ref (ad 32)), (1, .int (nI k)), (2, .long x), (4, .long y)] := hl
  refine lv_aload_n hx hb dX3_reach_0 rfl (lv_at hl 0 rfl) ?_
  refine va_get (D := D) (ci := 3) (v := .ref (ad 37)) (C := RX3) (T := TX3) (N := 12) hx hb hts (inT inX3) hown hK hP 32 rfl rfl 5 (by decide) (hts (.fieldLink RX3 25 "BoardMoves$Wiring" "reached" "[Z") (by decide +kernel)) (fun _ h9 => h9) rfl dX3_reach_1 ?_
  refine lv_iload_n hx hb dX3_reach_4 rfl (lv_at hl 1 rfl) ?_
  refine bm_zald (f := wi.2.2.2.2.1) hx hb hK hP 37 2 rfl rfl (j := k) (by omega) (by decide) dX3_reach_5 ?_
  refine bm_zb_ne (x := (wi.2.2.2.2.1 k)) (tgt := 13) hx hb dX3_reach_6 (by decide) (fun c_1 => ?_) (fun c_1 => ?_)
  · refine lv_iconst (v := bm_b false) hx hb dX3_reach_13 (by decide) ?_
    refine lv_istore (lv' := [(6, .int (bm_b false)), (0, .ref (ad 32)), (1, .int (nI k)), (2, .long x), (4, .long y)]) hx hb dX3_reach_14 hl (by decide) rfl (fun ls hl => ?_)
    refine lv_aload_n hx hb dX3_reach_16 rfl (lv_at hl 1 rfl) ?_
    refine va_get (D := D) (ci := 3) (v := .ref (ad 37)) (C := RX3) (T := TX3) (N := 12) hx hb hts (inT inX3) hown hK hP 32 rfl rfl 5 (by decide) (hts (.fieldLink RX3 25 "BoardMoves$Wiring" "reached" "[Z") (by decide +kernel)) (fun _ h9 => h9) rfl dX3_reach_17 ?_
    refine lv_iload_n hx hb dX3_reach_20 rfl (lv_at hl 2 rfl) ?_
    refine lv_iconst (v := bm_b true) hx hb dX3_reach_21 (by decide) ?_
    refine bm_zast (f := wi.2.2.2.2.1) hx hb hK hP hD hS 37 2 rfl rfl (j := k) (x := true) (by omega) (by decide) dX3_reach_22 (fun H locs hP hD hS => ?_)
    have hP : va_P D vwCl (Wd ad cJ cI cZ bm pa p0 p1 p2 li (wi.1, wi.2.1, wi.2.2.1, wi.2.2.2.1, va_up wi.2.2.2.2.1 k true, wi.2.2.2.2.2.1, wi.2.2.2.2.2.2.1, wi.2.2.2.2.2.2.2.1, wi.2.2.2.2.2.2.2.2.1, wi.2.2.2.2.2.2.2.2.2.1, wi.2.2.2.2.2.2.2.2.2.2)) H := hP
    have hD : va_D A (Wd ad cJ cI cZ bm pa p0 p1 p2 li (wi.1, wi.2.1, wi.2.2.1, wi.2.2.2.1, va_up wi.2.2.2.2.1 k true, wi.2.2.2.2.2.1, wi.2.2.2.2.2.2.1, wi.2.2.2.2.2.2.2.1, wi.2.2.2.2.2.2.2.2.1, wi.2.2.2.2.2.2.2.2.2.1, wi.2.2.2.2.2.2.2.2.2.2)) := hD
    refine lv_aload_n hx hb dX3_reach_23 rfl (lv_at hl 1 rfl) ?_
    refine va_get (D := D) (ci := 3) (v := .ref (ad 38)) (C := RX3) (T := TX3) (N := 12) hx hb hts (inT inX3) hown hK hP 32 rfl rfl 6 (by decide) (hts (.fieldLink RX3 29 "BoardMoves$Wiring" "lowX" "[J") (by decide +kernel)) (fun _ h9 => h9) rfl dX3_reach_24 ?_
    refine lv_iload_n hx hb dX3_reach_27 rfl (lv_at hl 2 rfl) ?_
    refine lv_iload hx hb dX3_reach_28 (lv_at hl 0 rfl) ?_
    refine bm_zb_eq (x := false) (tgt := 37) hx hb dX3_reach_30 (by decide) (fun c_2 => ?_) (fun c_2 => ?_)
    · refine lv_aload_n hx hb dX3_reach_37 rfl (lv_at hl 1 rfl) ?_
      refine va_get (D := D) (ci := 3) (v := .ref (ad 38)) (C := RX3) (T := TX3) (N := 12) hx hb hts (inT inX3) hown hK hP 32 rfl rfl 6 (by decide) (hts (.fieldLink RX3 29 "BoardMoves$Wiring" "lowX" "[J") (by decide +kernel)) (fun _ h9 => h9) rfl dX3_reach_38 ?_
      refine lv_iload_n hx hb dX3_reach_41 rfl (lv_at hl 2 rfl) ?_
      refine bm_lald (f := wi.2.2.2.2.2.1) hx hb hK hP 38 0 rfl rfl (j := k) (by omega) (by decide) dX3_reach_42 ?_
      refine lv_lload_n hx hb dX3_reach_43 rfl (lv_at hl 3 rfl) ?_
      refine bm_mminl hx hb (hml.trans hl.1.symm) hown (hts (.methodLink RX3 77 Lib.MathLoose.min_long.x) (by decide +kernel)) (hts (.static Lib.MathLoose.min_long.x) (by decide +kernel)) (hts (.initialized "java/lang/Math") (by decide +kernel)) (hts (.code Lib.MathLoose.min_long.x Lib.MathLoose.min_long.code 4 (some .long)) (by decide +kernel)) (Nat.le_of_ble_eq_true rfl) (Nat.le_of_ble_eq_true rfl) (Nat.zero_le _) (Nat.zero_le _) dX3_reach_44 ?_
      refine bm_last (f := wi.2.2.2.2.2.1) hx hb hK hP hD hS 38 0 rfl rfl (j := k) (x := (q_min (wi.2.2.2.2.2.1 k) x)) (by omega) (by decide) dX3_reach_47 (fun H locs hP hD hS => ?_)
      have hP : va_P D vwCl (Wd ad cJ cI cZ bm pa p0 p1 p2 li (wi.1, wi.2.1, wi.2.2.1, wi.2.2.2.1, va_up wi.2.2.2.2.1 k true, va_up wi.2.2.2.2.2.1 k (q_min (wi.2.2.2.2.2.1 k) x), wi.2.2.2.2.2.2.1, wi.2.2.2.2.2.2.2.1, wi.2.2.2.2.2.2.2.2.1, wi.2.2.2.2.2.2.2.2.2.1, wi.2.2.2.2.2.2.2.2.2.2)) H := hP
      have hD : va_D A (Wd ad cJ cI cZ bm pa p0 p1 p2 li (wi.1, wi.2.1, wi.2.2.1, wi.2.2.2.1, va_up wi.2.2.2.2.1 k true, va_up wi.2.2.2.2.2.1 k (q_min (wi.2.2.2.2.2.1 k) x), wi.2.2.2.2.2.2.1, wi.2.2.2.2.2.2.2.1, wi.2.2.2.2.2.2.2.2.1, wi.2.2.2.2.2.2.2.2.2.1, wi.2.2.2.2.2.2.2.2.2.2)) := hD
      refine lv_aload_n hx hb dX3_reach_48 rfl (lv_at hl 1 rfl) ?_
      refine va_get (D := D) (ci := 3) (v := .ref (ad 39)) (C := RX3) (T := TX3) (N := 12) hx hb hts (inT inX3) hown hK hP 32 rfl rfl 7 (by decide) (hts (.fieldLink RX3 32 "BoardMoves$Wiring" "highX" "[J") (by decide +kernel)) (fun _ h9 => h9) rfl dX3_reach_49 ?_
      refine lv_iload_n hx hb dX3_reach_52 rfl (lv_at hl 2 rfl) ?_
      refine lv_iload hx hb dX3_reach_53 (lv_at hl 0 rfl) ?_
      refine bm_zb_eq (x := false) (tgt := 62) hx hb dX3_reach_55 (by decide) (fun c_3 => ?_) (fun c_3 => ?_)
      · refine lv_aload_n hx hb dX3_reach_62 rfl (lv_at hl 1 rfl) ?_
        refine va_get (D := D) (ci := 3) (v := .ref (ad 39)) (C := RX3) (T := TX3) (N := 12) hx hb hts (inT inX3) hown hK hP 32 rfl rfl 7 (by decide) (hts (.fieldLink RX3 32 "BoardMoves$Wiring" "highX" "[J") (by decide +kernel)) (fun _ h9 => h9) rfl dX3_reach_63 ?_
        refine lv_iload_n hx hb dX3_reach_66 rfl (lv_at hl 2 rfl) ?_
        refine bm_lald (f := wi.2.2.2.2.2.2.1) hx hb hK hP 39 0 rfl rfl (j := k) (by omega) (by decide) dX3_reach_67 ?_
        refine lv_lload_n hx hb dX3_reach_68 rfl (lv_at hl 3 rfl) ?_
        refine bm_mmaxl hx hb (hml.trans hl.1.symm) hown (hts (.methodLink RX3 83 Lib.MathLoose.max_long.x) (by decide +kernel)) (hts (.static Lib.MathLoose.max_long.x) (by decide +kernel)) (hts (.initialized "java/lang/Math") (by decide +kernel)) (hts (.code Lib.MathLoose.max_long.x Lib.MathLoose.max_long.code 4 (some .long)) (by decide +kernel)) (Nat.le_of_ble_eq_true rfl) (Nat.le_of_ble_eq_true rfl) (Nat.zero_le _) (Nat.zero_le _) dX3_reach_69 ?_
        refine bm_last (f := wi.2.2.2.2.2.2.1) hx hb hK hP hD hS 39 0 rfl rfl (j := k) (x := (q_max (wi.2.2.2.2.2.2.1 k) x)) (by omega) (by decide) dX3_reach_72 (fun H locs hP hD hS => ?_)
        have hP : va_P D vwCl (Wd ad cJ cI cZ bm pa p0 p1 p2 li (wi.1, wi.2.1, wi.2.2.1, wi.2.2.2.1, va_up wi.2.2.2.2.1 k true, va_up wi.2.2.2.2.2.1 k (q_min (wi.2.2.2.2.2.1 k) x), va_up wi.2.2.2.2.2.2.1 k (q_max (wi.2.2.2.2.2.2.1 k) x), wi.2.2.2.2.2.2.2.1, wi.2.2.2.2.2.2.2.2.1, wi.2.2.2.2.2.2.2.2.2.1, wi.2.2.2.2.2.2.2.2.2.2)) H := hP
        have hD : va_D A (Wd ad cJ cI cZ bm pa p0 p1 p2 li (wi.1, wi.2.1, wi.2.2.1, wi.2.2.2.1, va_up wi.2.2.2.2.1 k true, va_up wi.2.2.2.2.2.1 k (q_min (wi.2.2.2.2.2.1 k) x), va_up wi.2.2.2.2.2.2.1 k (q_max (wi.2.2.2.2.2.2.1 k) x), wi.2.2.2.2.2.2.2.1, wi.2.2.2.2.2.2.2.2.1, wi.2.2.2.2.2.2.2.2.2.1, wi.2.2.2.2.2.2.2.2.2.2)) := hD
        refine lv_aload_n hx hb dX3_reach_73 rfl (lv_at hl 1 rfl) ?_
        refine va_get (D := D) (ci := 3) (v := .ref (ad 40)) (C := RX3) (T := TX3) (N := 12) hx hb hts (inT inX3) hown hK hP 32 rfl rfl 8 (by decide) (hts (.fieldLink RX3 35 "BoardMoves$Wiring" "lowY" "[J") (by decide +kernel)) (fun _ h9 => h9) rfl dX3_reach_74 ?_
        refine lv_iload_n hx hb dX3_reach_77 rfl (lv_at hl 2 rfl) ?_
        refine lv_iload hx hb dX3_reach_78 (lv_at hl 0 rfl) ?_
        refine bm_zb_eq (x := false) (tgt := 88) hx hb dX3_reach_80 (by decide) (fun c_4 => ?_) (fun c_4 => ?_)
        · refine lv_aload_n hx hb dX3_reach_88 rfl (lv_at hl 1 rfl) ?_
          refine va_get (D := D) (ci := 3) (v := .ref (ad 40)) (C := RX3) (T := TX3) (N := 12) hx hb hts (inT inX3) hown hK hP 32 rfl rfl 8 (by decide) (hts (.fieldLink RX3 35 "BoardMoves$Wiring" "lowY" "[J") (by decide +kernel)) (fun _ h9 => h9) rfl dX3_reach_89 ?_
          refine lv_iload_n hx hb dX3_reach_92 rfl (lv_at hl 2 rfl) ?_
          refine bm_lald (f := wi.2.2.2.2.2.2.2.1) hx hb hK hP 40 0 rfl rfl (j := k) (by omega) (by decide) dX3_reach_93 ?_
          refine lv_lload hx hb dX3_reach_94 (lv_at hl 4 rfl) ?_
          refine bm_mminl hx hb (hml.trans hl.1.symm) hown (hts (.methodLink RX3 77 Lib.MathLoose.min_long.x) (by decide +kernel)) (hts (.static Lib.MathLoose.min_long.x) (by decide +kernel)) (hts (.initialized "java/lang/Math") (by decide +kernel)) (hts (.code Lib.MathLoose.min_long.x Lib.MathLoose.min_long.code 4 (some .long)) (by decide +kernel)) (Nat.le_of_ble_eq_true rfl) (Nat.le_of_ble_eq_true rfl) (Nat.zero_le _) (Nat.zero_le _) dX3_reach_96 ?_
          refine bm_last (f := wi.2.2.2.2.2.2.2.1) hx hb hK hP hD hS 40 0 rfl rfl (j := k) (x := (q_min (wi.2.2.2.2.2.2.2.1 k) y)) (by omega) (by decide) dX3_reach_99 (fun H locs hP hD hS => ?_)
          have hP : va_P D vwCl (Wd ad cJ cI cZ bm pa p0 p1 p2 li (wi.1, wi.2.1, wi.2.2.1, wi.2.2.2.1, va_up wi.2.2.2.2.1 k true, va_up wi.2.2.2.2.2.1 k (q_min (wi.2.2.2.2.2.1 k) x), va_up wi.2.2.2.2.2.2.1 k (q_max (wi.2.2.2.2.2.2.1 k) x), va_up wi.2.2.2.2.2.2.2.1 k (q_min (wi.2.2.2.2.2.2.2.1 k) y), wi.2.2.2.2.2.2.2.2.1, wi.2.2.2.2.2.2.2.2.2.1, wi.2.2.2.2.2.2.2.2.2.2)) H := hP
          have hD : va_D A (Wd ad cJ cI cZ bm pa p0 p1 p2 li (wi.1, wi.2.1, wi.2.2.1, wi.2.2.2.1, va_up wi.2.2.2.2.1 k true, va_up wi.2.2.2.2.2.1 k (q_min (wi.2.2.2.2.2.1 k) x), va_up wi.2.2.2.2.2.2.1 k (q_max (wi.2.2.2.2.2.2.1 k) x), va_up wi.2.2.2.2.2.2.2.1 k (q_min (wi.2.2.2.2.2.2.2.1 k) y), wi.2.2.2.2.2.2.2.2.1, wi.2.2.2.2.2.2.2.2.2.1, wi.2.2.2.2.2.2.2.2.2.2)) := hD
          refine lv_aload_n hx hb dX3_reach_100 rfl (lv_at hl 1 rfl) ?_
          refine va_get (D := D) (ci := 3) (v := .ref (ad 41)) (C := RX3) (T := TX3) (N := 12) hx hb hts (inT inX3) hown hK hP 32 rfl rfl 9 (by decide) (hts (.fieldLink RX3 38 "BoardMoves$Wiring" "highY" "[J") (by decide +kernel)) (fun _ h9 => h9) rfl dX3_reach_101 ?_
          refine lv_iload_n hx hb dX3_reach_104 rfl (lv_at hl 2 rfl) ?_
          refine lv_iload hx hb dX3_reach_105 (lv_at hl 0 rfl) ?_
          refine bm_zb_eq (x := false) (tgt := 115) hx hb dX3_reach_107 (by decide) (fun c_5 => ?_) (fun c_5 => ?_)
          · refine lv_aload_n hx hb dX3_reach_115 rfl (lv_at hl 1 rfl) ?_
            refine va_get (D := D) (ci := 3) (v := .ref (ad 41)) (C := RX3) (T := TX3) (N := 12) hx hb hts (inT inX3) hown hK hP 32 rfl rfl 9 (by decide) (hts (.fieldLink RX3 38 "BoardMoves$Wiring" "highY" "[J") (by decide +kernel)) (fun _ h9 => h9) rfl dX3_reach_116 ?_
            refine lv_iload_n hx hb dX3_reach_119 rfl (lv_at hl 2 rfl) ?_
            refine bm_lald (f := wi.2.2.2.2.2.2.2.2.1) hx hb hK hP 41 0 rfl rfl (j := k) (by omega) (by decide) dX3_reach_120 ?_
            refine lv_lload hx hb dX3_reach_121 (lv_at hl 4 rfl) ?_
            refine bm_mmaxl hx hb (hml.trans hl.1.symm) hown (hts (.methodLink RX3 83 Lib.MathLoose.max_long.x) (by decide +kernel)) (hts (.static Lib.MathLoose.max_long.x) (by decide +kernel)) (hts (.initialized "java/lang/Math") (by decide +kernel)) (hts (.code Lib.MathLoose.max_long.x Lib.MathLoose.max_long.code 4 (some .long)) (by decide +kernel)) (Nat.le_of_ble_eq_true rfl) (Nat.le_of_ble_eq_true rfl) (Nat.zero_le _) (Nat.zero_le _) dX3_reach_123 ?_
            refine bm_last (f := wi.2.2.2.2.2.2.2.2.1) hx hb hK hP hD hS 41 0 rfl rfl (j := k) (x := (q_max (wi.2.2.2.2.2.2.2.2.1 k) y)) (by omega) (by decide) dX3_reach_126 (fun H locs hP hD hS => ?_)
            have hP : va_P D vwCl (Wd ad cJ cI cZ bm pa p0 p1 p2 li (wi.1, wi.2.1, wi.2.2.1, wi.2.2.2.1, va_up wi.2.2.2.2.1 k true, va_up wi.2.2.2.2.2.1 k (q_min (wi.2.2.2.2.2.1 k) x), va_up wi.2.2.2.2.2.2.1 k (q_max (wi.2.2.2.2.2.2.1 k) x), va_up wi.2.2.2.2.2.2.2.1 k (q_min (wi.2.2.2.2.2.2.2.1 k) y), va_up wi.2.2.2.2.2.2.2.2.1 k (q_max (wi.2.2.2.2.2.2.2.2.1 k) y), wi.2.2.2.2.2.2.2.2.2.1, wi.2.2.2.2.2.2.2.2.2.2)) H := hP
            have hD : va_D A (Wd ad cJ cI cZ bm pa p0 p1 p2 li (wi.1, wi.2.1, wi.2.2.1, wi.2.2.2.1, va_up wi.2.2.2.2.1 k true, va_up wi.2.2.2.2.2.1 k (q_min (wi.2.2.2.2.2.1 k) x), va_up wi.2.2.2.2.2.2.1 k (q_max (wi.2.2.2.2.2.2.1 k) x), va_up wi.2.2.2.2.2.2.2.1 k (q_min (wi.2.2.2.2.2.2.2.1 k) y), va_up wi.2.2.2.2.2.2.2.2.1 k (q_max (wi.2.2.2.2.2.2.2.2.1 k) y), wi.2.2.2.2.2.2.2.2.2.1, wi.2.2.2.2.2.2.2.2.2.2)) := hD
            exact bm_vretW hx hb hr hP hD hK hS (by simp [q_rch, q_sc, q_sw, c_1]) dX3_reach_127 hlocks
          · exact absurd c_5 (by decide)
        · exact absurd c_4 (by decide)
      · exact absurd c_3 (by decide)
    · exact absurd c_2 (by decide)
  · refine lv_iconst (v := bm_b true) hx hb dX3_reach_9 (by decide) ?_
    refine lv_goto (tgt := 14) hx hb dX3_reach_10 (by decide) ?_
    refine lv_istore (lv' := [(6, .int (bm_b true)), (0, .ref (ad 32)), (1, .int (nI k)), (2, .long x), (4, .long y)]) hx hb dX3_reach_14 hl (by decide) rfl (fun ls hl => ?_)
    refine lv_aload_n hx hb dX3_reach_16 rfl (lv_at hl 1 rfl) ?_
    refine va_get (D := D) (ci := 3) (v := .ref (ad 37)) (C := RX3) (T := TX3) (N := 12) hx hb hts (inT inX3) hown hK hP 32 rfl rfl 5 (by decide) (hts (.fieldLink RX3 25 "BoardMoves$Wiring" "reached" "[Z") (by decide +kernel)) (fun _ h9 => h9) rfl dX3_reach_17 ?_
    refine lv_iload_n hx hb dX3_reach_20 rfl (lv_at hl 2 rfl) ?_
    refine lv_iconst (v := bm_b true) hx hb dX3_reach_21 (by decide) ?_
    refine bm_zast (f := wi.2.2.2.2.1) hx hb hK hP hD hS 37 2 rfl rfl (j := k) (x := true) (by omega) (by decide) dX3_reach_22 (fun H locs hP hD hS => ?_)
    have hP : va_P D vwCl (Wd ad cJ cI cZ bm pa p0 p1 p2 li (wi.1, wi.2.1, wi.2.2.1, wi.2.2.2.1, va_up wi.2.2.2.2.1 k true, wi.2.2.2.2.2.1, wi.2.2.2.2.2.2.1, wi.2.2.2.2.2.2.2.1, wi.2.2.2.2.2.2.2.2.1, wi.2.2.2.2.2.2.2.2.2.1, wi.2.2.2.2.2.2.2.2.2.2)) H := hP
    have hD : va_D A (Wd ad cJ cI cZ bm pa p0 p1 p2 li (wi.1, wi.2.1, wi.2.2.1, wi.2.2.2.1, va_up wi.2.2.2.2.1 k true, wi.2.2.2.2.2.1, wi.2.2.2.2.2.2.1, wi.2.2.2.2.2.2.2.1, wi.2.2.2.2.2.2.2.2.1, wi.2.2.2.2.2.2.2.2.2.1, wi.2.2.2.2.2.2.2.2.2.2)) := hD
    refine lv_aload_n hx hb dX3_reach_23 rfl (lv_at hl 1 rfl) ?_
    refine va_get (D := D) (ci := 3) (v := .ref (ad 38)) (C := RX3) (T := TX3) (N := 12) hx hb hts (inT inX3) hown hK hP 32 rfl rfl 6 (by decide) (hts (.fieldLink RX3 29 "BoardMoves$Wiring" "lowX" "[J") (by decide +kernel)) (fun _ h9 => h9) rfl dX3_reach_24 ?_
    refine lv_iload_n hx hb dX3_reach_27 rfl (lv_at hl 2 rfl) ?_
    refine lv_iload hx hb dX3_reach_28 (lv_at hl 0 rfl) ?_
    refine bm_zb_eq (x := true) (tgt := 37) hx hb dX3_reach_30 (by decide) (fun c_6 => ?_) (fun c_6 => ?_)
    · exact absurd c_6 (by decide)
    · refine lv_lload_n hx hb dX3_reach_33 rfl (lv_at hl 3 rfl) ?_
      refine lv_goto (tgt := 47) hx hb dX3_reach_34 (by decide) ?_
      refine bm_last (f := wi.2.2.2.2.2.1) hx hb hK hP hD hS 38 0 rfl rfl (j := k) (x := x) (by omega) (by decide) dX3_reach_47 (fun H locs hP hD hS => ?_)
      have hP : va_P D vwCl (Wd ad cJ cI cZ bm pa p0 p1 p2 li (wi.1, wi.2.1, wi.2.2.1, wi.2.2.2.1, va_up wi.2.2.2.2.1 k true, va_up wi.2.2.2.2.2.1 k x, wi.2.2.2.2.2.2.1, wi.2.2.2.2.2.2.2.1, wi.2.2.2.2.2.2.2.2.1, wi.2.2.2.2.2.2.2.2.2.1, wi.2.2.2.2.2.2.2.2.2.2)) H := hP
      have hD : va_D A (Wd ad cJ cI cZ bm pa p0 p1 p2 li (wi.1, wi.2.1, wi.2.2.1, wi.2.2.2.1, va_up wi.2.2.2.2.1 k true, va_up wi.2.2.2.2.2.1 k x, wi.2.2.2.2.2.2.1, wi.2.2.2.2.2.2.2.1, wi.2.2.2.2.2.2.2.2.1, wi.2.2.2.2.2.2.2.2.2.1, wi.2.2.2.2.2.2.2.2.2.2)) := hD
      refine lv_aload_n hx hb dX3_reach_48 rfl (lv_at hl 1 rfl) ?_
      refine va_get (D := D) (ci := 3) (v := .ref (ad 39)) (C := RX3) (T := TX3) (N := 12) hx hb hts (inT inX3) hown hK hP 32 rfl rfl 7 (by decide) (hts (.fieldLink RX3 32 "BoardMoves$Wiring" "highX" "[J") (by decide +kernel)) (fun _ h9 => h9) rfl dX3_reach_49 ?_
      refine lv_iload_n hx hb dX3_reach_52 rfl (lv_at hl 2 rfl) ?_
      refine lv_iload hx hb dX3_reach_53 (lv_at hl 0 rfl) ?_
      refine bm_zb_eq (x := true) (tgt := 62) hx hb dX3_reach_55 (by decide) (fun c_7 => ?_) (fun c_7 => ?_)
      · exact absurd c_7 (by decide)
      · refine lv_lload_n hx hb dX3_reach_58 rfl (lv_at hl 3 rfl) ?_
        refine lv_goto (tgt := 72) hx hb dX3_reach_59 (by decide) ?_
        refine bm_last (f := wi.2.2.2.2.2.2.1) hx hb hK hP hD hS 39 0 rfl rfl (j := k) (x := x) (by omega) (by decide) dX3_reach_72 (fun H locs hP hD hS => ?_)
        have hP : va_P D vwCl (Wd ad cJ cI cZ bm pa p0 p1 p2 li (wi.1, wi.2.1, wi.2.2.1, wi.2.2.2.1, va_up wi.2.2.2.2.1 k true, va_up wi.2.2.2.2.2.1 k x, va_up wi.2.2.2.2.2.2.1 k x, wi.2.2.2.2.2.2.2.1, wi.2.2.2.2.2.2.2.2.1, wi.2.2.2.2.2.2.2.2.2.1, wi.2.2.2.2.2.2.2.2.2.2)) H := hP
        have hD : va_D A (Wd ad cJ cI cZ bm pa p0 p1 p2 li (wi.1, wi.2.1, wi.2.2.1, wi.2.2.2.1, va_up wi.2.2.2.2.1 k true, va_up wi.2.2.2.2.2.1 k x, va_up wi.2.2.2.2.2.2.1 k x, wi.2.2.2.2.2.2.2.1, wi.2.2.2.2.2.2.2.2.1, wi.2.2.2.2.2.2.2.2.2.1, wi.2.2.2.2.2.2.2.2.2.2)) := hD
        refine lv_aload_n hx hb dX3_reach_73 rfl (lv_at hl 1 rfl) ?_
        refine va_get (D := D) (ci := 3) (v := .ref (ad 40)) (C := RX3) (T := TX3) (N := 12) hx hb hts (inT inX3) hown hK hP 32 rfl rfl 8 (by decide) (hts (.fieldLink RX3 35 "BoardMoves$Wiring" "lowY" "[J") (by decide +kernel)) (fun _ h9 => h9) rfl dX3_reach_74 ?_
        refine lv_iload_n hx hb dX3_reach_77 rfl (lv_at hl 2 rfl) ?_
        refine lv_iload hx hb dX3_reach_78 (lv_at hl 0 rfl) ?_
        refine bm_zb_eq (x := true) (tgt := 88) hx hb dX3_reach_80 (by decide) (fun c_8 => ?_) (fun c_8 => ?_)
        · exact absurd c_8 (by decide)
        · refine lv_lload hx hb dX3_reach_83 (lv_at hl 4 rfl) ?_
          refine lv_goto (tgt := 99) hx hb dX3_reach_85 (by decide) ?_
          refine bm_last (f := wi.2.2.2.2.2.2.2.1) hx hb hK hP hD hS 40 0 rfl rfl (j := k) (x := y) (by omega) (by decide) dX3_reach_99 (fun H locs hP hD hS => ?_)
          have hP : va_P D vwCl (Wd ad cJ cI cZ bm pa p0 p1 p2 li (wi.1, wi.2.1, wi.2.2.1, wi.2.2.2.1, va_up wi.2.2.2.2.1 k true, va_up wi.2.2.2.2.2.1 k x, va_up wi.2.2.2.2.2.2.1 k x, va_up wi.2.2.2.2.2.2.2.1 k y, wi.2.2.2.2.2.2.2.2.1, wi.2.2.2.2.2.2.2.2.2.1, wi.2.2.2.2.2.2.2.2.2.2)) H := hP
          have hD : va_D A (Wd ad cJ cI cZ bm pa p0 p1 p2 li (wi.1, wi.2.1, wi.2.2.1, wi.2.2.2.1, va_up wi.2.2.2.2.1 k true, va_up wi.2.2.2.2.2.1 k x, va_up wi.2.2.2.2.2.2.1 k x, va_up wi.2.2.2.2.2.2.2.1 k y, wi.2.2.2.2.2.2.2.2.1, wi.2.2.2.2.2.2.2.2.2.1, wi.2.2.2.2.2.2.2.2.2.2)) := hD
          refine lv_aload_n hx hb dX3_reach_100 rfl (lv_at hl 1 rfl) ?_
          refine va_get (D := D) (ci := 3) (v := .ref (ad 41)) (C := RX3) (T := TX3) (N := 12) hx hb hts (inT inX3) hown hK hP 32 rfl rfl 9 (by decide) (hts (.fieldLink RX3 38 "BoardMoves$Wiring" "highY" "[J") (by decide +kernel)) (fun _ h9 => h9) rfl dX3_reach_101 ?_
          refine lv_iload_n hx hb dX3_reach_104 rfl (lv_at hl 2 rfl) ?_
          refine lv_iload hx hb dX3_reach_105 (lv_at hl 0 rfl) ?_
          refine bm_zb_eq (x := true) (tgt := 115) hx hb dX3_reach_107 (by decide) (fun c_9 => ?_) (fun c_9 => ?_)
          · exact absurd c_9 (by decide)
          · refine lv_lload hx hb dX3_reach_110 (lv_at hl 4 rfl) ?_
            refine lv_goto (tgt := 126) hx hb dX3_reach_112 (by decide) ?_
            refine bm_last (f := wi.2.2.2.2.2.2.2.2.1) hx hb hK hP hD hS 41 0 rfl rfl (j := k) (x := y) (by omega) (by decide) dX3_reach_126 (fun H locs hP hD hS => ?_)
            have hP : va_P D vwCl (Wd ad cJ cI cZ bm pa p0 p1 p2 li (wi.1, wi.2.1, wi.2.2.1, wi.2.2.2.1, va_up wi.2.2.2.2.1 k true, va_up wi.2.2.2.2.2.1 k x, va_up wi.2.2.2.2.2.2.1 k x, va_up wi.2.2.2.2.2.2.2.1 k y, va_up wi.2.2.2.2.2.2.2.2.1 k y, wi.2.2.2.2.2.2.2.2.2.1, wi.2.2.2.2.2.2.2.2.2.2)) H := hP
            have hD : va_D A (Wd ad cJ cI cZ bm pa p0 p1 p2 li (wi.1, wi.2.1, wi.2.2.1, wi.2.2.2.1, va_up wi.2.2.2.2.1 k true, va_up wi.2.2.2.2.2.1 k x, va_up wi.2.2.2.2.2.2.1 k x, va_up wi.2.2.2.2.2.2.2.1 k y, va_up wi.2.2.2.2.2.2.2.2.1 k y, wi.2.2.2.2.2.2.2.2.2.1, wi.2.2.2.2.2.2.2.2.2.2)) := hD
            exact bm_vretW hx hb hr hP hD hK hS (by simp [q_rch, q_sc, q_sw, c_1]) dX3_reach_127 hlocks
end
section
set_option maxHeartbeats 4000000 in
set_option maxRecDepth 100000 in
theorem w_meas {l : Launch} {D : va_G} {ad : Nat → Nat} {cJ cI cZ : ClassId} {bm : gBM} {pa : gPA} {p0 p1 p2 : gPL} {li : gLI} {wi : gWI} (hoL : q_okL p0) (hoW : q_okW wi) : bm_Wr l yX3_measure wsX3_measure ({ frames := 2, cells := 0, slots := 0, locals := 50 }) D vwCl [(cJ, .long), (cI, .int), (cZ, .boolean)] (Wd ad cJ cI cZ bm pa p0 p1 p2 li wi) [.ref (ad 32), .ref (ad 8)] (Wd ad cJ cI cZ bm pa p0 p1 p2 li (q_measW pa p0 wi)) (some (.long (q_meas pa p0 wi))) := by
  obtain ⟨hwn, hwp, hnn, hpn⟩ := hoW
  intro sz
  refine Met.ofW (cc := cX3_measure) (maxL := 5) (ret := (some .long)) (by decide) rfl ?_
  intro p e s m args below meth c s₁ B hml hv
  obtain ⟨ha, hsz, hP, hK, hD0⟩ := hv
  have hx := B.exec
  have hb := B.bytes
  have hr := B.returns
  have hts := atoms_spec (ws := wsX3_measure) B.pre
  have hown : s.vm.findClass RX3 = some m.cls := findClass_of_methodNamed B.named
  have hlocks := B.notSynchronized
  subst hsz
  have hD := hD0.self (sz := s.heap.size)
  generalize hAe : va_A (Wd ad cJ cI cZ bm pa p0 p1 p2 li wi) s.heap.size = A at hD ⊢
  have hA : ∀ q : Nat, s.heap.size ≤ q → A q := fun q h => by rw [← hAe]; exact Or.inr h
  have hS : va_S A s.heap s.heap [] := va_S.rf
  have lpC : ∀ (k : Nat) (i : Nat), i ≤ wi.2.2.2.2.2.2.2.2.2.1 → wi.2.2.2.2.2.2.2.2.2.1 < i + k → ∀ (H : Heap) (locs : List Loc), va_P D vwCl (Wd ad cJ cI cZ bm pa p0 p1 p2 li (wi.1, wi.2.1, wi.2.2.1, wi.2.2.2.1, (q_scan pa p0 wi wi.2.2.2.2.2.2.2.2.2.2).1, (q_scan pa p0 wi wi.2.2.2.2.2.2.2.2.2.2).2.1, (q_scan pa p0 wi wi.2.2.2.2.2.2.2.2.2.2).2.2.1, (q_scan pa p0 wi wi.2.2.2.2.2.2.2.2.2.2).2.2.2.1, (q_scan pa p0 wi wi.2.2.2.2.2.2.2.2.2.2).2.2.2.2, wi.2.2.2.2.2.2.2.2.2.1, wi.2.2.2.2.2.2.2.2.2.2)) H → va_D A (Wd ad cJ cI cZ bm pa p0 p1 p2 li (wi.1, wi.2.1, wi.2.2.1, wi.2.2.2.1, (q_scan pa p0 wi wi.2.2.2.2.2.2.2.2.2.2).1, (q_scan pa p0 wi wi.2.2.2.2.2.2.2.2.2.2).2.1, (q_scan pa p0 wi wi.2.2.2.2.2.2.2.2.2.2).2.2.1, (q_scan pa p0 wi wi.2.2.2.2.2.2.2.2.2.2).2.2.2.1, (q_scan pa p0 wi wi.2.2.2.2.2.2.2.2.2.2).2.2.2.2, wi.2.2.2.2.2.2.2.2.2.1, wi.2.2.2.2.2.2.2.2.2.2)) → va_S A s.heap H locs → ∀ (ls : Array Slot), lv_has ls 5 [(0, .ref (ad 32)), (2, .long (q_total (q_scan pa p0 wi wi.2.2.2.2.2.2.2.2.2.2) i)), (4, .int (nI i))] → W p l e (headSpec wsX3_measure ({ frames := 2, cells := 0, slots := 0, locals := 50 })).room s m args below meth c H locs 0 0 (MQ below (bm_Wq D vwCl [(cJ, .long), (cI, .int), (cZ, .boolean)] (Wd ad cJ cI cZ bm pa p0 p1 p2 li (q_measW pa p0 wi)) (some (.long (q_meas pa p0 wi))) A) args s 0 0 A) (F0 m 108 ls []) := by
    intro k
    induction k with
    | zero => intro i hi hk; exfalso; omega
    | succ k ih =>
      intro i hi hk H locs hP hD hS ls hl
      refine lv_iload hx hb dX3_measure_108 (lv_at hl 2 rfl) ?_
      refine lv_aload_n hx hb dX3_measure_110 rfl (lv_at hl 0 rfl) ?_
      refine va_get (D := D) (ci := 3) (v := .int (nI wi.2.2.2.2.2.2.2.2.2.1)) (C := RX3) (T := TX3) (N := 12) hx hb hts (inT inX3) hown hK hP 32 rfl rfl 10 (by decide) (hts (.fieldLink RX3 41 "BoardMoves$Wiring" "nets" "I") (by decide +kernel)) (fun _ h9 => h9) rfl dX3_measure_111 ?_
      refine bm_ni_ge (x := i) (y := wi.2.2.2.2.2.2.2.2.2.1) (tgt := 167) hx hb (by omega) (by omega) dX3_measure_114 (by decide) (fun c_1 => ?_) (fun c_1 => ?_)
      · refine lv_lload_n hx hb dX3_measure_167 rfl (lv_at hl 1 rfl) ?_
        exact bm_lretW (v := (q_total (q_scan pa p0 wi wi.2.2.2.2.2.2.2.2.2.2) i)) hx hb hr hP hD hK hS ⟨by rw [show i = wi.2.2.2.2.2.2.2.2.2.1 from by omega]; rfl, rfl⟩ dX3_measure_168 hlocks
      · refine lv_aload_n hx hb dX3_measure_117 rfl (lv_at hl 0 rfl) ?_
        refine va_get (D := D) (ci := 3) (v := .ref (ad 37)) (C := RX3) (T := TX3) (N := 12) hx hb hts (inT inX3) hown hK hP 32 rfl rfl 5 (by decide) (hts (.fieldLink RX3 25 "BoardMoves$Wiring" "reached" "[Z") (by decide +kernel)) (fun _ h9 => h9) rfl dX3_measure_118 ?_
        refine lv_iload hx hb dX3_measure_121 (lv_at hl 2 rfl) ?_
        refine bm_zald (f := ((q_scan pa p0 wi wi.2.2.2.2.2.2.2.2.2.2).1)) hx hb hK hP 37 2 rfl rfl (j := i) (by omega) (by decide) dX3_measure_123 ?_
        refine bm_zb_eq (x := (((q_scan pa p0 wi wi.2.2.2.2.2.2.2.2.2.2).1) i)) (tgt := 161) hx hb dX3_measure_124 (by decide) (fun c_2 => ?_) (fun c_2 => ?_)
        · refine lv_iinc (v := (nI (i + 1))) (lv' := [(4, .int (nI (i + 1))), (0, .ref (ad 32)), (2, .long (q_total (q_scan pa p0 wi wi.2.2.2.2.2.2.2.2.2.2) i))]) hx hb dX3_measure_161 hl (k := 2) rfl (nI_1 i) (by decide) rfl (fun ls hl => ?_)
          refine lv_goto (tgt := 108) hx hb dX3_measure_164 (by decide) ?_
          rw [show q_total (q_scan pa p0 wi wi.2.2.2.2.2.2.2.2.2.2) i = q_total (q_scan pa p0 wi wi.2.2.2.2.2.2.2.2.2.2) (i + 1) from q_total_no (sc := q_scan pa p0 wi wi.2.2.2.2.2.2.2.2.2.2) c_2] at hl
          exact ih (i + 1) (by omega) (by omega) _ _ hP hD hS _ (lv_sub hl [1, 2, 0] rfl)
        · refine lv_lload_n hx hb dX3_measure_127 rfl (lv_at hl 1 rfl) ?_
          refine lv_aload_n hx hb dX3_measure_128 rfl (lv_at hl 0 rfl) ?_
          refine va_get (D := D) (ci := 3) (v := .ref (ad 39)) (C := RX3) (T := TX3) (N := 12) hx hb hts (inT inX3) hown hK hP 32 rfl rfl 7 (by decide) (hts (.fieldLink RX3 32 "BoardMoves$Wiring" "highX" "[J") (by decide +kernel)) (fun _ h9 => h9) rfl dX3_measure_129 ?_
          refine lv_iload hx hb dX3_measure_132 (lv_at hl 2 rfl) ?_
          refine bm_lald (f := ((q_scan pa p0 wi wi.2.2.2.2.2.2.2.2.2.2).2.2.1)) hx hb hK hP 39 0 rfl rfl (j := i) (by omega) (by decide) dX3_measure_134 ?_
          refine lv_aload_n hx hb dX3_measure_135 rfl (lv_at hl 0 rfl) ?_
          refine va_get (D := D) (ci := 3) (v := .ref (ad 38)) (C := RX3) (T := TX3) (N := 12) hx hb hts (inT inX3) hown hK hP 32 rfl rfl 6 (by decide) (hts (.fieldLink RX3 29 "BoardMoves$Wiring" "lowX" "[J") (by decide +kernel)) (fun _ h9 => h9) rfl dX3_measure_136 ?_
          refine lv_iload hx hb dX3_measure_139 (lv_at hl 2 rfl) ?_
          refine bm_lald (f := ((q_scan pa p0 wi wi.2.2.2.2.2.2.2.2.2.2).2.1)) hx hb hK hP 38 0 rfl rfl (j := i) (by omega) (by decide) dX3_measure_141 ?_
          refine lv_lsub hx hb dX3_measure_142 ?_
          refine lv_aload_n hx hb dX3_measure_143 rfl (lv_at hl 0 rfl) ?_
          refine va_get (D := D) (ci := 3) (v := .ref (ad 41)) (C := RX3) (T := TX3) (N := 12) hx hb hts (inT inX3) hown hK hP 32 rfl rfl 9 (by decide) (hts (.fieldLink RX3 38 "BoardMoves$Wiring" "highY" "[J") (by decide +kernel)) (fun _ h9 => h9) rfl dX3_measure_144 ?_
          refine lv_iload hx hb dX3_measure_147 (lv_at hl 2 rfl) ?_
          refine bm_lald (f := ((q_scan pa p0 wi wi.2.2.2.2.2.2.2.2.2.2).2.2.2.2)) hx hb hK hP 41 0 rfl rfl (j := i) (by omega) (by decide) dX3_measure_149 ?_
          refine lv_ladd hx hb dX3_measure_150 ?_
          refine lv_aload_n hx hb dX3_measure_151 rfl (lv_at hl 0 rfl) ?_
          refine va_get (D := D) (ci := 3) (v := .ref (ad 40)) (C := RX3) (T := TX3) (N := 12) hx hb hts (inT inX3) hown hK hP 32 rfl rfl 8 (by decide) (hts (.fieldLink RX3 35 "BoardMoves$Wiring" "lowY" "[J") (by decide +kernel)) (fun _ h9 => h9) rfl dX3_measure_152 ?_
          refine lv_iload hx hb dX3_measure_155 (lv_at hl 2 rfl) ?_
          refine bm_lald (f := ((q_scan pa p0 wi wi.2.2.2.2.2.2.2.2.2.2).2.2.2.1)) hx hb hK hP 40 0 rfl rfl (j := i) (by omega) (by decide) dX3_measure_157 ?_
          refine lv_lsub hx hb dX3_measure_158 ?_
          refine lv_ladd hx hb dX3_measure_159 ?_
          refine lv_lstore_n (lv' := [(2, .long ((q_total (q_scan pa p0 wi wi.2.2.2.2.2.2.2.2.2.2) i) + ((((((q_scan pa p0 wi wi.2.2.2.2.2.2.2.2.2.2).2.2.1) i) - (((q_scan pa p0 wi wi.2.2.2.2.2.2.2.2.2.2).2.1) i)) + (((q_scan pa p0 wi wi.2.2.2.2.2.2.2.2.2.2).2.2.2.2) i)) - (((q_scan pa p0 wi wi.2.2.2.2.2.2.2.2.2.2).2.2.2.1) i)))), (0, .ref (ad 32)), (4, .int (nI i))]) hx hb dX3_measure_160 rfl hl (by decide) rfl (fun ls hl => ?_)
          refine lv_iinc (v := (nI (i + 1))) (lv' := [(4, .int (nI (i + 1))), (2, .long ((q_total (q_scan pa p0 wi wi.2.2.2.2.2.2.2.2.2.2) i) + ((((((q_scan pa p0 wi wi.2.2.2.2.2.2.2.2.2.2).2.2.1) i) - (((q_scan pa p0 wi wi.2.2.2.2.2.2.2.2.2.2).2.1) i)) + (((q_scan pa p0 wi wi.2.2.2.2.2.2.2.2.2.2).2.2.2.2) i)) - (((q_scan pa p0 wi wi.2.2.2.2.2.2.2.2.2.2).2.2.2.1) i)))), (0, .ref (ad 32))]) hx hb dX3_measure_161 hl (k := 2) rfl (nI_1 i) (by decide) rfl (fun ls hl => ?_)
          refine lv_goto (tgt := 108) hx hb dX3_measure_164 (by decide) ?_
          rw [show (q_total (q_scan pa p0 wi wi.2.2.2.2.2.2.2.2.2.2) i) + ((((((q_scan pa p0 wi wi.2.2.2.2.2.2.2.2.2.2).2.2.1) i) - (((q_scan pa p0 wi wi.2.2.2.2.2.2.2.2.2.2).2.1) i)) + (((q_scan pa p0 wi wi.2.2.2.2.2.2.2.2.2.2).2.2.2.2) i)) - (((q_scan pa p0 wi wi.2.2.2.2.2.2.2.2.2.2).2.2.2.1) i)) = q_total (q_scan pa p0 wi wi.2.2.2.2.2.2.2.2.2.2) (i + 1) from q_total_yes (sc := q_scan pa p0 wi wi.2.2.2.2.2.2.2.2.2.2) c_2] at hl
          exact ih (i + 1) (by omega) (by omega) _ _ hP hD hS _ (lv_sub hl [2, 1, 0] rfl)
  have lpB : ∀ (k : Nat) (i : Nat), i ≤ wi.2.2.2.2.2.2.2.2.2.2 → wi.2.2.2.2.2.2.2.2.2.2 < i + k → ∀ (H : Heap) (locs : List Loc), va_P D vwCl (Wd ad cJ cI cZ bm pa p0 p1 p2 li (wi.1, wi.2.1, wi.2.2.1, wi.2.2.2.1, (q_scan pa p0 wi i).1, (q_scan pa p0 wi i).2.1, (q_scan pa p0 wi i).2.2.1, (q_scan pa p0 wi i).2.2.2.1, (q_scan pa p0 wi i).2.2.2.2, wi.2.2.2.2.2.2.2.2.2.1, wi.2.2.2.2.2.2.2.2.2.2)) H → va_D A (Wd ad cJ cI cZ bm pa p0 p1 p2 li (wi.1, wi.2.1, wi.2.2.1, wi.2.2.2.1, (q_scan pa p0 wi i).1, (q_scan pa p0 wi i).2.1, (q_scan pa p0 wi i).2.2.1, (q_scan pa p0 wi i).2.2.2.1, (q_scan pa p0 wi i).2.2.2.2, wi.2.2.2.2.2.2.2.2.2.1, wi.2.2.2.2.2.2.2.2.2.2)) → va_S A s.heap H locs → ∀ (ls : Array Slot), lv_has ls 5 [(0, .ref (ad 32)), (1, .ref (ad 8)), (2, .int (nI i))] → W p l e (headSpec wsX3_measure ({ frames := 2, cells := 0, slots := 0, locals := 50 })).room s m args below meth c H locs 0 0 (MQ below (bm_Wq D vwCl [(cJ, .long), (cI, .int), (cZ, .boolean)] (Wd ad cJ cI cZ bm pa p0 p1 p2 li (q_measW pa p0 wi)) (some (.long (q_meas pa p0 wi))) A) args s 0 0 A) (F0 m 25 ls []) := by
    intro k
    induction k with
    | zero => intro i hi hk; exfalso; omega
    | succ k ih =>
      intro i hi hk H locs hP hD hS ls hl
      refine lv_iload_n hx hb dX3_measure_25 rfl (lv_at hl 2 rfl) ?_
      refine lv_aload_n hx hb dX3_measure_26 rfl (lv_at hl 0 rfl) ?_
      refine va_get (D := D) (ci := 3) (v := .int (nI wi.2.2.2.2.2.2.2.2.2.2)) (C := RX3) (T := TX3) (N := 12) hx hb hts (inT inX3) hown hK hP 32 rfl rfl 11 (by decide) (hts (.fieldLink RX3 45 "BoardMoves$Wiring" "pins" "I") (by decide +kernel)) (fun _ h9 => h9) rfl dX3_measure_27 ?_
      refine bm_ni_ge (x := i) (y := wi.2.2.2.2.2.2.2.2.2.2) (tgt := 103) hx hb (by omega) (by omega) dX3_measure_30 (by decide) (fun c_3 => ?_) (fun c_3 => ?_)
      · refine lv_lconst (v := 0) hx hb dX3_measure_103 (by decide) ?_
        refine lv_lstore_n (lv' := [(2, .long 0), (0, .ref (ad 32)), (1, .ref (ad 8))]) hx hb dX3_measure_104 rfl hl (by decide) rfl (fun ls hl => ?_)
        refine lv_iconst (v := nI 0) hx hb dX3_measure_105 (by decide) ?_
        refine lv_istore (lv' := [(4, .int (nI 0)), (2, .long 0), (0, .ref (ad 32)), (1, .ref (ad 8))]) hx hb dX3_measure_106 hl (by decide) rfl (fun ls hl => ?_)
        have ei : i = wi.2.2.2.2.2.2.2.2.2.2 := by omega
        rw [ei] at hP hD
        exact lpC (wi.2.2.2.2.2.2.2.2.2.1 + 1) 0 (by omega) (by omega) _ _ hP hD hS _ (lv_sub hl [2, 1, 0] rfl)
      · refine lv_aload_n hx hb dX3_measure_33 rfl (lv_at hl 0 rfl) ?_
        refine va_get (D := D) (ci := 3) (v := .ref (ad 34)) (C := RX3) (T := TX3) (N := 12) hx hb hts (inT inX3) hown hK hP 32 rfl rfl 2 (by decide) (hts (.fieldLink RX3 15 "BoardMoves$Wiring" "partOf" "[I") (by decide +kernel)) (fun _ h9 => h9) rfl dX3_measure_34 ?_
        refine lv_iload_n hx hb dX3_measure_37 rfl (lv_at hl 2 rfl) ?_
        refine bm_nald (f := wi.2.1) hx hb hK hP 34 1 rfl rfl (j := i) (by omega) (by decide) dX3_measure_38 ?_
        refine lv_istore_n (lv' := [(3, .int (nI (wi.2.1 i))), (0, .ref (ad 32)), (1, .ref (ad 8)), (2, .int (nI i))]) hx hb dX3_measure_39 rfl hl (by decide) rfl (fun ls hl => ?_)
        refine lv_aload_n hx hb dX3_measure_40 rfl (lv_at hl 2 rfl) ?_
        refine va_get (D := D) (ci := 2) (v := .ref (ad 12)) (C := RX2) (T := TX2) (N := 5) hx hb hts (inT inX2) hown hK hP 8 rfl rfl 4 (by decide) (hts (.fieldLink RX3 52 "BoardMoves$Placement" "placed" "[Z") (by decide +kernel)) (fun _ h9 => h9) rfl dX3_measure_41 ?_
        refine lv_iload_n hx hb dX3_measure_44 rfl (lv_at hl 0 rfl) ?_
        refine bm_zald (f := p0.2.2.2) hx hb hK hP 12 2 rfl rfl (j := (wi.2.1 i)) (hwp _) (by decide) dX3_measure_45 ?_
        refine bm_zb_eq (x := (p0.2.2.2 (wi.2.1 i))) (tgt := 97) hx hb dX3_measure_46 (by decide) (fun c_4 => ?_) (fun c_4 => ?_)
        · refine lv_iinc (v := (nI (i + 1))) (lv' := [(2, .int (nI (i + 1))), (3, .int (nI (wi.2.1 i))), (0, .ref (ad 32)), (1, .ref (ad 8))]) hx hb dX3_measure_97 hl (k := 3) rfl (nI_1 i) (by decide) rfl (fun ls hl => ?_)
          refine lv_goto (tgt := 25) hx hb dX3_measure_100 (by decide) ?_
          have e0 : (wi.1, wi.2.1, wi.2.2.1, wi.2.2.2.1, (q_scan pa p0 wi i).1, (q_scan pa p0 wi i).2.1, (q_scan pa p0 wi i).2.2.1, (q_scan pa p0 wi i).2.2.2.1, (q_scan pa p0 wi i).2.2.2.2, wi.2.2.2.2.2.2.2.2.2.1, wi.2.2.2.2.2.2.2.2.2.2) = (wi.1, wi.2.1, wi.2.2.1, wi.2.2.2.1, (q_scan pa p0 wi (i + 1)).1, (q_scan pa p0 wi (i + 1)).2.1, (q_scan pa p0 wi (i + 1)).2.2.1, (q_scan pa p0 wi (i + 1)).2.2.2.1, (q_scan pa p0 wi (i + 1)).2.2.2.2, wi.2.2.2.2.2.2.2.2.2.1, wi.2.2.2.2.2.2.2.2.2.2) := by rw [q_scan_no c_4]
          rw [e0] at hP hD
          exact ih (i + 1) (by omega) (by omega) _ _ hP hD hS _ (lv_sub hl [2, 3, 0] rfl)
        · refine lv_aload_n hx hb dX3_measure_49 rfl (lv_at hl 2 rfl) ?_
          refine va_get (D := D) (ci := 2) (v := .ref (ad 11)) (C := RX2) (T := TX2) (N := 5) hx hb hts (inT inX2) hown hK hP 8 rfl rfl 3 (by decide) (hts (.fieldLink RX3 57 "BoardMoves$Placement" "turn" "[I") (by decide +kernel)) (fun _ h9 => h9) rfl dX3_measure_50 ?_
          refine lv_iload_n hx hb dX3_measure_53 rfl (lv_at hl 0 rfl) ?_
          refine bm_nald (f := p0.2.2.1) hx hb hK hP 11 1 rfl rfl (j := (wi.2.1 i)) (hwp _) (by decide) dX3_measure_54 ?_
          refine lv_istore (lv' := [(4, .int (nI (p0.2.2.1 (wi.2.1 i)))), (3, .int (nI (wi.2.1 i))), (0, .ref (ad 32)), (1, .ref (ad 8)), (2, .int (nI i))]) hx hb dX3_measure_55 hl (by decide) rfl (fun ls hl => ?_)
          refine lv_aload_n hx hb dX3_measure_57 rfl (lv_at hl 2 rfl) ?_
          refine lv_aload_n hx hb dX3_measure_58 rfl (lv_at hl 2 rfl) ?_
          refine va_get (D := D) (ci := 3) (v := .ref (ad 33)) (C := RX3) (T := TX3) (N := 12) hx hb hts (inT inX3) hown hK hP 32 rfl rfl 1 (by decide) (hts (.fieldLink RX3 9 "BoardMoves$Wiring" "netOf" "[I") (by decide +kernel)) (fun _ h9 => h9) rfl dX3_measure_59 ?_
          refine lv_iload_n hx hb dX3_measure_62 rfl (lv_at hl 4 rfl) ?_
          refine bm_nald (f := wi.1) hx hb hK hP 33 1 rfl rfl (j := i) (by omega) (by decide) dX3_measure_63 ?_
          refine lv_aload_n hx hb dX3_measure_64 rfl (lv_at hl 3 rfl) ?_
          refine va_get (D := D) (ci := 2) (v := .ref (ad 9)) (C := RX2) (T := TX2) (N := 5) hx hb hts (inT inX2) hown hK hP 8 rfl rfl 1 (by decide) (hts (.fieldLink RX3 60 "BoardMoves$Placement" "x" "[J") (by decide +kernel)) (fun _ h9 => h9) rfl dX3_measure_65 ?_
          refine lv_iload_n hx hb dX3_measure_68 rfl (lv_at hl 1 rfl) ?_
          refine bm_lald (f := p0.1) hx hb hK hP 9 0 rfl rfl (j := (wi.2.1 i)) (hwp _) (by decide) dX3_measure_69 ?_
          refine lv_aload_n hx hb dX3_measure_70 rfl (lv_at hl 2 rfl) ?_
          refine lv_iload_n hx hb dX3_measure_71 rfl (lv_at hl 4 rfl) ?_
          refine lv_iload_n hx hb dX3_measure_72 rfl (lv_at hl 1 rfl) ?_
          refine lv_iload hx hb dX3_measure_73 (lv_at hl 0 rfl) ?_
          refine bm_rcallV (As := [.int (nI i), .int (nI (wi.2.1 i)), .int (nI (p0.2.2.1 (wi.2.1 i)))]) (rest := [.long (p0.1 (wi.2.1 i)), .int (nI (wi.1 i)), .ref (ad 32)]) ⟨hx, hb, hml, hown, hts⟩ (r_turnedX (a := i) (j := (wi.2.1 i)) (t := (p0.2.2.1 (wi.2.1 i))) (by omega) (hwp _) (bm40 (hoL _))) (cwV 3 hts (gdV (by decide +kernel) (by decide +kernel) (by decide +kernel) (by decide +kernel) (by decide +kernel)) rfl rfl rfl (by decide +kernel) ⟨Nat.le_of_ble_eq_true rfl, Nat.le_of_ble_eq_true rfl⟩) hK hP 32 3 rfl rfl rfl hl.1 rfl (Nat.le_of_ble_eq_true rfl) dX3_measure_75 ⟨Nat.le_of_ble_eq_true rfl, Nat.le_of_ble_eq_true rfl⟩ ?_
          refine lv_ladd hx hb dX3_measure_78 ?_
          refine lv_aload_n hx hb dX3_measure_79 rfl (lv_at hl 3 rfl) ?_
          refine va_get (D := D) (ci := 2) (v := .ref (ad 10)) (C := RX2) (T := TX2) (N := 5) hx hb hts (inT inX2) hown hK hP 8 rfl rfl 2 (by decide) (hts (.fieldLink RX3 67 "BoardMoves$Placement" "y" "[J") (by decide +kernel)) (fun _ h9 => h9) rfl dX3_measure_80 ?_
          refine lv_iload_n hx hb dX3_measure_83 rfl (lv_at hl 1 rfl) ?_
          refine bm_lald (f := p0.2.1) hx hb hK hP 10 0 rfl rfl (j := (wi.2.1 i)) (hwp _) (by decide) dX3_measure_84 ?_
          refine lv_aload_n hx hb dX3_measure_85 rfl (lv_at hl 2 rfl) ?_
          refine lv_iload_n hx hb dX3_measure_86 rfl (lv_at hl 4 rfl) ?_
          refine lv_iload_n hx hb dX3_measure_87 rfl (lv_at hl 1 rfl) ?_
          refine lv_iload hx hb dX3_measure_88 (lv_at hl 0 rfl) ?_
          refine bm_rcallV (As := [.int (nI i), .int (nI (wi.2.1 i)), .int (nI (p0.2.2.1 (wi.2.1 i)))]) (rest := [.long (p0.2.1 (wi.2.1 i)), .long ((p0.1 (wi.2.1 i)) + (q_tx pa (wi.1, wi.2.1, wi.2.2.1, wi.2.2.2.1, (q_scan pa p0 wi i).1, (q_scan pa p0 wi i).2.1, (q_scan pa p0 wi i).2.2.1, (q_scan pa p0 wi i).2.2.2.1, (q_scan pa p0 wi i).2.2.2.2, wi.2.2.2.2.2.2.2.2.2.1, wi.2.2.2.2.2.2.2.2.2.2) i (wi.2.1 i) (p0.2.2.1 (wi.2.1 i)))), .int (nI (wi.1 i)), .ref (ad 32)]) ⟨hx, hb, hml, hown, hts⟩ (r_turnedY (a := i) (j := (wi.2.1 i)) (t := (p0.2.2.1 (wi.2.1 i))) (by omega) (hwp _) (bm40 (hoL _))) (cwV 3 hts (gdV (by decide +kernel) (by decide +kernel) (by decide +kernel) (by decide +kernel) (by decide +kernel)) rfl rfl rfl (by decide +kernel) ⟨Nat.le_of_ble_eq_true rfl, Nat.le_of_ble_eq_true rfl⟩) hK hP 32 3 rfl rfl rfl hl.1 rfl (Nat.le_of_ble_eq_true rfl) dX3_measure_90 ⟨Nat.le_of_ble_eq_true rfl, Nat.le_of_ble_eq_true rfl⟩ ?_
          refine lv_ladd hx hb dX3_measure_93 ?_
          refine bm_wcallV (As := [.int (nI (wi.1 i)), .long ((p0.1 (wi.2.1 i)) + (q_tx pa (wi.1, wi.2.1, wi.2.2.1, wi.2.2.2.1, (q_scan pa p0 wi i).1, (q_scan pa p0 wi i).2.1, (q_scan pa p0 wi i).2.2.1, (q_scan pa p0 wi i).2.2.2.1, (q_scan pa p0 wi i).2.2.2.2, wi.2.2.2.2.2.2.2.2.2.1, wi.2.2.2.2.2.2.2.2.2.2) i (wi.2.1 i) (p0.2.2.1 (wi.2.1 i)))), .long ((p0.2.1 (wi.2.1 i)) + (q_ty pa (wi.1, wi.2.1, wi.2.2.1, wi.2.2.2.1, (q_scan pa p0 wi i).1, (q_scan pa p0 wi i).2.1, (q_scan pa p0 wi i).2.2.1, (q_scan pa p0 wi i).2.2.2.1, (q_scan pa p0 wi i).2.2.2.2, wi.2.2.2.2.2.2.2.2.2.1, wi.2.2.2.2.2.2.2.2.2.2) i (wi.2.1 i) (p0.2.2.1 (wi.2.1 i))))]) (rest := []) ⟨hx, hb, hml, hown, hts⟩ (w_reach (k := (wi.1 i)) (hwn _)) (cwV 3 hts (gdV (by decide +kernel) (by decide +kernel) (by decide +kernel) (by decide +kernel) (by decide +kernel)) rfl rfl rfl (by decide +kernel) ⟨Nat.le_of_ble_eq_true rfl, Nat.le_of_ble_eq_true rfl⟩) hK hP hD hS hA 32 3 rfl rfl rfl hl.1 rfl (Nat.le_of_ble_eq_true rfl) dX3_measure_94 ⟨Nat.le_of_ble_eq_true rfl, Nat.le_of_ble_eq_true rfl⟩ (fun H locs hP hD hS => ?_)
          have hP : va_P D vwCl (Wd ad cJ cI cZ bm pa p0 p1 p2 li (q_sw (wi.1, wi.2.1, wi.2.2.1, wi.2.2.2.1, (q_scan pa p0 wi i).1, (q_scan pa p0 wi i).2.1, (q_scan pa p0 wi i).2.2.1, (q_scan pa p0 wi i).2.2.2.1, (q_scan pa p0 wi i).2.2.2.2, wi.2.2.2.2.2.2.2.2.2.1, wi.2.2.2.2.2.2.2.2.2.2) (q_rch (q_sc (wi.1, wi.2.1, wi.2.2.1, wi.2.2.2.1, (q_scan pa p0 wi i).1, (q_scan pa p0 wi i).2.1, (q_scan pa p0 wi i).2.2.1, (q_scan pa p0 wi i).2.2.2.1, (q_scan pa p0 wi i).2.2.2.2, wi.2.2.2.2.2.2.2.2.2.1, wi.2.2.2.2.2.2.2.2.2.2)) (wi.1 i) ((p0.1 (wi.2.1 i)) + (q_tx pa (wi.1, wi.2.1, wi.2.2.1, wi.2.2.2.1, (q_scan pa p0 wi i).1, (q_scan pa p0 wi i).2.1, (q_scan pa p0 wi i).2.2.1, (q_scan pa p0 wi i).2.2.2.1, (q_scan pa p0 wi i).2.2.2.2, wi.2.2.2.2.2.2.2.2.2.1, wi.2.2.2.2.2.2.2.2.2.2) i (wi.2.1 i) (p0.2.2.1 (wi.2.1 i)))) ((p0.2.1 (wi.2.1 i)) + (q_ty pa (wi.1, wi.2.1, wi.2.2.1, wi.2.2.2.1, (q_scan pa p0 wi i).1, (q_scan pa p0 wi i).2.1, (q_scan pa p0 wi i).2.2.1, (q_scan pa p0 wi i).2.2.2.1, (q_scan pa p0 wi i).2.2.2.2, wi.2.2.2.2.2.2.2.2.2.1, wi.2.2.2.2.2.2.2.2.2.2) i (wi.2.1 i) (p0.2.2.1 (wi.2.1 i))))))) H := hP
          have hD : va_D A (Wd ad cJ cI cZ bm pa p0 p1 p2 li (q_sw (wi.1, wi.2.1, wi.2.2.1, wi.2.2.2.1, (q_scan pa p0 wi i).1, (q_scan pa p0 wi i).2.1, (q_scan pa p0 wi i).2.2.1, (q_scan pa p0 wi i).2.2.2.1, (q_scan pa p0 wi i).2.2.2.2, wi.2.2.2.2.2.2.2.2.2.1, wi.2.2.2.2.2.2.2.2.2.2) (q_rch (q_sc (wi.1, wi.2.1, wi.2.2.1, wi.2.2.2.1, (q_scan pa p0 wi i).1, (q_scan pa p0 wi i).2.1, (q_scan pa p0 wi i).2.2.1, (q_scan pa p0 wi i).2.2.2.1, (q_scan pa p0 wi i).2.2.2.2, wi.2.2.2.2.2.2.2.2.2.1, wi.2.2.2.2.2.2.2.2.2.2)) (wi.1 i) ((p0.1 (wi.2.1 i)) + (q_tx pa (wi.1, wi.2.1, wi.2.2.1, wi.2.2.2.1, (q_scan pa p0 wi i).1, (q_scan pa p0 wi i).2.1, (q_scan pa p0 wi i).2.2.1, (q_scan pa p0 wi i).2.2.2.1, (q_scan pa p0 wi i).2.2.2.2, wi.2.2.2.2.2.2.2.2.2.1, wi.2.2.2.2.2.2.2.2.2.2) i (wi.2.1 i) (p0.2.2.1 (wi.2.1 i)))) ((p0.2.1 (wi.2.1 i)) + (q_ty pa (wi.1, wi.2.1, wi.2.2.1, wi.2.2.2.1, (q_scan pa p0 wi i).1, (q_scan pa p0 wi i).2.1, (q_scan pa p0 wi i).2.2.1, (q_scan pa p0 wi i).2.2.2.1, (q_scan pa p0 wi i).2.2.2.2, wi.2.2.2.2.2.2.2.2.2.1, wi.2.2.2.2.2.2.2.2.2.2) i (wi.2.1 i) (p0.2.2.1 (wi.2.1 i))))))) := hD
          refine lv_iinc (v := (nI (i + 1))) (lv' := [(2, .int (nI (i + 1))), (4, .int (nI (p0.2.2.1 (wi.2.1 i)))), (3, .int (nI (wi.2.1 i))), (0, .ref (ad 32)), (1, .ref (ad 8))]) hx hb dX3_measure_97 hl (k := 4) rfl (nI_1 i) (by decide) rfl (fun ls hl => ?_)
          refine lv_goto (tgt := 25) hx hb dX3_measure_100 (by decide) ?_
          have e0 : (q_sw (wi.1, wi.2.1, wi.2.2.1, wi.2.2.2.1, (q_scan pa p0 wi i).1, (q_scan pa p0 wi i).2.1, (q_scan pa p0 wi i).2.2.1, (q_scan pa p0 wi i).2.2.2.1, (q_scan pa p0 wi i).2.2.2.2, wi.2.2.2.2.2.2.2.2.2.1, wi.2.2.2.2.2.2.2.2.2.2) (q_rch (q_sc (wi.1, wi.2.1, wi.2.2.1, wi.2.2.2.1, (q_scan pa p0 wi i).1, (q_scan pa p0 wi i).2.1, (q_scan pa p0 wi i).2.2.1, (q_scan pa p0 wi i).2.2.2.1, (q_scan pa p0 wi i).2.2.2.2, wi.2.2.2.2.2.2.2.2.2.1, wi.2.2.2.2.2.2.2.2.2.2)) (wi.1 i) ((p0.1 (wi.2.1 i)) + (q_tx pa (wi.1, wi.2.1, wi.2.2.1, wi.2.2.2.1, (q_scan pa p0 wi i).1, (q_scan pa p0 wi i).2.1, (q_scan pa p0 wi i).2.2.1, (q_scan pa p0 wi i).2.2.2.1, (q_scan pa p0 wi i).2.2.2.2, wi.2.2.2.2.2.2.2.2.2.1, wi.2.2.2.2.2.2.2.2.2.2) i (wi.2.1 i) (p0.2.2.1 (wi.2.1 i)))) ((p0.2.1 (wi.2.1 i)) + (q_ty pa (wi.1, wi.2.1, wi.2.2.1, wi.2.2.2.1, (q_scan pa p0 wi i).1, (q_scan pa p0 wi i).2.1, (q_scan pa p0 wi i).2.2.1, (q_scan pa p0 wi i).2.2.2.1, (q_scan pa p0 wi i).2.2.2.2, wi.2.2.2.2.2.2.2.2.2.1, wi.2.2.2.2.2.2.2.2.2.2) i (wi.2.1 i) (p0.2.2.1 (wi.2.1 i)))))) = (wi.1, wi.2.1, wi.2.2.1, wi.2.2.2.1, (q_scan pa p0 wi (i + 1)).1, (q_scan pa p0 wi (i + 1)).2.1, (q_scan pa p0 wi (i + 1)).2.2.1, (q_scan pa p0 wi (i + 1)).2.2.2.1, (q_scan pa p0 wi (i + 1)).2.2.2.2, wi.2.2.2.2.2.2.2.2.2.1, wi.2.2.2.2.2.2.2.2.2.2) := by
            show q_sw wi (q_rch (q_scan pa p0 wi i) (wi.1 i) (q_pinX pa p0 wi i) (q_pinY pa p0 wi i)) = q_sw wi (q_scan pa p0 wi (i + 1))
            rw [q_scan_yes c_4]
          rw [e0] at hP hD
          exact ih (i + 1) (by omega) (by omega) _ _ hP hD hS _ (lv_sub hl [3, 4, 0] rfl)
  have lpA : ∀ (k : Nat) (i : Nat), i ≤ wi.2.2.2.2.2.2.2.2.2.1 → wi.2.2.2.2.2.2.2.2.2.1 < i + k → ∀ (H : Heap) (locs : List Loc), va_P D vwCl (Wd ad cJ cI cZ bm pa p0 p1 p2 li (wi.1, wi.2.1, wi.2.2.1, wi.2.2.2.1, (q_clr (q_sc wi) i).1, (q_clr (q_sc wi) i).2.1, (q_clr (q_sc wi) i).2.2.1, (q_clr (q_sc wi) i).2.2.2.1, (q_clr (q_sc wi) i).2.2.2.2, wi.2.2.2.2.2.2.2.2.2.1, wi.2.2.2.2.2.2.2.2.2.2)) H → va_D A (Wd ad cJ cI cZ bm pa p0 p1 p2 li (wi.1, wi.2.1, wi.2.2.1, wi.2.2.2.1, (q_clr (q_sc wi) i).1, (q_clr (q_sc wi) i).2.1, (q_clr (q_sc wi) i).2.2.1, (q_clr (q_sc wi) i).2.2.2.1, (q_clr (q_sc wi) i).2.2.2.2, wi.2.2.2.2.2.2.2.2.2.1, wi.2.2.2.2.2.2.2.2.2.2)) → va_S A s.heap H locs → ∀ (ls : Array Slot), lv_has ls 5 [(0, .ref (ad 32)), (1, .ref (ad 8)), (2, .int (nI i))] → W p l e (headSpec wsX3_measure ({ frames := 2, cells := 0, slots := 0, locals := 50 })).room s m args below meth c H locs 0 0 (MQ below (bm_Wq D vwCl [(cJ, .long), (cI, .int), (cZ, .boolean)] (Wd ad cJ cI cZ bm pa p0 p1 p2 li (q_measW pa p0 wi)) (some (.long (q_meas pa p0 wi))) A) args s 0 0 A) (F0 m 2 ls []) := by
    intro k
    induction k with
    | zero => intro i hi hk; exfalso; omega
    | succ k ih =>
      intro i hi hk H locs hP hD hS ls hl
      refine lv_iload_n hx hb dX3_measure_2 rfl (lv_at hl 2 rfl) ?_
      refine lv_aload_n hx hb dX3_measure_3 rfl (lv_at hl 0 rfl) ?_
      refine va_get (D := D) (ci := 3) (v := .int (nI wi.2.2.2.2.2.2.2.2.2.1)) (C := RX3) (T := TX3) (N := 12) hx hb hts (inT inX3) hown hK hP 32 rfl rfl 10 (by decide) (hts (.fieldLink RX3 41 "BoardMoves$Wiring" "nets" "I") (by decide +kernel)) (fun _ h9 => h9) rfl dX3_measure_4 ?_
      refine bm_ni_ge (x := i) (y := wi.2.2.2.2.2.2.2.2.2.1) (tgt := 23) hx hb (by omega) (by omega) dX3_measure_7 (by decide) (fun c_5 => ?_) (fun c_5 => ?_)
      · refine lv_iconst (v := nI 0) hx hb dX3_measure_23 (by decide) ?_
        refine lv_istore_n (lv' := [(2, .int (nI 0)), (0, .ref (ad 32)), (1, .ref (ad 8))]) hx hb dX3_measure_24 rfl hl (by decide) rfl (fun ls hl => ?_)
        have ei : i = wi.2.2.2.2.2.2.2.2.2.1 := by omega
        rw [ei] at hP hD
        exact lpB (wi.2.2.2.2.2.2.2.2.2.2 + 1) 0 (by omega) (by omega) _ _ hP hD hS _ (lv_sub hl [1, 2, 0] rfl)
      · refine lv_aload_n hx hb dX3_measure_10 rfl (lv_at hl 0 rfl) ?_
        refine va_get (D := D) (ci := 3) (v := .ref (ad 37)) (C := RX3) (T := TX3) (N := 12) hx hb hts (inT inX3) hown hK hP 32 rfl rfl 5 (by decide) (hts (.fieldLink RX3 25 "BoardMoves$Wiring" "reached" "[Z") (by decide +kernel)) (fun _ h9 => h9) rfl dX3_measure_11 ?_
        refine lv_iload_n hx hb dX3_measure_14 rfl (lv_at hl 2 rfl) ?_
        refine lv_iconst (v := bm_b false) hx hb dX3_measure_15 (by decide) ?_
        refine bm_zast (f := ((q_clr (q_sc wi) i).1)) hx hb hK hP hD hS 37 2 rfl rfl (j := i) (x := false) (by omega) (by decide) dX3_measure_16 (fun H locs hP hD hS => ?_)
        have hP : va_P D vwCl (Wd ad cJ cI cZ bm pa p0 p1 p2 li (wi.1, wi.2.1, wi.2.2.1, wi.2.2.2.1, va_up ((q_clr (q_sc wi) i).1) i false, (q_clr (q_sc wi) i).2.1, (q_clr (q_sc wi) i).2.2.1, (q_clr (q_sc wi) i).2.2.2.1, (q_clr (q_sc wi) i).2.2.2.2, wi.2.2.2.2.2.2.2.2.2.1, wi.2.2.2.2.2.2.2.2.2.2)) H := hP
        have hD : va_D A (Wd ad cJ cI cZ bm pa p0 p1 p2 li (wi.1, wi.2.1, wi.2.2.1, wi.2.2.2.1, va_up ((q_clr (q_sc wi) i).1) i false, (q_clr (q_sc wi) i).2.1, (q_clr (q_sc wi) i).2.2.1, (q_clr (q_sc wi) i).2.2.2.1, (q_clr (q_sc wi) i).2.2.2.2, wi.2.2.2.2.2.2.2.2.2.1, wi.2.2.2.2.2.2.2.2.2.2)) := hD
        refine lv_iinc (v := (nI (i + 1))) (lv' := [(2, .int (nI (i + 1))), (0, .ref (ad 32)), (1, .ref (ad 8))]) hx hb dX3_measure_17 hl (k := 2) rfl (nI_1 i) (by decide) rfl (fun ls hl => ?_)
        refine lv_goto (tgt := 2) hx hb dX3_measure_20 (by decide) ?_
        have e0 : va_up ((q_clr (q_sc wi) i).1) i false = (q_clr (q_sc wi) (i + 1)).1 := congrArg (fun z : gSC => z.1) (q_clr_s (q_sc wi) i)
        rw [e0] at hP hD
        exact ih (i + 1) (by omega) (by omega) _ _ hP hD hS _ (lv_sub hl [1, 2, 0] rfl)
  have hl := lv_entry ([.ref (ad 32), .ref (ad 8)]) (n := 5) (Nat.le_of_ble_eq_true rfl)
  refine W.eq (g2 := entryFrame m ([.ref (ad 32), .ref (ad 8)] : List Value).toArray 5) (by rw [ha]) ?_
  rw [lg_entry_eq]
  generalize (lg_sl ([.ref (ad 32), .ref (ad 8)]) ++ List.replicate (5 - (lg_sl ([.ref (ad 32), .ref (ad 8)])).length) Slot.unset).toArray = ls at hl ⊢
  have hl : lv_has ls 5 [(0, .ref (ad 32)), (1, .ref (ad 8))] := hl
  refine lv_iconst (v := nI 0) hx hb dX3_measure_0 (by decide) ?_
  refine lv_istore_n (lv' := [(2, .int (nI 0)), (0, .ref (ad 32)), (1, .ref (ad 8))]) hx hb dX3_measure_1 rfl hl (by decide) rfl (fun ls hl => ?_)
  have e0 : (wi.1, wi.2.1, wi.2.2.1, wi.2.2.2.1, (q_clr (q_sc wi) 0).1, (q_clr (q_sc wi) 0).2.1, (q_clr (q_sc wi) 0).2.2.1, (q_clr (q_sc wi) 0).2.2.2.1, (q_clr (q_sc wi) 0).2.2.2.2, wi.2.2.2.2.2.2.2.2.2.1, wi.2.2.2.2.2.2.2.2.2.2) = wi := (q_clr_0 wi).symm
  have hP : va_P D vwCl (Wd ad cJ cI cZ bm pa p0 p1 p2 li (wi.1, wi.2.1, wi.2.2.1, wi.2.2.2.1, (q_clr (q_sc wi) 0).1, (q_clr (q_sc wi) 0).2.1, (q_clr (q_sc wi) 0).2.2.1, (q_clr (q_sc wi) 0).2.2.2.1, (q_clr (q_sc wi) 0).2.2.2.2, wi.2.2.2.2.2.2.2.2.2.1, wi.2.2.2.2.2.2.2.2.2.2)) s.heap := by rw [e0]; exact hP
  have hD : va_D A (Wd ad cJ cI cZ bm pa p0 p1 p2 li (wi.1, wi.2.1, wi.2.2.1, wi.2.2.2.1, (q_clr (q_sc wi) 0).1, (q_clr (q_sc wi) 0).2.1, (q_clr (q_sc wi) 0).2.2.1, (q_clr (q_sc wi) 0).2.2.2.1, (q_clr (q_sc wi) 0).2.2.2.2, wi.2.2.2.2.2.2.2.2.2.1, wi.2.2.2.2.2.2.2.2.2.2)) := by rw [e0]; exact hD
  exact lpA (wi.2.2.2.2.2.2.2.2.2.1 + 1) 0 (by omega) (by omega) _ _ hP hD hS _ (lv_sub hl [1, 2, 0] rfl)
end
section
set_option maxHeartbeats 4000000 in
set_option maxRecDepth 100000 in
theorem w_back {l : Launch} {D : va_G} {ad : Nat → Nat} {cJ cI cZ : ClassId} {bm : gBM} {pa : gPA} {p0 p1 p2 : gPL} {li : gLI} {wi : gWI} (hoA : q_okA pa) : bm_Wr l yX4_takeBack wsX4_takeBack ({ frames := 1, cells := 0, slots := 0, locals := 22 }) D vwCl [(cJ, .long), (cI, .int), (cZ, .boolean)] (Wd ad cJ cI cZ bm pa p0 p1 p2 li wi) [.ref (ad 0)] (Wd ad cJ cI cZ bm pa (q_copyU p1 p0 pa.2.2.2.2.2.2) p1 p2 li wi) (some (.int (bm_b false))) := by
  obtain ⟨hn, hsd, hlw⟩ := hoA
  intro sz
  refine Met.ofW (cc := cX4_takeBack) (maxL := 1) (ret := (some .boolean)) (by decide) rfl ?_
  intro p e s m args below meth c s₁ B hml hv
  obtain ⟨ha, hsz, hP, hK, hD0⟩ := hv
  have hx := B.exec
  have hb := B.bytes
  have hr := B.returns
  have hts := atoms_spec (ws := wsX4_takeBack) B.pre
  have hown : s.vm.findClass RX4 = some m.cls := findClass_of_methodNamed B.named
  have hlocks := B.notSynchronized
  subst hsz
  have hD := hD0.self (sz := s.heap.size)
  generalize hAe : va_A (Wd ad cJ cI cZ bm pa p0 p1 p2 li wi) s.heap.size = A at hD ⊢
  have hA : ∀ q : Nat, s.heap.size ≤ q → A q := fun q h => by rw [← hAe]; exact Or.inr h
  have hS : va_S A s.heap s.heap [] := va_S.rf
  have hl := lv_entry ([.ref (ad 0)]) (n := 1) (Nat.le_of_ble_eq_true rfl)
  refine W.eq (g2 := entryFrame m ([.ref (ad 0)] : List Value).toArray 1) (by rw [ha]) ?_
  rw [lg_entry_eq]
  generalize (lg_sl ([.ref (ad 0)]) ++ List.replicate (1 - (lg_sl ([.ref (ad 0)])).length) Slot.unset).toArray = ls at hl ⊢
  have hl : lv_has ls 1 [(0, .ref (ad 0))] := hl
  refine lv_aload_n hx hb dX4_takeBack_0 rfl (lv_at hl 0 rfl) ?_
  refine va_get (D := D) (ci := 4) (v := .ref (ad 8)) (C := RX4) (T := TX4) (N := 10) hx hb hts (inT inX4) hown hK hP 0 rfl rfl 5 (by decide) (hts (.fieldLink RX4 37 "BoardMoves" "now" "LBoardMoves$Placement;") (by decide +kernel)) (fun _ h9 => h9) rfl dX4_takeBack_1 ?_
  refine lv_aload_n hx hb dX4_takeBack_4 rfl (lv_at hl 0 rfl) ?_
  refine va_get (D := D) (ci := 4) (v := .ref (ad 13)) (C := RX4) (T := TX4) (N := 10) hx hb hts (inT inX4) hown hK hP 0 rfl rfl 6 (by decide) (hts (.fieldLink RX4 41 "BoardMoves" "before" "LBoardMoves$Placement;") (by decide +kernel)) (fun _ h9 => h9) rfl dX4_takeBack_5 ?_
  refine bm_wcallV (As := [.ref (ad 13)]) (rest := []) ⟨hx, hb, hml, hown, hts⟩ (w_copyp0p1 ⟨hn, hsd, hlw⟩) (cwV 1 hts (gdV (by decide +kernel) (by decide +kernel) (by decide +kernel) (by decide +kernel) (by decide +kernel)) rfl rfl rfl (by decide +kernel) ⟨Nat.le_of_ble_eq_true rfl, Nat.le_of_ble_eq_true rfl⟩) hK hP hD hS hA 8 2 rfl rfl rfl hl.1 rfl (Nat.le_of_ble_eq_true rfl) dX4_takeBack_8 ⟨Nat.le_of_ble_eq_true rfl, Nat.le_of_ble_eq_true rfl⟩ (fun H locs hP hD hS => ?_)
  have hP : va_P D vwCl (Wd ad cJ cI cZ bm pa (q_copyU p1 p0 pa.2.2.2.2.2.2) p1 p2 li wi) H := hP
  have hD : va_D A (Wd ad cJ cI cZ bm pa (q_copyU p1 p0 pa.2.2.2.2.2.2) p1 p2 li wi) := hD
  refine lv_iconst (v := bm_b false) hx hb dX4_takeBack_11 (by decide) ?_
  exact bm_zretW (v := false) hx hb hr hP hD hK hS ⟨rfl, rfl⟩ dX4_takeBack_12 hlocks
end
section
set_option maxHeartbeats 4000000 in
set_option maxRecDepth 100000 in
theorem w_keep {l : Launch} {D : va_G} {ad : Nat → Nat} {cJ cI cZ : ClassId} {bm : gBM} {pa : gPA} {p0 p1 p2 : gPL} {li : gLI} {wi : gWI} (hoA : q_okA pa) (hoL : q_okL p0) (hoL1 : q_okL p1) (hoI : q_okI li) (hoW : q_okW wi) {more : Int64} : bm_Wr l yX4_keepChange wsX4_keepChange ({ frames := 4, cells := 0, slots := 0, locals := 98 }) D vwCl [(cJ, .long), (cI, .int), (cZ, .boolean)] (Wd ad cJ cI cZ bm pa p0 p1 p2 li wi) [.ref (ad 0), .long more] (Wd ad cJ cI cZ (q_keepB bm pa p0 p1 li wi more) pa (q_keepP bm pa p0 p1 li wi more) p1 p2 li (q_keepW bm pa p0 p1 li wi)) (some (.int (bm_b (q_keep bm pa p0 p1 li wi more)))) := by
  obtain ⟨hn, hsd, hlw⟩ := hoA
  intro sz
  refine Met.ofW (cc := cX4_keepChange) (maxL := 5) (ret := (some .boolean)) (by decide) rfl ?_
  intro p e s m args below meth c s₁ B hml hv
  obtain ⟨ha, hsz, hP, hK, hD0⟩ := hv
  have hx := B.exec
  have hb := B.bytes
  have hr := B.returns
  have hts := atoms_spec (ws := wsX4_keepChange) B.pre
  have hown : s.vm.findClass RX4 = some m.cls := findClass_of_methodNamed B.named
  have hlocks := B.notSynchronized
  subst hsz
  have hD := hD0.self (sz := s.heap.size)
  generalize hAe : va_A (Wd ad cJ cI cZ bm pa p0 p1 p2 li wi) s.heap.size = A at hD ⊢
  have hA : ∀ q : Nat, s.heap.size ≤ q → A q := fun q h => by rw [← hAe]; exact Or.inr h
  have hS : va_S A s.heap s.heap [] := va_S.rf
  have lp : ∀ (k : Nat) (i : Nat), i ≤ 40 → 41 < i + k → q_find (q_bad bm pa p0 p1 li) (pa.2.2.2.2.2.2 - i) i = q_bads bm pa p0 p1 li → ∀ (H : Heap) (locs : List Loc), va_P D vwCl (Wd ad cJ cI cZ bm pa p0 p1 p2 li wi) H → va_D A (Wd ad cJ cI cZ bm pa p0 p1 p2 li wi) → va_S A s.heap H locs → ∀ (ls : Array Slot), lv_has ls 5 [(0, .ref (ad 0)), (1, .long more), (3, .int (nI i))] → W p l e (headSpec wsX4_keepChange ({ frames := 4, cells := 0, slots := 0, locals := 98 })).room s m args below meth c H locs 0 0 (MQ below (bm_Wq D vwCl [(cJ, .long), (cI, .int), (cZ, .boolean)] (Wd ad cJ cI cZ (q_keepB bm pa p0 p1 li wi more) pa (q_keepP bm pa p0 p1 li wi more) p1 p2 li (q_keepW bm pa p0 p1 li wi)) (some (.int (bm_b (q_keep bm pa p0 p1 li wi more)))) A) args s 0 0 A) (F0 m 2 ls []) := by
    intro k
    induction k with
    | zero => intro i hi hk he; exfalso; omega
    | succ k ih =>
      intro i hi hk he H locs hP hD hS ls hl
      refine lv_iload_n hx hb dX4_keepChange_2 rfl (lv_at hl 2 rfl) ?_
      refine lv_aload_n hx hb dX4_keepChange_3 rfl (lv_at hl 0 rfl) ?_
      refine va_get (D := D) (ci := 4) (v := .ref (ad 1)) (C := RX4) (T := TX4) (N := 10) hx hb hts (inT inX4) hown hK hP 0 rfl rfl 2 (by decide) (hts (.fieldLink RX4 12 "BoardMoves" "parts" "LBoardMoves$Parts;") (by decide +kernel)) (fun _ h9 => h9) rfl dX4_keepChange_4 ?_
      refine va_get (D := D) (ci := 1) (v := .int (nI pa.2.2.2.2.2.2)) (C := RX1) (T := TX1) (N := 7) hx hb hts (inT inX1) hown hK hP 1 rfl rfl 6 (by decide) (hts (.fieldLink RX4 197 "BoardMoves$Parts" "count" "I") (by decide +kernel)) (fun _ h9 => h9) rfl dX4_keepChange_7 ?_
      refine bm_ni_ge (x := i) (y := pa.2.2.2.2.2.2) (tgt := 83) hx hb (by omega) (by omega) dX4_keepChange_10 (by decide) (fun c_1 => ?_) (fun c_1 => ?_)
      · refine lv_aload_n hx hb dX4_keepChange_83 rfl (lv_at hl 0 rfl) ?_
        refine va_get (D := D) (ci := 4) (v := .ref (ad 32)) (C := RX4) (T := TX4) (N := 10) hx hb hts (inT inX4) hown hK hP 0 rfl rfl 4 (by decide) (hts (.fieldLink RX4 30 "BoardMoves" "wiring" "LBoardMoves$Wiring;") (by decide +kernel)) (fun _ h9 => h9) rfl dX4_keepChange_84 ?_
        refine lv_aload_n hx hb dX4_keepChange_87 rfl (lv_at hl 0 rfl) ?_
        refine va_get (D := D) (ci := 4) (v := .ref (ad 8)) (C := RX4) (T := TX4) (N := 10) hx hb hts (inT inX4) hown hK hP 0 rfl rfl 5 (by decide) (hts (.fieldLink RX4 37 "BoardMoves" "now" "LBoardMoves$Placement;") (by decide +kernel)) (fun _ h9 => h9) rfl dX4_keepChange_88 ?_
        refine bm_wcallV (As := [.ref (ad 8)]) (rest := []) ⟨hx, hb, hml, hown, hts⟩ (w_meas hoL hoW) (cwV 1 hts (gdV (by decide +kernel) (by decide +kernel) (by decide +kernel) (by decide +kernel) (by decide +kernel)) rfl rfl rfl (by decide +kernel) ⟨Nat.le_of_ble_eq_true rfl, Nat.le_of_ble_eq_true rfl⟩) hK hP hD hS hA 32 3 rfl rfl rfl hl.1 rfl (Nat.le_of_ble_eq_true rfl) dX4_keepChange_91 ⟨Nat.le_of_ble_eq_true rfl, Nat.le_of_ble_eq_true rfl⟩ (fun H locs hP hD hS => ?_)
        have hP : va_P D vwCl (Wd ad cJ cI cZ bm pa p0 p1 p2 li (q_measW pa p0 wi)) H := hP
        have hD : va_D A (Wd ad cJ cI cZ bm pa p0 p1 p2 li (q_measW pa p0 wi)) := hD
        refine lv_lstore_n (lv' := [(3, .long (q_meas pa p0 wi)), (0, .ref (ad 0)), (1, .long more)]) hx hb dX4_keepChange_94 rfl hl (by decide) rfl (fun ls hl => ?_)
        refine lv_lload_n hx hb dX4_keepChange_95 rfl (lv_at hl 0 rfl) ?_
        refine lv_aload_n hx hb dX4_keepChange_96 rfl (lv_at hl 1 rfl) ?_
        refine va_get (D := D) (ci := 4) (v := .long bm.2.2.2) (C := RX4) (T := TX4) (N := 10) hx hb hts (inT inX4) hown hK hP 0 rfl rfl 9 (by decide) (hts (.fieldLink RX4 47 "BoardMoves" "keptWire" "J") (by decide +kernel)) (fun _ h9 => h9) rfl dX4_keepChange_97 ?_
        refine lv_lsub hx hb dX4_keepChange_100 ?_
        refine lv_lload_n hx hb dX4_keepChange_101 rfl (lv_at hl 2 rfl) ?_
        refine bm_lc_le (x := ((q_meas pa p0 wi) - bm.2.2.2)) (y := more) (tgt := 111) hx hb dX4_keepChange_102 dX4_keepChange_103 (by decide) (fun c_2 => ?_) (fun c_2 => ?_)
        · refine lv_aload_n hx hb dX4_keepChange_111 rfl (lv_at hl 1 rfl) ?_
          refine lv_lload_n hx hb dX4_keepChange_112 rfl (lv_at hl 0 rfl) ?_
          refine va_put (D := D) (ci := 4) (v := .long (q_meas pa p0 wi)) (ty := .long) (C := RX4) (T := TX4) (N := 10) hx hb hts (inT inX4) tyX4 tyX4_ok nmX4 hown hK hP hD hS 0 rfl rfl 9 (by decide) (hts (.fieldLink RX4 47 "BoardMoves" "keptWire" "J") (by decide +kernel)) (fun _ h9 => h9) rfl (by decide +kernel) rfl rfl (Nat.le_of_ble_eq_true rfl) dX4_keepChange_113 (fun H locs hP hD hS => ?_)
          have hP : va_P D vwCl (Wd ad cJ cI cZ (bm.1, bm.2.1, bm.2.2.1, q_meas pa p0 wi) pa p0 p1 p2 li (q_measW pa p0 wi)) H := hP
          have hD : va_D A (Wd ad cJ cI cZ (bm.1, bm.2.1, bm.2.2.1, q_meas pa p0 wi) pa p0 p1 p2 li (q_measW pa p0 wi)) := hD
          refine lv_iconst (v := bm_b true) hx hb dX4_keepChange_116 (by decide) ?_
          exact bm_zretW (v := true) hx hb hr hP hD hK hS ⟨by
              have hf : q_bads bm pa p0 p1 li = none := by rw [← he]; exact q_find_end (by assumption)
              simp [q_keep, hf, c_2], by
              have hf : q_bads bm pa p0 p1 li = none := by rw [← he]; exact q_find_end (by assumption)
              simp [q_keepP, q_keepW, q_keepB, q_keep, hf, c_2]⟩ dX4_keepChange_117 hlocks
        · refine lv_aload_n hx hb dX4_keepChange_106 rfl (lv_at hl 1 rfl) ?_
          refine bm_wcallV (As := []) (rest := []) ⟨hx, hb, hml, hown, hts⟩ (w_back ⟨hn, hsd, hlw⟩) (cwV 0 hts (gdV (by decide +kernel) (by decide +kernel) (by decide +kernel) (by decide +kernel) (by decide +kernel)) rfl rfl rfl (by decide +kernel) ⟨Nat.le_of_ble_eq_true rfl, Nat.le_of_ble_eq_true rfl⟩) hK hP hD hS hA 0 4 rfl rfl rfl hl.1 rfl (Nat.le_of_ble_eq_true rfl) dX4_keepChange_107 ⟨Nat.le_of_ble_eq_true rfl, Nat.le_of_ble_eq_true rfl⟩ (fun H locs hP hD hS => ?_)
          have hP : va_P D vwCl (Wd ad cJ cI cZ bm pa (q_copyU p1 p0 pa.2.2.2.2.2.2) p1 p2 li (q_measW pa p0 wi)) H := hP
          have hD : va_D A (Wd ad cJ cI cZ bm pa (q_copyU p1 p0 pa.2.2.2.2.2.2) p1 p2 li (q_measW pa p0 wi)) := hD
          exact bm_zretW (v := false) hx hb hr hP hD hK hS ⟨by
              have hf : q_bads bm pa p0 p1 li = none := by rw [← he]; exact q_find_end (by assumption)
              simp [q_keep, hf, c_2], by
              have hf : q_bads bm pa p0 p1 li = none := by rw [← he]; exact q_find_end (by assumption)
              simp [q_keepP, q_keepW, q_keepB, q_keep, hf, c_2]⟩ dX4_keepChange_110 hlocks
      · refine lv_aload_n hx hb dX4_keepChange_13 rfl (lv_at hl 0 rfl) ?_
        refine va_get (D := D) (ci := 4) (v := .ref (ad 8)) (C := RX4) (T := TX4) (N := 10) hx hb hts (inT inX4) hown hK hP 0 rfl rfl 5 (by decide) (hts (.fieldLink RX4 37 "BoardMoves" "now" "LBoardMoves$Placement;") (by decide +kernel)) (fun _ h9 => h9) rfl dX4_keepChange_14 ?_
        refine lv_aload_n hx hb dX4_keepChange_17 rfl (lv_at hl 0 rfl) ?_
        refine va_get (D := D) (ci := 4) (v := .ref (ad 13)) (C := RX4) (T := TX4) (N := 10) hx hb hts (inT inX4) hown hK hP 0 rfl rfl 6 (by decide) (hts (.fieldLink RX4 41 "BoardMoves" "before" "LBoardMoves$Placement;") (by decide +kernel)) (fun _ h9 => h9) rfl dX4_keepChange_18 ?_
        refine lv_iload_n hx hb dX4_keepChange_21 rfl (lv_at hl 2 rfl) ?_
        refine bm_rcallV (As := [.ref (ad 13), .int (nI i)]) (rest := []) ⟨hx, hb, hml, hown, hts⟩ (r_differs (j := i) hoL hoL1 (by omega)) (cwV 2 hts (gdV (by decide +kernel) (by decide +kernel) (by decide +kernel) (by decide +kernel) (by decide +kernel)) rfl rfl rfl (by decide +kernel) ⟨Nat.le_of_ble_eq_true rfl, Nat.le_of_ble_eq_true rfl⟩) hK hP 8 2 rfl rfl rfl hl.1 rfl (Nat.le_of_ble_eq_true rfl) dX4_keepChange_22 ⟨Nat.le_of_ble_eq_true rfl, Nat.le_of_ble_eq_true rfl⟩ ?_
        refine bm_zb_eq (x := (q_differs p0 p1 i)) (tgt := 77) hx hb dX4_keepChange_25 (by decide) (fun c_3 => ?_) (fun c_3 => ?_)
        · refine lv_iinc (v := (nI (i + 1))) (lv' := [(3, .int (nI (i + 1))), (0, .ref (ad 0)), (1, .long more)]) hx hb dX4_keepChange_77 hl (k := 2) rfl (nI_1 i) (by decide) rfl (fun ls hl => ?_)
          refine lv_goto (tgt := 2) hx hb dX4_keepChange_80 (by decide) ?_
          exact ih (i + 1) (by omega) (by omega) (by rw [← he]; exact q_find_go (by assumption) (by simp [q_bad, c_3])) _ _ hP hD hS _ (lv_sub hl [1, 2, 0] rfl)
        · refine lv_aload_n hx hb dX4_keepChange_28 rfl (lv_at hl 0 rfl) ?_
          refine va_get (D := D) (ci := 4) (v := .ref (ad 1)) (C := RX4) (T := TX4) (N := 10) hx hb hts (inT inX4) hown hK hP 0 rfl rfl 2 (by decide) (hts (.fieldLink RX4 12 "BoardMoves" "parts" "LBoardMoves$Parts;") (by decide +kernel)) (fun _ h9 => h9) rfl dX4_keepChange_29 ?_
          refine va_get (D := D) (ci := 1) (v := .ref (ad 6)) (C := RX1) (T := TX1) (N := 7) hx hb hts (inT inX1) hown hK hP 1 rfl rfl 4 (by decide) (hts (.fieldLink RX4 132 "BoardMoves$Parts" "locked" "[Z") (by decide +kernel)) (fun _ h9 => h9) rfl dX4_keepChange_32 ?_
          refine lv_iload_n hx hb dX4_keepChange_35 rfl (lv_at hl 2 rfl) ?_
          refine bm_zald (f := pa.2.2.2.2.1) hx hb hK hP 6 2 rfl rfl (j := i) (by omega) (by decide) dX4_keepChange_36 ?_
          refine bm_zb_eq (x := (pa.2.2.2.2.1 i)) (tgt := 56) hx hb dX4_keepChange_37 (by decide) (fun c_4 => ?_) (fun c_4 => ?_)
          · refine lv_iconst (v := bm_b false) hx hb dX4_keepChange_56 (by decide) ?_
            refine lv_istore (lv' := [(4, .int (bm_b false)), (0, .ref (ad 0)), (1, .long more), (3, .int (nI i))]) hx hb dX4_keepChange_57 hl (by decide) rfl (fun ls hl => ?_)
            refine lv_iload hx hb dX4_keepChange_59 (lv_at hl 0 rfl) ?_
            refine bm_zb_ne (x := false) (tgt := 72) hx hb dX4_keepChange_61 (by decide) (fun c_5 => ?_) (fun c_5 => ?_)
            · exact absurd c_5 (by decide)
            · refine lv_aload_n hx hb dX4_keepChange_64 rfl (lv_at hl 1 rfl) ?_
              refine lv_iload_n hx hb dX4_keepChange_65 rfl (lv_at hl 3 rfl) ?_
              refine bm_rcallV (As := [.int (nI i)]) (rest := []) ⟨hx, hb, hml, hown, hts⟩ (r_well (j := i) ⟨hn, hsd, hlw⟩ hoL hoI (by omega)) (cwV 1 hts (gdV (by decide +kernel) (by decide +kernel) (by decide +kernel) (by decide +kernel) (by decide +kernel)) rfl rfl rfl (by decide +kernel) ⟨Nat.le_of_ble_eq_true rfl, Nat.le_of_ble_eq_true rfl⟩) hK hP 0 4 rfl rfl rfl hl.1 rfl (Nat.le_of_ble_eq_true rfl) dX4_keepChange_66 ⟨Nat.le_of_ble_eq_true rfl, Nat.le_of_ble_eq_true rfl⟩ ?_
              refine bm_zb_ne (x := (q_well bm pa p0 li i)) (tgt := 77) hx hb dX4_keepChange_69 (by decide) (fun c_6 => ?_) (fun c_6 => ?_)
              · refine lv_iinc (v := (nI (i + 1))) (lv' := [(3, .int (nI (i + 1))), (4, .int (bm_b false)), (0, .ref (ad 0)), (1, .long more)]) hx hb dX4_keepChange_77 hl (k := 3) rfl (nI_1 i) (by decide) rfl (fun ls hl => ?_)
                refine lv_goto (tgt := 2) hx hb dX4_keepChange_80 (by decide) ?_
                exact ih (i + 1) (by omega) (by omega) (by rw [← he]; exact q_find_go (by assumption) (by simp [q_bad, c_3, c_4, c_6])) _ _ hP hD hS _ (lv_sub hl [2, 3, 0] rfl)
              · refine lv_aload_n hx hb dX4_keepChange_72 rfl (lv_at hl 1 rfl) ?_
                refine bm_wcallV (As := []) (rest := []) ⟨hx, hb, hml, hown, hts⟩ (w_back ⟨hn, hsd, hlw⟩) (cwV 0 hts (gdV (by decide +kernel) (by decide +kernel) (by decide +kernel) (by decide +kernel) (by decide +kernel)) rfl rfl rfl (by decide +kernel) ⟨Nat.le_of_ble_eq_true rfl, Nat.le_of_ble_eq_true rfl⟩) hK hP hD hS hA 0 4 rfl rfl rfl hl.1 rfl (Nat.le_of_ble_eq_true rfl) dX4_keepChange_73 ⟨Nat.le_of_ble_eq_true rfl, Nat.le_of_ble_eq_true rfl⟩ (fun H locs hP hD hS => ?_)
                have hP : va_P D vwCl (Wd ad cJ cI cZ bm pa (q_copyU p1 p0 pa.2.2.2.2.2.2) p1 p2 li wi) H := hP
                have hD : va_D A (Wd ad cJ cI cZ bm pa (q_copyU p1 p0 pa.2.2.2.2.2.2) p1 p2 li wi) := hD
                exact bm_zretW (v := false) hx hb hr hP hD hK hS ⟨by
                    have hf : q_bads bm pa p0 p1 li = some i := by rw [← he]; exact q_find_hit (by assumption) (by simp [q_bad, c_3, c_4, c_6])
                    simp [q_keep, hf], by
                    have hf : q_bads bm pa p0 p1 li = some i := by rw [← he]; exact q_find_hit (by assumption) (by simp [q_bad, c_3, c_4, c_6])
                    simp [q_keepP, q_keepW, q_keepB, q_keep, hf]⟩ dX4_keepChange_76 hlocks
          · refine lv_aload_n hx hb dX4_keepChange_40 rfl (lv_at hl 0 rfl) ?_
            refine va_get (D := D) (ci := 4) (v := .ref (ad 13)) (C := RX4) (T := TX4) (N := 10) hx hb hts (inT inX4) hown hK hP 0 rfl rfl 6 (by decide) (hts (.fieldLink RX4 41 "BoardMoves" "before" "LBoardMoves$Placement;") (by decide +kernel)) (fun _ h9 => h9) rfl dX4_keepChange_41 ?_
            refine va_get (D := D) (ci := 2) (v := .ref (ad 17)) (C := RX2) (T := TX2) (N := 5) hx hb hts (inT inX2) hown hK hP 13 rfl rfl 4 (by decide) (hts (.fieldLink RX4 96 "BoardMoves$Placement" "placed" "[Z") (by decide +kernel)) (fun _ h9 => h9) rfl dX4_keepChange_44 ?_
            refine lv_iload_n hx hb dX4_keepChange_47 rfl (lv_at hl 2 rfl) ?_
            refine bm_zald (f := p1.2.2.2) hx hb hK hP 17 2 rfl rfl (j := i) (by omega) (by decide) dX4_keepChange_48 ?_
            refine bm_zb_eq (x := (p1.2.2.2 i)) (tgt := 56) hx hb dX4_keepChange_49 (by decide) (fun c_7 => ?_) (fun c_7 => ?_)
            · refine lv_iconst (v := bm_b false) hx hb dX4_keepChange_56 (by decide) ?_
              refine lv_istore (lv' := [(4, .int (bm_b false)), (0, .ref (ad 0)), (1, .long more), (3, .int (nI i))]) hx hb dX4_keepChange_57 hl (by decide) rfl (fun ls hl => ?_)
              refine lv_iload hx hb dX4_keepChange_59 (lv_at hl 0 rfl) ?_
              refine bm_zb_ne (x := false) (tgt := 72) hx hb dX4_keepChange_61 (by decide) (fun c_8 => ?_) (fun c_8 => ?_)
              · exact absurd c_8 (by decide)
              · refine lv_aload_n hx hb dX4_keepChange_64 rfl (lv_at hl 1 rfl) ?_
                refine lv_iload_n hx hb dX4_keepChange_65 rfl (lv_at hl 3 rfl) ?_
                refine bm_rcallV (As := [.int (nI i)]) (rest := []) ⟨hx, hb, hml, hown, hts⟩ (r_well (j := i) ⟨hn, hsd, hlw⟩ hoL hoI (by omega)) (cwV 1 hts (gdV (by decide +kernel) (by decide +kernel) (by decide +kernel) (by decide +kernel) (by decide +kernel)) rfl rfl rfl (by decide +kernel) ⟨Nat.le_of_ble_eq_true rfl, Nat.le_of_ble_eq_true rfl⟩) hK hP 0 4 rfl rfl rfl hl.1 rfl (Nat.le_of_ble_eq_true rfl) dX4_keepChange_66 ⟨Nat.le_of_ble_eq_true rfl, Nat.le_of_ble_eq_true rfl⟩ ?_
                refine bm_zb_ne (x := (q_well bm pa p0 li i)) (tgt := 77) hx hb dX4_keepChange_69 (by decide) (fun c_9 => ?_) (fun c_9 => ?_)
                · refine lv_iinc (v := (nI (i + 1))) (lv' := [(3, .int (nI (i + 1))), (4, .int (bm_b false)), (0, .ref (ad 0)), (1, .long more)]) hx hb dX4_keepChange_77 hl (k := 3) rfl (nI_1 i) (by decide) rfl (fun ls hl => ?_)
                  refine lv_goto (tgt := 2) hx hb dX4_keepChange_80 (by decide) ?_
                  exact ih (i + 1) (by omega) (by omega) (by rw [← he]; exact q_find_go (by assumption) (by simp [q_bad, c_3, c_4, c_7, c_9])) _ _ hP hD hS _ (lv_sub hl [2, 3, 0] rfl)
                · refine lv_aload_n hx hb dX4_keepChange_72 rfl (lv_at hl 1 rfl) ?_
                  refine bm_wcallV (As := []) (rest := []) ⟨hx, hb, hml, hown, hts⟩ (w_back ⟨hn, hsd, hlw⟩) (cwV 0 hts (gdV (by decide +kernel) (by decide +kernel) (by decide +kernel) (by decide +kernel) (by decide +kernel)) rfl rfl rfl (by decide +kernel) ⟨Nat.le_of_ble_eq_true rfl, Nat.le_of_ble_eq_true rfl⟩) hK hP hD hS hA 0 4 rfl rfl rfl hl.1 rfl (Nat.le_of_ble_eq_true rfl) dX4_keepChange_73 ⟨Nat.le_of_ble_eq_true rfl, Nat.le_of_ble_eq_true rfl⟩ (fun H locs hP hD hS => ?_)
                  have hP : va_P D vwCl (Wd ad cJ cI cZ bm pa (q_copyU p1 p0 pa.2.2.2.2.2.2) p1 p2 li wi) H := hP
                  have hD : va_D A (Wd ad cJ cI cZ bm pa (q_copyU p1 p0 pa.2.2.2.2.2.2) p1 p2 li wi) := hD
                  exact bm_zretW (v := false) hx hb hr hP hD hK hS ⟨by
                      have hf : q_bads bm pa p0 p1 li = some i := by rw [← he]; exact q_find_hit (by assumption) (by simp [q_bad, c_3, c_4, c_7, c_9])
                      simp [q_keep, hf], by
                      have hf : q_bads bm pa p0 p1 li = some i := by rw [← he]; exact q_find_hit (by assumption) (by simp [q_bad, c_3, c_4, c_7, c_9])
                      simp [q_keepP, q_keepW, q_keepB, q_keep, hf]⟩ dX4_keepChange_76 hlocks
            · refine lv_iconst (v := bm_b true) hx hb dX4_keepChange_52 (by decide) ?_
              refine lv_goto (tgt := 57) hx hb dX4_keepChange_53 (by decide) ?_
              refine lv_istore (lv' := [(4, .int (bm_b true)), (0, .ref (ad 0)), (1, .long more), (3, .int (nI i))]) hx hb dX4_keepChange_57 hl (by decide) rfl (fun ls hl => ?_)
              refine lv_iload hx hb dX4_keepChange_59 (lv_at hl 0 rfl) ?_
              refine bm_zb_ne (x := true) (tgt := 72) hx hb dX4_keepChange_61 (by decide) (fun c_10 => ?_) (fun c_10 => ?_)
              · refine lv_aload_n hx hb dX4_keepChange_72 rfl (lv_at hl 1 rfl) ?_
                refine bm_wcallV (As := []) (rest := []) ⟨hx, hb, hml, hown, hts⟩ (w_back ⟨hn, hsd, hlw⟩) (cwV 0 hts (gdV (by decide +kernel) (by decide +kernel) (by decide +kernel) (by decide +kernel) (by decide +kernel)) rfl rfl rfl (by decide +kernel) ⟨Nat.le_of_ble_eq_true rfl, Nat.le_of_ble_eq_true rfl⟩) hK hP hD hS hA 0 4 rfl rfl rfl hl.1 rfl (Nat.le_of_ble_eq_true rfl) dX4_keepChange_73 ⟨Nat.le_of_ble_eq_true rfl, Nat.le_of_ble_eq_true rfl⟩ (fun H locs hP hD hS => ?_)
                have hP : va_P D vwCl (Wd ad cJ cI cZ bm pa (q_copyU p1 p0 pa.2.2.2.2.2.2) p1 p2 li wi) H := hP
                have hD : va_D A (Wd ad cJ cI cZ bm pa (q_copyU p1 p0 pa.2.2.2.2.2.2) p1 p2 li wi) := hD
                exact bm_zretW (v := false) hx hb hr hP hD hK hS ⟨by
                    have hf : q_bads bm pa p0 p1 li = some i := by rw [← he]; exact q_find_hit (by assumption) (by simp [q_bad, c_3, c_4, c_7])
                    simp [q_keep, hf], by
                    have hf : q_bads bm pa p0 p1 li = some i := by rw [← he]; exact q_find_hit (by assumption) (by simp [q_bad, c_3, c_4, c_7])
                    simp [q_keepP, q_keepW, q_keepB, q_keep, hf]⟩ dX4_keepChange_76 hlocks
              · exact absurd c_10 (by decide)
  have hl := lv_entry ([.ref (ad 0), .long more]) (n := 5) (Nat.le_of_ble_eq_true rfl)
  refine W.eq (g2 := entryFrame m ([.ref (ad 0), .long more] : List Value).toArray 5) (by rw [ha]) ?_
  rw [lg_entry_eq]
  generalize (lg_sl ([.ref (ad 0), .long more]) ++ List.replicate (5 - (lg_sl ([.ref (ad 0), .long more])).length) Slot.unset).toArray = ls at hl ⊢
  have hl : lv_has ls 5 [(0, .ref (ad 0)), (1, .long more)] := hl
  refine lv_iconst (v := nI 0) hx hb dX4_keepChange_0 (by decide) ?_
  refine lv_istore_n (lv' := [(3, .int (nI 0)), (0, .ref (ad 0)), (1, .long more)]) hx hb dX4_keepChange_1 rfl hl (by decide) rfl (fun ls hl => ?_)
  exact lp 42 0 (by omega) (by omega) rfl _ _ hP hD hS _ (lv_sub hl [1, 2, 0] rfl)
end
section
set_option maxHeartbeats 4000000 in
set_option maxRecDepth 100000 in
theorem w_swap {l : Launch} {D : va_G} {ad : Nat → Nat} {cJ cI cZ : ClassId} {bm : gBM} {pa : gPA} {p0 p1 p2 : gPL} {li : gLI} {wi : gWI} (hoA : q_okA pa) {a b : Nat} (h1 : a < 40) (h2 : b < 40) : bm_Wr l yX4_swapPlaces wsX4_swapPlaces ({ frames := 2, cells := 0, slots := 0, locals := 48 }) D vwCl [(cJ, .long), (cI, .int), (cZ, .boolean)] (Wd ad cJ cI cZ bm pa p0 p1 p2 li wi) [.ref (ad 0), .int (nI a), .int (nI b)] (Wd ad cJ cI cZ bm pa (q_swap pa p0 a b) p1 p2 li wi) (none) := by
  obtain ⟨hn, hsd, hlw⟩ := hoA
  intro sz
  refine Met.ofW (cc := cX4_swapPlaces) (maxL := 7) (ret := none) (by decide) rfl ?_
  intro p e s m args below meth c s₁ B hml hv
  obtain ⟨ha, hsz, hP, hK, hD0⟩ := hv
  have hx := B.exec
  have hb := B.bytes
  have hr := B.returns
  have hts := atoms_spec (ws := wsX4_swapPlaces) B.pre
  have hown : s.vm.findClass RX4 = some m.cls := findClass_of_methodNamed B.named
  have hlocks := B.notSynchronized
  subst hsz
  have hD := hD0.self (sz := s.heap.size)
  generalize hAe : va_A (Wd ad cJ cI cZ bm pa p0 p1 p2 li wi) s.heap.size = A at hD ⊢
  have hA : ∀ q : Nat, s.heap.size ≤ q → A q := fun q h => by rw [← hAe]; exact Or.inr h
  have hS : va_S A s.heap s.heap [] := va_S.rf
  have hl := lv_entry ([.ref (ad 0), .int (nI a), .int (nI b)]) (n := 7) (Nat.le_of_ble_eq_true rfl)
  refine W.eq (g2 := entryFrame m ([.ref (ad 0), .int (nI a), .int (nI b)] : List Value).toArray 7) (by rw [ha]) ?_
  rw [lg_entry_eq]
  generalize (lg_sl ([.ref (ad 0), .int (nI a), .int (nI b)]) ++ List.replicate (7 - (lg_sl ([.ref (ad 0), .int (nI a), .int (nI b)])).length) Slot.unset).toArray = ls at hl ⊢
  have hl : lv_has ls 7 [(0, .ref (ad 0)), (1, .int (nI a)), (2, .int (nI b))] := hl
  refine lv_aload_n hx hb dX4_swapPlaces_0 rfl (lv_at hl 0 rfl) ?_
  refine va_get (D := D) (ci := 4) (v := .ref (ad 8)) (C := RX4) (T := TX4) (N := 10) hx hb hts (inT inX4) hown hK hP 0 rfl rfl 5 (by decide) (hts (.fieldLink RX4 37 "BoardMoves" "now" "LBoardMoves$Placement;") (by decide +kernel)) (fun _ h9 => h9) rfl dX4_swapPlaces_1 ?_
  refine va_get (D := D) (ci := 2) (v := .ref (ad 12)) (C := RX2) (T := TX2) (N := 5) hx hb hts (inT inX2) hown hK hP 8 rfl rfl 4 (by decide) (hts (.fieldLink RX4 96 "BoardMoves$Placement" "placed" "[Z") (by decide +kernel)) (fun _ h9 => h9) rfl dX4_swapPlaces_4 ?_
  refine lv_iload_n hx hb dX4_swapPlaces_7 rfl (lv_at hl 2 rfl) ?_
  refine bm_zald (f := p0.2.2.2) hx hb hK hP 12 2 rfl rfl (j := b) (by omega) (by decide) dX4_swapPlaces_8 ?_
  refine bm_zb_eq (x := (p0.2.2.2 b)) (tgt := 24) hx hb dX4_swapPlaces_9 (by decide) (fun c_1 => ?_) (fun c_1 => ?_)
  · exact bm_vretW hx hb hr hP hD hK hS (by simp [q_swap, c_1]) dX4_swapPlaces_24 hlocks
  · refine lv_aload_n hx hb dX4_swapPlaces_12 rfl (lv_at hl 0 rfl) ?_
    refine va_get (D := D) (ci := 4) (v := .ref (ad 1)) (C := RX4) (T := TX4) (N := 10) hx hb hts (inT inX4) hown hK hP 0 rfl rfl 2 (by decide) (hts (.fieldLink RX4 12 "BoardMoves" "parts" "LBoardMoves$Parts;") (by decide +kernel)) (fun _ h9 => h9) rfl dX4_swapPlaces_13 ?_
    refine lv_iload_n hx hb dX4_swapPlaces_16 rfl (lv_at hl 1 rfl) ?_
    refine lv_iload_n hx hb dX4_swapPlaces_17 rfl (lv_at hl 2 rfl) ?_
    refine bm_rcallV (As := [.int (nI a), .int (nI b)]) (rest := []) ⟨hx, hb, hml, hown, hts⟩ (r_mates (a := a) (b := b) ⟨hn, hsd, hlw⟩ (by omega) (by omega)) (cwV 2 hts (gdV (by decide +kernel) (by decide +kernel) (by decide +kernel) (by decide +kernel) (by decide +kernel)) rfl rfl rfl (by decide +kernel) ⟨Nat.le_of_ble_eq_true rfl, Nat.le_of_ble_eq_true rfl⟩) hK hP 1 1 rfl rfl rfl hl.1 rfl (Nat.le_of_ble_eq_true rfl) dX4_swapPlaces_18 ⟨Nat.le_of_ble_eq_true rfl, Nat.le_of_ble_eq_true rfl⟩ ?_
    refine bm_zb_eq (x := (q_mates pa a b)) (tgt := 25) hx hb dX4_swapPlaces_21 (by decide) (fun c_2 => ?_) (fun c_2 => ?_)
    · refine lv_aload_n hx hb dX4_swapPlaces_25 rfl (lv_at hl 0 rfl) ?_
      refine va_get (D := D) (ci := 4) (v := .ref (ad 8)) (C := RX4) (T := TX4) (N := 10) hx hb hts (inT inX4) hown hK hP 0 rfl rfl 5 (by decide) (hts (.fieldLink RX4 37 "BoardMoves" "now" "LBoardMoves$Placement;") (by decide +kernel)) (fun _ h9 => h9) rfl dX4_swapPlaces_26 ?_
      refine va_get (D := D) (ci := 2) (v := .ref (ad 9)) (C := RX2) (T := TX2) (N := 5) hx hb hts (inT inX2) hown hK hP 8 rfl rfl 1 (by decide) (hts (.fieldLink RX4 112 "BoardMoves$Placement" "x" "[J") (by decide +kernel)) (fun _ h9 => h9) rfl dX4_swapPlaces_29 ?_
      refine lv_iload_n hx hb dX4_swapPlaces_32 rfl (lv_at hl 2 rfl) ?_
      refine bm_lald (f := p0.1) hx hb hK hP 9 0 rfl rfl (j := b) (by omega) (by decide) dX4_swapPlaces_33 ?_
      refine lv_aload_n hx hb dX4_swapPlaces_34 rfl (lv_at hl 0 rfl) ?_
      refine va_get (D := D) (ci := 4) (v := .ref (ad 8)) (C := RX4) (T := TX4) (N := 10) hx hb hts (inT inX4) hown hK hP 0 rfl rfl 5 (by decide) (hts (.fieldLink RX4 37 "BoardMoves" "now" "LBoardMoves$Placement;") (by decide +kernel)) (fun _ h9 => h9) rfl dX4_swapPlaces_35 ?_
      refine va_get (D := D) (ci := 2) (v := .ref (ad 9)) (C := RX2) (T := TX2) (N := 5) hx hb hts (inT inX2) hown hK hP 8 rfl rfl 1 (by decide) (hts (.fieldLink RX4 112 "BoardMoves$Placement" "x" "[J") (by decide +kernel)) (fun _ h9 => h9) rfl dX4_swapPlaces_38 ?_
      refine lv_iload_n hx hb dX4_swapPlaces_41 rfl (lv_at hl 1 rfl) ?_
      refine bm_lald (f := p0.1) hx hb hK hP 9 0 rfl rfl (j := a) (by omega) (by decide) dX4_swapPlaces_42 ?_
      refine lv_lsub hx hb dX4_swapPlaces_43 ?_
      refine lv_lstore_n (lv' := [(3, .long ((p0.1 b) - (p0.1 a))), (0, .ref (ad 0)), (1, .int (nI a)), (2, .int (nI b))]) hx hb dX4_swapPlaces_44 rfl hl (by decide) rfl (fun ls hl => ?_)
      refine lv_aload_n hx hb dX4_swapPlaces_45 rfl (lv_at hl 1 rfl) ?_
      refine va_get (D := D) (ci := 4) (v := .ref (ad 8)) (C := RX4) (T := TX4) (N := 10) hx hb hts (inT inX4) hown hK hP 0 rfl rfl 5 (by decide) (hts (.fieldLink RX4 37 "BoardMoves" "now" "LBoardMoves$Placement;") (by decide +kernel)) (fun _ h9 => h9) rfl dX4_swapPlaces_46 ?_
      refine va_get (D := D) (ci := 2) (v := .ref (ad 10)) (C := RX2) (T := TX2) (N := 5) hx hb hts (inT inX2) hown hK hP 8 rfl rfl 2 (by decide) (hts (.fieldLink RX4 116 "BoardMoves$Placement" "y" "[J") (by decide +kernel)) (fun _ h9 => h9) rfl dX4_swapPlaces_49 ?_
      refine lv_iload_n hx hb dX4_swapPlaces_52 rfl (lv_at hl 3 rfl) ?_
      refine bm_lald (f := p0.2.1) hx hb hK hP 10 0 rfl rfl (j := b) (by omega) (by decide) dX4_swapPlaces_53 ?_
      refine lv_aload_n hx hb dX4_swapPlaces_54 rfl (lv_at hl 1 rfl) ?_
      refine va_get (D := D) (ci := 4) (v := .ref (ad 8)) (C := RX4) (T := TX4) (N := 10) hx hb hts (inT inX4) hown hK hP 0 rfl rfl 5 (by decide) (hts (.fieldLink RX4 37 "BoardMoves" "now" "LBoardMoves$Placement;") (by decide +kernel)) (fun _ h9 => h9) rfl dX4_swapPlaces_55 ?_
      refine va_get (D := D) (ci := 2) (v := .ref (ad 10)) (C := RX2) (T := TX2) (N := 5) hx hb hts (inT inX2) hown hK hP 8 rfl rfl 2 (by decide) (hts (.fieldLink RX4 116 "BoardMoves$Placement" "y" "[J") (by decide +kernel)) (fun _ h9 => h9) rfl dX4_swapPlaces_58 ?_
      refine lv_iload_n hx hb dX4_swapPlaces_61 rfl (lv_at hl 2 rfl) ?_
      refine bm_lald (f := p0.2.1) hx hb hK hP 10 0 rfl rfl (j := a) (by omega) (by decide) dX4_swapPlaces_62 ?_
      refine lv_lsub hx hb dX4_swapPlaces_63 ?_
      refine lv_lstore (lv' := [(5, .long ((p0.2.1 b) - (p0.2.1 a))), (3, .long ((p0.1 b) - (p0.1 a))), (0, .ref (ad 0)), (1, .int (nI a)), (2, .int (nI b))]) hx hb dX4_swapPlaces_64 hl (by decide) rfl (fun ls hl => ?_)
      refine lv_aload_n hx hb dX4_swapPlaces_66 rfl (lv_at hl 2 rfl) ?_
      refine va_get (D := D) (ci := 4) (v := .ref (ad 8)) (C := RX4) (T := TX4) (N := 10) hx hb hts (inT inX4) hown hK hP 0 rfl rfl 5 (by decide) (hts (.fieldLink RX4 37 "BoardMoves" "now" "LBoardMoves$Placement;") (by decide +kernel)) (fun _ h9 => h9) rfl dX4_swapPlaces_67 ?_
      refine lv_iload_n hx hb dX4_swapPlaces_70 rfl (lv_at hl 3 rfl) ?_
      refine lv_lload_n hx hb dX4_swapPlaces_71 rfl (lv_at hl 1 rfl) ?_
      refine lv_lload hx hb dX4_swapPlaces_72 (lv_at hl 0 rfl) ?_
      refine bm_wcallV (As := [.int (nI a), .long ((p0.1 b) - (p0.1 a)), .long ((p0.2.1 b) - (p0.2.1 a))]) (rest := []) ⟨hx, hb, hml, hown, hts⟩ (w_shift (j := a) ⟨hn, hsd, hlw⟩ (by omega)) (cwV 3 hts (gdV (by decide +kernel) (by decide +kernel) (by decide +kernel) (by decide +kernel) (by decide +kernel)) rfl rfl rfl (by decide +kernel) ⟨Nat.le_of_ble_eq_true rfl, Nat.le_of_ble_eq_true rfl⟩) hK hP hD hS hA 8 2 rfl rfl rfl hl.1 rfl (Nat.le_of_ble_eq_true rfl) dX4_swapPlaces_74 ⟨Nat.le_of_ble_eq_true rfl, Nat.le_of_ble_eq_true rfl⟩ (fun H locs hP hD hS => ?_)
      have hP : va_P D vwCl (Wd ad cJ cI cZ bm pa (q_shift pa p0 a ((p0.1 b) - (p0.1 a)) ((p0.2.1 b) - (p0.2.1 a))) p1 p2 li wi) H := hP
      have hD : va_D A (Wd ad cJ cI cZ bm pa (q_shift pa p0 a ((p0.1 b) - (p0.1 a)) ((p0.2.1 b) - (p0.2.1 a))) p1 p2 li wi) := hD
      refine lv_aload_n hx hb dX4_swapPlaces_77 rfl (lv_at hl 2 rfl) ?_
      refine va_get (D := D) (ci := 4) (v := .ref (ad 8)) (C := RX4) (T := TX4) (N := 10) hx hb hts (inT inX4) hown hK hP 0 rfl rfl 5 (by decide) (hts (.fieldLink RX4 37 "BoardMoves" "now" "LBoardMoves$Placement;") (by decide +kernel)) (fun _ h9 => h9) rfl dX4_swapPlaces_78 ?_
      refine lv_iload_n hx hb dX4_swapPlaces_81 rfl (lv_at hl 4 rfl) ?_
      refine lv_lload_n hx hb dX4_swapPlaces_82 rfl (lv_at hl 1 rfl) ?_
      refine lv_lneg hx hb dX4_swapPlaces_83 ?_
      refine lv_lload hx hb dX4_swapPlaces_84 (lv_at hl 0 rfl) ?_
      refine lv_lneg hx hb dX4_swapPlaces_86 ?_
      refine bm_wcallV (As := [.int (nI b), .long (-((p0.1 b) - (p0.1 a))), .long (-((p0.2.1 b) - (p0.2.1 a)))]) (rest := []) ⟨hx, hb, hml, hown, hts⟩ (w_shift (j := b) ⟨hn, hsd, hlw⟩ (by omega)) (cwV 3 hts (gdV (by decide +kernel) (by decide +kernel) (by decide +kernel) (by decide +kernel) (by decide +kernel)) rfl rfl rfl (by decide +kernel) ⟨Nat.le_of_ble_eq_true rfl, Nat.le_of_ble_eq_true rfl⟩) hK hP hD hS hA 8 2 rfl rfl rfl hl.1 rfl (Nat.le_of_ble_eq_true rfl) dX4_swapPlaces_87 ⟨Nat.le_of_ble_eq_true rfl, Nat.le_of_ble_eq_true rfl⟩ (fun H locs hP hD hS => ?_)
      have hP : va_P D vwCl (Wd ad cJ cI cZ bm pa (q_shift pa (q_shift pa p0 a ((p0.1 b) - (p0.1 a)) ((p0.2.1 b) - (p0.2.1 a))) b (-((p0.1 b) - (p0.1 a))) (-((p0.2.1 b) - (p0.2.1 a)))) p1 p2 li wi) H := hP
      have hD : va_D A (Wd ad cJ cI cZ bm pa (q_shift pa (q_shift pa p0 a ((p0.1 b) - (p0.1 a)) ((p0.2.1 b) - (p0.2.1 a))) b (-((p0.1 b) - (p0.1 a))) (-((p0.2.1 b) - (p0.2.1 a)))) p1 p2 li wi) := hD
      exact bm_vretW hx hb hr hP hD hK hS (by simp [q_swap, c_1, c_2]) dX4_swapPlaces_90 hlocks
    · exact bm_vretW hx hb hr hP hD hK hS (by simp [q_swap, c_1, c_2]) dX4_swapPlaces_24 hlocks
end
section
set_option maxHeartbeats 4000000 in
set_option maxRecDepth 100000 in
theorem w_turnA {l : Launch} {D : va_G} {ad : Nat → Nat} {cJ cI cZ : ClassId} {bm : gBM} {pa : gPA} {p0 p1 p2 : gPL} {li : gLI} {wi : gWI} (hoA : q_okA pa) (hoL : q_okL p0) {a q : Nat} (h1 : a < 40) (h2 : q < 40) : bm_Wr l yX4_turnAlone wsX4_turnAlone ({ frames := 2, cells := 0, slots := 0, locals := 44 }) D vwCl [(cJ, .long), (cI, .int), (cZ, .boolean)] (Wd ad cJ cI cZ bm pa p0 p1 p2 li wi) [.ref (ad 0), .int (nI a), .int (nI q)] (Wd ad cJ cI cZ bm pa (q_turnA pa p0 a q) p1 p2 li wi) (none) := by
  obtain ⟨hn, hsd, hlw⟩ := hoA
  intro sz
  refine Met.ofW (cc := cX4_turnAlone) (maxL := 3) (ret := none) (by decide) rfl ?_
  intro p e s m args below meth c s₁ B hml hv
  obtain ⟨ha, hsz, hP, hK, hD0⟩ := hv
  have hx := B.exec
  have hb := B.bytes
  have hr := B.returns
  have hts := atoms_spec (ws := wsX4_turnAlone) B.pre
  have hown : s.vm.findClass RX4 = some m.cls := findClass_of_methodNamed B.named
  have hlocks := B.notSynchronized
  subst hsz
  have hD := hD0.self (sz := s.heap.size)
  generalize hAe : va_A (Wd ad cJ cI cZ bm pa p0 p1 p2 li wi) s.heap.size = A at hD ⊢
  have hA : ∀ q : Nat, s.heap.size ≤ q → A q := fun q h => by rw [← hAe]; exact Or.inr h
  have hS : va_S A s.heap s.heap [] := va_S.rf
  have hl := lv_entry ([.ref (ad 0), .int (nI a), .int (nI q)]) (n := 3) (Nat.le_of_ble_eq_true rfl)
  refine W.eq (g2 := entryFrame m ([.ref (ad 0), .int (nI a), .int (nI q)] : List Value).toArray 3) (by rw [ha]) ?_
  rw [lg_entry_eq]
  generalize (lg_sl ([.ref (ad 0), .int (nI a), .int (nI q)]) ++ List.replicate (3 - (lg_sl ([.ref (ad 0), .int (nI a), .int (nI q)])).length) Slot.unset).toArray = ls at hl ⊢
  have hl : lv_has ls 3 [(0, .ref (ad 0)), (1, .int (nI a)), (2, .int (nI q))] := hl
  refine lv_aload_n hx hb dX4_turnAlone_0 rfl (lv_at hl 0 rfl) ?_
  refine va_get (D := D) (ci := 4) (v := .ref (ad 8)) (C := RX4) (T := TX4) (N := 10) hx hb hts (inT inX4) hown hK hP 0 rfl rfl 5 (by decide) (hts (.fieldLink RX4 37 "BoardMoves" "now" "LBoardMoves$Placement;") (by decide +kernel)) (fun _ h9 => h9) rfl dX4_turnAlone_1 ?_
  refine lv_iload_n hx hb dX4_turnAlone_4 rfl (lv_at hl 1 rfl) ?_
  refine bm_rcallV (As := [.int (nI a)]) (rest := []) ⟨hx, hb, hml, hown, hts⟩ (r_hasMate (j := a) ⟨hn, hsd, hlw⟩ (by omega)) (cwV 1 hts (gdV (by decide +kernel) (by decide +kernel) (by decide +kernel) (by decide +kernel) (by decide +kernel)) rfl rfl rfl (by decide +kernel) ⟨Nat.le_of_ble_eq_true rfl, Nat.le_of_ble_eq_true rfl⟩) hK hP 8 2 rfl rfl rfl hl.1 rfl (Nat.le_of_ble_eq_true rfl) dX4_turnAlone_5 ⟨Nat.le_of_ble_eq_true rfl, Nat.le_of_ble_eq_true rfl⟩ ?_
  refine bm_zb_ne (x := (q_hasMate pa p0 a)) (tgt := 33) hx hb dX4_turnAlone_8 (by decide) (fun c_1 => ?_) (fun c_1 => ?_)
  · exact bm_vretW hx hb hr hP hD hK hS (by simp [q_turnA, c_1]) dX4_turnAlone_33 hlocks
  · refine lv_aload_n hx hb dX4_turnAlone_11 rfl (lv_at hl 0 rfl) ?_
    refine va_get (D := D) (ci := 4) (v := .ref (ad 8)) (C := RX4) (T := TX4) (N := 10) hx hb hts (inT inX4) hown hK hP 0 rfl rfl 5 (by decide) (hts (.fieldLink RX4 37 "BoardMoves" "now" "LBoardMoves$Placement;") (by decide +kernel)) (fun _ h9 => h9) rfl dX4_turnAlone_12 ?_
    refine va_get (D := D) (ci := 2) (v := .ref (ad 11)) (C := RX2) (T := TX2) (N := 5) hx hb hts (inT inX2) hown hK hP 8 rfl rfl 3 (by decide) (hts (.fieldLink RX4 100 "BoardMoves$Placement" "turn" "[I") (by decide +kernel)) (fun _ h9 => h9) rfl dX4_turnAlone_15 ?_
    refine lv_iload_n hx hb dX4_turnAlone_18 rfl (lv_at hl 1 rfl) ?_
    refine lv_aload_n hx hb dX4_turnAlone_19 rfl (lv_at hl 0 rfl) ?_
    refine va_get (D := D) (ci := 4) (v := .ref (ad 8)) (C := RX4) (T := TX4) (N := 10) hx hb hts (inT inX4) hown hK hP 0 rfl rfl 5 (by decide) (hts (.fieldLink RX4 37 "BoardMoves" "now" "LBoardMoves$Placement;") (by decide +kernel)) (fun _ h9 => h9) rfl dX4_turnAlone_20 ?_
    refine va_get (D := D) (ci := 2) (v := .ref (ad 11)) (C := RX2) (T := TX2) (N := 5) hx hb hts (inT inX2) hown hK hP 8 rfl rfl 3 (by decide) (hts (.fieldLink RX4 100 "BoardMoves$Placement" "turn" "[I") (by decide +kernel)) (fun _ h9 => h9) rfl dX4_turnAlone_23 ?_
    refine lv_iload_n hx hb dX4_turnAlone_26 rfl (lv_at hl 1 rfl) ?_
    refine bm_nald (f := p0.2.2.1) hx hb hK hP 11 1 rfl rfl (j := a) (by omega) (by decide) dX4_turnAlone_27 ?_
    refine lv_iload_n hx hb dX4_turnAlone_28 rfl (lv_at hl 2 rfl) ?_
    refine bm_nadd hx hb dX4_turnAlone_29 ?_
    refine lv_iconst (v := nI 4) hx hb dX4_turnAlone_30 (by decide) ?_
    refine bm_nrem hx hb (by have := hoL a; omega) (by decide) (by decide) dX4_turnAlone_31 ?_
    refine bm_nast (f := p0.2.2.1) hx hb hK hP hD hS 11 1 rfl rfl (j := a) (x := (((p0.2.2.1 a) + q) % 4)) (by omega) (by decide) dX4_turnAlone_32 (fun H locs hP hD hS => ?_)
    have hP : va_P D vwCl (Wd ad cJ cI cZ bm pa (p0.1, p0.2.1, va_up p0.2.2.1 a (((p0.2.2.1 a) + q) % 4), p0.2.2.2) p1 p2 li wi) H := hP
    have hD : va_D A (Wd ad cJ cI cZ bm pa (p0.1, p0.2.1, va_up p0.2.2.1 a (((p0.2.2.1 a) + q) % 4), p0.2.2.2) p1 p2 li wi) := hD
    exact bm_vretW hx hb hr hP hD hK hS (by simp [q_turnA, c_1]) dX4_turnAlone_33 hlocks
end
