section
-- ===== PART A: goes FIRST, ahead of the names: the tables' words, and 'selects' of the private methods out of them =====
/-- a private method of a class that the tables say can be made, by its rows of tables_1 -/
def lw_okq (q : MethodName × Nat) : Prop := (q.1.cls ≠ "java/lang/invoke/MethodHandle" ∧ q.1.cls ≠ "java/lang/invoke/VarHandle") ∧ Cond.instantiable q.1.cls q.2 ∈ tables_1 ∧ Cond.privateMethod q.1 ∈ tables_1 ∧ Cond.instanceMethod q.1 ∈ tables_1
theorem lw_p0 : lw_okq (⟨"BoardMoves$Wiring", "turnedX", "(III)J"⟩, 12) := ⟨⟨by decide +kernel, by decide +kernel⟩, List.mem_of_getElem? (i := 108) (by decide +kernel), List.mem_of_getElem? (i := 240) (by decide +kernel), List.mem_of_getElem? (i := 241) (by decide +kernel)⟩
theorem lw_p1 : lw_okq (⟨"BoardMoves$Wiring", "turnedY", "(III)J"⟩, 12) := ⟨⟨by decide +kernel, by decide +kernel⟩, List.mem_of_getElem? (i := 108) (by decide +kernel), List.mem_of_getElem? (i := 244) (by decide +kernel), List.mem_of_getElem? (i := 245) (by decide +kernel)⟩
theorem lw_p2 : lw_okq (⟨"BoardMoves$Wiring", "reach", "(IJJ)V"⟩, 12) := ⟨⟨by decide +kernel, by decide +kernel⟩, List.mem_of_getElem? (i := 108) (by decide +kernel), List.mem_of_getElem? (i := 248) (by decide +kernel), List.mem_of_getElem? (i := 249) (by decide +kernel)⟩
theorem lw_p3 : lw_okq (⟨"BoardMoves", "allStandWell", "()Z"⟩, 10) := ⟨⟨by decide +kernel, by decide +kernel⟩, List.mem_of_getElem? (i := 15) (by decide +kernel), List.mem_of_getElem? (i := 258) (by decide +kernel), List.mem_of_getElem? (i := 259) (by decide +kernel)⟩
theorem lw_p4 : lw_okq (⟨"BoardMoves", "standsWell", "(I)Z"⟩, 10) := ⟨⟨by decide +kernel, by decide +kernel⟩, List.mem_of_getElem? (i := 15) (by decide +kernel), List.mem_of_getElem? (i := 262) (by decide +kernel), List.mem_of_getElem? (i := 263) (by decide +kernel)⟩
theorem lw_p5 : lw_okq (⟨"BoardMoves", "fitsBoard", "(IJJI)Z"⟩, 10) := ⟨⟨by decide +kernel, by decide +kernel⟩, List.mem_of_getElem? (i := 15) (by decide +kernel), List.mem_of_getElem? (i := 266) (by decide +kernel), List.mem_of_getElem? (i := 267) (by decide +kernel)⟩
theorem lw_p6 : lw_okq (⟨"java/lang/Throwable", "fillInStackTrace", "(I)Ljava/lang/Throwable;"⟩, 6) := ⟨⟨by decide +kernel, by decide +kernel⟩, List.mem_of_getElem? (i := 353) (by decide +kernel), List.mem_of_getElem? (i := 351) (by decide +kernel), List.mem_of_getElem? (i := 352) (by decide +kernel)⟩
theorem lw_p7 : lw_okq (⟨"BoardMoves", "needPart", "(I)V"⟩, 10) := ⟨⟨by decide +kernel, by decide +kernel⟩, List.mem_of_getElem? (i := 15) (by decide +kernel), List.mem_of_getElem? (i := 395) (by decide +kernel), List.mem_of_getElem? (i := 396) (by decide +kernel)⟩
theorem lw_p8 : lw_okq (⟨"BoardMoves", "keepChange", "(J)Z"⟩, 10) := ⟨⟨by decide +kernel, by decide +kernel⟩, List.mem_of_getElem? (i := 15) (by decide +kernel), List.mem_of_getElem? (i := 437) (by decide +kernel), List.mem_of_getElem? (i := 438) (by decide +kernel)⟩
theorem lw_p9 : lw_okq (⟨"BoardMoves", "takeBack", "()Z"⟩, 10) := ⟨⟨by decide +kernel, by decide +kernel⟩, List.mem_of_getElem? (i := 15) (by decide +kernel), List.mem_of_getElem? (i := 445) (by decide +kernel), List.mem_of_getElem? (i := 446) (by decide +kernel)⟩
theorem lw_p10 : lw_okq (⟨"BoardMoves", "clearTheWay", "(IZZ)Z"⟩, 10) := ⟨⟨by decide +kernel, by decide +kernel⟩, List.mem_of_getElem? (i := 15) (by decide +kernel), List.mem_of_getElem? (i := 496) (by decide +kernel), List.mem_of_getElem? (i := 497) (by decide +kernel)⟩
theorem lw_p11 : lw_okq (⟨"BoardMoves", "goesOn", "(IIIZZ)Z"⟩, 10) := ⟨⟨by decide +kernel, by decide +kernel⟩, List.mem_of_getElem? (i := 15) (by decide +kernel), List.mem_of_getElem? (i := 506) (by decide +kernel), List.mem_of_getElem? (i := 507) (by decide +kernel)⟩
theorem lw_p12 : lw_okq (⟨"BoardMoves", "countChanged", "(I)I"⟩, 10) := ⟨⟨by decide +kernel, by decide +kernel⟩, List.mem_of_getElem? (i := 15) (by decide +kernel), List.mem_of_getElem? (i := 514) (by decide +kernel), List.mem_of_getElem? (i := 515) (by decide +kernel)⟩
theorem lw_p13 : lw_okq (⟨"BoardMoves", "step", "(J)Z"⟩, 10) := ⟨⟨by decide +kernel, by decide +kernel⟩, List.mem_of_getElem? (i := 15) (by decide +kernel), List.mem_of_getElem? (i := 536) (by decide +kernel), List.mem_of_getElem? (i := 537) (by decide +kernel)⟩
theorem lw_p14 : lw_okq (⟨"BoardMoves", "draw", "()J"⟩, 10) := ⟨⟨by decide +kernel, by decide +kernel⟩, List.mem_of_getElem? (i := 15) (by decide +kernel), List.mem_of_getElem? (i := 540) (by decide +kernel), List.mem_of_getElem? (i := 541) (by decide +kernel)⟩
theorem lw_p15 : lw_okq (⟨"BoardMoves", "swapPlaces", "(II)V"⟩, 10) := ⟨⟨by decide +kernel, by decide +kernel⟩, List.mem_of_getElem? (i := 15) (by decide +kernel), List.mem_of_getElem? (i := 547) (by decide +kernel), List.mem_of_getElem? (i := 548) (by decide +kernel)⟩
def lw_privs_1 : List (MethodName × Nat) := [(⟨"BoardMoves$Wiring", "turnedX", "(III)J"⟩, 12), (⟨"BoardMoves$Wiring", "turnedY", "(III)J"⟩, 12), (⟨"BoardMoves$Wiring", "reach", "(IJJ)V"⟩, 12), (⟨"BoardMoves", "allStandWell", "()Z"⟩, 10), (⟨"BoardMoves", "standsWell", "(I)Z"⟩, 10), (⟨"BoardMoves", "fitsBoard", "(IJJI)Z"⟩, 10), (⟨"java/lang/Throwable", "fillInStackTrace", "(I)Ljava/lang/Throwable;"⟩, 6), (⟨"BoardMoves", "needPart", "(I)V"⟩, 10), (⟨"BoardMoves", "keepChange", "(J)Z"⟩, 10), (⟨"BoardMoves", "takeBack", "()Z"⟩, 10), (⟨"BoardMoves", "clearTheWay", "(IZZ)Z"⟩, 10), (⟨"BoardMoves", "goesOn", "(IIIZZ)Z"⟩, 10), (⟨"BoardMoves", "countChanged", "(I)I"⟩, 10), (⟨"BoardMoves", "step", "(J)Z"⟩, 10), (⟨"BoardMoves", "draw", "()J"⟩, 10), (⟨"BoardMoves", "swapPlaces", "(II)V"⟩, 10)]
theorem lw_r1 : ∀ q ∈ lw_privs_1, lw_okq q := List.forall_mem_cons.mpr ⟨lw_p0, List.forall_mem_cons.mpr ⟨lw_p1, List.forall_mem_cons.mpr ⟨lw_p2, List.forall_mem_cons.mpr ⟨lw_p3, List.forall_mem_cons.mpr ⟨lw_p4, List.forall_mem_cons.mpr ⟨lw_p5, List.forall_mem_cons.mpr ⟨lw_p6, List.forall_mem_cons.mpr ⟨lw_p7, List.forall_mem_cons.mpr ⟨lw_p8, List.forall_mem_cons.mpr ⟨lw_p9, List.forall_mem_cons.mpr ⟨lw_p10, List.forall_mem_cons.mpr ⟨lw_p11, List.forall_mem_cons.mpr ⟨lw_p12, List.forall_mem_cons.mpr ⟨lw_p13, List.forall_mem_cons.mpr ⟨lw_p14, List.forall_mem_cons.mpr ⟨lw_p15, fun _ h => absurd h List.not_mem_nil⟩⟩⟩⟩⟩⟩⟩⟩⟩⟩⟩⟩⟩⟩⟩⟩
theorem lw_p16 : lw_okq (⟨"BoardMoves", "turnAlone", "(II)V"⟩, 10) := ⟨⟨by decide +kernel, by decide +kernel⟩, List.mem_of_getElem? (i := 15) (by decide +kernel), List.mem_of_getElem? (i := 552) (by decide +kernel), List.mem_of_getElem? (i := 553) (by decide +kernel)⟩
theorem lw_p17 : lw_okq (⟨"BoardMovesModel", "isPart", "(I)Z"⟩, 28) := ⟨⟨by decide +kernel, by decide +kernel⟩, List.mem_of_getElem? (i := 614) (by decide +kernel), List.mem_of_getElem? (i := 717) (by decide +kernel), List.mem_of_getElem? (i := 718) (by decide +kernel)⟩
theorem lw_p18 : lw_okq (⟨"BoardMovesModel", "begin", "()V"⟩, 28) := ⟨⟨by decide +kernel, by decide +kernel⟩, List.mem_of_getElem? (i := 614) (by decide +kernel), List.mem_of_getElem? (i := 721) (by decide +kernel), List.mem_of_getElem? (i := 722) (by decide +kernel)⟩
theorem lw_p19 : lw_okq (⟨"BoardMovesModel", "copy", "(II)V"⟩, 28) := ⟨⟨by decide +kernel, by decide +kernel⟩, List.mem_of_getElem? (i := 614) (by decide +kernel), List.mem_of_getElem? (i := 725) (by decide +kernel), List.mem_of_getElem? (i := 726) (by decide +kernel)⟩
theorem lw_p20 : lw_okq (⟨"BoardMovesModel", "hasMate", "(I)Z"⟩, 28) := ⟨⟨by decide +kernel, by decide +kernel⟩, List.mem_of_getElem? (i := 614) (by decide +kernel), List.mem_of_getElem? (i := 729) (by decide +kernel), List.mem_of_getElem? (i := 730) (by decide +kernel)⟩
theorem lw_p21 : lw_okq (⟨"BoardMovesModel", "left", "(II)J"⟩, 28) := ⟨⟨by decide +kernel, by decide +kernel⟩, List.mem_of_getElem? (i := 614) (by decide +kernel), List.mem_of_getElem? (i := 733) (by decide +kernel), List.mem_of_getElem? (i := 734) (by decide +kernel)⟩
theorem lw_p22 : lw_okq (⟨"BoardMovesModel", "low", "(II)J"⟩, 28) := ⟨⟨by decide +kernel, by decide +kernel⟩, List.mem_of_getElem? (i := 614) (by decide +kernel), List.mem_of_getElem? (i := 737) (by decide +kernel), List.mem_of_getElem? (i := 738) (by decide +kernel)⟩
theorem lw_p23 : lw_okq (⟨"BoardMovesModel", "go", "(IJJ)V"⟩, 28) := ⟨⟨by decide +kernel, by decide +kernel⟩, List.mem_of_getElem? (i := 614) (by decide +kernel), List.mem_of_getElem? (i := 741) (by decide +kernel), List.mem_of_getElem? (i := 742) (by decide +kernel)⟩
theorem lw_p24 : lw_okq (⟨"BoardMovesModel", "movesLocked", "()Z"⟩, 28) := ⟨⟨by decide +kernel, by decide +kernel⟩, List.mem_of_getElem? (i := 614) (by decide +kernel), List.mem_of_getElem? (i := 745) (by decide +kernel), List.mem_of_getElem? (i := 746) (by decide +kernel)⟩
theorem lw_p25 : lw_okq (⟨"BoardMovesModel", "isSame", "(II)Z"⟩, 28) := ⟨⟨by decide +kernel, by decide +kernel⟩, List.mem_of_getElem? (i := 614) (by decide +kernel), List.mem_of_getElem? (i := 749) (by decide +kernel), List.mem_of_getElem? (i := 750) (by decide +kernel)⟩
theorem lw_p26 : lw_okq (⟨"BoardMovesModel", "isWell", "(I)Z"⟩, 28) := ⟨⟨by decide +kernel, by decide +kernel⟩, List.mem_of_getElem? (i := 614) (by decide +kernel), List.mem_of_getElem? (i := 753) (by decide +kernel), List.mem_of_getElem? (i := 754) (by decide +kernel)⟩
theorem lw_p27 : lw_okq (⟨"BoardMovesModel", "isOnBoard", "(II)Z"⟩, 28) := ⟨⟨by decide +kernel, by decide +kernel⟩, List.mem_of_getElem? (i := 614) (by decide +kernel), List.mem_of_getElem? (i := 757) (by decide +kernel), List.mem_of_getElem? (i := 758) (by decide +kernel)⟩
theorem lw_p28 : lw_okq (⟨"BoardMovesModel", "right", "(II)J"⟩, 28) := ⟨⟨by decide +kernel, by decide +kernel⟩, List.mem_of_getElem? (i := 614) (by decide +kernel), List.mem_of_getElem? (i := 761) (by decide +kernel), List.mem_of_getElem? (i := 762) (by decide +kernel)⟩
theorem lw_p29 : lw_okq (⟨"BoardMovesModel", "lies", "(II)Z"⟩, 28) := ⟨⟨by decide +kernel, by decide +kernel⟩, List.mem_of_getElem? (i := 614) (by decide +kernel), List.mem_of_getElem? (i := 765) (by decide +kernel), List.mem_of_getElem? (i := 766) (by decide +kernel)⟩
theorem lw_p30 : lw_okq (⟨"BoardMovesModel", "top", "(II)J"⟩, 28) := ⟨⟨by decide +kernel, by decide +kernel⟩, List.mem_of_getElem? (i := 614) (by decide +kernel), List.mem_of_getElem? (i := 769) (by decide +kernel), List.mem_of_getElem? (i := 770) (by decide +kernel)⟩
theorem lw_p31 : lw_okq (⟨"BoardMovesModel", "isKeptOut", "(II)Z"⟩, 28) := ⟨⟨by decide +kernel, by decide +kernel⟩, List.mem_of_getElem? (i := 614) (by decide +kernel), List.mem_of_getElem? (i := 773) (by decide +kernel), List.mem_of_getElem? (i := 774) (by decide +kernel)⟩
def lw_privs_2 : List (MethodName × Nat) := [(⟨"BoardMoves", "turnAlone", "(II)V"⟩, 10), (⟨"BoardMovesModel", "isPart", "(I)Z"⟩, 28), (⟨"BoardMovesModel", "begin", "()V"⟩, 28), (⟨"BoardMovesModel", "copy", "(II)V"⟩, 28), (⟨"BoardMovesModel", "hasMate", "(I)Z"⟩, 28), (⟨"BoardMovesModel", "left", "(II)J"⟩, 28), (⟨"BoardMovesModel", "low", "(II)J"⟩, 28), (⟨"BoardMovesModel", "go", "(IJJ)V"⟩, 28), (⟨"BoardMovesModel", "movesLocked", "()Z"⟩, 28), (⟨"BoardMovesModel", "isSame", "(II)Z"⟩, 28), (⟨"BoardMovesModel", "isWell", "(I)Z"⟩, 28), (⟨"BoardMovesModel", "isOnBoard", "(II)Z"⟩, 28), (⟨"BoardMovesModel", "right", "(II)J"⟩, 28), (⟨"BoardMovesModel", "lies", "(II)Z"⟩, 28), (⟨"BoardMovesModel", "top", "(II)J"⟩, 28), (⟨"BoardMovesModel", "isKeptOut", "(II)Z"⟩, 28)]
theorem lw_r2 : ∀ q ∈ lw_privs_2, lw_okq q := List.forall_mem_cons.mpr ⟨lw_p16, List.forall_mem_cons.mpr ⟨lw_p17, List.forall_mem_cons.mpr ⟨lw_p18, List.forall_mem_cons.mpr ⟨lw_p19, List.forall_mem_cons.mpr ⟨lw_p20, List.forall_mem_cons.mpr ⟨lw_p21, List.forall_mem_cons.mpr ⟨lw_p22, List.forall_mem_cons.mpr ⟨lw_p23, List.forall_mem_cons.mpr ⟨lw_p24, List.forall_mem_cons.mpr ⟨lw_p25, List.forall_mem_cons.mpr ⟨lw_p26, List.forall_mem_cons.mpr ⟨lw_p27, List.forall_mem_cons.mpr ⟨lw_p28, List.forall_mem_cons.mpr ⟨lw_p29, List.forall_mem_cons.mpr ⟨lw_p30, List.forall_mem_cons.mpr ⟨lw_p31, fun _ h => absurd h List.not_mem_nil⟩⟩⟩⟩⟩⟩⟩⟩⟩⟩⟩⟩⟩⟩⟩⟩
theorem lw_p32 : lw_okq (⟨"BoardMovesModel", "overlap", "(III)Z"⟩, 28) := ⟨⟨by decide +kernel, by decide +kernel⟩, List.mem_of_getElem? (i := 614) (by decide +kernel), List.mem_of_getElem? (i := 777) (by decide +kernel), List.mem_of_getElem? (i := 778) (by decide +kernel)⟩
theorem lw_p33 : lw_okq (⟨"BoardMovesModel", "isNear", "(II)Z"⟩, 28) := ⟨⟨by decide +kernel, by decide +kernel⟩, List.mem_of_getElem? (i := 614) (by decide +kernel), List.mem_of_getElem? (i := 781) (by decide +kernel), List.mem_of_getElem? (i := 782) (by decide +kernel)⟩
theorem lw_p34 : lw_okq (⟨"BoardMovesModel", "wireOf", "(I)J"⟩, 28) := ⟨⟨by decide +kernel, by decide +kernel⟩, List.mem_of_getElem? (i := 614) (by decide +kernel), List.mem_of_getElem? (i := 804) (by decide +kernel), List.mem_of_getElem? (i := 805) (by decide +kernel)⟩
theorem lw_p35 : lw_okq (⟨"BoardMovesModel", "reach", "(IIZ)J"⟩, 28) := ⟨⟨by decide +kernel, by decide +kernel⟩, List.mem_of_getElem? (i := 614) (by decide +kernel), List.mem_of_getElem? (i := 808) (by decide +kernel), List.mem_of_getElem? (i := 809) (by decide +kernel)⟩
theorem lw_p36 : lw_okq (⟨"BoardMovesModel", "pinAt", "(IIZ)J"⟩, 28) := ⟨⟨by decide +kernel, by decide +kernel⟩, List.mem_of_getElem? (i := 614) (by decide +kernel), List.mem_of_getElem? (i := 812) (by decide +kernel), List.mem_of_getElem? (i := 813) (by decide +kernel)⟩
theorem lw_p37 : lw_okq (⟨"BoardMovesModel", "shove", "(II)Z"⟩, 28) := ⟨⟨by decide +kernel, by decide +kernel⟩, List.mem_of_getElem? (i := 614) (by decide +kernel), List.mem_of_getElem? (i := 827) (by decide +kernel), List.mem_of_getElem? (i := 828) (by decide +kernel)⟩
theorem lw_p38 : lw_okq (⟨"BoardMovesModel", "firstOverlap", "()I"⟩, 28) := ⟨⟨by decide +kernel, by decide +kernel⟩, List.mem_of_getElem? (i := 614) (by decide +kernel), List.mem_of_getElem? (i := 831) (by decide +kernel), List.mem_of_getElem? (i := 832) (by decide +kernel)⟩
theorem lw_p39 : lw_okq (⟨"BoardMovesModel", "beginOn", "(II)J"⟩, 28) := ⟨⟨by decide +kernel, by decide +kernel⟩, List.mem_of_getElem? (i := 614) (by decide +kernel), List.mem_of_getElem? (i := 835) (by decide +kernel), List.mem_of_getElem? (i := 836) (by decide +kernel)⟩
theorem lw_p40 : lw_okq (⟨"BoardMovesModel", "goOn", "(III)V"⟩, 28) := ⟨⟨by decide +kernel, by decide +kernel⟩, List.mem_of_getElem? (i := 614) (by decide +kernel), List.mem_of_getElem? (i := 839) (by decide +kernel), List.mem_of_getElem? (i := 840) (by decide +kernel)⟩
theorem lw_p41 : lw_okq (⟨"BoardMovesModel", "draw", "()J"⟩, 28) := ⟨⟨by decide +kernel, by decide +kernel⟩, List.mem_of_getElem? (i := 614) (by decide +kernel), List.mem_of_getElem? (i := 860) (by decide +kernel), List.mem_of_getElem? (i := 861) (by decide +kernel)⟩
theorem lw_p42 : lw_okq (⟨"BoardMovesModel", "step", "(JJJJ)V"⟩, 28) := ⟨⟨by decide +kernel, by decide +kernel⟩, List.mem_of_getElem? (i := 614) (by decide +kernel), List.mem_of_getElem? (i := 866) (by decide +kernel), List.mem_of_getElem? (i := 867) (by decide +kernel)⟩
theorem lw_p43 : lw_okq (⟨"BoardMovesModel", "changes", "()Z"⟩, 28) := ⟨⟨by decide +kernel, by decide +kernel⟩, List.mem_of_getElem? (i := 614) (by decide +kernel), List.mem_of_getElem? (i := 873) (by decide +kernel), List.mem_of_getElem? (i := 874) (by decide +kernel)⟩
def lw_privs_3 : List (MethodName × Nat) := [(⟨"BoardMovesModel", "overlap", "(III)Z"⟩, 28), (⟨"BoardMovesModel", "isNear", "(II)Z"⟩, 28), (⟨"BoardMovesModel", "wireOf", "(I)J"⟩, 28), (⟨"BoardMovesModel", "reach", "(IIZ)J"⟩, 28), (⟨"BoardMovesModel", "pinAt", "(IIZ)J"⟩, 28), (⟨"BoardMovesModel", "shove", "(II)Z"⟩, 28), (⟨"BoardMovesModel", "firstOverlap", "()I"⟩, 28), (⟨"BoardMovesModel", "beginOn", "(II)J"⟩, 28), (⟨"BoardMovesModel", "goOn", "(III)V"⟩, 28), (⟨"BoardMovesModel", "draw", "()J"⟩, 28), (⟨"BoardMovesModel", "step", "(JJJJ)V"⟩, 28), (⟨"BoardMovesModel", "changes", "()Z"⟩, 28)]
theorem lw_r3 : ∀ q ∈ lw_privs_3, lw_okq q := List.forall_mem_cons.mpr ⟨lw_p32, List.forall_mem_cons.mpr ⟨lw_p33, List.forall_mem_cons.mpr ⟨lw_p34, List.forall_mem_cons.mpr ⟨lw_p35, List.forall_mem_cons.mpr ⟨lw_p36, List.forall_mem_cons.mpr ⟨lw_p37, List.forall_mem_cons.mpr ⟨lw_p38, List.forall_mem_cons.mpr ⟨lw_p39, List.forall_mem_cons.mpr ⟨lw_p40, List.forall_mem_cons.mpr ⟨lw_p41, List.forall_mem_cons.mpr ⟨lw_p42, List.forall_mem_cons.mpr ⟨lw_p43, fun _ h => absurd h List.not_mem_nil⟩⟩⟩⟩⟩⟩⟩⟩⟩⟩⟩⟩
def lw_privs : List (MethodName × Nat) := lw_privs_1 ++ (lw_privs_2 ++ (lw_privs_3))
def lw_tbl : List Cond := k2_sels lw_privs ++ tables_1
theorem lw_privs_ok : ∀ q ∈ lw_privs, lw_okq q := by
  show ∀ q ∈ lw_privs_1 ++ (lw_privs_2 ++ (lw_privs_3)), lw_okq q
  exact List.forall_mem_append.mpr ⟨lw_r1, List.forall_mem_append.mpr ⟨lw_r2, lw_r3⟩⟩
-- ===== end of PART A =====
end
section
-- BM LAYER: wrappers of the kit's rows for worlds of long / Nat / Bool arrays, one uniform world, readers and writers
def bm_b (b : Bool) : Int32 := if b then 1 else 0
theorem bm_b_t : bm_b true = 1 := rfl
theorem bm_b_f : bm_b false = 0 := rfl
theorem bm_b_nar (b : Bool) : vp_nar .boolean (bm_b b) = bm_b b := by cases b <;> decide
theorem bm_b_narrow (b : Bool) : narrow .boolean (.int (bm_b b)) = .int (bm_b b) := by cases b <;> rfl
theorem bm_b_eq0 (b : Bool) : bm_b b = 0 ↔ b = false := by cases b <;> decide
theorem bm_b_inj (a b : Bool) : bm_b a = bm_b b ↔ a = b := by cases a <;> cases b <;> decide
theorem bm_upB (f : Nat → Bool) (k : Nat) (v : Bool) : upd (fun j => bm_b (f j)) k (bm_b v) = fun j => bm_b (va_up f k v j) := by
  funext j
  by_cases h : j = k
  · simp [upd, va_up, h]
  · simp [upd, va_up, h]
theorem bm_upN (f : Nat → Nat) (k : Nat) (v : Nat) : upd (fun j => nI (f j)) k (nI v) = fun j => nI (va_up f k v j) := by
  funext j
  by_cases h : j = k
  · simp [upd, va_up, h]
  · simp [upd, va_up, h]
theorem bm_upL (f : Nat → Int64) (k : Nat) (v : Int64) : vp_updL f k v = va_up f k v := rfl
theorem bm_cmp_lt {x y : Int64} : lg_cmp x y < 0 ↔ x < y := by
  unfold lg_cmp
  by_cases h1 : y < x
  · have : ¬ x < y := by rw [Int64.lt_iff_toInt_lt] at *; omega
    simp [h1, this]
  · by_cases h2 : x = y
    · subst h2; simp [h1]
    · have : x < y := by
        rw [Int64.lt_iff_toInt_lt] at *
        have h3 : x.toInt ≠ y.toInt := fun q => h2 (Int64.toInt_inj.mp q)
        omega
      simp [h1, h2, this]
theorem bm_cmp_gt {x y : Int64} : 0 < lg_cmp x y ↔ y < x := by
  unfold lg_cmp
  by_cases h1 : y < x
  · simp [h1]
  · by_cases h2 : x = y
    · subst h2; simp [h1]
    · simp [h1, h2]
theorem bm_cmp_eq {x y : Int64} : lg_cmp x y = 0 ↔ x = y := by
  unfold lg_cmp
  by_cases h1 : y < x
  · have : ¬ x = y := by intro q; subst q; rw [Int64.lt_iff_toInt_lt] at h1; omega
    simp [h1, this]
  · by_cases h2 : x = y
    · subst h2; simp [h1]
    · simp [h1, h2]
section BMK
variable {p : Program} {l : Launch} {e : Env} {R : Room} {s : State} {m : MethodId} {args : Array Value} {below : List Frame} {meth : Method} {c : Code} {H : Heap} {locs : List Loc} {cells slots : Nat} {Q : State → Prop}
variable {cc : ByteArray} {pc : Nat} {ls : Array Slot} {rest : List Value} {D : va_G} {cl : List vw_C} {A : Nat → Prop} {a : Nat} {tys : List (ClassId × FieldType)} {ws : va_W} {H0 : Heap}
theorem bm_lald (hexec : p.tables.exec = Jvm.exec) (hb : c.code = cc) (hK : va_K D cl tys s) (hP : va_P D cl ws H) (q0 t0 : Nat) {cA : ClassId} {n : Nat} {f : Nat → Int64} (ha : ws[q0]? = some (a, .inl (cA, n, .inr (.inl f)))) (ht : tys[t0]? = some (cA, .long)) {j : Nat} (hj : j < n) (hn : n < 2 ^ 31) (hdg : decode cc pc = .ok (.laload, 1))
    (kk : W p l e R s m args below meth c H locs cells slots Q (F0 m (pc + 1) ls (.long (f j) :: rest))) : W p l e R s m args below meth c H locs cells slots Q (F0 m pc ls (.int (nI j) :: .ref a :: rest)) := by
  refine va_lald hexec hb hK hP q0 t0 ha ht (vp_in_nI hj hn) hdg ?_
  rw [nI_clamp (Nat.lt_trans hj hn)]
  exact kk
theorem bm_nald (hexec : p.tables.exec = Jvm.exec) (hb : c.code = cc) (hK : va_K D cl tys s) (hP : va_P D cl ws H) (q0 t0 : Nat) {cA : ClassId} {n : Nat} {f : Nat → Nat} (ha : ws[q0]? = some (a, .inl (cA, n, .inl (fun j => nI (f j))))) (ht : tys[t0]? = some (cA, .int)) {j : Nat} (hj : j < n) (hn : n < 2 ^ 31) (hdg : decode cc pc = .ok (.iaload, 1))
    (kk : W p l e R s m args below meth c H locs cells slots Q (F0 m (pc + 1) ls (.int (nI (f j)) :: rest))) : W p l e R s m args below meth c H locs cells slots Q (F0 m pc ls (.int (nI j) :: .ref a :: rest)) := by
  refine va_iald hexec hb hK hP q0 t0 ha ht (vp_in_nI hj hn) hdg ?_
  rw [nI_clamp (Nat.lt_trans hj hn)]
  exact kk
theorem bm_zald (hexec : p.tables.exec = Jvm.exec) (hb : c.code = cc) (hK : va_K D cl tys s) (hP : va_P D cl ws H) (q0 t0 : Nat) {cA : ClassId} {n : Nat} {f : Nat → Bool} (ha : ws[q0]? = some (a, .inl (cA, n, .inl (fun j => bm_b (f j))))) (ht : tys[t0]? = some (cA, .boolean)) {j : Nat} (hj : j < n) (hn : n < 2 ^ 31) (hdg : decode cc pc = .ok (.baload, 1))
    (kk : W p l e R s m args below meth c H locs cells slots Q (F0 m (pc + 1) ls (.int (bm_b (f j)) :: rest))) : W p l e R s m args below meth c H locs cells slots Q (F0 m pc ls (.int (nI j) :: .ref a :: rest)) := by
  refine va_zald hexec hb hK hP q0 t0 ha ht (vp_in_nI hj hn) hdg ?_
  rw [nI_clamp (Nat.lt_trans hj hn)]
  exact kk
theorem bm_last (hexec : p.tables.exec = Jvm.exec) (hb : c.code = cc) (hK : va_K D cl tys s) (hP : va_P D cl ws H) (hD : va_D A ws) (hS : va_S A H0 H locs) (q0 t0 : Nat) {cA : ClassId} {n : Nat} {f : Nat → Int64} (ha : ws[q0]? = some (a, .inl (cA, n, .inr (.inl f)))) (ht : tys[t0]? = some (cA, .long)) {j : Nat} {x : Int64} (hj : j < n) (hn : n < 2 ^ 31) (hdg : decode cc pc = .ok (.lastore, 1))
    (kk : ∀ (H1 : Heap) (locs1 : List Loc), va_P D cl (ws.set q0 (a, .inl (cA, n, .inr (.inl (va_up f j x))))) H1 → va_D A (ws.set q0 (a, .inl (cA, n, .inr (.inl (va_up f j x))))) → va_S A H0 H1 locs1 → W p l e R s m args below meth c H1 locs1 cells slots Q (F0 m (pc + 1) ls rest)) : W p l e R s m args below meth c H locs cells slots Q (F0 m pc ls (.long x :: .int (nI j) :: .ref a :: rest)) := by
  refine va_last hexec hb hK hP hD hS q0 t0 ha ht (vp_in_nI hj hn) hdg ?_
  rw [nI_clamp (Nat.lt_trans hj hn)]
  exact kk
theorem bm_nast (hexec : p.tables.exec = Jvm.exec) (hb : c.code = cc) (hK : va_K D cl tys s) (hP : va_P D cl ws H) (hD : va_D A ws) (hS : va_S A H0 H locs) (q0 t0 : Nat) {cA : ClassId} {n : Nat} {f : Nat → Nat} (ha : ws[q0]? = some (a, .inl (cA, n, .inl (fun j => nI (f j))))) (ht : tys[t0]? = some (cA, .int)) {j : Nat} {x : Nat} (hj : j < n) (hn : n < 2 ^ 31) (hdg : decode cc pc = .ok (.iastore, 1))
    (kk : ∀ (H1 : Heap) (locs1 : List Loc), va_P D cl (ws.set q0 (a, .inl (cA, n, .inl (fun i => nI (va_up f j x i))))) H1 → va_D A (ws.set q0 (a, .inl (cA, n, .inl (fun i => nI (va_up f j x i))))) → va_S A H0 H1 locs1 → W p l e R s m args below meth c H1 locs1 cells slots Q (F0 m (pc + 1) ls rest)) : W p l e R s m args below meth c H locs cells slots Q (F0 m pc ls (.int (nI x) :: .int (nI j) :: .ref a :: rest)) := by
  refine va_iast hexec hb hK hP hD hS q0 t0 ha ht (vp_in_nI hj hn) hdg ?_
  rw [nI_clamp (Nat.lt_trans hj hn), bm_upN]
  exact kk
theorem bm_zast (hexec : p.tables.exec = Jvm.exec) (hb : c.code = cc) (hK : va_K D cl tys s) (hP : va_P D cl ws H) (hD : va_D A ws) (hS : va_S A H0 H locs) (q0 t0 : Nat) {cA : ClassId} {n : Nat} {f : Nat → Bool} (ha : ws[q0]? = some (a, .inl (cA, n, .inl (fun j => bm_b (f j))))) (ht : tys[t0]? = some (cA, .boolean)) {j : Nat} {x : Bool} (hj : j < n) (hn : n < 2 ^ 31) (hdg : decode cc pc = .ok (.bastore, 1))
    (kk : ∀ (H1 : Heap) (locs1 : List Loc), va_P D cl (ws.set q0 (a, .inl (cA, n, .inl (fun i => bm_b (va_up f j x i))))) H1 → va_D A (ws.set q0 (a, .inl (cA, n, .inl (fun i => bm_b (va_up f j x i))))) → va_S A H0 H1 locs1 → W p l e R s m args below meth c H1 locs1 cells slots Q (F0 m (pc + 1) ls rest)) : W p l e R s m args below meth c H locs cells slots Q (F0 m pc ls (.int (bm_b x) :: .int (nI j) :: .ref a :: rest)) := by
  refine va_zast hexec hb hK hP hD hS q0 t0 ha ht (vp_in_nI hj hn) hdg ?_
  rw [nI_clamp (Nat.lt_trans hj hn), bm_b_nar, bm_upB]
  exact kk
theorem bm_lc_eq (hexec : p.tables.exec = Jvm.exec) (hb : c.code = cc) {x y : Int64} {off : Int} {tgt : Nat} (hd1 : decode cc pc = .ok (.lcmp, 1)) (hdg : decode cc (pc + 1) = .ok (.ifCond .eq off, 3)) (ht : ((pc + 1 : Nat) : Int) + off = (tgt : Int))
    (kt : x = y → W p l e R s m args below meth c H locs cells slots Q (F0 m tgt ls rest)) (kf : ¬ x = y → W p l e R s m args below meth c H locs cells slots Q (F0 m (pc + 1 + 3) ls rest)) : W p l e R s m args below meth c H locs cells slots Q (F0 m pc ls (.long y :: .long x :: rest)) :=
  W.lcmp hexec hb hd1 (lv_if_eq hexec hb hdg ht (fun h => kt (bm_cmp_eq.mp h)) (fun h => kf (fun q => h (bm_cmp_eq.mpr q))))
theorem bm_lc_ne (hexec : p.tables.exec = Jvm.exec) (hb : c.code = cc) {x y : Int64} {off : Int} {tgt : Nat} (hd1 : decode cc pc = .ok (.lcmp, 1)) (hdg : decode cc (pc + 1) = .ok (.ifCond .ne off, 3)) (ht : ((pc + 1 : Nat) : Int) + off = (tgt : Int))
    (kt : ¬ x = y → W p l e R s m args below meth c H locs cells slots Q (F0 m tgt ls rest)) (kf : x = y → W p l e R s m args below meth c H locs cells slots Q (F0 m (pc + 1 + 3) ls rest)) : W p l e R s m args below meth c H locs cells slots Q (F0 m pc ls (.long y :: .long x :: rest)) :=
  W.lcmp hexec hb hd1 (lv_if_ne hexec hb hdg ht (fun h => kt (fun q => h (bm_cmp_eq.mpr q))) (fun h => kf (bm_cmp_eq.mp h)))
theorem bm_lc_lt (hexec : p.tables.exec = Jvm.exec) (hb : c.code = cc) {x y : Int64} {off : Int} {tgt : Nat} (hd1 : decode cc pc = .ok (.lcmp, 1)) (hdg : decode cc (pc + 1) = .ok (.ifCond .lt off, 3)) (ht : ((pc + 1 : Nat) : Int) + off = (tgt : Int))
    (kt : x < y → W p l e R s m args below meth c H locs cells slots Q (F0 m tgt ls rest)) (kf : ¬ x < y → W p l e R s m args below meth c H locs cells slots Q (F0 m (pc + 1 + 3) ls rest)) : W p l e R s m args below meth c H locs cells slots Q (F0 m pc ls (.long y :: .long x :: rest)) :=
  W.lcmp hexec hb hd1 (lv_if_lt hexec hb hdg ht (fun h => kt (bm_cmp_lt.mp h)) (fun h => kf (fun q => h (bm_cmp_lt.mpr q))))
theorem bm_i_ge {x : Int32} (h : 0 ≤ x) : ¬ x < 0 := by rw [Int32.lt_iff_toInt_lt]; rw [Int32.le_iff_toInt_le] at h; omega
theorem bm_i_nge {x : Int32} (h : ¬ 0 ≤ x) : x < 0 := by rw [Int32.lt_iff_toInt_lt]; rw [Int32.le_iff_toInt_le] at h; omega
theorem bm_i_le {x : Int32} (h : x ≤ 0) : ¬ 0 < x := by rw [Int32.lt_iff_toInt_lt]; rw [Int32.le_iff_toInt_le] at h; omega
theorem bm_i_nle {x : Int32} (h : ¬ x ≤ 0) : 0 < x := by rw [Int32.lt_iff_toInt_lt]; rw [Int32.le_iff_toInt_le] at h; omega
theorem bm_lc_ge (hexec : p.tables.exec = Jvm.exec) (hb : c.code = cc) {x y : Int64} {off : Int} {tgt : Nat} (hd1 : decode cc pc = .ok (.lcmp, 1)) (hdg : decode cc (pc + 1) = .ok (.ifCond .ge off, 3)) (ht : ((pc + 1 : Nat) : Int) + off = (tgt : Int))
    (kt : ¬ x < y → W p l e R s m args below meth c H locs cells slots Q (F0 m tgt ls rest)) (kf : x < y → W p l e R s m args below meth c H locs cells slots Q (F0 m (pc + 1 + 3) ls rest)) : W p l e R s m args below meth c H locs cells slots Q (F0 m pc ls (.long y :: .long x :: rest)) :=
  W.lcmp hexec hb hd1 (lv_if_ge hexec hb hdg ht (fun h => kt (fun q => bm_i_ge h (bm_cmp_lt.mpr q))) (fun h => kf (bm_cmp_lt.mp (bm_i_nge h))))
theorem bm_lc_gt (hexec : p.tables.exec = Jvm.exec) (hb : c.code = cc) {x y : Int64} {off : Int} {tgt : Nat} (hd1 : decode cc pc = .ok (.lcmp, 1)) (hdg : decode cc (pc + 1) = .ok (.ifCond .gt off, 3)) (ht : ((pc + 1 : Nat) : Int) + off = (tgt : Int))
    (kt : y < x → W p l e R s m args below meth c H locs cells slots Q (F0 m tgt ls rest)) (kf : ¬ y < x → W p l e R s m args below meth c H locs cells slots Q (F0 m (pc + 1 + 3) ls rest)) : W p l e R s m args below meth c H locs cells slots Q (F0 m pc ls (.long y :: .long x :: rest)) :=
  W.lcmp hexec hb hd1 (lv_if_gt hexec hb hdg ht (fun h => kt (bm_cmp_gt.mp h)) (fun h => kf (fun q => h (bm_cmp_gt.mpr q))))
theorem bm_lc_le (hexec : p.tables.exec = Jvm.exec) (hb : c.code = cc) {x y : Int64} {off : Int} {tgt : Nat} (hd1 : decode cc pc = .ok (.lcmp, 1)) (hdg : decode cc (pc + 1) = .ok (.ifCond .le off, 3)) (ht : ((pc + 1 : Nat) : Int) + off = (tgt : Int))
    (kt : ¬ y < x → W p l e R s m args below meth c H locs cells slots Q (F0 m tgt ls rest)) (kf : y < x → W p l e R s m args below meth c H locs cells slots Q (F0 m (pc + 1 + 3) ls rest)) : W p l e R s m args below meth c H locs cells slots Q (F0 m pc ls (.long y :: .long x :: rest)) :=
  W.lcmp hexec hb hd1 (lv_if_le hexec hb hdg ht (fun h => kt (fun q => bm_i_le h (bm_cmp_gt.mpr q))) (fun h => kf (bm_cmp_gt.mp (bm_i_nle h))))
-- branches on a boolean
theorem bm_zb_eq (hexec : p.tables.exec = Jvm.exec) (hb : c.code = cc) {x : Bool} {off : Int} {tgt : Nat} (hdg : decode cc pc = .ok (.ifCond .eq off, 3)) (ht : (pc : Int) + off = (tgt : Int))
    (kt : x = false → W p l e R s m args below meth c H locs cells slots Q (F0 m tgt ls rest)) (kf : x = true → W p l e R s m args below meth c H locs cells slots Q (F0 m (pc + 3) ls rest)) : W p l e R s m args below meth c H locs cells slots Q (F0 m pc ls (.int (bm_b x) :: rest)) :=
  lv_if_eq hexec hb hdg ht (fun h => kt ((bm_b_eq0 x).mp h)) (fun h => kf (by cases x; exact absurd rfl h; rfl))
theorem bm_zb_ne (hexec : p.tables.exec = Jvm.exec) (hb : c.code = cc) {x : Bool} {off : Int} {tgt : Nat} (hdg : decode cc pc = .ok (.ifCond .ne off, 3)) (ht : (pc : Int) + off = (tgt : Int))
    (kt : x = true → W p l e R s m args below meth c H locs cells slots Q (F0 m tgt ls rest)) (kf : x = false → W p l e R s m args below meth c H locs cells slots Q (F0 m (pc + 3) ls rest)) : W p l e R s m args below meth c H locs cells slots Q (F0 m pc ls (.int (bm_b x) :: rest)) :=
  lv_if_ne hexec hb hdg ht (fun h => kt (by cases x; exact absurd rfl h; rfl)) (fun h => kf ((bm_b_eq0 x).mp h))
-- branches on small numbers
theorem bm_ni_eq (hexec : p.tables.exec = Jvm.exec) (hb : c.code = cc) {x y : Nat} (hx : x < 2 ^ 31) (hy : y < 2 ^ 31) {off : Int} {tgt : Nat} (hdg : decode cc pc = .ok (.if_icmp .eq off, 3)) (ht : (pc : Int) + off = (tgt : Int))
    (kt : x = y → W p l e R s m args below meth c H locs cells slots Q (F0 m tgt ls rest)) (kf : ¬ x = y → W p l e R s m args below meth c H locs cells slots Q (F0 m (pc + 3) ls rest)) : W p l e R s m args below meth c H locs cells slots Q (F0 m pc ls (.int (nI y) :: .int (nI x) :: rest)) :=
  lv_icmp_eq hexec hb hdg ht (fun h => kt ((nI_eq hx hy).mp h)) (fun h => kf (fun q => h ((nI_eq hx hy).mpr q)))
theorem bm_ni_ne (hexec : p.tables.exec = Jvm.exec) (hb : c.code = cc) {x y : Nat} (hx : x < 2 ^ 31) (hy : y < 2 ^ 31) {off : Int} {tgt : Nat} (hdg : decode cc pc = .ok (.if_icmp .ne off, 3)) (ht : (pc : Int) + off = (tgt : Int))
    (kt : ¬ x = y → W p l e R s m args below meth c H locs cells slots Q (F0 m tgt ls rest)) (kf : x = y → W p l e R s m args below meth c H locs cells slots Q (F0 m (pc + 3) ls rest)) : W p l e R s m args below meth c H locs cells slots Q (F0 m pc ls (.int (nI y) :: .int (nI x) :: rest)) :=
  lv_icmp_ne hexec hb hdg ht (fun h => kt (fun q => h ((nI_eq hx hy).mpr q))) (fun h => kf ((nI_eq hx hy).mp h))
theorem bm_ni_ge (hexec : p.tables.exec = Jvm.exec) (hb : c.code = cc) {x y : Nat} (hx : x < 2 ^ 31) (hy : y < 2 ^ 31) {off : Int} {tgt : Nat} (hdg : decode cc pc = .ok (.if_icmp .ge off, 3)) (ht : (pc : Int) + off = (tgt : Int))
    (kt : ¬ x < y → W p l e R s m args below meth c H locs cells slots Q (F0 m tgt ls rest)) (kf : x < y → W p l e R s m args below meth c H locs cells slots Q (F0 m (pc + 3) ls rest)) : W p l e R s m args below meth c H locs cells slots Q (F0 m pc ls (.int (nI y) :: .int (nI x) :: rest)) :=
  lv_icmp_ge hexec hb hdg ht (fun h => kt (Nat.not_lt.mpr ((nI_leI hy hx).mp h))) (fun h => kf (Nat.not_le.mp (fun q => h ((nI_leI hy hx).mpr q))))
theorem bm_ni_lt (hexec : p.tables.exec = Jvm.exec) (hb : c.code = cc) {x y : Nat} (hx : x < 2 ^ 31) (hy : y < 2 ^ 31) {off : Int} {tgt : Nat} (hdg : decode cc pc = .ok (.if_icmp .lt off, 3)) (ht : (pc : Int) + off = (tgt : Int))
    (kt : x < y → W p l e R s m args below meth c H locs cells slots Q (F0 m tgt ls rest)) (kf : ¬ x < y → W p l e R s m args below meth c H locs cells slots Q (F0 m (pc + 3) ls rest)) : W p l e R s m args below meth c H locs cells slots Q (F0 m pc ls (.int (nI y) :: .int (nI x) :: rest)) :=
  lv_icmp_lt hexec hb hdg ht (fun h => kt ((nI_ltI hx hy).mp h)) (fun h => kf (fun q => h ((nI_ltI hx hy).mpr q)))
theorem bm_nz_eq (hexec : p.tables.exec = Jvm.exec) (hb : c.code = cc) {x : Nat} (hx : x < 2 ^ 31) {off : Int} {tgt : Nat} (hdg : decode cc pc = .ok (.ifCond .eq off, 3)) (ht : (pc : Int) + off = (tgt : Int))
    (kt : x = 0 → W p l e R s m args below meth c H locs cells slots Q (F0 m tgt ls rest)) (kf : ¬ x = 0 → W p l e R s m args below meth c H locs cells slots Q (F0 m (pc + 3) ls rest)) : W p l e R s m args below meth c H locs cells slots Q (F0 m pc ls (.int (nI x) :: rest)) :=
  lv_if_eq hexec hb hdg ht (fun h => kt ((nI_eq hx (by decide : 0 < 2 ^ 31)).mp (h.trans nI_0.symm))) (fun h => kf (fun q => h (by rw [q]; exact nI_0)))
theorem bm_nz_ne (hexec : p.tables.exec = Jvm.exec) (hb : c.code = cc) {x : Nat} (hx : x < 2 ^ 31) {off : Int} {tgt : Nat} (hdg : decode cc pc = .ok (.ifCond .ne off, 3)) (ht : (pc : Int) + off = (tgt : Int))
    (kt : ¬ x = 0 → W p l e R s m args below meth c H locs cells slots Q (F0 m tgt ls rest)) (kf : x = 0 → W p l e R s m args below meth c H locs cells slots Q (F0 m (pc + 3) ls rest)) : W p l e R s m args below meth c H locs cells slots Q (F0 m pc ls (.int (nI x) :: rest)) :=
  lv_if_ne hexec hb hdg ht (fun h => kt (fun q => h (by rw [q]; exact nI_0))) (fun h => kf ((nI_eq hx (by decide : 0 < 2 ^ 31)).mp (h.trans nI_0.symm)))
theorem bm_nrem (hexec : p.tables.exec = Jvm.exec) (hb : c.code = cc) {x y : Nat} (hx : x < 2 ^ 31) (h0 : 0 < y) (hy : y < 2 ^ 31) (hdg : decode cc pc = .ok (.irem, 1))
    (k : W p l e R s m args below meth c H locs cells slots Q (F0 m (pc + 1) ls (.int (nI (x % y)) :: rest))) : W p l e R s m args below meth c H locs cells slots Q (F0 m pc ls (.int (nI y) :: .int (nI x) :: rest)) := by
  refine lv_irem hexec hb hdg (nI_ne0 h0 hy) ?_
  rw [pk_rem hx h0 hy]
  exact k
theorem bm_nadd (hexec : p.tables.exec = Jvm.exec) (hb : c.code = cc) {x y : Nat} (hdg : decode cc pc = .ok (.iadd, 1))
    (k : W p l e R s m args below meth c H locs cells slots Q (F0 m (pc + 1) ls (.int (nI (x + y)) :: rest))) : W p l e R s m args below meth c H locs cells slots Q (F0 m pc ls (.int (nI y) :: .int (nI x) :: rest)) := by
  refine lv_iadd hexec hb hdg ?_
  rw [nI_add]
  exact k
theorem bm_nsub (hexec : p.tables.exec = Jvm.exec) (hb : c.code = cc) {x y : Nat} (h : y ≤ x) (hdg : decode cc pc = .ok (.isub, 1))
    (k : W p l e R s m args below meth c H locs cells slots Q (F0 m (pc + 1) ls (.int (nI (x - y)) :: rest))) : W p l e R s m args below meth c H locs cells slots Q (F0 m pc ls (.int (nI y) :: .int (nI x) :: rest)) := by
  refine lv_isub hexec hb hdg ?_
  rw [pk_sub h]
  exact k
theorem bm_iconst (hexec : p.tables.exec = Jvm.exec) (hb : c.code = cc) {n : Int} (v : Nat) (hdg : decode cc pc = .ok (.iconst n, 1)) (hv : Int32.ofInt n = nI v)
    (k : W p l e R s m args below meth c H locs cells slots Q (F0 m (pc + 1) ls (.int (nI v) :: rest))) : W p l e R s m args below meth c H locs cells slots Q (F0 m pc ls (rest)) := lv_iconst hexec hb hdg hv k
theorem bm_bconst (hexec : p.tables.exec = Jvm.exec) (hb : c.code = cc) {n : Int} (v : Bool) (hdg : decode cc pc = .ok (.iconst n, 1)) (hv : Int32.ofInt n = bm_b v)
    (k : W p l e R s m args below meth c H locs cells slots Q (F0 m (pc + 1) ls (.int (bm_b v) :: rest))) : W p l e R s m args below meth c H locs cells slots Q (F0 m pc ls (rest)) := lv_iconst hexec hb hdg hv k
end BMK
-- READERS AND WRITERS of a world
def bm_Rp (D : va_G) (cl : List vw_C) (tys : List (ClassId × FieldType)) (ws : va_W) (av : List Value) : Array Value → State → Prop := fun v U => v = av.toArray ∧ va_P D cl ws U.heap ∧ va_K D cl tys U
def bm_Rd (l : Launch) (y : MethodName) (wd : List Cond) (rm : Room) (D : va_G) (cl : List vw_C) (tys : List (ClassId × FieldType)) (ws : va_W) (av : List Value) (r : Value) : Prop := Met l y wd rm (bm_Rp D cl tys ws av) (k2_QcV r) 0 0 (fun _ => False)
def bm_Wp (D : va_G) (cl : List vw_C) (tys : List (ClassId × FieldType)) (ws : va_W) (av : List Value) (sz : Nat) : Array Value → State → Prop := fun v U => v = av.toArray ∧ U.heap.size = sz ∧ va_P D cl ws U.heap ∧ va_K D cl tys U ∧ va_D (fun _ => True) ws
def bm_Wq (D : va_G) (cl : List vw_C) (tys : List (ClassId × FieldType)) (ws' : va_W) (r : Option Value) (A : Nat → Prop) : Array Value → State → Outcome → State → Prop := fun _ st oc t => (oc = .returned r ∧ va_P D cl ws' t.heap ∧ va_K D cl tys t ∧ va_D A ws') ∧ va_F A st t
def bm_Wr (l : Launch) (y : MethodName) (wd : List Cond) (rm : Room) (D : va_G) (cl : List vw_C) (tys : List (ClassId × FieldType)) (ws : va_W) (av : List Value) (ws' : va_W) (r : Option Value) : Prop := ∀ sz : Nat, Met l y wd rm (bm_Wp D cl tys ws av sz) (bm_Wq D cl tys ws' r (va_A ws sz)) 0 0 (va_A ws sz)
theorem bm_Rp.blind {D : va_G} {cl : List vw_C} {tys : List (ClassId × FieldType)} {ws : va_W} {av : List Value} : FrameBlind (bm_Rp D cl tys ws av) := by
  intro a U g mk q
  obtain ⟨q0, qP, qK⟩ := q
  exact ⟨q0, qP, va_K.moved (u := U) (U := U.calling g mk a) (Vm.Alike.refl U.vm) qK⟩
theorem bm_Wp.blind {D : va_G} {cl : List vw_C} {tys : List (ClassId × FieldType)} {ws : va_W} {av : List Value} {sz : Nat} : FrameBlind (bm_Wp D cl tys ws av sz) := by
  intro a U g mk q
  obtain ⟨q0, q1, qP, qK, qD⟩ := q
  exact ⟨q0, q1, qP, va_K.moved (u := U) (U := U.calling g mk a) (Vm.Alike.refl U.vm) qK, qD⟩
section BMC
variable {p : Program} {l : Launch} {e : Env} {R : Room} {s : State} {m : MethodId} {args : Array Value} {below : List Frame} {meth : Method} {c : Code} {H : Heap} {locs : List Loc} {cells slots : Nat} {Q : State → Prop}
variable {cc bytes : ByteArray} {pc nL maxL n index : Nat} {ret : Option FieldType} {ls : Array Slot} {st0 As rest : List Value} {D : va_G} {cl : List vw_C} {A : Nat → Prop} {b : Nat} {tys : List (ClassId × FieldType)} {ws ws' : va_W} {H0 : Heap} {Ts wd : List Cond} {rm : Room} {own C : String} {T : u_T} {N : Nat} {y : MethodName} {fs : List Value}
theorem bm_rcallV {r : Value} (S : CallFix p m c cc nL s args Ts own) (hM : bm_Rd l y wd rm D cl tys ws (.ref b :: As) r) (cw : CallW R s args own C index y bytes maxL ret wd rm 0 0 n) (hK : va_K D cl tys s) (hP : va_P D cl ws H) (q0 ci : Nat) (hc : cl[ci]? = some (C, T, N)) (he : ws[q0]? = some (b, .inr (ci, fs)))
    (hn : As.length = n) (hsize : ls.size = nL) (hstack : st0 = As.reverse ++ .ref b :: rest) (hW : (rest.map fun v => v.category).sum ≤ 8) (hdg : decode cc pc = .ok (.invokevirtual index, 3)) (hcs : cells ≤ R.cells ∧ slots ≤ R.slots)
    (kk : W p l e R s m args below meth c H locs cells slots Q (F0 m (pc + 3) ls (r :: rest))) : W p l e R s m args below meth c H locs cells slots Q (F0 m pc ls st0) :=
  W.callV (W.runV (g := F0 m pc ls st0) S hM cw ⟨bm_Rp.blind, va_recv hK hP hc he, fun U hU hW => ⟨rfl, by rw [hU]; exact hP, va_K.moved hW.alike hK⟩⟩ rfl hn hsize hstack (lv_room hW) hdg hcs) kk
theorem bm_rcallS {r : Value} (S : CallFix p m c cc nL s args Ts own) (hM : bm_Rd l y wd rm D cl tys ws As r) (cw : CallB R s args own index y bytes maxL ret wd rm 0 0 n ∧ (Cond.static y).before args s = true) (hK : va_K D cl tys s) (hP : va_P D cl ws H)
    (hn : As.length = n) (hsize : ls.size = nL) (hstack : st0 = As.reverse ++ rest) (hW : (rest.map fun v => v.category).sum ≤ 8) (hdg : decode cc pc = .ok (.invokestatic index, 3)) (hcs : cells ≤ R.cells ∧ slots ≤ R.slots)
    (kk : W p l e R s m args below meth c H locs cells slots Q (F0 m (pc + 3) ls (r :: rest))) : W p l e R s m args below meth c H locs cells slots Q (F0 m pc ls st0) :=
  W.callV (W.runS (g := F0 m pc ls st0) S hM cw ⟨bm_Rp.blind, fun U hU hW => ⟨rfl, by rw [hU]; exact hP, va_K.moved hW.alike hK⟩⟩ rfl hn hsize hstack (lv_room hW) hdg hcs) kk
theorem bm_wcallV {r : Option Value} (S : CallFix p m c cc nL s args Ts own) (hM : bm_Wr l y wd rm D cl tys ws (.ref b :: As) ws' r) (cw : CallW R s args own C index y bytes maxL ret wd rm 0 0 n) (hK : va_K D cl tys s) (hP : va_P D cl ws H) (hD : va_D A ws) (hS : va_S A H0 H locs) (hA : ∀ q : Nat, H0.size ≤ q → A q) (q0 ci : Nat) (hc : cl[ci]? = some (C, T, N)) (he : ws[q0]? = some (b, .inr (ci, fs)))
    (hn : As.length = n) (hsize : ls.size = nL) (hstack : st0 = As.reverse ++ .ref b :: rest) (hW : (rest.map fun v => v.category).sum ≤ 8) (hdg : decode cc pc = .ok (.invokevirtual index, 3)) (hcs : cells ≤ R.cells ∧ slots ≤ R.slots)
    (kk : ∀ (H1 : Heap) (locs1 : List Loc), va_P D cl ws' H1 → va_D A ws' → va_S A H0 H1 locs1 → W p l e R s m args below meth c H1 locs1 cells slots Q (F0 m (pc + 3) ls (r.toList ++ rest))) : W p l e R s m args below meth c H locs cells slots Q (F0 m pc ls st0) := by
  have hr := va_runV (g := F0 m pc ls st0) (e := e) (below := below) (meth := meth) (locs := locs) (cells := cells) (slots := slots) S (hM H.size) cw ⟨bm_Wp.blind, va_recv hK hP hc he, fun U hU hW => ⟨rfl, by rw [hU], by rw [hU]; exact hP, va_K.moved hW.alike hK, hD.weaken (fun _ _ _ _ => trivial)⟩⟩ rfl hn hsize hstack (lv_room hW) hdg hcs
  have hF : ∀ q, va_A ws H.size q → A q := by
    intro q h
    rcases h with ⟨k, e9, h⟩ | h
    · exact hD.2 k (q, e9) h
    · exact hA q (Nat.le_trans hS.1 h)
  intro T hT X
  obtain ⟨v, st₀, t, T', L, h0, X', hL, e1, e2, ⟨⟨hv, hP', hK', hD'⟩, hz, hk⟩, st⟩ := hr T hT X
  cases hv
  rw [h0] at hz hk
  obtain ⟨t2, a1, b1⟩ := kk T'.heap (locs ++ L) (by rw [e1]; exact hP') (hD'.weaken (fun _ _ _ h => hF _ h))
    ⟨Nat.le_trans hS.1 (by rw [e1]; exact hz), fun q h1 h2 => by rw [e1, hk q (Nat.lt_of_lt_of_le h1 hS.1) (fun z => h2 (hF q z))]; exact hS.2.1 q h1 h2, fun q hq => by
      rcases List.mem_append.mp hq with h | h
      · exact hS.2.2 q h
      · exact hF _ (hL q h)⟩ T' rfl X'
  exact ⟨t2, st t2 a1, b1⟩
end BMC
section BME
variable {p : Program} {l : Launch} {e : Env} {R : Room} {s : State} {m : MethodId} {args : Array Value} {below : List Frame} {meth : Method} {c : Code} {H : Heap} {locs : List Loc} {cells slots : Nat} {Q : State → Prop}
variable {cc : ByteArray} {pc : Nat} {ls : Array Slot} {rest : List Value} {D : va_G} {cl : List vw_C} {A : Nat → Prop} {tys : List (ClassId × FieldType)} {ws ws' : va_W}
theorem bm_zretR {v r : Bool} (hexec : p.tables.exec = Jvm.exec) (hb : c.code = cc) (hr : meth.sig.returnType = some .boolean) (he : v = r) (hdg : decode cc pc = .ok (.ireturn, 1)) (hlocks : meth.locks = false) : W p l e R s m args below meth c s.heap [] cells slots (MQ below (k2_QcV (.int (bm_b r))) args s cells slots (fun _ => False)) (F0 m pc ls [.int (bm_b v)]) := by
  subst he
  exact W.zret hexec hb hr (bm_b_narrow v) (fun t ht hW => ⟨rfl, ht⟩) (fun q h => by cases h) hdg hlocks
theorem bm_iretR {v r : Int32} (hexec : p.tables.exec = Jvm.exec) (hb : c.code = cc) (hr : meth.sig.returnType = some .int) (he : v = r) (hdg : decode cc pc = .ok (.ireturn, 1)) (hlocks : meth.locks = false) : W p l e R s m args below meth c s.heap [] cells slots (MQ below (k2_QcV (.int r)) args s cells slots (fun _ => False)) (F0 m pc ls [.int v]) := by
  subst he
  exact W.iret hexec hb hr (fun t ht hW => ⟨rfl, ht⟩) (fun q h => by cases h) hdg hlocks
theorem bm_lretR {v r : Int64} (hexec : p.tables.exec = Jvm.exec) (hb : c.code = cc) (hr : meth.sig.returnType = some .long) (he : v = r) (hdg : decode cc pc = .ok (.lreturn, 1)) (hlocks : meth.locks = false) : W p l e R s m args below meth c s.heap [] cells slots (MQ below (k2_QcV (.long r)) args s cells slots (fun _ => False)) (F0 m pc ls [.long v]) := by
  subst he
  exact W.lret hexec hb hr (fun t ht hW => ⟨rfl, ht⟩) (fun q h => by cases h) hdg hlocks
theorem bm_vretW (hexec : p.tables.exec = Jvm.exec) (hb : c.code = cc) (hr : meth.sig.returnType = none) (hP : va_P D cl ws H) (hD : va_D A ws) (hK : va_K D cl tys s) (hS : va_S A s.heap H locs) (he : ws = ws') (hdg : decode cc pc = .ok (.return_, 1)) (hlocks : meth.locks = false) : W p l e R s m args below meth c H locs cells slots (MQ below (bm_Wq D cl tys ws' none A) args s cells slots A) (F0 m pc ls []) := by
  subst he
  exact W.vret hexec hb hr (fun t ht hW => ⟨⟨rfl, by rw [ht]; exact hP, va_K.moved hW.alike hK, hD⟩, hS.F ht⟩) hS.2.2 hdg hlocks
theorem bm_iretW {v r : Int32} (hexec : p.tables.exec = Jvm.exec) (hb : c.code = cc) (hr : meth.sig.returnType = some .int) (hP : va_P D cl ws H) (hD : va_D A ws) (hK : va_K D cl tys s) (hS : va_S A s.heap H locs) (he : v = r ∧ ws = ws') (hdg : decode cc pc = .ok (.ireturn, 1)) (hlocks : meth.locks = false) : W p l e R s m args below meth c H locs cells slots (MQ below (bm_Wq D cl tys ws' (some (.int r)) A) args s cells slots A) (F0 m pc ls [.int v]) := by
  obtain ⟨h1, h2⟩ := he
  subst h1; subst h2
  exact W.iret hexec hb hr (fun t ht hW => ⟨⟨rfl, by rw [ht]; exact hP, va_K.moved hW.alike hK, hD⟩, hS.F ht⟩) hS.2.2 hdg hlocks
theorem bm_zretW {v r : Bool} (hexec : p.tables.exec = Jvm.exec) (hb : c.code = cc) (hr : meth.sig.returnType = some .boolean) (hP : va_P D cl ws H) (hD : va_D A ws) (hK : va_K D cl tys s) (hS : va_S A s.heap H locs) (he : v = r ∧ ws = ws') (hdg : decode cc pc = .ok (.ireturn, 1)) (hlocks : meth.locks = false) : W p l e R s m args below meth c H locs cells slots (MQ below (bm_Wq D cl tys ws' (some (.int (bm_b r))) A) args s cells slots A) (F0 m pc ls [.int (bm_b v)]) := by
  obtain ⟨h1, h2⟩ := he
  subst h1; subst h2
  exact W.zret hexec hb hr (bm_b_narrow v) (fun t ht hW => ⟨⟨rfl, by rw [ht]; exact hP, va_K.moved hW.alike hK, hD⟩, hS.F ht⟩) hS.2.2 hdg hlocks
theorem bm_lretW {v r : Int64} (hexec : p.tables.exec = Jvm.exec) (hb : c.code = cc) (hr : meth.sig.returnType = some .long) (hP : va_P D cl ws H) (hD : va_D A ws) (hK : va_K D cl tys s) (hS : va_S A s.heap H locs) (he : v = r ∧ ws = ws') (hdg : decode cc pc = .ok (.lreturn, 1)) (hlocks : meth.locks = false) : W p l e R s m args below meth c H locs cells slots (MQ below (bm_Wq D cl tys ws' (some (.long r)) A) args s cells slots A) (F0 m pc ls [.long v]) := by
  obtain ⟨h1, h2⟩ := he
  subst h1; subst h2
  exact W.lret hexec hb hr (fun t ht hW => ⟨⟨rfl, by rw [ht]; exact hP, va_K.moved hW.alike hK, hD⟩, hS.F ht⟩) hS.2.2 hdg hlocks
theorem bm_bb_eq (hexec : p.tables.exec = Jvm.exec) (hb : c.code = cc) {x y : Bool} {off : Int} {tgt : Nat} (hdg : decode cc pc = .ok (.if_icmp .eq off, 3)) (ht : (pc : Int) + off = (tgt : Int))
    (kt : x = y → W p l e R s m args below meth c H locs cells slots Q (F0 m tgt ls rest)) (kf : ¬ x = y → W p l e R s m args below meth c H locs cells slots Q (F0 m (pc + 3) ls rest)) : W p l e R s m args below meth c H locs cells slots Q (F0 m pc ls (.int (bm_b y) :: .int (bm_b x) :: rest)) :=
  lv_icmp_eq hexec hb hdg ht (fun h => kt ((bm_b_inj x y).mp h)) (fun h => kf (fun q => h ((bm_b_inj x y).mpr q)))
theorem bm_bb_ne (hexec : p.tables.exec = Jvm.exec) (hb : c.code = cc) {x y : Bool} {off : Int} {tgt : Nat} (hdg : decode cc pc = .ok (.if_icmp .ne off, 3)) (ht : (pc : Int) + off = (tgt : Int))
    (kt : ¬ x = y → W p l e R s m args below meth c H locs cells slots Q (F0 m tgt ls rest)) (kf : x = y → W p l e R s m args below meth c H locs cells slots Q (F0 m (pc + 3) ls rest)) : W p l e R s m args below meth c H locs cells slots Q (F0 m pc ls (.int (bm_b y) :: .int (bm_b x) :: rest)) :=
  lv_icmp_ne hexec hb hdg ht (fun h => kt (fun q => h ((bm_b_inj x y).mpr q))) (fun h => kf ((bm_b_inj x y).mp h))
end BME
theorem bm_nmin {a b : Nat} (ha : a < 2 ^ 31) (hb : b < 2 ^ 31) : (if nI b < nI a then nI b else nI a) = nI (Nat.min a b) := by
  by_cases h : b < a
  · rw [if_pos ((nI_ltI hb ha).mpr h)]
    congr 1
    exact (Nat.min_eq_right (Nat.le_of_lt h)).symm
  · rw [if_neg (fun q => h ((nI_ltI hb ha).mp q))]
    congr 1
    exact (Nat.min_eq_left (Nat.not_lt.mp h)).symm
def q_max (x y : Int64) : Int64 := if y < x then x else y
def q_min (x y : Int64) : Int64 := if y < x then y else x
def q_abs (x : Int64) : Int64 := if 0 < x then x else -x
section BMM
variable {p : Program} {l : Launch} {e : Env} {R : Room} {s : State} {m : MethodId} {args : Array Value} {below : List Frame} {meth : Method} {c : Code} {H : Heap} {locs : List Loc} {cells slots : Nat} {Q : State → Prop} {pc : Nat} {ls : Array Slot} {rest : List Value}
theorem bm_mmaxl {cc : ByteArray} (hexec : p.tables.exec = Jvm.exec) (hb : c.code = cc) (hml : c.maxLocals = ls.size) {own : String} {index : Nat} (hown : s.vm.findClass own = some m.cls) (hlink : (Cond.methodLink own index Lib.MathLoose.max_long.x).before args s = true) (hstat : (Cond.static Lib.MathLoose.max_long.x).before args s = true) (hini : (Cond.initialized "java/lang/Math").before args s = true) (hcode : (Cond.code Lib.MathLoose.max_long.x Lib.MathLoose.max_long.code 4 (some .long)).before args s = true)
    (hframes : 1 ≤ R.frames) (hlocals : (rest.map fun v => v.category).sum + 15 ≤ R.locals) (hc : cells ≤ R.cells) (hs : slots ≤ R.slots) {x y : Int64} (hdg : decode cc pc = .ok (.invokestatic index, 3))
    (kk : W p l e R s m args below meth c H locs cells slots Q (F0 m (pc + 3) ls (.long (q_max x y) :: rest))) : W p l e R s m args below meth c H locs cells slots Q (F0 m pc ls (.long y :: .long x :: rest)) :=
  va_mmax_long hexec hb hml hown hlink hstat hini hcode hframes hlocals hc hs hdg kk
theorem bm_mminl {cc : ByteArray} (hexec : p.tables.exec = Jvm.exec) (hb : c.code = cc) (hml : c.maxLocals = ls.size) {own : String} {index : Nat} (hown : s.vm.findClass own = some m.cls) (hlink : (Cond.methodLink own index Lib.MathLoose.min_long.x).before args s = true) (hstat : (Cond.static Lib.MathLoose.min_long.x).before args s = true) (hini : (Cond.initialized "java/lang/Math").before args s = true) (hcode : (Cond.code Lib.MathLoose.min_long.x Lib.MathLoose.min_long.code 4 (some .long)).before args s = true)
    (hframes : 1 ≤ R.frames) (hlocals : (rest.map fun v => v.category).sum + 15 ≤ R.locals) (hc : cells ≤ R.cells) (hs : slots ≤ R.slots) {x y : Int64} (hdg : decode cc pc = .ok (.invokestatic index, 3))
    (kk : W p l e R s m args below meth c H locs cells slots Q (F0 m (pc + 3) ls (.long (q_min x y) :: rest))) : W p l e R s m args below meth c H locs cells slots Q (F0 m pc ls (.long y :: .long x :: rest)) :=
  va_mmin_long hexec hb hml hown hlink hstat hini hcode hframes hlocals hc hs hdg kk
theorem bm_mabsl {cc : ByteArray} (hexec : p.tables.exec = Jvm.exec) (hb : c.code = cc) (hml : c.maxLocals = ls.size) {own : String} {index : Nat} (hown : s.vm.findClass own = some m.cls) (hlink : (Cond.methodLink own index Lib.MathLoose.abs_long.x).before args s = true) (hstat : (Cond.static Lib.MathLoose.abs_long.x).before args s = true) (hini : (Cond.initialized "java/lang/Math").before args s = true) (hcode : (Cond.code Lib.MathLoose.abs_long.x Lib.MathLoose.abs_long.code 2 (some .long)).before args s = true)
    (hframes : 1 ≤ R.frames) (hlocals : (rest.map fun v => v.category).sum + 13 ≤ R.locals) (hc : cells ≤ R.cells) (hs : slots ≤ R.slots) {x : Int64} (hdg : decode cc pc = .ok (.invokestatic index, 3))
    (kk : W p l e R s m args below meth c H locs cells slots Q (F0 m (pc + 3) ls (.long (q_abs x) :: rest))) : W p l e R s m args below meth c H locs cells slots Q (F0 m pc ls (.long x :: rest)) :=
  va_mabs_long hexec hb hml hown hlink hstat hini hcode hframes hlocals hc hs hdg kk
theorem bm_mminn {cc : ByteArray} (hexec : p.tables.exec = Jvm.exec) (hb : c.code = cc) (hml : c.maxLocals = ls.size) {own : String} {index : Nat} (hown : s.vm.findClass own = some m.cls) (hlink : (Cond.methodLink own index Lib.Math.min.name).before args s = true) (hstat : (Cond.static Lib.Math.min.name).before args s = true) (hini : (Cond.initialized "java/lang/Math").before args s = true) (hcode : (Cond.code Lib.Math.min.name Lib.Math.min.code 2 (some .int)).before args s = true)
    (hframes : 1 ≤ R.frames) (hlocals : (rest.map fun v => v.category).sum + 13 ≤ R.locals) (hc : cells ≤ R.cells) (hs : slots ≤ R.slots) {x y : Nat} (hx : x < 2 ^ 31) (hy : y < 2 ^ 31) (hdg : decode cc pc = .ok (.invokestatic index, 3))
    (kk : W p l e R s m args below meth c H locs cells slots Q (F0 m (pc + 3) ls (.int (nI (Nat.min x y)) :: rest))) : W p l e R s m args below meth c H locs cells slots Q (F0 m pc ls (.int (nI y) :: .int (nI x) :: rest)) := by
  refine va_mmin hexec hb hml hown hlink hstat hini hcode hframes hlocals hc hs hdg ?_
  rw [bm_nmin hx hy]
  exact kk
end BMM
section BMN
variable {p : Program} {l : Launch} {e : Env} {R : Room} {s : State} {m : MethodId} {args : Array Value} {below : List Frame} {meth : Method} {c : Code} {H : Heap} {locs : List Loc} {cells slots : Nat} {Q : State → Prop}
variable {cc : ByteArray} {pc : Nat} {ls : Array Slot} {rest : List Value}
theorem bm_lrN (hexec : p.tables.exec = Jvm.exec) (hb : c.code = cc) {x y : Nat} (hx : x < 2 ^ 63) (h0 : 0 < y) (hy : y < 2 ^ 63) (hdg : decode cc pc = .ok (.lrem, 1))
    (k : W p l e R s m args below meth c H locs cells slots Q (F0 m (pc + 1) ls (.long (lN (x % y)) :: rest))) : W p l e R s m args below meth c H locs cells slots Q (F0 m pc ls (.long (lN y) :: .long (lN x) :: rest)) := by
  refine lv_lrem hexec hb hdg (fun q => ?_) ?_
  · have := (pk_lEQ hy (by decide : 0 < 2 ^ 63)).mp q
    omega
  · rw [pk_lRem hx h0 hy]
    exact k
theorem bm_l2iN (hexec : p.tables.exec = Jvm.exec) (hb : c.code = cc) {x : Nat} (hdg : decode cc pc = .ok (.l2i, 1))
    (k : W p l e R s m args below meth c H locs cells slots Q (F0 m (pc + 1) ls (.int (nI x) :: rest))) : W p l e R s m args below meth c H locs cells slots Q (F0 m pc ls (.long (lN x) :: rest)) := lv_l2i hexec hb hdg (lN_i x) k
theorem bm_i2lN (hexec : p.tables.exec = Jvm.exec) (hb : c.code = cc) {x : Nat} (hx : x < 2 ^ 31) (hdg : decode cc pc = .ok (.i2l, 1))
    (k : W p l e R s m args below meth c H locs cells slots Q (F0 m (pc + 1) ls (.long (lN x) :: rest))) : W p l e R s m args below meth c H locs cells slots Q (F0 m pc ls (.int (nI x) :: rest)) := lv_i2l hexec hb hdg (nI_l hx) k
theorem bm_Nlc_ne (hexec : p.tables.exec = Jvm.exec) (hb : c.code = cc) {x y : Nat} (hx : x < 2 ^ 63) (hy : y < 2 ^ 63) {off : Int} {tgt : Nat} (hd1 : decode cc pc = .ok (.lcmp, 1)) (hdg : decode cc (pc + 1) = .ok (.ifCond .ne off, 3)) (ht : ((pc + 1 : Nat) : Int) + off = (tgt : Int))
    (kt : ¬ x = y → W p l e R s m args below meth c H locs cells slots Q (F0 m tgt ls rest)) (kf : x = y → W p l e R s m args below meth c H locs cells slots Q (F0 m (pc + 1 + 3) ls rest)) : W p l e R s m args below meth c H locs cells slots Q (F0 m pc ls (.long (lN y) :: .long (lN x) :: rest)) :=
  bm_lc_ne hexec hb hd1 hdg ht (fun h => kt (fun q => h (by rw [q]))) (fun h => kf ((pk_lEQ hx hy).mp h))
theorem bm_nz_le (hexec : p.tables.exec = Jvm.exec) (hb : c.code = cc) {x : Nat} (hx : x < 2 ^ 31) {off : Int} {tgt : Nat} (hdg : decode cc pc = .ok (.ifCond .le off, 3)) (ht : (pc : Int) + off = (tgt : Int))
    (kt : x = 0 → W p l e R s m args below meth c H locs cells slots Q (F0 m tgt ls rest)) (kf : ¬ x = 0 → W p l e R s m args below meth c H locs cells slots Q (F0 m (pc + 3) ls rest)) : W p l e R s m args below meth c H locs cells slots Q (F0 m pc ls (.int (nI x) :: rest)) :=
  lv_if_le hexec hb hdg ht (fun h => kt (by
    rcases Nat.eq_zero_or_pos x with q | q
    · exact q
    · exact absurd h (nI_nle q hx))) (fun h => kf (fun q => h (by rw [q, nI_0]; decide)))
end BMN
end
section
abbrev gPA : Type := (Nat → Int64) × (Nat → Int64) × (Nat → Nat) × (Nat → Int64) × (Nat → Bool) × (Nat → Nat) × Nat
abbrev gPL : Type := (Nat → Int64) × (Nat → Int64) × (Nat → Nat) × (Nat → Bool)
abbrev gLI : Type := (Nat → Int64) × (Nat → Int64) × (Nat → Int64) × (Nat → Int64) × (Nat → Int64) × (Nat → Nat) × (Nat → Nat) × (Nat → Int64) × Nat × Nat
abbrev gWI : Type := (Nat → Nat) × (Nat → Nat) × (Nat → Int64) × (Nat → Int64) × (Nat → Bool) × (Nat → Int64) × (Nat → Int64) × (Nat → Int64) × (Nat → Int64) × Nat × Nat
abbrev gBM : Type := Int64 × Int64 × Int64 × Int64
abbrev gMS : Type := Int64 × Int64 × Nat × Nat × Nat × Nat × Nat × Int64
abbrev gMA : Type := (Nat → Int64) × (Nat → Int64) × (Nat → Nat) × (Nat → Int64) × (Nat → Bool) × (Nat → Nat) × (Nat → Bool)
abbrev gMP : Type := (Nat → Int64) × (Nat → Int64) × (Nat → Nat)
abbrev gMK : Type := (Nat → Int64) × (Nat → Nat) × (Nat → Nat) × (Nat → Int64)
abbrev gMN : Type := (Nat → Nat) × (Nat → Nat) × (Nat → Int64) × (Nat → Int64) × (Nat → Bool)
def WW (ad : Nat → Nat) (cJ cI cZ : ClassId) (bm : gBM) (pa : gPA) (p0 : gPL) (p1 : gPL) (p2 : gPL) (li : gLI) (wi : gWI) (mt : Nat) (ms : gMS) (ma : gMA) (mp : gMP) (mk : gMK) (mn : gMN) (ou : (Nat → Int64)) : va_W := [(ad 0, .inr (4, [.long bm.1, .long bm.2.1, .ref (ad 1), .ref (ad 23), .ref (ad 32), .ref (ad 8), .ref (ad 13), .ref (ad 18), .long bm.2.2.1, .long bm.2.2.2])),
  (ad 1, .inr (1, [.ref (ad 2), .ref (ad 3), .ref (ad 4), .ref (ad 5), .ref (ad 6), .ref (ad 7), .int (nI pa.2.2.2.2.2.2)])),
  (ad 2, .inl (cJ, 40, .inr (.inl pa.1))),
  (ad 3, .inl (cJ, 40, .inr (.inl pa.2.1))),
  (ad 4, .inl (cI, 40, .inl (fun j => nI (pa.2.2.1 j)))),
  (ad 5, .inl (cJ, 40, .inr (.inl pa.2.2.2.1))),
  (ad 6, .inl (cZ, 40, .inl (fun j => bm_b (pa.2.2.2.2.1 j)))),
  (ad 7, .inl (cI, 40, .inl (fun j => nI (pa.2.2.2.2.2.1 j)))),
  (ad 8, .inr (2, [.ref (ad 1), .ref (ad 9), .ref (ad 10), .ref (ad 11), .ref (ad 12)])),
  (ad 9, .inl (cJ, 40, .inr (.inl p0.1))),
  (ad 10, .inl (cJ, 40, .inr (.inl p0.2.1))),
  (ad 11, .inl (cI, 40, .inl (fun j => nI (p0.2.2.1 j)))),
  (ad 12, .inl (cZ, 40, .inl (fun j => bm_b (p0.2.2.2 j)))),
  (ad 13, .inr (2, [.ref (ad 1), .ref (ad 14), .ref (ad 15), .ref (ad 16), .ref (ad 17)])),
  (ad 14, .inl (cJ, 40, .inr (.inl p1.1))),
  (ad 15, .inl (cJ, 40, .inr (.inl p1.2.1))),
  (ad 16, .inl (cI, 40, .inl (fun j => nI (p1.2.2.1 j)))),
  (ad 17, .inl (cZ, 40, .inl (fun j => bm_b (p1.2.2.2 j)))),
  (ad 18, .inr (2, [.ref (ad 1), .ref (ad 19), .ref (ad 20), .ref (ad 21), .ref (ad 22)])),
  (ad 19, .inl (cJ, 40, .inr (.inl p2.1))),
  (ad 20, .inl (cJ, 40, .inr (.inl p2.2.1))),
  (ad 21, .inl (cI, 40, .inl (fun j => nI (p2.2.2.1 j)))),
  (ad 22, .inl (cZ, 40, .inl (fun j => bm_b (p2.2.2.2 j)))),
  (ad 23, .inr (0, [.ref (ad 1), .ref (ad 24), .ref (ad 25), .ref (ad 26), .ref (ad 27), .ref (ad 28), .ref (ad 29), .ref (ad 30), .ref (ad 31), .int (nI li.2.2.2.2.2.2.2.2.1), .int (nI li.2.2.2.2.2.2.2.2.2)])),
  (ad 24, .inl (cJ, 10, .inr (.inl li.1))),
  (ad 25, .inl (cJ, 10, .inr (.inl li.2.1))),
  (ad 26, .inl (cJ, 10, .inr (.inl li.2.2.1))),
  (ad 27, .inl (cJ, 10, .inr (.inl li.2.2.2.1))),
  (ad 28, .inl (cJ, 10, .inr (.inl li.2.2.2.2.1))),
  (ad 29, .inl (cI, 20, .inl (fun j => nI (li.2.2.2.2.2.1 j)))),
  (ad 30, .inl (cI, 20, .inl (fun j => nI (li.2.2.2.2.2.2.1 j)))),
  (ad 31, .inl (cJ, 20, .inr (.inl li.2.2.2.2.2.2.2.1))),
  (ad 32, .inr (3, [.ref (ad 1), .ref (ad 33), .ref (ad 34), .ref (ad 35), .ref (ad 36), .ref (ad 37), .ref (ad 38), .ref (ad 39), .ref (ad 40), .ref (ad 41), .int (nI wi.2.2.2.2.2.2.2.2.2.1), .int (nI wi.2.2.2.2.2.2.2.2.2.2)])),
  (ad 33, .inl (cI, 120, .inl (fun j => nI (wi.1 j)))),
  (ad 34, .inl (cI, 120, .inl (fun j => nI (wi.2.1 j)))),
  (ad 35, .inl (cJ, 120, .inr (.inl wi.2.2.1))),
  (ad 36, .inl (cJ, 120, .inr (.inl wi.2.2.2.1))),
  (ad 37, .inl (cZ, 40, .inl (fun j => bm_b (wi.2.2.2.2.1 j)))),
  (ad 38, .inl (cJ, 40, .inr (.inl wi.2.2.2.2.2.1))),
  (ad 39, .inl (cJ, 40, .inr (.inl wi.2.2.2.2.2.2.1))),
  (ad 40, .inl (cJ, 40, .inr (.inl wi.2.2.2.2.2.2.2.1))),
  (ad 41, .inl (cJ, 40, .inr (.inl wi.2.2.2.2.2.2.2.2.1))),
  (ad 42, .inr (5, [.int (nI mt), .long ms.1, .long ms.2.1, .int (nI ms.2.2.1), .ref (ad 43), .ref (ad 44), .ref (ad 45), .ref (ad 46), .ref (ad 47), .ref (ad 48), .ref (ad 49), .ref (ad 50), .ref (ad 51), .ref (ad 52), .int (nI ms.2.2.2.1), .ref (ad 53), .int (nI ms.2.2.2.2.1), .ref (ad 54), .ref (ad 55), .ref (ad 56), .int (nI ms.2.2.2.2.2.1), .int (nI ms.2.2.2.2.2.2.1), .ref (ad 57), .ref (ad 58), .ref (ad 59), .ref (ad 60), .ref (ad 61), .long ms.2.2.2.2.2.2.2])),
  (ad 43, .inl (cJ, 40, .inr (.inl ma.1))),
  (ad 44, .inl (cJ, 40, .inr (.inl ma.2.1))),
  (ad 45, .inl (cI, 40, .inl (fun j => nI (ma.2.2.1 j)))),
  (ad 46, .inl (cJ, 40, .inr (.inl ma.2.2.2.1))),
  (ad 47, .inl (cZ, 40, .inl (fun j => bm_b (ma.2.2.2.2.1 j)))),
  (ad 48, .inl (cI, 40, .inl (fun j => nI (ma.2.2.2.2.2.1 j)))),
  (ad 49, .inl (cZ, 40, .inl (fun j => bm_b (ma.2.2.2.2.2.2 j)))),
  (ad 50, .inl (cJ, 120, .inr (.inl mp.1))),
  (ad 51, .inl (cJ, 120, .inr (.inl mp.2.1))),
  (ad 52, .inl (cI, 120, .inl (fun j => nI (mp.2.2 j)))),
  (ad 53, .inl (cJ, 50, .inr (.inl mk.1))),
  (ad 54, .inl (cI, 20, .inl (fun j => nI (mk.2.1 j)))),
  (ad 55, .inl (cI, 20, .inl (fun j => nI (mk.2.2.1 j)))),
  (ad 56, .inl (cJ, 20, .inr (.inl mk.2.2.2))),
  (ad 57, .inl (cI, 120, .inl (fun j => nI (mn.1 j)))),
  (ad 58, .inl (cI, 120, .inl (fun j => nI (mn.2.1 j)))),
  (ad 59, .inl (cJ, 120, .inr (.inl mn.2.2.1))),
  (ad 60, .inl (cJ, 120, .inr (.inl mn.2.2.2.1))),
  (ad 61, .inl (cZ, 40, .inl (fun j => bm_b (mn.2.2.2.2 j)))),
  (ad 62, .inl (cJ, 1, .inr (.inl ou)))]
abbrev fPA : gPA := (fun _ => 0, fun _ => 0, fun _ => 0, fun _ => 0, fun _ => false, fun _ => 0, 0)
abbrev fPL : gPL := (fun _ => 0, fun _ => 0, fun _ => 0, fun _ => false)
abbrev fLI : gLI := (fun _ => 0, fun _ => 0, fun _ => 0, fun _ => 0, fun _ => 0, fun _ => 0, fun _ => 0, fun _ => 0, 0, 0)
abbrev fWI : gWI := (fun _ => 0, fun _ => 0, fun _ => 0, fun _ => 0, fun _ => false, fun _ => 0, fun _ => 0, fun _ => 0, fun _ => 0, 0, 0)
abbrev fMA : gMA := (fun _ => 0, fun _ => 0, fun _ => 0, fun _ => 0, fun _ => false, fun _ => 0, fun _ => false)
abbrev fMP : gMP := (fun _ => 0, fun _ => 0, fun _ => 0)
abbrev fMK : gMK := (fun _ => 0, fun _ => 0, fun _ => 0, fun _ => 0)
abbrev fMN : gMN := (fun _ => 0, fun _ => 0, fun _ => 0, fun _ => 0, fun _ => false)
end
section
-- EXCEPTIONS: own rows. A method that throws a new exception and changes nothing that was there; its callers; a catch.
theorem bx_state {U V : State} (hv : U.vm = V.vm) (C n d : String) : U.fieldFound? C n d = V.fieldFound? C n d := by
  unfold State.fieldFound?
  rw [hv]
def bx_tb (w : Cond) : Bool := w.onTables && w.keepsFace
theorem bx_tb_at {a a' : Array Value} {s U : State} {w : Cond} (hW : s.WarmedH U.vm) (hw : bx_tb w = true) (h : w.before a s = true) : w.before a' U = true := by
  simp only [bx_tb, Bool.and_eq_true] at hw
  have h1 : w.before a (s.setVm U.vm) = true := Cond.before_shiftedFace (State.Shifted.of_warmed hW) w hw.2 h
  rw [Cond.onTables_vm (A' := a') (U' := U) U.vm w hw.1, State.setVm_self] at h1
  exact h1
theorem bx_lay_at {C n d : String} {a a' : Array Value} {s U : State} (hW : s.WarmedH U.vm) (hh : ∀ q : Nat, q < s.heap.size → U.heap[q]? = s.heap[q]?) (h : (Cond.laysStatic C n d).before a s = true) : (Cond.laysStatic C n d).before a' U = true := by
  obtain ⟨c, k, i, f, q, cell, h1, h2, h3, h4, h5, h6, h7, h8, h9⟩ := Cond.laysStatic_spec h
  obtain ⟨k', hi', he⟩ := State.fieldFound?_setVm hW.alike h2
  have h5' : U.heap[q]? = some cell := by rw [hh q (Array.getElem?_eq_some_iff.mp h5).1]; exact h5
  show (Cond.laysStatic C n d).holds a' U none U [] = true
  exact Cond.laysStatic_of (by rw [hW.alike.findClass]; exact h1) hi' h3 (by rw [he]; exact h4) h5' h6 h7 h8 (by rw [he]; exact h9)
theorem bx_ref_at {C n d : String} {a a' : Array Value} {s U : State} (hW : s.WarmedH U.vm) (hh : ∀ q : Nat, q < s.heap.size → U.heap[q]? = s.heap[q]?) (hl : (Cond.laysStatic C n d).before a s = true) (hini : (Cond.initialized C).before a s = true) (h : (Cond.isRef (.static C n d)).before a s = true) : (Cond.isRef (.static C n d)).before a' U = true := by
  have z0 : va_Zq C n d (fun _ => False) s s.heap := va_Zqof hl hini h (fun _ _ z => z)
  have z1 : va_Zq C n d (fun _ => False) U U.heap := va_Zq.moved hW.alike (va_Zq.kept z0 (fun q hq _ => hh q hq))
  have key : ∀ v : Value, v.isRef = true → va_Z C n d v (fun _ => False) U U.heap → (Cond.isRef (.static C n d)).before a' U = true := by
    intro v hv hz
    obtain ⟨cf, kf, fi, f, q, cell, h1, h2, h3, h4, h5, h6, h7, -⟩ := hz
    have he : (Term.static C n d).eval a' U none [] U = some v := by simp [Term.eval, State.fieldNamed?, h1, h2, h4, h5, h6, h7]
    simp only [Cond.before, Cond.holds, Cond.value, he]
    cases v <;> simp_all [Value.isRef]
  rcases z1 with h9 | ⟨t, h9⟩
  · exact key _ rfl h9
  · exact key _ rfl h9
/-- the words of a throw that speak of the heap -/
def bx_st : List Cond := [.laysStatic Bundle.tN "UNASSIGNED_STACK" Bundle.steD, .laysStatic Bundle.tN "SUPPRESSED_SENTINEL" Bundle.listD, .isRef (.static Bundle.tN "UNASSIGNED_STACK" Bundle.steD), .isRef (.static Bundle.tN "SUPPRESSED_SENTINEL" Bundle.listD)]
/-- the words xw hold, whatever the arguments -/
def bx_X (xw : List Cond) (U : State) : Prop := ∀ w ∈ xw, ∀ a : Array Value, w.before a U = true
def bx_ok (xw : List Cond) : Bool := xw.all (fun w => bx_tb w || decide (w ∈ bx_st)) && bx_st.all (fun w => decide (w ∈ xw)) && decide (Cond.initialized Bundle.tN ∈ xw)
theorem bx_X.of {xw : List Cond} {s U : State} {a0 : Array Value} (hok : bx_ok xw = true) (hW : s.WarmedH U.vm) (hh : ∀ q : Nat, q < s.heap.size → U.heap[q]? = s.heap[q]?) (h : ∀ w ∈ xw, w.before a0 s = true) : bx_X xw U := by
  simp only [bx_ok, Bool.and_eq_true, List.all_eq_true, decide_eq_true_eq, Bool.or_eq_true] at hok
  obtain ⟨⟨h1, h2⟩, h3⟩ := hok
  intro w hw a
  rcases h1 w hw with h4 | h4
  · exact bx_tb_at hW h4 (h w hw)
  · simp only [bx_st, List.mem_cons, List.not_mem_nil, or_false] at h4
    rcases h4 with rfl | rfl | rfl | rfl
    · exact bx_lay_at hW hh (h _ hw)
    · exact bx_lay_at hW hh (h _ hw)
    · exact bx_ref_at hW hh (h _ (h2 _ (by simp [bx_st]))) (h _ h3) (h _ hw)
    · exact bx_ref_at hW hh (h _ (h2 _ (by simp [bx_st]))) (h _ h3) (h _ hw)
theorem bx_X.mv {xw : List Cond} {s U : State} (hok : bx_ok xw = true) (hW : s.WarmedH U.vm) (hh : ∀ q : Nat, q < s.heap.size → U.heap[q]? = s.heap[q]?) (h : bx_X xw s) : bx_X xw U := bx_X.of (a0 := #[]) hok hW hh (fun w hw => h w hw _)
/-- the strings: each is interned somewhere -/
def bx_S (own : String) (strs : List (Nat × String)) (U : State) : Prop := ∀ q ∈ strs, ∃ sa : Nat, vk_R own q.1 q.2 sa U
theorem bx_S.mv {own : String} {strs : List (Nat × String)} {s U : State} (hW : s.WarmedH U.vm) (h : bx_S own strs s) : bx_S own strs U := fun q hq => by
  obtain ⟨sa, h1⟩ := h q hq
  exact ⟨sa, vk_R.warm hW h1⟩
theorem bx_frame {s U : State} {k n : Nat} (h : s.sameButNew ({ U with vm := s.vm } : State) [] k n) : s.heap.size ≤ U.heap.size ∧ ∀ q : Nat, q < s.heap.size → U.heap[q]? = s.heap[q]? := by
  refine ⟨h.2.1, fun q hq => ?_⟩
  obtain ⟨c9, e1, e2, -, e4⟩ := h.2.2.2.2.2 q _ (Array.getElem?_eq_getElem hq)
  have es : c9.slots = (s.heap[q]).slots := Array.ext_getElem? (fun i => e4 i (by intro z; cases z))
  rw [es] at e2
  have e5 : U.heap[q]? = some c9 := e1
  rw [e5, e2, Array.getElem?_eq_getElem hq]
/-- how a throwing body ends -/
def bx_Tq (E : String) : Array Value → State → Outcome → State → Prop := fun _ st o t => ∃ (q : Addr) (ce : Cell), o = .threw q ∧ t.heap[q]? = some ce ∧ ce.vm = .none ∧ st.vm.findClass E = some ce.cls ∧ st.WarmedH t.vm ∧ st.sameButNew ({ t with vm := st.vm } : State) [] 1 6
def bx_T (l : Launch) (y : MethodName) (ws : List Cond) (rm : Room) (Pc : Array Value → State → Prop) (E : String) : Prop := MetFree l y (headSpec ws rm) Pc (fun _ _ _ _ _ => True) (bx_Tq E)
def bx_MQ (below : List Frame) (E : String) (a : Array Value) (s : State) : State → Prop := fun t => ∃ o, t.status = .running ∧ Ended t below o ∧ bx_Tq E a s o t
theorem bx_ofW {l : Launch} {y : MethodName} {ws ws' : List Cond} {rm : Room} {Pc : Array Value → State → Prop} {E : String} {cc : ByteArray} {maxL : Nat} {ret : Option FieldType}
    (hy : plainName y.cls = true) (hw : ws = Cond.code y cc maxL ret :: ws')
    (body : ∀ p e s m args below meth c s₁, BodyLoose p l y (headSpec ws rm) cc maxL ret e s m args below meth c s₁ → c.maxLocals = maxL → (∀ x ∈ c.exceptionTable.toList, ∀ pc, covers x pc = false) → Pc args s →
      W p l e (headSpec ws rm).room s m args below meth c s.heap [] 0 0 (bx_MQ below E args s) (entryFrame m args maxL)) : bx_T l y ws rm Pc E := by
  have hm : Cond.code y cc maxL ret ∈ ws := by rw [hw]; exact List.mem_cons_self
  refine MetFree.of_bodyS (code := cc) (maxLocals := maxL) (ret := ret) hy ?_ ?_
  · intro args s m h hn
    obtain ⟨meth, c, h1, h2, h3, h4, h5, h6, -, -⟩ := Cond.code_spec hn (atoms_spec (ws := ws) h _ hm)
    exact ⟨meth, c, h1, h2, h3, h4, h5, h6⟩
  · intro p e s m args below meth c s₁ B hml hP _
    have he := B.noHandlers (atoms_spec (ws := ws) B.pre _ hm)
    obtain ⟨t, a1, o, b1, b2, b3⟩ := body p e s m args below meth c s₁ B hml (fun x hx => by
      rw [Array.isEmpty_iff] at he
      rw [he] at hx
      cases hx) hP s₁ (by rw [B.state]; rfl) (Stand.of_body B)
    exact ⟨t, o, a1, b1, b2, b3⟩
section BX1
variable {p : Program} {l : Launch} {e : Env} {R : Room} {s : State} {m : MethodId} {args : Array Value} {below : List Frame} {meth : Method} {c : Code} {H : Heap} {locs : List Loc} {cells slots : Nat} {Q : State → Prop}
/-- throw new cls(text): new, dup, ldc, invokespecial, athrow -/
theorem bx_throw {cc : ByteArray} {pc : Nat} {ls : Array Slot} {rest : List Value} (hx : p.tables.exec = Jvm.exec) (hb : c.code = cc) (hl : l.stackTraces = false) {own cls text : String} {names : List String} {ik is ic sa : Nat}
    (hown : s.vm.findClass own = some m.cls) (hcls : Bundle.fit cls = true) (hnames : ∀ n ∈ names, Bundle.fit n = true) (hk : (Cond.classLink own ik cls).before args s = true) (hini : (Cond.initialized cls).before args s = true)
    (hstr : vk_R own is text sa s) (hat : ∀ w ∈ Bundle.ownAtoms own ic cls names, w.before args s = true) (hsize : ls.size = c.maxLocals)
    (d0 : decode cc pc = .ok (.new ik, 3)) (d3 : decode cc (pc + 3) = .ok (.dup, 1)) (d4 : decode cc (pc + 4) = .ok (.ldc is, 2)) (d6 : decode cc (pc + 6) = .ok (.invokespecial ic, 3)) (d9 : decode cc (pc + 9) = .ok (.athrow, 1))
    (hout : ∀ x ∈ c.exceptionTable.toList, ∀ pc, covers x pc = false) (hF : names.length + 3 < R.frames) (hL : (rest.map fun v => v.category).sum + (13 * (names.length + 1) + 43) ≤ R.locals) (hC : 1 ≤ R.cells) (hS : 6 ≤ R.slots) (hlocks : meth.locks = false) :
    W p l e R s m args below meth c s.heap [] 0 0 (bx_MQ below cls args s) (F0 m pc ls rest) := by
  intro T hT X
  have htr : e.platform.stackTraces = false := (show e.platform.stackTraces = l.stackTraces by rw [X.admits.platform]).trans hl
  have hins : (Cond.instantiable cls 6).before args s = true := hat _ (by simp [Bundle.ownAtoms])
  obtain ⟨vm₁, cX, kX, hfX, hkX, -, -, X₁, st1⟩ := X.newCold hx (own := own) (C := cls) (index := ik) (n := 6) hown hk hins hini (g := F0 m pc ls rest) rfl (by rw [hb]; exact d0) (by omega) (by omega)
  generalize hT1 : (T.setVm vm₁).pushCell { cls := cX, slots := kX.instanceTypes.map defaultValue, vm := .none } = T1 at X₁ st1
  have hcat : (Value.ref T.heap.size).category = 1 := rfl
  have hcellA : T1.heap[T.heap.size]? = some (freshCell cX kX) := by rw [← hT1]; exact State.heap_pushCell_size _ _
  have d3' : decode c.code (pc + 3) = .ok (.dup, 1) := by rw [hb]; exact d3
  have d4' : decode c.code (pc + 4) = .ok (.ldc is, 2) := by rw [hb]; exact d4
  obtain ⟨U, hsteps, hrun, hend, hW, hsame, ce, hce, hO⟩ := X₁.ctorThrowS hx htr (own := own) (cls := cls) (names := names) (ic := ic) hown hcls hnames hat (fun x hx => nomatch hx) hfX hkX hcellA (by rw [hT]; exact Nat.le_refl _) (msg := .ref sa) rfl
    (g := { method := m, pc := pc + 6, locals := ls, stack := .ref sa :: .ref T.heap.size :: .ref T.heap.size :: rest, locked := none }) rfl hsize rfl rfl (rest := rest) rfl
    (by rw [hb]; exact d6) (by rw [hb]; exact d9) (fun x hx => hout x hx _) hF (by simp only [List.map_cons, List.sum_cons, hcat]; omega) hlocks
  refine ⟨U, ?_, .threw T.heap.size, hrun, hend, T.heap.size, ce, rfl, hce, hO.vm, hO.cls, hW, hsame⟩
  refine st1 _ ?_
  show Steps p.tables e below (T1.setTop { method := m, pc := pc + 3, locals := ls, stack := .ref T.heap.size :: rest, locked := none }) _
  jvm_step X₁.here [X₁.here.top, hx, d3', Value.category]
  exact X₁.ldcString hx (own := own) (text := text) (index := is) (a := sa) hown hstr.1 hstr.2
    (g := { method := m, pc := pc + 4, locals := ls, stack := .ref T.heap.size :: .ref T.heap.size :: rest, locked := none }) rfl d4' _ hsteps
/-- what a call of a thrower does: the note lies over the caller's frame -/
def bx_Run (p : Program) (l : Launch) (e : Env) (R : Room) (s : State) (m : MethodId) (args : Array Value) (below : List Frame) (meth : Method) (c : Code) (H : Heap) (locs : List Loc) (cells slots : Nat) (g : JFrame) (rest : List Value) (E : String) : Prop :=
  ∀ T : State, T.heap = H → Stand p l e R s m args below meth c T locs cells slots → ∃ (q : Addr) (ce : Cell) (T' : State), Stand p l e R s m args below meth c T' locs (cells + 1) (slots + 6) ∧ T'.heap[q]? = some ce ∧ ce.vm = .none ∧ s.vm.findClass E = some ce.cls ∧ H.size ≤ T'.heap.size ∧ (∀ k : Nat, k < H.size → T'.heap[k]? = H[k]?) ∧
    Steps p.tables e below (T.setTop g) ((T'.setTop { g with stack := rest }).pushFrame (.throwing q))
theorem bx_core {U : State} (X : Stand p l e R s m args below meth c U locs cells slots) {y : MethodName} {ws : List Cond} {rm : Room} {Pc : Array Value → State → Prop} {E : String} (hM : bx_T l y ws rm Pc E) {bytes : ByteArray} {maxL : Nat} {ret : Option FieldType}
    {g : JFrame} (hg : g.method = m) (hsize : g.locals.size = c.maxLocals) {ig : Instr} {len : Nat} (hdg : decode c.code g.pc = .ok (ig, len)) (hW : 2 * g.monitorRoom + (g.stack.map fun v => v.category).sum ≤ 8) {mk : MethodId} {a : Array Value}
    (hn : U.methodNamed? y = some mk) (hws : ∀ w ∈ ws, w.before a U = true) (hcode : (Cond.code y bytes maxL ret).before a U = true) (hini : (Cond.initialized y.cls).before a U = true) (hP : Pc a (U.calling g mk a))
    (hfr : rm.frames + 1 ≤ R.frames) (hlo : 8 + (maxL + 11) + rm.locals ≤ R.locals) (hrc : rm.cells = 1) (hrs : rm.slots = 6) (hc1 : cells + 1 ≤ R.cells) (hs1 : slots + 6 ≤ R.slots) :
    ∃ (q : Addr) (ce : Cell) (T' : State), Stand p l e R s m args below meth c T' locs (cells + 1) (slots + 6) ∧ T'.heap[q]? = some ce ∧ ce.vm = .none ∧ U.vm.findClass E = some ce.cls ∧ U.heap.size ≤ T'.heap.size ∧ (∀ k : Nat, k < U.heap.size → T'.heap[k]? = U.heap[k]?) ∧
      Steps p.tables e below (doInvoke e (U.setTop g) [] mk a).1 ((T'.setTop g).pushFrame (.throwing q)) := by
  obtain ⟨methY, cY, hmY, hcY, -, hlY, -, -, -, -⟩ := Cond.code_spec hn hcode
  obtain ⟨kY, hkY, -⟩ := className_of_methodNamed hn
  have hAt : At U g.method c below := by rw [hg]; exact X.here
  have happ : (headSpec ws rm).appliesLoose y e.platform (U.calling g mk a) = true :=
    Spec.appliesLoose_calling (g := g) hAt hdg hn hkY (Cond.initialized_spec (findClass_of_methodNamed hn) hkY hini)
      (X.room_calling (g := g) (R' := (headSpec ws rm).room) hsize hmY hcY hfr (by rw [hlY]; show _ + rm.locals ≤ _; omega) (by show cells + rm.cells ≤ _; omega) (by show slots + rm.slots ≤ _; omega)) (atoms_intro hws)
  obtain ⟨mid, hmid⟩ := hAt.above
  have hfrm : (U.setTop g).frames = (.java g :: mid) ++ below := by rw [State.frames_setTop' g hAt.top, hmid]; rfl
  obtain ⟨o, z, hsteps, -, hend, hq⟩ := Steps.callFree hM p X.admits X.cas X.clock (acts := []) hfrm happ hP trivial
  have hq' : bx_Tq E a (U.calling g mk a) o z := hq
  obtain ⟨q, ce, ho, h1, h2, h3, hWm, hsm⟩ := hq'
  subst ho
  have hfm := bx_frame hsm
  rw [State.frames_setTop' g hAt.top] at hend
  have hf2 : z.frames = .throwing q :: .java g :: U.frames.tail := hend
  obtain ⟨e2, q2, q3, q4, q5, q6⟩ := hsm
  have e3 : z = ({ (U.calling g mk a).setFrames z.frames with heap := z.heap, slotsUsed := z.slotsUsed } : State).setVm z.vm := by
    have e4 : z = ({ z with vm := (U.calling g mk a).vm } : State).setVm z.vm := rfl
    rw [e2] at e4
    exact e4
  have hWU : U.WarmedH z.vm := hWm
  obtain ⟨g₀, hg0⟩ := Option.isSome_iff_exists.mp hAt.top
  obtain ⟨r, hr⟩ := State.topJava?_eq_some.mp hg0
  obtain ⟨T', hT'⟩ : ∃ T' : State, T' = ({ U with heap := z.heap, slotsUsed := z.slotsUsed } : State).setVm z.vm := ⟨_, rfl⟩
  have hz : z = (T'.setTop g).pushFrame (.throwing q) := by
    have hr' : T'.frames = .java g₀ :: r := by rw [hT']; exact hr
    rw [State.pushFrame, State.frames_setTop _ hr', State.setTop_of_frames _ hr', State.setFrames_setFrames]
    refine e3.trans ?_
    rw [hf2, State.calling_eq hAt.top, State.setFrames_setFrames, hr, hT']
    rfl
  have hsame : U.sameButNew ({ U with heap := z.heap, slotsUsed := z.slotsUsed } : State) [] 1 6 := by
    refine ⟨?_, q2, q3, q4, q5, q6⟩
    obtain ⟨t, ht, -⟩ := State.frames_cons hr
    show ({ U with heap := z.heap, slotsUsed := z.slotsUsed } : State) = { U.setFrames U.frames with heap := z.heap, slotsUsed := z.slotsUsed }
    rw [State.setFrames_self ht]
  have hall := X.same.trans (hsame.setVm s.vm)
  rw [List.append_nil] at hall
  refine ⟨q, ce, T', ?_, by rw [hT']; exact h1, h2, h3, by rw [hT']; exact hfm.1, by rw [hT']; exact hfm.2, by rw [← hz]; exact hsteps⟩
  subst hT'
  exact ⟨X.admits, X.cas, X.clock, X.frames, X.room, X.hears, X.method, X.code, (X.here.setHeapUsed z.heap z.slotsUsed).setVm hWU.alike, X.tail, State.WarmedH.trans X.warmed hWU, X.limits, X.bytes, hall⟩
theorem bx_runV {cc bytes : ByteArray} {pc nL maxL n index : Nat} {ret : Option FieldType} {ls : Array Slot} {st0 As rest : List Value} {b : Nat} {Ts ws : List Cond} {rm : Room} {own C : String} {y : MethodName} {Pc : Array Value → State → Prop} {E : String}
    (S : CallFix p m c cc nL s args Ts own) (hM : bx_T l y ws rm Pc E) (cw : CallW R s args own C index y bytes maxL ret ws rm 1 6 n) (hp : PreV s H C b Pc As)
    (hn : As.length = n) (hsize : ls.size = nL) (hstack : st0 = As.reverse ++ .ref b :: rest) (hW : (rest.map fun v => v.category).sum ≤ 8) (hdg : decode cc pc = .ok (.invokevirtual index, 3)) (hcs : cells + 1 ≤ R.cells ∧ slots + 6 ≤ R.slots) :
    bx_Run p l e R s m args below meth c H locs cells slots (F0 m pc ls st0) rest E := by
  obtain ⟨⟨hrc, hrs, hfr, hlo, hws, hcw, hcode, hini, hy, hlen, hlk⟩, hin, hse⟩ := cw
  obtain ⟨hx, hb, hml, ho, -⟩ := S
  obtain ⟨hbl, ⟨cellB, hcB, hoB, hclB⟩, hPc⟩ := hp
  intro T hT X
  obtain ⟨mk, methM, hnamed, hmethM, hstM, habM⟩ := Cond.instanceMethod_spec hin
  obtain ⟨methM', cM, hmethM', -, -, -, -, -, -, hsigM⟩ := Cond.code_spec hnamed hcode
  cases hmethM.symm.trans hmethM'
  obtain ⟨c2, r2, m2, q1, q2, q3, q4, kP, hkP, hkPi⟩ := Cond.selects_spec hse
  cases hclB.symm.trans q1
  cases (State.methodFound?_of_named hnamed hy).symm.trans q2
  cases hnamed.symm.trans q3
  have hsel : selectMethod e.platform s.vm cellB.cls mk = .method mk := by rw [Launch.admits_selectMethod X.admits]; exact q4
  obtain ⟨vm₁, X₁, hstep⟩ := X.invokevirtual hx ho hlk hnamed hmethM hstM hkP hkPi hy (a := b) (cell := cellB) (by rw [hT]; exact hcB)
    (fun z h => by rw [h] at hoB; cases hoB) hsel hmethM habM hkP hkPi (g := F0 m pc ls st0) rfl (argsL := As) (rest := rest) (hn.trans (hlen _ hsigM)) hstack (by rw [hb]; exact hdg)
  have hWs : s.WarmedH (T.setVm vm₁).vm := X₁.warmed
  obtain ⟨q, ce, T', X', h1, h2, h3, h4, h5, st⟩ := bx_core X₁ hM (bytes := bytes) (maxL := maxL) (ret := ret) (g := { F0 m pc ls st0 with stack := rest }) rfl (hsize.trans hml.symm) (by rw [hb]; exact hdg) (lv_room hW)
    (mk := mk) (a := (Value.ref b :: As).toArray) (X₁.named hnamed) (fun w hw => hws w hw _ _ hWs) (hws _ hcw _ _ hWs) (word_at hWs (Or.inl (by first | rfl | simp [Cond.onTables, Cond.keeps, Cond.steady])) hini)
    (hbl _ _ _ _ (hPc (T.setVm vm₁) hT hWs)) hfr hlo hrc hrs hcs.1 hcs.2
  refine ⟨q, ce, T', X', h1, h2, by rw [← hWs.alike.findClass]; exact h3, by rw [← hT]; exact h4, by rw [← hT]; exact h5, ?_⟩
  exact hstep _ fun acts => by rw [doInvoke_state]; exact st
/-- not caught here: it goes on to the caller -/
theorem bx_leave {pc : Nat} {ls : Array Slot} {st0 rest : List Value} {E : String} (hr : bx_Run p l e R s m args below meth c s.heap [] 0 0 (F0 m pc ls st0) rest E) (hout : ∀ x ∈ c.exceptionTable.toList, ∀ pc, covers x pc = false) (hlocks : meth.locks = false) :
    W p l e R s m args below meth c s.heap [] 0 0 (bx_MQ below E args s) (F0 m pc ls st0) := by
  intro T hT X
  obtain ⟨q, ce, T', X', h1, h2, h3, h4, h5, st⟩ := hr T hT X
  obtain ⟨l1, l2, l3, l4, l5⟩ := X'.leaveThrown q (g := { F0 m pc ls st0 with stack := rest }) rfl rfl rfl (fun x hx => hout x hx _) hlocks
  exact ⟨_, st.trans l1, .threw q, l2, l3, q, ce, rfl, h1, h2, h3, l4, l5⟩
end BX1
end
section
-- CATCHING: the first row of the method's own table takes it (its class cold or warm)
theorem bx_go {Qh : Handler → Pre} {Ec : CtlPost} {e : Env} {d : Bool} {acts : List Action} {s : State} {f : JFrame} {a : Addr} {x : ExceptionTableEntry} {t : List ExceptionTableEntry} {k : ClassId} {cell : Cell} (hx : covers x f.pc = true) (h0 : x.catchType ≠ 0)
    (hlk : s.vm.ClassLinks e.platform f.method.cls x.catchType k) (hcell : s.heap[a]? = some cell) (hobj : ∀ z, cell.vm ≠ .statics z) (hk1 : ∃ z, s.vm.classes[cell.cls]? = some z) (hk2 : ∃ z, s.vm.classes[k]? = some z) (hfit : s.vm.assignable cell.cls k = true) :
    wp (findHandler.go f a (x :: t)) Qh Ec e d acts s ↔ Qh (.found x.handlerPc) d acts (s.setVm (s.vm.noted f.method.cls x.catchType (.cls k))) := by
  have hal : s.vm.Alike (s.vm.noted f.method.cls x.catchType (.cls k)) := (Vm.Alike.refl s.vm).noted _ _ _
  obtain ⟨h1, h2⟩ := (resolveClass_links e.toSetting hlk).op (op := VmOp.resolveClass f.method.cls x.catchType) rfl
  obtain ⟨z1, hz1⟩ := hk1
  obtain ⟨z2, hz2⟩ := hk2
  obtain ⟨y1, hy1, -⟩ := hal.2.2 _ _ hz1
  obtain ⟨y2, hy2, -⟩ := hal.2.2 _ _ hz2
  have hfit' : (s.vm.noted f.method.cls x.catchType (.cls k)).assignable cell.cls k = true := by rw [hal.assignable]; exact hfit
  simp only [covers] at hx
  simp [findHandler.go, hx, h0, h1, h2, hcell, hobj, hy1, hy2, hfit', VmOp.dirties, VmOp.acts]
theorem bx_caught {p : Program} {l : Launch} {e : Env} {R : Room} {s : State} {m : MethodId} {args : Array Value} {below : List Frame} {meth : Method} {c : Code} {T : State} {locs : List Loc} {cells slots : Nat} (X : Stand p l e R s m args below meth c T locs cells slots) {q : Addr} {pc : Nat} {ls : Array Slot} {rest : List Value}
    {x : ExceptionTableEntry} {suf : List ExceptionTableEntry} (hsplit : c.exceptionTable.toList = x :: suf) (hcov : covers x pc = true) (h0 : x.catchType ≠ 0) {own name E : String} (hown : s.vm.findClass own = some m.cls) (hlink : (Cond.classLink own x.catchType name).before args s = true) (hcast : (Cond.castable E name).before args s = true)
    {ce : Cell} (hce : T.heap[q]? = some ce) (hv : ce.vm = .none) (hcl : s.vm.findClass E = some ce.cls) :
    ∃ vm', Stand p l e R s m args below meth c (T.setVm vm') locs cells slots ∧ ∀ target, Steps p.tables e below ((T.setVm vm').setTop (F0 m x.handlerPc ls [.ref q])) target → Steps p.tables e below ((T.setTop (F0 m pc ls rest)).pushFrame (.throwing q)) target := by
  have hpl : e.platform.magicAccessors = ({} : Platform).magicAccessors := by rw [X.admits.platform]
  obtain ⟨cE, cN, hcE, hcN, hasg⟩ := Cond.castable_spec hcast
  cases Option.some.inj (hcE.symm.trans hcl)
  obtain ⟨c5, hc5, hlk⟩ := Cond.classLink_spec hown hlink e.platform hpl
  cases Option.some.inj (hcN.symm.trans hc5)
  obtain ⟨dk, _, _, kt, hd, _, _, _, _, hkt, _, hopen⟩ := hlk.here
  have hlk' := X.warmed.classLinks hlk
  have hW' : s.WarmedH (T.vm.noted m.cls x.catchType (.cls cN)) := X.warmed.noted hd hopen (State.rightAt_cls hlk)
  have hal := X.warmed.alike
  obtain ⟨kt', hkt', -⟩ := hal.2.2 _ _ hkt
  have hfit : T.vm.assignable ce.cls cN = true := by rw [hal.assignable]; exact hasg
  refine ⟨_, X.noted hW', fun target hrest => ?_⟩
  have hAt : At T (F0 m pc ls rest).method c below := X.here
  obtain ⟨hgo, hw⟩ := hAt.throwing q
  refine Steps.head hgo hw ?_
  rw [stepThread_throwing (frames_entered hAt.top _)]
  obtain ⟨g₀, hg⟩ := Option.isSome_iff_exists.mp hAt.top
  obtain ⟨r, hr⟩ := State.topJava?_eq_some.mp hg
  have hfind : ∀ (Qh : Handler → Pre) (Ec : CtlPost) (d : Bool) (acts : List Action), wp (findHandler (F0 m pc ls rest) q) Qh Ec e d acts ((T.setTop (F0 m pc ls rest)).pushFrame (.throwing q)) ↔ Qh (.found x.handlerPc) d acts (((T.setTop (F0 m pc ls rest)).pushFrame (.throwing q)).setVm (T.vm.noted m.cls x.catchType (.cls cN))) := by
    intro Qh Ec d acts
    rw [Jvm.W.findHandler_eq (s := (T.setTop (F0 m pc ls rest)).pushFrame (.throwing q)) (f := F0 m pc ls rest) (meth := meth) (code := c) X.method' X.code, hsplit]
    exact bx_go (s := (T.setTop (F0 m pc ls rest)).pushFrame (.throwing q)) (f := F0 m pc ls rest) hcov h0 hlk' hce (VmData.ne_statics_of (by rw [hv]; rfl)) (Vm.classAt_of_assignable hfit ⟨kt', hkt'⟩) ⟨kt', hkt'⟩ hfit
  have hstep : (stepThrowing e ((T.setTop (F0 m pc ls rest)).pushFrame (.throwing q)) q (.java (F0 m pc ls rest) :: T.frames.tail)).1 = (((T.setTop (F0 m pc ls rest)).pushFrame (.throwing q)).setVm (T.vm.noted m.cls x.catchType (.cls cN))).setFrames (.java { (F0 m pc ls rest) with pc := x.handlerPc, stack := [.ref q] } :: T.frames.tail) := by
    simp only [stepThrowing, searchFrame, vmDo]
    generalize hres : Sem.go _ e false [] _ = res
    obtain ⟨as, rfl, ha⟩ := Sem.eq_ok_of hres (a := Handler.found x.handlerPc) (s' := ((T.setTop (F0 m pc ls rest)).pushFrame (.throwing q)).setVm (T.vm.noted m.cls x.catchType (.cls cN))) (acts' := []) (by simp [hfind _ _ _ _])
    rfl
  rw [hstep]
  have hr' : (T.setVm (T.vm.noted m.cls x.catchType (.cls cN))).frames = .java g₀ :: r := hr
  rw [State.setTop_of_frames _ hr'] at hrest
  have hsw : ∀ (u : State) (v : Vm) (F G : List Frame), ((u.setFrames F).setVm v).setFrames G = (u.setVm v).setFrames G := by
    intro u v F G
    have e1 : (u.setFrames F).setVm v = (u.setVm v).setFrames F := rfl
    rw [e1, State.setFrames_setFrames]
  rw [hr, List.tail_cons, State.pushFrame, hsw, State.setTop_of_frames _ hr, hsw]
  exact hrest
section BX2
variable {p : Program} {l : Launch} {e : Env} {R : Room} {s : State} {m : MethodId} {args : Array Value} {below : List Frame} {meth : Method} {c : Code} {H : Heap} {locs : List Loc} {cells slots : Nat} {Q : State → Prop}
theorem bx_catch {pc : Nat} {ls : Array Slot} {st0 rest : List Value} {E own name : String} (hr : bx_Run p l e R s m args below meth c H locs cells slots (F0 m pc ls st0) rest E) (hown : s.vm.findClass own = some m.cls) {h1 h2 h3 h4 : Nat} {hs : List (Nat × Nat × Nat × Nat)}
    (hsplit : c.exceptionTable.toList.map (fun h => (h.startPc, h.endPc, h.handlerPc, h.catchType)) = (h1, h2, h3, h4) :: hs) (hcov : h1 ≤ pc ∧ pc < h2) (h0 : h4 ≠ 0) (hlink : (Cond.classLink own h4 name).before args s = true) (hcast : (Cond.castable E name).before args s = true)
    (kk : ∀ (q : Nat) (H1 : Heap), H.size ≤ H1.size → (∀ k : Nat, k < H.size → H1[k]? = H[k]?) → W p l e R s m args below meth c H1 locs (cells + 1) (slots + 6) Q (F0 m h3 ls [.ref q])) : W p l e R s m args below meth c H locs cells slots Q (F0 m pc ls st0) := by
  intro T hT X
  obtain ⟨q, ce, T', X', e1, e2, e3, e4, e5, st⟩ := hr T hT X
  cases hx : c.exceptionTable.toList with
  | nil => rw [hx] at hsplit; cases hsplit
  | cons x suf =>
    rw [hx] at hsplit
    simp only [List.map_cons, List.cons.injEq, Prod.mk.injEq] at hsplit
    obtain ⟨⟨rfl, rfl, rfl, rfl⟩, -⟩ := hsplit
    obtain ⟨vm', X2, st2⟩ := bx_caught X' (pc := pc) (ls := ls) (rest := rest) hx (by simp [covers, hcov.1, hcov.2]) h0 hown hlink hcast e1 e2 e3
    obtain ⟨t, a1, b1⟩ := kk q (T'.setVm vm').heap e4 e5 (T'.setVm vm') rfl X2
    exact ⟨t, st.trans (st2 t a1), b1⟩
end BX2
/-- a method with a table of handlers -/
theorem bx_ofWH {l : Launch} {y : MethodName} {ws ws' : List Cond} {rm : Room} {Pc : Array Value → State → Prop} {Qc : Array Value → State → Outcome → State → Prop} {mc ms : Nat} {free : Addr → Prop} {cc : ByteArray} {maxL : Nat} {ret : Option FieldType} {hs : List (Nat × Nat × Nat × Nat)}
    (hy : plainName y.cls = true) (hw : ws = Cond.codeWith y cc maxL ret hs :: ws')
    (body : ∀ p e s m args below meth c s₁, BodyLoose p l y (headSpec ws rm) cc maxL ret e s m args below meth c s₁ → c.maxLocals = maxL → c.exceptionTable.toList.map (fun h => (h.startPc, h.endPc, h.handlerPc, h.catchType)) = hs → Pc args s →
      W p l e (headSpec ws rm).room s m args below meth c s.heap [] 0 0 (MQ below Qc args s mc ms free) (entryFrame m args maxL)) : Met l y ws rm Pc Qc mc ms free := by
  have hm : Cond.codeWith y cc maxL ret hs ∈ ws := by rw [hw]; exact List.mem_cons_self
  refine MetFree.of_bodyS (code := cc) (maxLocals := maxL) (ret := ret) hy ?_ ?_
  · intro args s m h hn
    obtain ⟨m', meth, c, h0, h1, h2, h3, h4, -, h5, h6, -⟩ := Cond.codeWith_spec (atoms_spec (ws := ws) h _ hm)
    cases hn.symm.trans h0
    exact ⟨meth, c, h1, h2, h3, h4, h5, h6⟩
  · intro p e s m args below meth c s₁ B hml hP _
    obtain ⟨m', meth', c', h0, h1, h2, -, -, htab, -, -, -⟩ := Cond.codeWith_spec (atoms_spec (ws := ws) B.pre _ hm)
    cases B.named.symm.trans h0
    cases B.method.symm.trans h1
    cases (Stand.of_body B).code.symm.trans h2
    obtain ⟨t, a1, o, b1, b2, b3⟩ := body p e s m args below meth c s₁ B hml htab hP s₁ (by rw [B.state]; rfl) (Stand.of_body B)
    exact ⟨t, o, a1, b1, b2, ⟨b3.1, b3.2⟩⟩
section BX3
variable {p : Program} {l : Launch} {e : Env} {R : Room} {s : State} {m : MethodId} {args : Array Value} {below : List Frame} {meth : Method} {c : Code} {H : Heap} {locs : List Loc} {cells slots : Nat} {Q : State → Prop}
/-- a static call of a method with handlers that returns -/
theorem bx_runSH {cc bytes : ByteArray} {nL maxL n index mc ms : Nat} {ret : Option FieldType} {As rest : List Value} {ws : List Cond} {rm : Room} {own : String} {y : MethodName} {Pc : Array Value → State → Prop} {Qc : Array Value → State → Outcome → State → Prop} {free : Addr → Prop} {hs : List (Nat × Nat × Nat × Nat)} {g : JFrame} {Ts : List Cond}
    (S : CallFix p m c cc nL s args Ts own) (hM : Met l y ws rm Pc Qc mc ms free) (hrc : rm.cells = mc) (hrs : rm.slots = ms) (hfr : rm.frames + 1 ≤ R.frames) (hlo : 8 + (maxL + 11) + rm.locals ≤ R.locals)
    (hws : ∀ w ∈ ws, ∀ (a' : Array Value) (U : State), s.WarmedH U.vm → w.before a' U = true) (hcw : Cond.codeWith y bytes maxL ret hs ∈ ws) (hini : ∀ (a' : Array Value) (U : State), s.WarmedH U.vm → (Cond.initialized y.cls).before a' U = true) (hst : (Cond.static y).before args s = true) (hlk : (Cond.methodLink own index y).before args s = true)
    (hy : y.cls ≠ "java/lang/invoke/MethodHandle" ∧ y.cls ≠ "java/lang/invoke/VarHandle") (hd : (parseMethodDescriptor y.desc).map (fun d => d.parameters.length) = some n) (hp : PreS s H Pc As)
    (hg : g.method = m) (hn : As.length = n) (hsize : g.locals.size = nL) (hstack : g.stack = As.reverse ++ rest) (hW : 2 * g.monitorRoom + (rest.map fun v => v.category).sum ≤ 8) (hdg : decode cc g.pc = .ok (.invokestatic index, 3)) (hf : cells + mc ≤ R.cells ∧ slots + ms ≤ R.slots) :
    va_Run p l e R s m args below meth c H locs cells slots mc ms g rest (Qc As.toArray) free := by
  obtain ⟨hx, hb, hml, ho, -⟩ := S
  have hK : Back l R p e below s args y 3 8 (PreOf R mc ms Pc) (PostOf Qc mc ms free) := by
    refine Back.of_freeWith (handlers := hs) (S := headSpec ws rm) (P := Pc) (K := fun _ _ _ _ _ => True) (Q := fun a st o t => Qc a st o t ∧ ∃ L, FrameEnd st o t L mc ms ∧ ∀ q ∈ L, free q.base) (bytes := bytes) (maxL := maxL) (ret := ret)
      (E := fun a st o t L k n => k = mc ∧ n = ms ∧ ∀ q ∈ L, free q.base) hM hfr hlo ?_ ?_ (fun _ _ _ _ _ _ _ _ _ => trivial) ?_ ?_
    · intro m meth c A a X hp
      exact ⟨atoms_intro fun w hw => hws w hw _ _ X.warmed, hws _ hcw _ _ X.warmed, hini _ _ X.warmed, by rw [show (headSpec ws rm).room.cells = mc from hrc]; exact hp.1, by rw [show (headSpec ws rm).room.slots = ms from hrs]; exact hp.2.1⟩
    · intro m meth c A a g mk X hp'
      exact hp.1 _ _ _ _ hp'.2.2
    · intro a st o t ⟨hq, L, hF, hL⟩
      exact ⟨L, mc, ms, hF, rfl, rfl, hL⟩
    · intro m meth c A a g mk v t L k n X hp hq hF ⟨e1, e2, hL⟩
      subst e1; subst e2
      exact ⟨g, mk, t, L, rfl, rfl, hq.1, rfl, hL, rfl, rfl⟩
  intro T hT X
  obtain ⟨mk, methM, cM, hnamed, hmethM, -, -, -, -, -, -, hsig⟩ := Cond.codeWith_spec (hws _ hcw args s (State.WarmedH.refl s))
  have hstatic : methM.isStatic = true := Cond.static_spec hnamed hmethM hst
  obtain ⟨kP, hkP, -⟩ := className_of_methodNamed hnamed
  have hinitP : kP.init = .initialized := Cond.initialized_spec (findClass_of_methodNamed hnamed) hkP (hini args s (State.WarmedH.refl s))
  have hlen : As.length = methM.sig.parameters.length := by
    rw [hsig] at hd
    exact hn.trans (Option.some.inj hd).symm
  obtain ⟨vm₁, X₁, hstep⟩ := X.invokestatic hx ho hlk hnamed hmethM hstatic hkP hinitP hy (g := g) hg (argsL := As) (rest := rest) hlen hstack (by rw [hb]; exact hdg)
  obtain ⟨v, ⟨U', l2, c2, s2⟩, X', ⟨g', mk', t, L, e1, e2, hq, h1, hL, h2, h3⟩, hsteps⟩ := hK m meth c ⟨T.setVm vm₁, locs, cells, slots⟩ { g with stack := rest } (.invokestatic index) mk As.toArray X₁ hg (hsize.trans hml.symm) (by rw [hb]; exact hdg) hW (X₁.named hnamed) ⟨hf.1, hf.2, hp.2 (T.setVm vm₁) hT X₁.warmed⟩
  dsimp only [Pt.U, Pt.locs, Pt.cells, Pt.slots] at X' e1 e2 h1 h2 h3 hsteps
  subst h1; subst h2; subst h3
  exact ⟨v, (T.setVm vm₁).calling g' mk' As.toArray, t, U', L, hT, X', hL, e1, e2, hq, fun target h => hstep _ fun acts => by rw [doInvoke_state]; exact hsteps.trans h⟩
end BX3
section BX4
variable {p : Program} {l : Launch} {e : Env} {R : Room} {s : State} {m : MethodId} {args : Array Value} {below : List Frame} {meth : Method} {c : Code} {H : Heap} {locs : List Loc} {cells slots : Nat} {Q : State → Prop}
/-- a new array whose class is among the world's own -/
theorem bm_newa {cc : ByteArray} {pc : Nat} {ls : Array Slot} {rest : List Value} {D : va_G} {cl : List vw_C} {tys : List (ClassId × FieldType)} {ws : va_W} {A : Nat → Prop} {H0 : Heap} (hexec : p.tables.exec = Jvm.exec) (hb : c.code = cc) {atype : ArrayType} {ty : FieldType} (hty : newarray.typeOf atype = ty) (harr : (Cond.arrayClass ty).before args s = true) (hK : va_K D cl tys s) (hP : va_P D cl ws H) (hD : va_D A ws) (hS : va_S A H0 H locs) (hA : ∀ q, H0.size ≤ q → A q)
    (t0 : Nat) {cA : ClassId} (ht : tys[t0]? = some (cA, ty)) {n : Int32} {N' : Nat} {a0 : vp_A} (ha : vp_cell cA a0 = arrV cA N' (fun _ => defaultValue ty)) (hn : ¬ n < 0) (hN : n.toNatClampNeg = N') (hbytes : N' * componentBytes ty ≤ 536870912) (hcells : cells + 1 ≤ R.cells) (hslots : slots + N' ≤ R.slots) (hdg : decode cc pc = .ok (.newarray atype, 2))
    (kk : ∀ (q : Nat) (H1 : Heap), va_P D cl (ws ++ [(q, .inl (cA, a0))]) H1 → va_D A (ws ++ [(q, .inl (cA, a0))]) → va_S A H0 H1 locs → W p l e R s m args below meth c H1 locs (cells + 1) (slots + N') Q (F0 m (pc + 2) ls (.ref q :: rest))) : W p l e R s m args below meth c H locs cells slots Q (F0 m pc ls (.int n :: rest)) := by
  subst hty
  refine va_newaK hexec hb harr rfl hdg rfl hn hN hbytes hcells hslots rfl fun H1 cB e1 z1 o1 hAr hNm => ?_
  have hcc : cB = cA := by
    have h9 : s.vm.findClass ("[" ++ (newarray.typeOf atype).toString) = some cA := by
      have h8 := (hK.2 t0 _ ht).2
      cases atype <;> exact h8
    exact Option.some.inj (hNm.symm.trans h9)
  subst hcc
  have hk : ∀ (k : Nat) (x : Nat × va_E), ws[k]? = some x → H1[x.1]? = H[x.1]? := fun k x hx => o1 x.1 ((hP k x hx).lt)
  refine kk H.size H1 ((hP.kept hk).app (fun k x hx => ?_)) (hD.push hP rfl (hA _ hS.1)) ⟨Nat.le_trans hS.1 (by omega), fun x h1 h2 => (o1 x (Nat.lt_of_lt_of_le h1 hS.1)).trans (hS.2.1 x h1 h2), hS.2.2⟩
  have hz : k < 1 := (List.getElem?_eq_some_iff.mp hx).1
  rw [show k = 0 by omega] at hx
  cases hx
  show H1[H.size]? = some (vp_cell _ _)
  rw [ha]
  exact e1
end BX4
/-- what is read behind a catch: the world is as it was -/
theorem bx_keepP {D : va_G} {cl : List vw_C} {ws : va_W} {H H1 : Heap} (hP : va_P D cl ws H) (hh : ∀ k : Nat, k < H.size → H1[k]? = H[k]?) : va_P D cl ws H1 := hP.kept (fun k q hk => hh _ (hP k q hk).lt)
theorem bx_keepS {A : Nat → Prop} {H0 H H1 : Heap} {locs : List Loc} (hS : va_S A H0 H locs) (hz : H.size ≤ H1.size) (hh : ∀ k : Nat, k < H.size → H1[k]? = H[k]?) : va_S A H0 H1 locs := ⟨Nat.le_trans hS.1 hz, fun q h1 h2 => (hh q (Nat.lt_of_lt_of_le h1 hS.1)).trans (hS.2.1 q h1 h2), hS.2.2⟩
theorem bx_arr {a : Array Value} {s : State} {ty : FieldType} (h : (Cond.arrayClass ty).before a s = true) (hty : ∀ C, ty ≠ .object C) : ∃ cA : ClassId, ArrOfT s cA ty ∧ va_RA s cA ty := by
  obtain ⟨cA, k, comp, h1, h2, h3⟩ := Cond.arrayClass_spec h
  refine ⟨cA, fun n z => ⟨fun k h => (by cases h), k, h2, comp, h3⟩, ?_⟩
  cases ty with
  | object C => exact absurd rfl (hty C)
  | _ => exact h1
theorem bm_nmul {p : Program} {l : Launch} {e : Env} {R : Room} {s : State} {m : MethodId} {args : Array Value} {below : List Frame} {meth : Method} {c : Code} {H : Heap} {locs : List Loc} {cells slots : Nat} {Q : State → Prop} {cc : ByteArray} {pc : Nat} {ls : Array Slot} {rest : List Value} (hexec : p.tables.exec = Jvm.exec) (hb : c.code = cc) {x y : Nat} (hdg : decode cc pc = .ok (.imul, 1))
    (k : W p l e R s m args below meth c H locs cells slots Q (F0 m (pc + 1) ls (.int (nI (x * y)) :: rest))) : W p l e R s m args below meth c H locs cells slots Q (F0 m pc ls (.int (nI y) :: .int (nI x) :: rest)) := by
  refine lv_imul hexec hb hdg ?_
  rw [pk_mul]
  exact k
theorem bx_nlt0 {n : Nat} (h : n < 2) : ¬ nI n < 0 := by
  rcases (show n = 0 ∨ n = 1 by omega) with rfl | rfl <;> decide
theorem bx_le1 {n : Nat} (h : n < 2) : nI n ≤ nI 1 := by
  rcases (show n = 0 ∨ n = 1 by omega) with rfl | rfl <;> decide
end
section
def bT : List Cond := lw_tbl.filter goodWord
theorem inT {P : Cond → Prop} {a : Cond} (h : ∀ w, P w → w ∈ bT) : ∀ w, P w → w ∈ a :: bT := fun w q => List.mem_cons_of_mem _ (h w q)
theorem inTL {P : Cond → Prop} (h : ∀ w, P w → w ∈ bT) : ∀ w, P w → w ∈ lw_tbl := fun w q => (List.mem_filter.mp (h w q)).1
theorem bT_good {w : Cond} (h : w ∈ bT) : goodWord w = true := (List.mem_filter.mp h).2
theorem gdV {a b : Cond} {own C : String} {idx : Nat} {y : MethodName} (h0 : b ∈ bT) (h1 : Cond.methodLink own idx y ∈ bT) (h2 : Cond.instanceMethod y ∈ bT) (h3 : Cond.selects C y y ∈ bT) (h4 : Cond.initialized C ∈ bT) : GoodIn (a :: bT) (wsV own idx C y (b :: bT)) := by
  intro w hw
  have hm : w ∈ bT := by
    simp only [wsV, List.cons_append, List.nil_append, List.mem_cons] at hw
    rcases hw with rfl | rfl | rfl | rfl | rfl | h <;> assumption
  exact ⟨List.mem_cons_of_mem _ hm, good_of_word (bT_good hm)⟩
theorem gdS {a b : Cond} {own : String} {idx : Nat} {y : MethodName} (h0 : b ∈ bT) (h1 : Cond.methodLink own idx y ∈ bT) (h2 : Cond.static y ∈ bT) (h4 : Cond.initialized own ∈ bT) : GoodIn (a :: bT) (wsS own idx y (b :: bT)) := by
  intro w hw
  have hm : w ∈ bT := by
    simp only [wsS, List.cons_append, List.nil_append, List.mem_cons] at hw
    rcases hw with rfl | rfl | rfl | rfl | h <;> assumption
  exact ⟨List.mem_cons_of_mem _ hm, good_of_word (bT_good hm)⟩
def RL : String := "BoardMovesLaw"
def RX0 : String := "BoardMoves$Limits"
def TX0 : u_T := fun k => match k with
  | 0 => ("BoardMoves$Limits", "parts", "LBoardMoves$Parts;", true)
  | 1 => ("BoardMoves$Limits", "x0", "[J", true)
  | 2 => ("BoardMoves$Limits", "y0", "[J", true)
  | 3 => ("BoardMoves$Limits", "x1", "[J", true)
  | 4 => ("BoardMoves$Limits", "y1", "[J", true)
  | 5 => ("BoardMoves$Limits", "tallest", "[J", true)
  | 6 => ("BoardMoves$Limits", "one", "[I", true)
  | 7 => ("BoardMoves$Limits", "other", "[I", true)
  | 8 => ("BoardMoves$Limits", "most", "[J", true)
  | 9 => ("BoardMoves$Limits", "keepOuts", "I", false)
  | _ => ("BoardMoves$Limits", "nears", "I", false)
def tyX0 : Nat → FieldType := fun k => match k with
  | 0 => .object "BoardMoves$Parts"
  | 1 => .array .long
  | 2 => .array .long
  | 3 => .array .long
  | 4 => .array .long
  | 5 => .array .long
  | 6 => .array .int
  | 7 => .array .int
  | 8 => .array .long
  | 9 => .int
  | _ => .int
theorem nmX0 : ∀ a, a < 11 → ∀ b, b < 11 → a ≠ b → (TX0 a).2.1 ≠ (TX0 b).2.1 := by decide +kernel
theorem tyX0_ok : ∀ k, k < 11 → parseFieldDescriptor (TX0 k).2.2.1 = some (tyX0 k) := by decide +kernel
theorem inX0 : ∀ w, w ∈ u_ws RX0 TX0 11 → w ∈ bT := by decide +kernel
def RX1 : String := "BoardMoves$Parts"
def TX1 : u_T := fun k => match k with
  | 0 => ("BoardMoves$Parts", "w", "[J", true)
  | 1 => ("BoardMoves$Parts", "h", "[J", true)
  | 2 => ("BoardMoves$Parts", "side", "[I", true)
  | 3 => ("BoardMoves$Parts", "tall", "[J", true)
  | 4 => ("BoardMoves$Parts", "locked", "[Z", true)
  | 5 => ("BoardMoves$Parts", "lowest", "[I", true)
  | _ => ("BoardMoves$Parts", "count", "I", false)
def tyX1 : Nat → FieldType := fun k => match k with
  | 0 => .array .long
  | 1 => .array .long
  | 2 => .array .int
  | 3 => .array .long
  | 4 => .array .boolean
  | 5 => .array .int
  | _ => .int
theorem nmX1 : ∀ a, a < 7 → ∀ b, b < 7 → a ≠ b → (TX1 a).2.1 ≠ (TX1 b).2.1 := by decide +kernel
theorem tyX1_ok : ∀ k, k < 7 → parseFieldDescriptor (TX1 k).2.2.1 = some (tyX1 k) := by decide +kernel
theorem inX1 : ∀ w, w ∈ u_ws RX1 TX1 7 → w ∈ bT := by decide +kernel
def RX2 : String := "BoardMoves$Placement"
def TX2 : u_T := fun k => match k with
  | 0 => ("BoardMoves$Placement", "parts", "LBoardMoves$Parts;", true)
  | 1 => ("BoardMoves$Placement", "x", "[J", true)
  | 2 => ("BoardMoves$Placement", "y", "[J", true)
  | 3 => ("BoardMoves$Placement", "turn", "[I", true)
  | _ => ("BoardMoves$Placement", "placed", "[Z", true)
def tyX2 : Nat → FieldType := fun k => match k with
  | 0 => .object "BoardMoves$Parts"
  | 1 => .array .long
  | 2 => .array .long
  | 3 => .array .int
  | _ => .array .boolean
theorem nmX2 : ∀ a, a < 5 → ∀ b, b < 5 → a ≠ b → (TX2 a).2.1 ≠ (TX2 b).2.1 := by decide +kernel
theorem tyX2_ok : ∀ k, k < 5 → parseFieldDescriptor (TX2 k).2.2.1 = some (tyX2 k) := by decide +kernel
theorem inX2 : ∀ w, w ∈ u_ws RX2 TX2 5 → w ∈ bT := by decide +kernel
def RX3 : String := "BoardMoves$Wiring"
def TX3 : u_T := fun k => match k with
  | 0 => ("BoardMoves$Wiring", "parts", "LBoardMoves$Parts;", true)
  | 1 => ("BoardMoves$Wiring", "netOf", "[I", true)
  | 2 => ("BoardMoves$Wiring", "partOf", "[I", true)
  | 3 => ("BoardMoves$Wiring", "dx", "[J", true)
  | 4 => ("BoardMoves$Wiring", "dy", "[J", true)
  | 5 => ("BoardMoves$Wiring", "reached", "[Z", true)
  | 6 => ("BoardMoves$Wiring", "lowX", "[J", true)
  | 7 => ("BoardMoves$Wiring", "highX", "[J", true)
  | 8 => ("BoardMoves$Wiring", "lowY", "[J", true)
  | 9 => ("BoardMoves$Wiring", "highY", "[J", true)
  | 10 => ("BoardMoves$Wiring", "nets", "I", false)
  | _ => ("BoardMoves$Wiring", "pins", "I", false)
def tyX3 : Nat → FieldType := fun k => match k with
  | 0 => .object "BoardMoves$Parts"
  | 1 => .array .int
  | 2 => .array .int
  | 3 => .array .long
  | 4 => .array .long
  | 5 => .array .boolean
  | 6 => .array .long
  | 7 => .array .long
  | 8 => .array .long
  | 9 => .array .long
  | 10 => .int
  | _ => .int
theorem nmX3 : ∀ a, a < 12 → ∀ b, b < 12 → a ≠ b → (TX3 a).2.1 ≠ (TX3 b).2.1 := by decide +kernel
theorem tyX3_ok : ∀ k, k < 12 → parseFieldDescriptor (TX3 k).2.2.1 = some (tyX3 k) := by decide +kernel
theorem inX3 : ∀ w, w ∈ u_ws RX3 TX3 12 → w ∈ bT := by decide +kernel
def RX4 : String := "BoardMoves"
def TX4 : u_T := fun k => match k with
  | 0 => ("BoardMoves", "boardWide", "J", true)
  | 1 => ("BoardMoves", "boardHigh", "J", true)
  | 2 => ("BoardMoves", "parts", "LBoardMoves$Parts;", true)
  | 3 => ("BoardMoves", "limits", "LBoardMoves$Limits;", true)
  | 4 => ("BoardMoves", "wiring", "LBoardMoves$Wiring;", true)
  | 5 => ("BoardMoves", "now", "LBoardMoves$Placement;", true)
  | 6 => ("BoardMoves", "before", "LBoardMoves$Placement;", true)
  | 7 => ("BoardMoves", "best", "LBoardMoves$Placement;", true)
  | 8 => ("BoardMoves", "drawn", "J", false)
  | _ => ("BoardMoves", "keptWire", "J", false)
def tyX4 : Nat → FieldType := fun k => match k with
  | 0 => .long
  | 1 => .long
  | 2 => .object "BoardMoves$Parts"
  | 3 => .object "BoardMoves$Limits"
  | 4 => .object "BoardMoves$Wiring"
  | 5 => .object "BoardMoves$Placement"
  | 6 => .object "BoardMoves$Placement"
  | 7 => .object "BoardMoves$Placement"
  | 8 => .long
  | _ => .long
theorem nmX4 : ∀ a, a < 10 → ∀ b, b < 10 → a ≠ b → (TX4 a).2.1 ≠ (TX4 b).2.1 := by decide +kernel
theorem tyX4_ok : ∀ k, k < 10 → parseFieldDescriptor (TX4 k).2.2.1 = some (tyX4 k) := by decide +kernel
theorem inX4 : ∀ w, w ∈ u_ws RX4 TX4 10 → w ∈ bT := by decide +kernel
def RX5 : String := "BoardMovesModel"
def TX5 : u_T := fun k => match k with
  | 0 => ("BoardMovesModel", "thrown", "I", false)
  | 1 => ("BoardMovesModel", "width", "J", true)
  | 2 => ("BoardMovesModel", "height", "J", true)
  | 3 => ("BoardMovesModel", "parts", "I", false)
  | 4 => ("BoardMovesModel", "wide", "[J", true)
  | 5 => ("BoardMovesModel", "high", "[J", true)
  | 6 => ("BoardMovesModel", "sides", "[I", true)
  | 7 => ("BoardMovesModel", "heights", "[J", true)
  | 8 => ("BoardMovesModel", "locked", "[Z", true)
  | 9 => ("BoardMovesModel", "groups", "[I", true)
  | 10 => ("BoardMovesModel", "placed", "[Z", true)
  | 11 => ("BoardMovesModel", "x", "[J", true)
  | 12 => ("BoardMovesModel", "y", "[J", true)
  | 13 => ("BoardMovesModel", "turns", "[I", true)
  | 14 => ("BoardMovesModel", "outs", "I", false)
  | 15 => ("BoardMovesModel", "out", "[J", true)
  | 16 => ("BoardMovesModel", "nears", "I", false)
  | 17 => ("BoardMovesModel", "nearOne", "[I", true)
  | 18 => ("BoardMovesModel", "nearTwo", "[I", true)
  | 19 => ("BoardMovesModel", "nearMost", "[J", true)
  | 20 => ("BoardMovesModel", "nets", "I", false)
  | 21 => ("BoardMovesModel", "pins", "I", false)
  | 22 => ("BoardMovesModel", "pinNet", "[I", true)
  | 23 => ("BoardMovesModel", "pinPart", "[I", true)
  | 24 => ("BoardMovesModel", "pinX", "[J", true)
  | 25 => ("BoardMovesModel", "pinY", "[J", true)
  | 26 => ("BoardMovesModel", "moved", "[Z", true)
  | _ => ("BoardMovesModel", "s", "J", false)
def tyX5 : Nat → FieldType := fun k => match k with
  | 0 => .int
  | 1 => .long
  | 2 => .long
  | 3 => .int
  | 4 => .array .long
  | 5 => .array .long
  | 6 => .array .int
  | 7 => .array .long
  | 8 => .array .boolean
  | 9 => .array .int
  | 10 => .array .boolean
  | 11 => .array .long
  | 12 => .array .long
  | 13 => .array .int
  | 14 => .int
  | 15 => .array .long
  | 16 => .int
  | 17 => .array .int
  | 18 => .array .int
  | 19 => .array .long
  | 20 => .int
  | 21 => .int
  | 22 => .array .int
  | 23 => .array .int
  | 24 => .array .long
  | 25 => .array .long
  | 26 => .array .boolean
  | _ => .long
theorem nmX5 : ∀ a, a < 28 → ∀ b, b < 28 → a ≠ b → (TX5 a).2.1 ≠ (TX5 b).2.1 := by decide +kernel
theorem tyX5_ok : ∀ k, k < 28 → parseFieldDescriptor (TX5 k).2.2.1 = some (tyX5 k) := by decide +kernel
theorem inX5 : ∀ w, w ∈ u_ws RX5 TX5 28 → w ∈ bT := by decide +kernel
abbrev vwCl : List vw_C := [(RX0, TX0, 11), (RX1, TX1, 7), (RX2, TX2, 5), (RX3, TX3, 12), (RX4, TX4, 10), (RX5, TX5, 28)]
end
section
/-! ===== lN n to 2^64: shifts, and, or, masks, one bit ===== -/
theorem wb_tb (n : Nat) : (lN n).toBitVec = BitVec.ofNat 64 n := rfl
theorem wb_inj {a b : Int64} (h : a.toBitVec = b.toBitVec) : a = b := Int64.toBitVec_inj.mp h
theorem wb_tn {n : Nat} (h : n < 2 ^ 64) : (lN n).toBitVec.toNat = n := by rw [wb_tb, BitVec.toNat_ofNat, Nat.mod_eq_of_lt h]
theorem wb_of (x : Int64) : ∃ n, n < 2 ^ 64 ∧ x = lN n := ⟨x.toBitVec.toNat, x.toBitVec.isLt, wb_inj (by rw [wb_tb]; simp)⟩
theorem wb_of32 (x : Int32) : ∃ n, n < 2 ^ 32 ∧ x = nI n := ⟨x.toBitVec.toNat, x.toBitVec.isLt, Int32.toBitVec_inj.mp (by show _ = BitVec.ofNat 32 _; simp)⟩
theorem wb_c : ∀ k, k < 64 → ((nI k).toInt64 &&& 63) = lN k := by decide +kernel
theorem wb_cu : ∀ k, k < 64 → ((nI k).toInt64.toUInt64 &&& Int64.toUInt64 63) = UInt64.ofNat k := by decide +kernel
theorem wb_sm : ∀ k, k < 64 → (BitVec.ofNat 64 k).smod 64 = BitVec.ofNat 64 k := by decide +kernel
theorem wb_pw {a b : Nat} (h : a ≤ b) : 2 ^ b = 2 ^ a * 2 ^ (b - a) := by rw [← Nat.pow_add]; congr 1; omega
theorem wb_lt2 {a b : Nat} (h : a < b) : 2 ^ a < 2 ^ b := Nat.pow_lt_pow_right (by decide) h
theorem wb_mod (n : Nat) : lN n = lN (n % 2 ^ 64) := wb_inj (by rw [wb_tb, wb_tb]; apply BitVec.eq_of_toNat_eq; rw [BitVec.toNat_ofNat, BitVec.toNat_ofNat, Nat.mod_mod])
theorem wb_shr {n k : Nat} (hn : n < 2 ^ 64) (hk : k < 64) : ((lN n).toUInt64 >>> ((nI k).toInt64.toUInt64 &&& Int64.toUInt64 63)).toInt64 = lN (n / 2 ^ k) := by
  rw [wb_cu k hk]
  apply wb_inj
  apply BitVec.eq_of_toNat_eq
  show ((lN n).toUInt64 >>> UInt64.ofNat k).toNat = (BitVec.ofNat 64 _).toNat
  have h1 : (UInt64.ofNat k).toNat = k := by
    show (BitVec.ofNat 64 k).toNat = k
    rw [BitVec.toNat_ofNat, Nat.mod_eq_of_lt (by omega)]
  have h2 : (lN n).toUInt64.toNat = n := wb_tn hn
  rw [UInt64.toNat_shiftRight, h1, h2, Nat.mod_eq_of_lt hk, Nat.shiftRight_eq_div_pow, BitVec.toNat_ofNat, Nat.mod_eq_of_lt (Nat.lt_of_le_of_lt (Nat.div_le_self _ _) hn)]
end
section
-- WEAK CONTRACTS: what comes behind a method is said by a relation
def bm_Wxq (D : va_G) (cl : List vw_C) (tys : List (ClassId × FieldType)) (PW : va_W → Option Value → Prop) (A : Nat → Prop) : Array Value → State → Outcome → State → Prop := fun _ st oc t => (∃ (ws9 : va_W) (r9 : Option Value), PW ws9 r9 ∧ oc = .returned r9 ∧ va_P D cl ws9 t.heap ∧ va_K D cl tys t ∧ va_D A ws9) ∧ va_F A st t
def bm_Wx (l : Launch) (y : MethodName) (wd : List Cond) (rm : Room) (D : va_G) (cl : List vw_C) (tys : List (ClassId × FieldType)) (ws : va_W) (av : List Value) (PW : va_W → Option Value → Prop) : Prop := ∀ sz : Nat, Met l y wd rm (bm_Wp D cl tys ws av sz) (bm_Wxq D cl tys PW (va_A ws sz)) 0 0 (va_A ws sz)
section BMX
variable {p : Program} {l : Launch} {e : Env} {R : Room} {s : State} {m : MethodId} {args : Array Value} {below : List Frame} {meth : Method} {c : Code} {H : Heap} {locs : List Loc} {cells slots : Nat} {Q : State → Prop}
variable {cc bytes : ByteArray} {pc nL maxL n index : Nat} {ret : Option FieldType} {ls : Array Slot} {st0 As rest : List Value} {D : va_G} {cl : List vw_C} {A : Nat → Prop} {b : Nat} {tys : List (ClassId × FieldType)} {ws : va_W} {H0 : Heap} {Ts wd : List Cond} {rm : Room} {own C : String} {T : u_T} {N : Nat} {y : MethodName} {fs : List Value} {PW : va_W → Option Value → Prop}
theorem bm_xgo (hr : va_Run p l e R s m args below meth c H locs cells slots 0 0 (F0 m pc ls st0) rest (bm_Wxq D cl tys PW (va_A ws H.size) As.toArray) (va_A ws H.size)) (hD : va_D A ws) (hS : va_S A H0 H locs) (hA : ∀ q : Nat, H0.size ≤ q → A q)
    (kk : ∀ (ws9 : va_W) (r9 : Option Value), PW ws9 r9 → ∀ (H1 : Heap) (locs1 : List Loc), va_P D cl ws9 H1 → va_D A ws9 → va_S A H0 H1 locs1 → W p l e R s m args below meth c H1 locs1 cells slots Q (F0 m (pc + 3) ls (r9.toList ++ rest))) : W p l e R s m args below meth c H locs cells slots Q (F0 m pc ls st0) := by
  have hF : ∀ q, va_A ws H.size q → A q := by
    intro q h
    rcases h with ⟨k, e9, h⟩ | h
    · exact hD.2 k (q, e9) h
    · exact hA q (Nat.le_trans hS.1 h)
  intro T hT X
  obtain ⟨v, st₀, t, T', L, h0, X', hL, e1, e2, ⟨⟨ws9, r9, hpw, hv, hP', hK', hD'⟩, hz, hk⟩, st⟩ := hr T hT X
  cases hv
  rw [h0] at hz hk
  obtain ⟨t2, a1, b1⟩ := kk ws9 _ hpw T'.heap (locs ++ L) (by rw [e1]; exact hP') (hD'.weaken (fun _ _ _ h => hF _ h))
    ⟨Nat.le_trans hS.1 (by rw [e1]; exact hz), fun q h1 h2 => by rw [e1, hk q (Nat.lt_of_lt_of_le h1 hS.1) (fun z => h2 (hF q z))]; exact hS.2.1 q h1 h2, fun q hq => by
      rcases List.mem_append.mp hq with h | h
      · exact hS.2.2 q h
      · exact hF _ (hL q h)⟩ T' rfl X'
  exact ⟨t2, st t2 a1, b1⟩
theorem bm_xcallV (S : CallFix p m c cc nL s args Ts own) (hM : bm_Wx l y wd rm D cl tys ws (.ref b :: As) PW) (cw : CallW R s args own C index y bytes maxL ret wd rm 0 0 n) (hK : va_K D cl tys s) (hP : va_P D cl ws H) (hD : va_D A ws) (hS : va_S A H0 H locs) (hA : ∀ q : Nat, H0.size ≤ q → A q) (q0 ci : Nat) (hc : cl[ci]? = some (C, T, N)) (he : ws[q0]? = some (b, .inr (ci, fs)))
    (hn : As.length = n) (hsize : ls.size = nL) (hstack : st0 = As.reverse ++ .ref b :: rest) (hW : (rest.map fun v => v.category).sum ≤ 8) (hdg : decode cc pc = .ok (.invokevirtual index, 3)) (hcs : cells ≤ R.cells ∧ slots ≤ R.slots)
    (kk : ∀ (ws9 : va_W) (r9 : Option Value), PW ws9 r9 → ∀ (H1 : Heap) (locs1 : List Loc), va_P D cl ws9 H1 → va_D A ws9 → va_S A H0 H1 locs1 → W p l e R s m args below meth c H1 locs1 cells slots Q (F0 m (pc + 3) ls (r9.toList ++ rest))) : W p l e R s m args below meth c H locs cells slots Q (F0 m pc ls st0) :=
  bm_xgo (As := .ref b :: As) (va_runV (g := F0 m pc ls st0) (e := e) (below := below) (meth := meth) (locs := locs) (cells := cells) (slots := slots) S (hM H.size) cw ⟨bm_Wp.blind, va_recv hK hP hc he, fun U hU hW => ⟨rfl, by rw [hU], by rw [hU]; exact hP, va_K.moved hW.alike hK, hD.weaken (fun _ _ _ _ => trivial)⟩⟩ rfl hn hsize hstack (lv_room hW) hdg hcs) hD hS hA kk
theorem bm_xcallS (S : CallFix p m c cc nL s args Ts own) (hM : bm_Wx l y wd rm D cl tys ws As PW) (cw : CallB R s args own index y bytes maxL ret wd rm 0 0 n ∧ (Cond.static y).before args s = true) (hK : va_K D cl tys s) (hP : va_P D cl ws H) (hD : va_D A ws) (hS : va_S A H0 H locs) (hA : ∀ q : Nat, H0.size ≤ q → A q)
    (hn : As.length = n) (hsize : ls.size = nL) (hstack : st0 = As.reverse ++ rest) (hW : (rest.map fun v => v.category).sum ≤ 8) (hdg : decode cc pc = .ok (.invokestatic index, 3)) (hcs : cells ≤ R.cells ∧ slots ≤ R.slots)
    (kk : ∀ (ws9 : va_W) (r9 : Option Value), PW ws9 r9 → ∀ (H1 : Heap) (locs1 : List Loc), va_P D cl ws9 H1 → va_D A ws9 → va_S A H0 H1 locs1 → W p l e R s m args below meth c H1 locs1 cells slots Q (F0 m (pc + 3) ls (r9.toList ++ rest))) : W p l e R s m args below meth c H locs cells slots Q (F0 m pc ls st0) :=
  bm_xgo (As := As) (va_runS (g := F0 m pc ls st0) (e := e) (below := below) (meth := meth) (locs := locs) (cells := cells) (slots := slots) S (hM H.size) cw ⟨bm_Wp.blind, fun U hU hW => ⟨rfl, by rw [hU], by rw [hU]; exact hP, va_K.moved hW.alike hK, hD.weaken (fun _ _ _ _ => trivial)⟩⟩ rfl hn hsize hstack (lv_room hW) hdg hcs) hD hS hA kk
theorem bm_vretX (hexec : p.tables.exec = Jvm.exec) (hb : c.code = cc) (hr : meth.sig.returnType = none) (hP : va_P D cl ws H) (hD : va_D A ws) (hK : va_K D cl tys s) (hS : va_S A s.heap H locs) (hp : PW ws none) (hdg : decode cc pc = .ok (.return_, 1)) (hlocks : meth.locks = false) : W p l e R s m args below meth c H locs cells slots (MQ below (bm_Wxq D cl tys PW A) args s cells slots A) (F0 m pc ls []) :=
  W.vret hexec hb hr (fun t ht hW => ⟨⟨ws, none, hp, rfl, by rw [ht]; exact hP, va_K.moved hW.alike hK, hD⟩, hS.F ht⟩) hS.2.2 hdg hlocks
theorem bm_iretX {v : Int32} (hexec : p.tables.exec = Jvm.exec) (hb : c.code = cc) (hr : meth.sig.returnType = some .int) (hP : va_P D cl ws H) (hD : va_D A ws) (hK : va_K D cl tys s) (hS : va_S A s.heap H locs) (hp : PW ws (some (.int v))) (hdg : decode cc pc = .ok (.ireturn, 1)) (hlocks : meth.locks = false) : W p l e R s m args below meth c H locs cells slots (MQ below (bm_Wxq D cl tys PW A) args s cells slots A) (F0 m pc ls [.int v]) :=
  W.iret hexec hb hr (fun t ht hW => ⟨⟨ws, _, hp, rfl, by rw [ht]; exact hP, va_K.moved hW.alike hK, hD⟩, hS.F ht⟩) hS.2.2 hdg hlocks
theorem bm_zretX {v : Bool} (hexec : p.tables.exec = Jvm.exec) (hb : c.code = cc) (hr : meth.sig.returnType = some .boolean) (hP : va_P D cl ws H) (hD : va_D A ws) (hK : va_K D cl tys s) (hS : va_S A s.heap H locs) (hp : PW ws (some (.int (bm_b v)))) (hdg : decode cc pc = .ok (.ireturn, 1)) (hlocks : meth.locks = false) : W p l e R s m args below meth c H locs cells slots (MQ below (bm_Wxq D cl tys PW A) args s cells slots A) (F0 m pc ls [.int (bm_b v)]) :=
  W.zret hexec hb hr (bm_b_narrow v) (fun t ht hW => ⟨⟨ws, _, hp, rfl, by rw [ht]; exact hP, va_K.moved hW.alike hK, hD⟩, hS.F ht⟩) hS.2.2 hdg hlocks
theorem bm_lretX {v : Int64} (hexec : p.tables.exec = Jvm.exec) (hb : c.code = cc) (hr : meth.sig.returnType = some .long) (hP : va_P D cl ws H) (hD : va_D A ws) (hK : va_K D cl tys s) (hS : va_S A s.heap H locs) (hp : PW ws (some (.long v))) (hdg : decode cc pc = .ok (.lreturn, 1)) (hlocks : meth.locks = false) : W p l e R s m args below meth c H locs cells slots (MQ below (bm_Wxq D cl tys PW A) args s cells slots A) (F0 m pc ls [.long v]) :=
  W.lret hexec hb hr (fun t ht hW => ⟨⟨ws, _, hp, rfl, by rw [ht]; exact hP, va_K.moved hW.alike hK, hD⟩, hS.F ht⟩) hS.2.2 hdg hlocks
end BMX
theorem bx_uplt {f : Nat → Nat} {k v B : Nat} (h : ∀ i, f i < B) (hv : v < B) : ∀ i, va_up f k v i < B := by
  intro i
  unfold va_up
  split
  · exact hv
  · exact h i
section BMY
variable {p : Program} {l : Launch} {e : Env} {R : Room} {s : State} {m : MethodId} {args : Array Value} {below : List Frame} {meth : Method} {c : Code} {H : Heap} {locs : List Loc} {cells slots : Nat} {Q : State → Prop}
variable {cc : ByteArray} {pc : Nat} {ls : Array Slot} {rest : List Value}
theorem bm_lN_ne0 {n : Nat} (h0 : 0 < n) (h : n < 2 ^ 63) : lN n ≠ 0 := fun q => by
  have := (pk_lEQ h (by decide : 0 < 2 ^ 63)).mp q
  omega
theorem bm_ndiv (hexec : p.tables.exec = Jvm.exec) (hb : c.code = cc) {x y : Nat} (hx : x < 2 ^ 31) (h0 : 0 < y) (hy : y < 2 ^ 31) (hdg : decode cc pc = .ok (.idiv, 1))
    (k : W p l e R s m args below meth c H locs cells slots Q (F0 m (pc + 1) ls (.int (nI (x / y)) :: rest))) : W p l e R s m args below meth c H locs cells slots Q (F0 m pc ls (.int (nI y) :: .int (nI x) :: rest)) := by
  refine lv_idiv hexec hb hdg (nI_ne0 h0 hy) ?_
  rw [pk_div hx h0 hy]
  exact k
theorem bm_ladd1 (hexec : p.tables.exec = Jvm.exec) (hb : c.code = cc) {x : Nat} (hdg : decode cc pc = .ok (.ladd, 1))
    (k : W p l e R s m args below meth c H locs cells slots Q (F0 m (pc + 1) ls (.long (lN (x + 1)) :: rest))) : W p l e R s m args below meth c H locs cells slots Q (F0 m pc ls (.long 1 :: .long (lN x) :: rest)) := by
  refine lv_ladd hexec hb hdg ?_
  have e : lN x + 1 = lN (x + 1) := (Int64.ofNat_add x 1).symm
  rw [e]
  exact k
theorem bm_lmulN (hexec : p.tables.exec = Jvm.exec) (hb : c.code = cc) {x y : Nat} (hdg : decode cc pc = .ok (.lmul, 1))
    (k : W p l e R s m args below meth c H locs cells slots Q (F0 m (pc + 1) ls (.long (lN (x * y)) :: rest))) : W p l e R s m args below meth c H locs cells slots Q (F0 m pc ls (.long (lN y) :: .long (lN x) :: rest)) := by
  refine lv_lmul hexec hb hdg ?_
  have e : lN x * lN y = lN (x * y) := (Int64.ofNat_mul x y).symm
  rw [e]
  exact k
theorem bm_lNlt {x y : Nat} (hx : x < 2 ^ 63) (hy : y < 2 ^ 63) : lN x < lN y ↔ x < y := by
  rw [Int64.lt_iff_toInt_lt]
  have e : ∀ n : Nat, n < 2 ^ 63 → (lN n).toInt = (n : Int) := fun n h => Int64.toInt_ofNat_of_lt h
  rw [e x hx, e y hy]
  omega
theorem bm_Nlc_ge (hexec : p.tables.exec = Jvm.exec) (hb : c.code = cc) {x y : Nat} (hx : x < 2 ^ 63) (hy : y < 2 ^ 63) {off : Int} {tgt : Nat} (hd1 : decode cc pc = .ok (.lcmp, 1)) (hdg : decode cc (pc + 1) = .ok (.ifCond .ge off, 3)) (ht : ((pc + 1 : Nat) : Int) + off = (tgt : Int))
    (kt : ¬ x < y → W p l e R s m args below meth c H locs cells slots Q (F0 m tgt ls rest)) (kf : x < y → W p l e R s m args below meth c H locs cells slots Q (F0 m (pc + 1 + 3) ls rest)) : W p l e R s m args below meth c H locs cells slots Q (F0 m pc ls (.long (lN y) :: .long (lN x) :: rest)) :=
  bm_lc_ge hexec hb hd1 hdg ht (fun h => kt (fun q => h ((bm_lNlt hx hy).mpr q))) (fun h => kf ((bm_lNlt hx hy).mp h))
theorem bm_ushr (x : Int64) : ∃ z : Nat, z < 2 ^ 31 ∧ (x.toUInt64 >>> ((nI 33).toInt64.toUInt64 &&& Int64.toUInt64 63)).toInt64 = lN z := by
  obtain ⟨n, hn, rfl⟩ := wb_of x
  exact ⟨n / 2 ^ 33, by omega, wb_shr hn (by decide)⟩
theorem bm_ushr33 (hexec : p.tables.exec = Jvm.exec) (hb : c.code = cc) {x : Int64} (hdg : decode cc pc = .ok (.lushr, 1))
    (k : ∀ z : Nat, z < 2 ^ 31 → W p l e R s m args below meth c H locs cells slots Q (F0 m (pc + 1) ls (.long (lN z) :: rest))) : W p l e R s m args below meth c H locs cells slots Q (F0 m pc ls (.int (nI 33) :: .long x :: rest)) := by
  obtain ⟨z, hz, ez⟩ := bm_ushr x
  exact lv_lushr hexec hb hdg ez (k z hz)
end BMY
theorem bm_nm1 {n : Nat} (h : n < 2 ^ 31) : ¬ nI n = -1 := fun q => by
  have h1 := congrArg Int32.toInt q
  rw [nI_toInt h] at h1
  have h2 : (-1 : Int32).toInt = -1 := by decide
  omega
theorem bm40 {a : Nat} (h : a < 40) : a < 2 ^ 31 := Nat.lt_trans h (by decide)
end
section
abbrev cX4_isLength : ByteArray := prog_1_method_18_code
def yX4_isLength : MethodName := ⟨RX4, "isLength", "(J)Z"⟩
def wsX4_isLength : List Cond := .code yX4_isLength cX4_isLength 2 (some .boolean) :: bT
theorem dX4_isLength_0 : decode cX4_isLength 0 = .ok (.lload_n 0, 1) := by decide +kernel
theorem dX4_isLength_1 : decode cX4_isLength 1 = .ok (.lconst 1, 1) := by decide +kernel
theorem dX4_isLength_2 : decode cX4_isLength 2 = .ok (.lcmp, 1) := by decide +kernel
theorem dX4_isLength_3 : decode cX4_isLength 3 = .ok (.ifCond .lt (15), 3) := by decide +kernel
theorem dX4_isLength_6 : decode cX4_isLength 6 = .ok (.lload_n 0, 1) := by decide +kernel
theorem dX4_isLength_7 : decode cX4_isLength 7 = .ok (.ldc2_w 51, 3) := by decide +kernel
theorem dX4_isLength_10 : decode cX4_isLength 10 = .ok (.lcmp, 1) := by decide +kernel
theorem dX4_isLength_11 : decode cX4_isLength 11 = .ok (.ifCond .gt (7), 3) := by decide +kernel
theorem dX4_isLength_14 : decode cX4_isLength 14 = .ok (.iconst 1, 1) := by decide +kernel
theorem dX4_isLength_15 : decode cX4_isLength 15 = .ok (.goto (4), 3) := by decide +kernel
theorem dX4_isLength_18 : decode cX4_isLength 18 = .ok (.iconst 0, 1) := by decide +kernel
theorem dX4_isLength_19 : decode cX4_isLength 19 = .ok (.ireturn, 1) := by decide +kernel
abbrev cX4_fitsBoard : ByteArray := prog_1_method_20_code
def yX4_fitsBoard : MethodName := ⟨RX4, "fitsBoard", "(IJJI)Z"⟩
def wsX4_fitsBoard : List Cond := .code yX4_fitsBoard cX4_fitsBoard 12 (some .boolean) :: bT
theorem dX4_fitsBoard_0 : decode cX4_fitsBoard 0 = .ok (.iload 6, 2) := by decide +kernel
theorem dX4_fitsBoard_2 : decode cX4_fitsBoard 2 = .ok (.iconst 2, 1) := by decide +kernel
theorem dX4_fitsBoard_3 : decode cX4_fitsBoard 3 = .ok (.irem, 1) := by decide +kernel
theorem dX4_fitsBoard_4 : decode cX4_fitsBoard 4 = .ok (.ifCond .ne (7), 3) := by decide +kernel
theorem dX4_fitsBoard_7 : decode cX4_fitsBoard 7 = .ok (.iconst 1, 1) := by decide +kernel
theorem dX4_fitsBoard_8 : decode cX4_fitsBoard 8 = .ok (.goto (4), 3) := by decide +kernel
theorem dX4_fitsBoard_11 : decode cX4_fitsBoard 11 = .ok (.iconst 0, 1) := by decide +kernel
theorem dX4_fitsBoard_12 : decode cX4_fitsBoard 12 = .ok (.istore 7, 2) := by decide +kernel
theorem dX4_fitsBoard_14 : decode cX4_fitsBoard 14 = .ok (.iload 7, 2) := by decide +kernel
theorem dX4_fitsBoard_16 : decode cX4_fitsBoard 16 = .ok (.ifCond .eq (15), 3) := by decide +kernel
theorem dX4_fitsBoard_19 : decode cX4_fitsBoard 19 = .ok (.aload_n 0, 1) := by decide +kernel
theorem dX4_fitsBoard_20 : decode cX4_fitsBoard 20 = .ok (.getfield 12, 3) := by decide +kernel
theorem dX4_fitsBoard_23 : decode cX4_fitsBoard 23 = .ok (.getfield 148, 3) := by decide +kernel
theorem dX4_fitsBoard_26 : decode cX4_fitsBoard 26 = .ok (.iload_n 1, 1) := by decide +kernel
theorem dX4_fitsBoard_27 : decode cX4_fitsBoard 27 = .ok (.laload, 1) := by decide +kernel
theorem dX4_fitsBoard_28 : decode cX4_fitsBoard 28 = .ok (.goto (12), 3) := by decide +kernel
theorem dX4_fitsBoard_31 : decode cX4_fitsBoard 31 = .ok (.aload_n 0, 1) := by decide +kernel
theorem dX4_fitsBoard_32 : decode cX4_fitsBoard 32 = .ok (.getfield 12, 3) := by decide +kernel
theorem dX4_fitsBoard_35 : decode cX4_fitsBoard 35 = .ok (.getfield 151, 3) := by decide +kernel
theorem dX4_fitsBoard_38 : decode cX4_fitsBoard 38 = .ok (.iload_n 1, 1) := by decide +kernel
theorem dX4_fitsBoard_39 : decode cX4_fitsBoard 39 = .ok (.laload, 1) := by decide +kernel
theorem dX4_fitsBoard_40 : decode cX4_fitsBoard 40 = .ok (.lstore 8, 2) := by decide +kernel
theorem dX4_fitsBoard_42 : decode cX4_fitsBoard 42 = .ok (.iload 7, 2) := by decide +kernel
theorem dX4_fitsBoard_44 : decode cX4_fitsBoard 44 = .ok (.ifCond .eq (15), 3) := by decide +kernel
theorem dX4_fitsBoard_47 : decode cX4_fitsBoard 47 = .ok (.aload_n 0, 1) := by decide +kernel
theorem dX4_fitsBoard_48 : decode cX4_fitsBoard 48 = .ok (.getfield 12, 3) := by decide +kernel
theorem dX4_fitsBoard_51 : decode cX4_fitsBoard 51 = .ok (.getfield 151, 3) := by decide +kernel
theorem dX4_fitsBoard_54 : decode cX4_fitsBoard 54 = .ok (.iload_n 1, 1) := by decide +kernel
theorem dX4_fitsBoard_55 : decode cX4_fitsBoard 55 = .ok (.laload, 1) := by decide +kernel
theorem dX4_fitsBoard_56 : decode cX4_fitsBoard 56 = .ok (.goto (12), 3) := by decide +kernel
theorem dX4_fitsBoard_59 : decode cX4_fitsBoard 59 = .ok (.aload_n 0, 1) := by decide +kernel
theorem dX4_fitsBoard_60 : decode cX4_fitsBoard 60 = .ok (.getfield 12, 3) := by decide +kernel
theorem dX4_fitsBoard_63 : decode cX4_fitsBoard 63 = .ok (.getfield 148, 3) := by decide +kernel
theorem dX4_fitsBoard_66 : decode cX4_fitsBoard 66 = .ok (.iload_n 1, 1) := by decide +kernel
theorem dX4_fitsBoard_67 : decode cX4_fitsBoard 67 = .ok (.laload, 1) := by decide +kernel
theorem dX4_fitsBoard_68 : decode cX4_fitsBoard 68 = .ok (.lstore 10, 2) := by decide +kernel
theorem dX4_fitsBoard_70 : decode cX4_fitsBoard 70 = .ok (.lload_n 2, 1) := by decide +kernel
theorem dX4_fitsBoard_71 : decode cX4_fitsBoard 71 = .ok (.lconst 0, 1) := by decide +kernel
theorem dX4_fitsBoard_72 : decode cX4_fitsBoard 72 = .ok (.lcmp, 1) := by decide +kernel
theorem dX4_fitsBoard_73 : decode cX4_fitsBoard 73 = .ok (.ifCond .lt (39), 3) := by decide +kernel
theorem dX4_fitsBoard_76 : decode cX4_fitsBoard 76 = .ok (.lload_n 2, 1) := by decide +kernel
theorem dX4_fitsBoard_77 : decode cX4_fitsBoard 77 = .ok (.aload_n 0, 1) := by decide +kernel
theorem dX4_fitsBoard_78 : decode cX4_fitsBoard 78 = .ok (.getfield 62, 3) := by decide +kernel
theorem dX4_fitsBoard_81 : decode cX4_fitsBoard 81 = .ok (.lload 8, 2) := by decide +kernel
theorem dX4_fitsBoard_83 : decode cX4_fitsBoard 83 = .ok (.lsub, 1) := by decide +kernel
theorem dX4_fitsBoard_84 : decode cX4_fitsBoard 84 = .ok (.lcmp, 1) := by decide +kernel
theorem dX4_fitsBoard_85 : decode cX4_fitsBoard 85 = .ok (.ifCond .gt (27), 3) := by decide +kernel
theorem dX4_fitsBoard_88 : decode cX4_fitsBoard 88 = .ok (.lload 4, 2) := by decide +kernel
theorem dX4_fitsBoard_90 : decode cX4_fitsBoard 90 = .ok (.lconst 0, 1) := by decide +kernel
theorem dX4_fitsBoard_91 : decode cX4_fitsBoard 91 = .ok (.lcmp, 1) := by decide +kernel
theorem dX4_fitsBoard_92 : decode cX4_fitsBoard 92 = .ok (.ifCond .lt (20), 3) := by decide +kernel
theorem dX4_fitsBoard_95 : decode cX4_fitsBoard 95 = .ok (.lload 4, 2) := by decide +kernel
theorem dX4_fitsBoard_97 : decode cX4_fitsBoard 97 = .ok (.aload_n 0, 1) := by decide +kernel
theorem dX4_fitsBoard_98 : decode cX4_fitsBoard 98 = .ok (.getfield 65, 3) := by decide +kernel
theorem dX4_fitsBoard_101 : decode cX4_fitsBoard 101 = .ok (.lload 10, 2) := by decide +kernel
theorem dX4_fitsBoard_103 : decode cX4_fitsBoard 103 = .ok (.lsub, 1) := by decide +kernel
theorem dX4_fitsBoard_104 : decode cX4_fitsBoard 104 = .ok (.lcmp, 1) := by decide +kernel
theorem dX4_fitsBoard_105 : decode cX4_fitsBoard 105 = .ok (.ifCond .gt (7), 3) := by decide +kernel
theorem dX4_fitsBoard_108 : decode cX4_fitsBoard 108 = .ok (.iconst 1, 1) := by decide +kernel
theorem dX4_fitsBoard_109 : decode cX4_fitsBoard 109 = .ok (.goto (4), 3) := by decide +kernel
theorem dX4_fitsBoard_112 : decode cX4_fitsBoard 112 = .ok (.iconst 0, 1) := by decide +kernel
theorem dX4_fitsBoard_113 : decode cX4_fitsBoard 113 = .ok (.ireturn, 1) := by decide +kernel
abbrev cX4_standsWell : ByteArray := prog_1_method_21_code
def yX4_standsWell : MethodName := ⟨RX4, "standsWell", "(I)Z"⟩
def wsX4_standsWell : List Cond := .code yX4_standsWell cX4_standsWell 2 (some .boolean) :: bT
theorem dX4_standsWell_0 : decode cX4_standsWell 0 = .ok (.aload_n 0, 1) := by decide +kernel
theorem dX4_standsWell_1 : decode cX4_standsWell 1 = .ok (.getfield 37, 3) := by decide +kernel
theorem dX4_standsWell_4 : decode cX4_standsWell 4 = .ok (.getfield 96, 3) := by decide +kernel
theorem dX4_standsWell_7 : decode cX4_standsWell 7 = .ok (.iload_n 1, 1) := by decide +kernel
theorem dX4_standsWell_8 : decode cX4_standsWell 8 = .ok (.baload, 1) := by decide +kernel
theorem dX4_standsWell_9 : decode cX4_standsWell 9 = .ok (.ifCond .ne (5), 3) := by decide +kernel
theorem dX4_standsWell_12 : decode cX4_standsWell 12 = .ok (.iconst 1, 1) := by decide +kernel
theorem dX4_standsWell_13 : decode cX4_standsWell 13 = .ok (.ireturn, 1) := by decide +kernel
theorem dX4_standsWell_14 : decode cX4_standsWell 14 = .ok (.aload_n 0, 1) := by decide +kernel
theorem dX4_standsWell_15 : decode cX4_standsWell 15 = .ok (.iload_n 1, 1) := by decide +kernel
theorem dX4_standsWell_16 : decode cX4_standsWell 16 = .ok (.aload_n 0, 1) := by decide +kernel
theorem dX4_standsWell_17 : decode cX4_standsWell 17 = .ok (.getfield 37, 3) := by decide +kernel
theorem dX4_standsWell_20 : decode cX4_standsWell 20 = .ok (.getfield 112, 3) := by decide +kernel
theorem dX4_standsWell_23 : decode cX4_standsWell 23 = .ok (.iload_n 1, 1) := by decide +kernel
theorem dX4_standsWell_24 : decode cX4_standsWell 24 = .ok (.laload, 1) := by decide +kernel
theorem dX4_standsWell_25 : decode cX4_standsWell 25 = .ok (.aload_n 0, 1) := by decide +kernel
theorem dX4_standsWell_26 : decode cX4_standsWell 26 = .ok (.getfield 37, 3) := by decide +kernel
theorem dX4_standsWell_29 : decode cX4_standsWell 29 = .ok (.getfield 116, 3) := by decide +kernel
theorem dX4_standsWell_32 : decode cX4_standsWell 32 = .ok (.iload_n 1, 1) := by decide +kernel
theorem dX4_standsWell_33 : decode cX4_standsWell 33 = .ok (.laload, 1) := by decide +kernel
theorem dX4_standsWell_34 : decode cX4_standsWell 34 = .ok (.aload_n 0, 1) := by decide +kernel
theorem dX4_standsWell_35 : decode cX4_standsWell 35 = .ok (.getfield 37, 3) := by decide +kernel
theorem dX4_standsWell_38 : decode cX4_standsWell 38 = .ok (.getfield 100, 3) := by decide +kernel
theorem dX4_standsWell_41 : decode cX4_standsWell 41 = .ok (.iload_n 1, 1) := by decide +kernel
theorem dX4_standsWell_42 : decode cX4_standsWell 42 = .ok (.iaload, 1) := by decide +kernel
theorem dX4_standsWell_43 : decode cX4_standsWell 43 = .ok (.invokevirtual 92, 3) := by decide +kernel
theorem dX4_standsWell_46 : decode cX4_standsWell 46 = .ok (.ifCond .eq (50), 3) := by decide +kernel
theorem dX4_standsWell_49 : decode cX4_standsWell 49 = .ok (.aload_n 0, 1) := by decide +kernel
theorem dX4_standsWell_50 : decode cX4_standsWell 50 = .ok (.getfield 37, 3) := by decide +kernel
theorem dX4_standsWell_53 : decode cX4_standsWell 53 = .ok (.iload_n 1, 1) := by decide +kernel
theorem dX4_standsWell_54 : decode cX4_standsWell 54 = .ok (.iconst 0, 1) := by decide +kernel
theorem dX4_standsWell_55 : decode cX4_standsWell 55 = .ok (.invokevirtual 240, 3) := by decide +kernel
theorem dX4_standsWell_58 : decode cX4_standsWell 58 = .ok (.iconst (-1), 1) := by decide +kernel
theorem dX4_standsWell_59 : decode cX4_standsWell 59 = .ok (.if_icmp .ne (37), 3) := by decide +kernel
theorem dX4_standsWell_62 : decode cX4_standsWell 62 = .ok (.aload_n 0, 1) := by decide +kernel
theorem dX4_standsWell_63 : decode cX4_standsWell 63 = .ok (.getfield 23, 3) := by decide +kernel
theorem dX4_standsWell_66 : decode cX4_standsWell 66 = .ok (.aload_n 0, 1) := by decide +kernel
theorem dX4_standsWell_67 : decode cX4_standsWell 67 = .ok (.getfield 37, 3) := by decide +kernel
theorem dX4_standsWell_70 : decode cX4_standsWell 70 = .ok (.iload_n 1, 1) := by decide +kernel
theorem dX4_standsWell_71 : decode cX4_standsWell 71 = .ok (.invokevirtual 243, 3) := by decide +kernel
theorem dX4_standsWell_74 : decode cX4_standsWell 74 = .ok (.ifCond .eq (22), 3) := by decide +kernel
theorem dX4_standsWell_77 : decode cX4_standsWell 77 = .ok (.aload_n 0, 1) := by decide +kernel
theorem dX4_standsWell_78 : decode cX4_standsWell 78 = .ok (.getfield 23, 3) := by decide +kernel
theorem dX4_standsWell_81 : decode cX4_standsWell 81 = .ok (.aload_n 0, 1) := by decide +kernel
theorem dX4_standsWell_82 : decode cX4_standsWell 82 = .ok (.getfield 37, 3) := by decide +kernel
theorem dX4_standsWell_85 : decode cX4_standsWell 85 = .ok (.iload_n 1, 1) := by decide +kernel
theorem dX4_standsWell_86 : decode cX4_standsWell 86 = .ok (.invokevirtual 247, 3) := by decide +kernel
theorem dX4_standsWell_89 : decode cX4_standsWell 89 = .ok (.ifCond .eq (7), 3) := by decide +kernel
theorem dX4_standsWell_92 : decode cX4_standsWell 92 = .ok (.iconst 1, 1) := by decide +kernel
theorem dX4_standsWell_93 : decode cX4_standsWell 93 = .ok (.goto (4), 3) := by decide +kernel
theorem dX4_standsWell_96 : decode cX4_standsWell 96 = .ok (.iconst 0, 1) := by decide +kernel
theorem dX4_standsWell_97 : decode cX4_standsWell 97 = .ok (.ireturn, 1) := by decide +kernel
abbrev cX4_allStandWell : ByteArray := prog_1_method_22_code
def yX4_allStandWell : MethodName := ⟨RX4, "allStandWell", "()Z"⟩
def wsX4_allStandWell : List Cond := .code yX4_allStandWell cX4_allStandWell 2 (some .boolean) :: bT
theorem dX4_allStandWell_0 : decode cX4_allStandWell 0 = .ok (.iconst 0, 1) := by decide +kernel
theorem dX4_allStandWell_1 : decode cX4_allStandWell 1 = .ok (.istore_n 1, 1) := by decide +kernel
theorem dX4_allStandWell_2 : decode cX4_allStandWell 2 = .ok (.iload_n 1, 1) := by decide +kernel
theorem dX4_allStandWell_3 : decode cX4_allStandWell 3 = .ok (.aload_n 0, 1) := by decide +kernel
theorem dX4_allStandWell_4 : decode cX4_allStandWell 4 = .ok (.getfield 12, 3) := by decide +kernel
theorem dX4_allStandWell_7 : decode cX4_allStandWell 7 = .ok (.getfield 197, 3) := by decide +kernel
theorem dX4_allStandWell_10 : decode cX4_allStandWell 10 = .ok (.if_icmp .ge (19), 3) := by decide +kernel
theorem dX4_allStandWell_13 : decode cX4_allStandWell 13 = .ok (.aload_n 0, 1) := by decide +kernel
theorem dX4_allStandWell_14 : decode cX4_allStandWell 14 = .ok (.iload_n 1, 1) := by decide +kernel
theorem dX4_allStandWell_15 : decode cX4_allStandWell 15 = .ok (.invokevirtual 220, 3) := by decide +kernel
theorem dX4_allStandWell_18 : decode cX4_allStandWell 18 = .ok (.ifCond .ne (5), 3) := by decide +kernel
theorem dX4_allStandWell_21 : decode cX4_allStandWell 21 = .ok (.iconst 0, 1) := by decide +kernel
theorem dX4_allStandWell_22 : decode cX4_allStandWell 22 = .ok (.ireturn, 1) := by decide +kernel
theorem dX4_allStandWell_23 : decode cX4_allStandWell 23 = .ok (.iinc 1 1, 3) := by decide +kernel
theorem dX4_allStandWell_26 : decode cX4_allStandWell 26 = .ok (.goto (-24), 3) := by decide +kernel
theorem dX4_allStandWell_29 : decode cX4_allStandWell 29 = .ok (.iconst 1, 1) := by decide +kernel
theorem dX4_allStandWell_30 : decode cX4_allStandWell 30 = .ok (.ireturn, 1) := by decide +kernel
abbrev cX4_keepChange : ByteArray := prog_1_method_23_code
def yX4_keepChange : MethodName := ⟨RX4, "keepChange", "(J)Z"⟩
def wsX4_keepChange : List Cond := .code yX4_keepChange cX4_keepChange 5 (some .boolean) :: bT
theorem dX4_keepChange_0 : decode cX4_keepChange 0 = .ok (.iconst 0, 1) := by decide +kernel
theorem dX4_keepChange_1 : decode cX4_keepChange 1 = .ok (.istore_n 3, 1) := by decide +kernel
theorem dX4_keepChange_2 : decode cX4_keepChange 2 = .ok (.iload_n 3, 1) := by decide +kernel
theorem dX4_keepChange_3 : decode cX4_keepChange 3 = .ok (.aload_n 0, 1) := by decide +kernel
theorem dX4_keepChange_4 : decode cX4_keepChange 4 = .ok (.getfield 12, 3) := by decide +kernel
theorem dX4_keepChange_7 : decode cX4_keepChange 7 = .ok (.getfield 197, 3) := by decide +kernel
theorem dX4_keepChange_10 : decode cX4_keepChange 10 = .ok (.if_icmp .ge (73), 3) := by decide +kernel
theorem dX4_keepChange_13 : decode cX4_keepChange 13 = .ok (.aload_n 0, 1) := by decide +kernel
theorem dX4_keepChange_14 : decode cX4_keepChange 14 = .ok (.getfield 37, 3) := by decide +kernel
theorem dX4_keepChange_17 : decode cX4_keepChange 17 = .ok (.aload_n 0, 1) := by decide +kernel
theorem dX4_keepChange_18 : decode cX4_keepChange 18 = .ok (.getfield 41, 3) := by decide +kernel
theorem dX4_keepChange_21 : decode cX4_keepChange 21 = .ok (.iload_n 3, 1) := by decide +kernel
theorem dX4_keepChange_22 : decode cX4_keepChange 22 = .ok (.invokevirtual 250, 3) := by decide +kernel
theorem dX4_keepChange_25 : decode cX4_keepChange 25 = .ok (.ifCond .eq (52), 3) := by decide +kernel
theorem dX4_keepChange_28 : decode cX4_keepChange 28 = .ok (.aload_n 0, 1) := by decide +kernel
theorem dX4_keepChange_29 : decode cX4_keepChange 29 = .ok (.getfield 12, 3) := by decide +kernel
theorem dX4_keepChange_32 : decode cX4_keepChange 32 = .ok (.getfield 132, 3) := by decide +kernel
theorem dX4_keepChange_35 : decode cX4_keepChange 35 = .ok (.iload_n 3, 1) := by decide +kernel
theorem dX4_keepChange_36 : decode cX4_keepChange 36 = .ok (.baload, 1) := by decide +kernel
theorem dX4_keepChange_37 : decode cX4_keepChange 37 = .ok (.ifCond .eq (19), 3) := by decide +kernel
theorem dX4_keepChange_40 : decode cX4_keepChange 40 = .ok (.aload_n 0, 1) := by decide +kernel
theorem dX4_keepChange_41 : decode cX4_keepChange 41 = .ok (.getfield 41, 3) := by decide +kernel
theorem dX4_keepChange_44 : decode cX4_keepChange 44 = .ok (.getfield 96, 3) := by decide +kernel
theorem dX4_keepChange_47 : decode cX4_keepChange 47 = .ok (.iload_n 3, 1) := by decide +kernel
theorem dX4_keepChange_48 : decode cX4_keepChange 48 = .ok (.baload, 1) := by decide +kernel
theorem dX4_keepChange_49 : decode cX4_keepChange 49 = .ok (.ifCond .eq (7), 3) := by decide +kernel
theorem dX4_keepChange_52 : decode cX4_keepChange 52 = .ok (.iconst 1, 1) := by decide +kernel
theorem dX4_keepChange_53 : decode cX4_keepChange 53 = .ok (.goto (4), 3) := by decide +kernel
theorem dX4_keepChange_56 : decode cX4_keepChange 56 = .ok (.iconst 0, 1) := by decide +kernel
theorem dX4_keepChange_57 : decode cX4_keepChange 57 = .ok (.istore 4, 2) := by decide +kernel
theorem dX4_keepChange_59 : decode cX4_keepChange 59 = .ok (.iload 4, 2) := by decide +kernel
theorem dX4_keepChange_61 : decode cX4_keepChange 61 = .ok (.ifCond .ne (11), 3) := by decide +kernel
theorem dX4_keepChange_64 : decode cX4_keepChange 64 = .ok (.aload_n 0, 1) := by decide +kernel
theorem dX4_keepChange_65 : decode cX4_keepChange 65 = .ok (.iload_n 3, 1) := by decide +kernel
theorem dX4_keepChange_66 : decode cX4_keepChange 66 = .ok (.invokevirtual 220, 3) := by decide +kernel
theorem dX4_keepChange_69 : decode cX4_keepChange 69 = .ok (.ifCond .ne (8), 3) := by decide +kernel
theorem dX4_keepChange_72 : decode cX4_keepChange 72 = .ok (.aload_n 0, 1) := by decide +kernel
theorem dX4_keepChange_73 : decode cX4_keepChange 73 = .ok (.invokevirtual 177, 3) := by decide +kernel
theorem dX4_keepChange_76 : decode cX4_keepChange 76 = .ok (.ireturn, 1) := by decide +kernel
theorem dX4_keepChange_77 : decode cX4_keepChange 77 = .ok (.iinc 3 1, 3) := by decide +kernel
theorem dX4_keepChange_80 : decode cX4_keepChange 80 = .ok (.goto (-78), 3) := by decide +kernel
theorem dX4_keepChange_83 : decode cX4_keepChange 83 = .ok (.aload_n 0, 1) := by decide +kernel
theorem dX4_keepChange_84 : decode cX4_keepChange 84 = .ok (.getfield 30, 3) := by decide +kernel
theorem dX4_keepChange_87 : decode cX4_keepChange 87 = .ok (.aload_n 0, 1) := by decide +kernel
theorem dX4_keepChange_88 : decode cX4_keepChange 88 = .ok (.getfield 37, 3) := by decide +kernel
theorem dX4_keepChange_91 : decode cX4_keepChange 91 = .ok (.invokevirtual 160, 3) := by decide +kernel
theorem dX4_keepChange_94 : decode cX4_keepChange 94 = .ok (.lstore_n 3, 1) := by decide +kernel
theorem dX4_keepChange_95 : decode cX4_keepChange 95 = .ok (.lload_n 3, 1) := by decide +kernel
theorem dX4_keepChange_96 : decode cX4_keepChange 96 = .ok (.aload_n 0, 1) := by decide +kernel
theorem dX4_keepChange_97 : decode cX4_keepChange 97 = .ok (.getfield 47, 3) := by decide +kernel
theorem dX4_keepChange_100 : decode cX4_keepChange 100 = .ok (.lsub, 1) := by decide +kernel
theorem dX4_keepChange_101 : decode cX4_keepChange 101 = .ok (.lload_n 1, 1) := by decide +kernel
theorem dX4_keepChange_102 : decode cX4_keepChange 102 = .ok (.lcmp, 1) := by decide +kernel
theorem dX4_keepChange_103 : decode cX4_keepChange 103 = .ok (.ifCond .le (8), 3) := by decide +kernel
theorem dX4_keepChange_106 : decode cX4_keepChange 106 = .ok (.aload_n 0, 1) := by decide +kernel
theorem dX4_keepChange_107 : decode cX4_keepChange 107 = .ok (.invokevirtual 177, 3) := by decide +kernel
theorem dX4_keepChange_110 : decode cX4_keepChange 110 = .ok (.ireturn, 1) := by decide +kernel
theorem dX4_keepChange_111 : decode cX4_keepChange 111 = .ok (.aload_n 0, 1) := by decide +kernel
theorem dX4_keepChange_112 : decode cX4_keepChange 112 = .ok (.lload_n 3, 1) := by decide +kernel
theorem dX4_keepChange_113 : decode cX4_keepChange 113 = .ok (.putfield 47, 3) := by decide +kernel
theorem dX4_keepChange_116 : decode cX4_keepChange 116 = .ok (.iconst 1, 1) := by decide +kernel
theorem dX4_keepChange_117 : decode cX4_keepChange 117 = .ok (.ireturn, 1) := by decide +kernel
abbrev cX4_takeBack : ByteArray := prog_1_method_24_code
def yX4_takeBack : MethodName := ⟨RX4, "takeBack", "()Z"⟩
def wsX4_takeBack : List Cond := .code yX4_takeBack cX4_takeBack 1 (some .boolean) :: bT
theorem dX4_takeBack_0 : decode cX4_takeBack 0 = .ok (.aload_n 0, 1) := by decide +kernel
theorem dX4_takeBack_1 : decode cX4_takeBack 1 = .ok (.getfield 37, 3) := by decide +kernel
theorem dX4_takeBack_4 : decode cX4_takeBack 4 = .ok (.aload_n 0, 1) := by decide +kernel
theorem dX4_takeBack_5 : decode cX4_takeBack 5 = .ok (.getfield 41, 3) := by decide +kernel
theorem dX4_takeBack_8 : decode cX4_takeBack 8 = .ok (.invokevirtual 108, 3) := by decide +kernel
theorem dX4_takeBack_11 : decode cX4_takeBack 11 = .ok (.iconst 0, 1) := by decide +kernel
theorem dX4_takeBack_12 : decode cX4_takeBack 12 = .ok (.ireturn, 1) := by decide +kernel
abbrev cX4_countChanged : ByteArray := prog_1_method_25_code
def yX4_countChanged : MethodName := ⟨RX4, "countChanged", "(I)I"⟩
def wsX4_countChanged : List Cond := .code yX4_countChanged cX4_countChanged 4 (some .int) :: bT
theorem dX4_countChanged_0 : decode cX4_countChanged 0 = .ok (.iconst 0, 1) := by decide +kernel
theorem dX4_countChanged_1 : decode cX4_countChanged 1 = .ok (.istore_n 2, 1) := by decide +kernel
theorem dX4_countChanged_2 : decode cX4_countChanged 2 = .ok (.iconst 0, 1) := by decide +kernel
theorem dX4_countChanged_3 : decode cX4_countChanged 3 = .ok (.istore_n 3, 1) := by decide +kernel
theorem dX4_countChanged_4 : decode cX4_countChanged 4 = .ok (.iload_n 3, 1) := by decide +kernel
theorem dX4_countChanged_5 : decode cX4_countChanged 5 = .ok (.aload_n 0, 1) := by decide +kernel
theorem dX4_countChanged_6 : decode cX4_countChanged 6 = .ok (.getfield 12, 3) := by decide +kernel
theorem dX4_countChanged_9 : decode cX4_countChanged 9 = .ok (.getfield 197, 3) := by decide +kernel
theorem dX4_countChanged_12 : decode cX4_countChanged 12 = .ok (.if_icmp .ge (32), 3) := by decide +kernel
theorem dX4_countChanged_15 : decode cX4_countChanged 15 = .ok (.iload_n 3, 1) := by decide +kernel
theorem dX4_countChanged_16 : decode cX4_countChanged 16 = .ok (.iload_n 1, 1) := by decide +kernel
theorem dX4_countChanged_17 : decode cX4_countChanged 17 = .ok (.if_icmp .eq (21), 3) := by decide +kernel
theorem dX4_countChanged_20 : decode cX4_countChanged 20 = .ok (.aload_n 0, 1) := by decide +kernel
theorem dX4_countChanged_21 : decode cX4_countChanged 21 = .ok (.getfield 37, 3) := by decide +kernel
theorem dX4_countChanged_24 : decode cX4_countChanged 24 = .ok (.aload_n 0, 1) := by decide +kernel
theorem dX4_countChanged_25 : decode cX4_countChanged 25 = .ok (.getfield 41, 3) := by decide +kernel
theorem dX4_countChanged_28 : decode cX4_countChanged 28 = .ok (.iload_n 3, 1) := by decide +kernel
theorem dX4_countChanged_29 : decode cX4_countChanged 29 = .ok (.invokevirtual 250, 3) := by decide +kernel
theorem dX4_countChanged_32 : decode cX4_countChanged 32 = .ok (.ifCond .eq (6), 3) := by decide +kernel
theorem dX4_countChanged_35 : decode cX4_countChanged 35 = .ok (.iinc 2 1, 3) := by decide +kernel
theorem dX4_countChanged_38 : decode cX4_countChanged 38 = .ok (.iinc 3 1, 3) := by decide +kernel
theorem dX4_countChanged_41 : decode cX4_countChanged 41 = .ok (.goto (-37), 3) := by decide +kernel
theorem dX4_countChanged_44 : decode cX4_countChanged 44 = .ok (.iload_n 2, 1) := by decide +kernel
theorem dX4_countChanged_45 : decode cX4_countChanged 45 = .ok (.ireturn, 1) := by decide +kernel
abbrev cX4_clearTheWay : ByteArray := prog_1_method_26_code
def yX4_clearTheWay : MethodName := ⟨RX4, "clearTheWay", "(IZZ)Z"⟩
def wsX4_clearTheWay : List Cond := .code yX4_clearTheWay cX4_clearTheWay 12 (some .boolean) :: bT
theorem dX4_clearTheWay_0 : decode cX4_clearTheWay 0 = .ok (.iconst 0, 1) := by decide +kernel
theorem dX4_clearTheWay_1 : decode cX4_clearTheWay 1 = .ok (.istore 4, 2) := by decide +kernel
theorem dX4_clearTheWay_3 : decode cX4_clearTheWay 3 = .ok (.iload 4, 2) := by decide +kernel
theorem dX4_clearTheWay_5 : decode cX4_clearTheWay 5 = .ok (.sipush 200, 3) := by decide +kernel
theorem dX4_clearTheWay_8 : decode cX4_clearTheWay 8 = .ok (.if_icmp .ge (148), 3) := by decide +kernel
theorem dX4_clearTheWay_11 : decode cX4_clearTheWay 11 = .ok (.aload_n 0, 1) := by decide +kernel
theorem dX4_clearTheWay_12 : decode cX4_clearTheWay 12 = .ok (.getfield 37, 3) := by decide +kernel
theorem dX4_clearTheWay_15 : decode cX4_clearTheWay 15 = .ok (.invokevirtual 253, 3) := by decide +kernel
theorem dX4_clearTheWay_18 : decode cX4_clearTheWay 18 = .ok (.istore 5, 2) := by decide +kernel
theorem dX4_clearTheWay_20 : decode cX4_clearTheWay 20 = .ok (.iload 5, 2) := by decide +kernel
theorem dX4_clearTheWay_22 : decode cX4_clearTheWay 22 = .ok (.iconst (-1), 1) := by decide +kernel
theorem dX4_clearTheWay_23 : decode cX4_clearTheWay 23 = .ok (.if_icmp .ne (5), 3) := by decide +kernel
theorem dX4_clearTheWay_26 : decode cX4_clearTheWay 26 = .ok (.iconst 1, 1) := by decide +kernel
theorem dX4_clearTheWay_27 : decode cX4_clearTheWay 27 = .ok (.ireturn, 1) := by decide +kernel
theorem dX4_clearTheWay_28 : decode cX4_clearTheWay 28 = .ok (.aload_n 0, 1) := by decide +kernel
theorem dX4_clearTheWay_29 : decode cX4_clearTheWay 29 = .ok (.getfield 37, 3) := by decide +kernel
theorem dX4_clearTheWay_32 : decode cX4_clearTheWay 32 = .ok (.iload 5, 2) := by decide +kernel
theorem dX4_clearTheWay_34 : decode cX4_clearTheWay 34 = .ok (.iload 5, 2) := by decide +kernel
theorem dX4_clearTheWay_36 : decode cX4_clearTheWay 36 = .ok (.iconst 1, 1) := by decide +kernel
theorem dX4_clearTheWay_37 : decode cX4_clearTheWay 37 = .ok (.iadd, 1) := by decide +kernel
theorem dX4_clearTheWay_38 : decode cX4_clearTheWay 38 = .ok (.invokevirtual 240, 3) := by decide +kernel
theorem dX4_clearTheWay_41 : decode cX4_clearTheWay 41 = .ok (.istore 6, 2) := by decide +kernel
theorem dX4_clearTheWay_43 : decode cX4_clearTheWay 43 = .ok (.iload 6, 2) := by decide +kernel
theorem dX4_clearTheWay_45 : decode cX4_clearTheWay 45 = .ok (.iconst (-1), 1) := by decide +kernel
theorem dX4_clearTheWay_46 : decode cX4_clearTheWay 46 = .ok (.if_icmp .eq (17), 3) := by decide +kernel
theorem dX4_clearTheWay_49 : decode cX4_clearTheWay 49 = .ok (.aload_n 0, 1) := by decide +kernel
theorem dX4_clearTheWay_50 : decode cX4_clearTheWay 50 = .ok (.getfield 12, 3) := by decide +kernel
theorem dX4_clearTheWay_53 : decode cX4_clearTheWay 53 = .ok (.iload 5, 2) := by decide +kernel
theorem dX4_clearTheWay_55 : decode cX4_clearTheWay 55 = .ok (.iload 6, 2) := by decide +kernel
theorem dX4_clearTheWay_57 : decode cX4_clearTheWay 57 = .ok (.invokevirtual 256, 3) := by decide +kernel
theorem dX4_clearTheWay_60 : decode cX4_clearTheWay 60 = .ok (.ifCond .eq (5), 3) := by decide +kernel
theorem dX4_clearTheWay_63 : decode cX4_clearTheWay 63 = .ok (.iconst 0, 1) := by decide +kernel
theorem dX4_clearTheWay_64 : decode cX4_clearTheWay 64 = .ok (.ireturn, 1) := by decide +kernel
theorem dX4_clearTheWay_65 : decode cX4_clearTheWay 65 = .ok (.aload_n 0, 1) := by decide +kernel
theorem dX4_clearTheWay_66 : decode cX4_clearTheWay 66 = .ok (.iload 5, 2) := by decide +kernel
theorem dX4_clearTheWay_68 : decode cX4_clearTheWay 68 = .ok (.iload 6, 2) := by decide +kernel
theorem dX4_clearTheWay_70 : decode cX4_clearTheWay 70 = .ok (.iload_n 1, 1) := by decide +kernel
theorem dX4_clearTheWay_71 : decode cX4_clearTheWay 71 = .ok (.iload_n 2, 1) := by decide +kernel
theorem dX4_clearTheWay_72 : decode cX4_clearTheWay 72 = .ok (.iload_n 3, 1) := by decide +kernel
theorem dX4_clearTheWay_73 : decode cX4_clearTheWay 73 = .ok (.invokevirtual 260, 3) := by decide +kernel
theorem dX4_clearTheWay_76 : decode cX4_clearTheWay 76 = .ok (.istore 7, 2) := by decide +kernel
theorem dX4_clearTheWay_78 : decode cX4_clearTheWay 78 = .ok (.iload 7, 2) := by decide +kernel
theorem dX4_clearTheWay_80 : decode cX4_clearTheWay 80 = .ok (.ifCond .eq (8), 3) := by decide +kernel
theorem dX4_clearTheWay_83 : decode cX4_clearTheWay 83 = .ok (.iload 5, 2) := by decide +kernel
theorem dX4_clearTheWay_85 : decode cX4_clearTheWay 85 = .ok (.goto (5), 3) := by decide +kernel
theorem dX4_clearTheWay_88 : decode cX4_clearTheWay 88 = .ok (.iload 6, 2) := by decide +kernel
theorem dX4_clearTheWay_90 : decode cX4_clearTheWay 90 = .ok (.istore 8, 2) := by decide +kernel
theorem dX4_clearTheWay_92 : decode cX4_clearTheWay 92 = .ok (.iload 7, 2) := by decide +kernel
theorem dX4_clearTheWay_94 : decode cX4_clearTheWay 94 = .ok (.ifCond .eq (8), 3) := by decide +kernel
theorem dX4_clearTheWay_97 : decode cX4_clearTheWay 97 = .ok (.iload 6, 2) := by decide +kernel
theorem dX4_clearTheWay_99 : decode cX4_clearTheWay 99 = .ok (.goto (5), 3) := by decide +kernel
theorem dX4_clearTheWay_102 : decode cX4_clearTheWay 102 = .ok (.iload 5, 2) := by decide +kernel
theorem dX4_clearTheWay_104 : decode cX4_clearTheWay 104 = .ok (.istore 9, 2) := by decide +kernel
theorem dX4_clearTheWay_106 : decode cX4_clearTheWay 106 = .ok (.aload_n 0, 1) := by decide +kernel
theorem dX4_clearTheWay_107 : decode cX4_clearTheWay 107 = .ok (.getfield 37, 3) := by decide +kernel
theorem dX4_clearTheWay_110 : decode cX4_clearTheWay 110 = .ok (.iload 8, 2) := by decide +kernel
theorem dX4_clearTheWay_112 : decode cX4_clearTheWay 112 = .ok (.iload 9, 2) := by decide +kernel
theorem dX4_clearTheWay_114 : decode cX4_clearTheWay 114 = .ok (.iload_n 2, 1) := by decide +kernel
theorem dX4_clearTheWay_115 : decode cX4_clearTheWay 115 = .ok (.iload_n 3, 1) := by decide +kernel
theorem dX4_clearTheWay_116 : decode cX4_clearTheWay 116 = .ok (.invokevirtual 264, 3) := by decide +kernel
theorem dX4_clearTheWay_119 : decode cX4_clearTheWay 119 = .ok (.lstore 10, 2) := by decide +kernel
theorem dX4_clearTheWay_121 : decode cX4_clearTheWay 121 = .ok (.aload_n 0, 1) := by decide +kernel
theorem dX4_clearTheWay_122 : decode cX4_clearTheWay 122 = .ok (.getfield 37, 3) := by decide +kernel
theorem dX4_clearTheWay_125 : decode cX4_clearTheWay 125 = .ok (.iload 8, 2) := by decide +kernel
theorem dX4_clearTheWay_127 : decode cX4_clearTheWay 127 = .ok (.iload_n 2, 1) := by decide +kernel
theorem dX4_clearTheWay_128 : decode cX4_clearTheWay 128 = .ok (.ifCond .eq (8), 3) := by decide +kernel
theorem dX4_clearTheWay_131 : decode cX4_clearTheWay 131 = .ok (.lload 10, 2) := by decide +kernel
theorem dX4_clearTheWay_133 : decode cX4_clearTheWay 133 = .ok (.goto (4), 3) := by decide +kernel
theorem dX4_clearTheWay_136 : decode cX4_clearTheWay 136 = .ok (.lconst 0, 1) := by decide +kernel
theorem dX4_clearTheWay_137 : decode cX4_clearTheWay 137 = .ok (.iload_n 2, 1) := by decide +kernel
theorem dX4_clearTheWay_138 : decode cX4_clearTheWay 138 = .ok (.ifCond .eq (7), 3) := by decide +kernel
theorem dX4_clearTheWay_141 : decode cX4_clearTheWay 141 = .ok (.lconst 0, 1) := by decide +kernel
theorem dX4_clearTheWay_142 : decode cX4_clearTheWay 142 = .ok (.goto (5), 3) := by decide +kernel
theorem dX4_clearTheWay_145 : decode cX4_clearTheWay 145 = .ok (.lload 10, 2) := by decide +kernel
theorem dX4_clearTheWay_147 : decode cX4_clearTheWay 147 = .ok (.invokevirtual 119, 3) := by decide +kernel
theorem dX4_clearTheWay_150 : decode cX4_clearTheWay 150 = .ok (.iinc 4 1, 3) := by decide +kernel
theorem dX4_clearTheWay_153 : decode cX4_clearTheWay 153 = .ok (.goto (-150), 3) := by decide +kernel
theorem dX4_clearTheWay_156 : decode cX4_clearTheWay 156 = .ok (.iconst 0, 1) := by decide +kernel
theorem dX4_clearTheWay_157 : decode cX4_clearTheWay 157 = .ok (.ireturn, 1) := by decide +kernel
abbrev cX4_goesOn : ByteArray := prog_1_method_27_code
def yX4_goesOn : MethodName := ⟨RX4, "goesOn", "(IIIZZ)Z"⟩
def wsX4_goesOn : List Cond := .code yX4_goesOn cX4_goesOn 10 (some .boolean) :: bT
theorem dX4_goesOn_0 : decode cX4_goesOn 0 = .ok (.aload_n 0, 1) := by decide +kernel
theorem dX4_goesOn_1 : decode cX4_goesOn 1 = .ok (.getfield 12, 3) := by decide +kernel
theorem dX4_goesOn_4 : decode cX4_goesOn 4 = .ok (.iload_n 1, 1) := by decide +kernel
theorem dX4_goesOn_5 : decode cX4_goesOn 5 = .ok (.iload_n 3, 1) := by decide +kernel
theorem dX4_goesOn_6 : decode cX4_goesOn 6 = .ok (.invokevirtual 256, 3) := by decide +kernel
theorem dX4_goesOn_9 : decode cX4_goesOn 9 = .ok (.ifCond .eq (5), 3) := by decide +kernel
theorem dX4_goesOn_12 : decode cX4_goesOn 12 = .ok (.iconst 0, 1) := by decide +kernel
theorem dX4_goesOn_13 : decode cX4_goesOn 13 = .ok (.ireturn, 1) := by decide +kernel
theorem dX4_goesOn_14 : decode cX4_goesOn 14 = .ok (.aload_n 0, 1) := by decide +kernel
theorem dX4_goesOn_15 : decode cX4_goesOn 15 = .ok (.getfield 12, 3) := by decide +kernel
theorem dX4_goesOn_18 : decode cX4_goesOn 18 = .ok (.iload_n 2, 1) := by decide +kernel
theorem dX4_goesOn_19 : decode cX4_goesOn 19 = .ok (.iload_n 3, 1) := by decide +kernel
theorem dX4_goesOn_20 : decode cX4_goesOn 20 = .ok (.invokevirtual 256, 3) := by decide +kernel
theorem dX4_goesOn_23 : decode cX4_goesOn 23 = .ok (.ifCond .eq (5), 3) := by decide +kernel
theorem dX4_goesOn_26 : decode cX4_goesOn 26 = .ok (.iconst 1, 1) := by decide +kernel
theorem dX4_goesOn_27 : decode cX4_goesOn 27 = .ok (.ireturn, 1) := by decide +kernel
theorem dX4_goesOn_28 : decode cX4_goesOn 28 = .ok (.iload 4, 2) := by decide +kernel
theorem dX4_goesOn_30 : decode cX4_goesOn 30 = .ok (.ifCond .eq (15), 3) := by decide +kernel
theorem dX4_goesOn_33 : decode cX4_goesOn 33 = .ok (.aload_n 0, 1) := by decide +kernel
theorem dX4_goesOn_34 : decode cX4_goesOn 34 = .ok (.getfield 37, 3) := by decide +kernel
theorem dX4_goesOn_37 : decode cX4_goesOn 37 = .ok (.getfield 112, 3) := by decide +kernel
theorem dX4_goesOn_40 : decode cX4_goesOn 40 = .ok (.iload_n 1, 1) := by decide +kernel
theorem dX4_goesOn_41 : decode cX4_goesOn 41 = .ok (.laload, 1) := by decide +kernel
theorem dX4_goesOn_42 : decode cX4_goesOn 42 = .ok (.goto (12), 3) := by decide +kernel
theorem dX4_goesOn_45 : decode cX4_goesOn 45 = .ok (.aload_n 0, 1) := by decide +kernel
theorem dX4_goesOn_46 : decode cX4_goesOn 46 = .ok (.getfield 37, 3) := by decide +kernel
theorem dX4_goesOn_49 : decode cX4_goesOn 49 = .ok (.getfield 116, 3) := by decide +kernel
theorem dX4_goesOn_52 : decode cX4_goesOn 52 = .ok (.iload_n 1, 1) := by decide +kernel
theorem dX4_goesOn_53 : decode cX4_goesOn 53 = .ok (.laload, 1) := by decide +kernel
theorem dX4_goesOn_54 : decode cX4_goesOn 54 = .ok (.lstore 6, 2) := by decide +kernel
theorem dX4_goesOn_56 : decode cX4_goesOn 56 = .ok (.iload 4, 2) := by decide +kernel
theorem dX4_goesOn_58 : decode cX4_goesOn 58 = .ok (.ifCond .eq (15), 3) := by decide +kernel
theorem dX4_goesOn_61 : decode cX4_goesOn 61 = .ok (.aload_n 0, 1) := by decide +kernel
theorem dX4_goesOn_62 : decode cX4_goesOn 62 = .ok (.getfield 37, 3) := by decide +kernel
theorem dX4_goesOn_65 : decode cX4_goesOn 65 = .ok (.getfield 112, 3) := by decide +kernel
theorem dX4_goesOn_68 : decode cX4_goesOn 68 = .ok (.iload_n 2, 1) := by decide +kernel
theorem dX4_goesOn_69 : decode cX4_goesOn 69 = .ok (.laload, 1) := by decide +kernel
theorem dX4_goesOn_70 : decode cX4_goesOn 70 = .ok (.goto (12), 3) := by decide +kernel
theorem dX4_goesOn_73 : decode cX4_goesOn 73 = .ok (.aload_n 0, 1) := by decide +kernel
theorem dX4_goesOn_74 : decode cX4_goesOn 74 = .ok (.getfield 37, 3) := by decide +kernel
theorem dX4_goesOn_77 : decode cX4_goesOn 77 = .ok (.getfield 116, 3) := by decide +kernel
theorem dX4_goesOn_80 : decode cX4_goesOn 80 = .ok (.iload_n 2, 1) := by decide +kernel
theorem dX4_goesOn_81 : decode cX4_goesOn 81 = .ok (.laload, 1) := by decide +kernel
theorem dX4_goesOn_82 : decode cX4_goesOn 82 = .ok (.lstore 8, 2) := by decide +kernel
theorem dX4_goesOn_84 : decode cX4_goesOn 84 = .ok (.iload 5, 2) := by decide +kernel
theorem dX4_goesOn_86 : decode cX4_goesOn 86 = .ok (.ifCond .eq (19), 3) := by decide +kernel
theorem dX4_goesOn_89 : decode cX4_goesOn 89 = .ok (.lload 6, 2) := by decide +kernel
theorem dX4_goesOn_91 : decode cX4_goesOn 91 = .ok (.lload 8, 2) := by decide +kernel
theorem dX4_goesOn_93 : decode cX4_goesOn 93 = .ok (.lcmp, 1) := by decide +kernel
theorem dX4_goesOn_94 : decode cX4_goesOn 94 = .ok (.ifCond .le (7), 3) := by decide +kernel
theorem dX4_goesOn_97 : decode cX4_goesOn 97 = .ok (.iconst 1, 1) := by decide +kernel
theorem dX4_goesOn_98 : decode cX4_goesOn 98 = .ok (.goto (20), 3) := by decide +kernel
theorem dX4_goesOn_101 : decode cX4_goesOn 101 = .ok (.iconst 0, 1) := by decide +kernel
theorem dX4_goesOn_102 : decode cX4_goesOn 102 = .ok (.goto (16), 3) := by decide +kernel
theorem dX4_goesOn_105 : decode cX4_goesOn 105 = .ok (.lload 6, 2) := by decide +kernel
theorem dX4_goesOn_107 : decode cX4_goesOn 107 = .ok (.lload 8, 2) := by decide +kernel
theorem dX4_goesOn_109 : decode cX4_goesOn 109 = .ok (.lcmp, 1) := by decide +kernel
theorem dX4_goesOn_110 : decode cX4_goesOn 110 = .ok (.ifCond .ge (7), 3) := by decide +kernel
theorem dX4_goesOn_113 : decode cX4_goesOn 113 = .ok (.iconst 1, 1) := by decide +kernel
theorem dX4_goesOn_114 : decode cX4_goesOn 114 = .ok (.goto (4), 3) := by decide +kernel
theorem dX4_goesOn_117 : decode cX4_goesOn 117 = .ok (.iconst 0, 1) := by decide +kernel
theorem dX4_goesOn_118 : decode cX4_goesOn 118 = .ok (.ireturn, 1) := by decide +kernel
abbrev cX4_draw : ByteArray := prog_1_method_28_code
def yX4_draw : MethodName := ⟨RX4, "draw", "()J"⟩
def wsX4_draw : List Cond := .code yX4_draw cX4_draw 1 (some .long) :: bT
theorem dX4_draw_0 : decode cX4_draw 0 = .ok (.aload_n 0, 1) := by decide +kernel
theorem dX4_draw_1 : decode cX4_draw 1 = .ok (.aload_n 0, 1) := by decide +kernel
theorem dX4_draw_2 : decode cX4_draw 2 = .ok (.getfield 68, 3) := by decide +kernel
theorem dX4_draw_5 : decode cX4_draw 5 = .ok (.ldc2_w 268, 3) := by decide +kernel
theorem dX4_draw_8 : decode cX4_draw 8 = .ok (.lmul, 1) := by decide +kernel
theorem dX4_draw_9 : decode cX4_draw 9 = .ok (.ldc2_w 270, 3) := by decide +kernel
theorem dX4_draw_12 : decode cX4_draw 12 = .ok (.ladd, 1) := by decide +kernel
theorem dX4_draw_13 : decode cX4_draw 13 = .ok (.putfield 68, 3) := by decide +kernel
theorem dX4_draw_16 : decode cX4_draw 16 = .ok (.aload_n 0, 1) := by decide +kernel
theorem dX4_draw_17 : decode cX4_draw 17 = .ok (.getfield 68, 3) := by decide +kernel
theorem dX4_draw_20 : decode cX4_draw 20 = .ok (.bipush 33, 2) := by decide +kernel
theorem dX4_draw_22 : decode cX4_draw 22 = .ok (.lushr, 1) := by decide +kernel
theorem dX4_draw_23 : decode cX4_draw 23 = .ok (.lreturn, 1) := by decide +kernel
abbrev cX4_step : ByteArray := prog_1_method_29_code
def yX4_step : MethodName := ⟨RX4, "step", "(J)Z"⟩
def wsX4_step : List Cond := .code yX4_step cX4_step 13 (some .boolean) :: bT
theorem dX4_step_0 : decode cX4_step 0 = .ok (.aload_n 0, 1) := by decide +kernel
theorem dX4_step_1 : decode cX4_step 1 = .ok (.invokevirtual 272, 3) := by decide +kernel
theorem dX4_step_4 : decode cX4_step 4 = .ok (.lstore_n 3, 1) := by decide +kernel
theorem dX4_step_5 : decode cX4_step 5 = .ok (.aload_n 0, 1) := by decide +kernel
theorem dX4_step_6 : decode cX4_step 6 = .ok (.invokevirtual 272, 3) := by decide +kernel
theorem dX4_step_9 : decode cX4_step 9 = .ok (.lstore 5, 2) := by decide +kernel
theorem dX4_step_11 : decode cX4_step 11 = .ok (.aload_n 0, 1) := by decide +kernel
theorem dX4_step_12 : decode cX4_step 12 = .ok (.invokevirtual 272, 3) := by decide +kernel
theorem dX4_step_15 : decode cX4_step 15 = .ok (.lstore 7, 2) := by decide +kernel
theorem dX4_step_17 : decode cX4_step 17 = .ok (.aload_n 0, 1) := by decide +kernel
theorem dX4_step_18 : decode cX4_step 18 = .ok (.invokevirtual 272, 3) := by decide +kernel
theorem dX4_step_21 : decode cX4_step 21 = .ok (.lstore 9, 2) := by decide +kernel
theorem dX4_step_23 : decode cX4_step 23 = .ok (.aload_n 0, 1) := by decide +kernel
theorem dX4_step_24 : decode cX4_step 24 = .ok (.getfield 12, 3) := by decide +kernel
theorem dX4_step_27 : decode cX4_step 27 = .ok (.getfield 197, 3) := by decide +kernel
theorem dX4_step_30 : decode cX4_step 30 = .ok (.istore 11, 2) := by decide +kernel
theorem dX4_step_32 : decode cX4_step 32 = .ok (.iload 11, 2) := by decide +kernel
theorem dX4_step_34 : decode cX4_step 34 = .ok (.ifCond .ne (5), 3) := by decide +kernel
theorem dX4_step_37 : decode cX4_step 37 = .ok (.iconst 0, 1) := by decide +kernel
theorem dX4_step_38 : decode cX4_step 38 = .ok (.ireturn, 1) := by decide +kernel
theorem dX4_step_39 : decode cX4_step 39 = .ok (.lload_n 3, 1) := by decide +kernel
theorem dX4_step_40 : decode cX4_step 40 = .ok (.iload 11, 2) := by decide +kernel
theorem dX4_step_42 : decode cX4_step 42 = .ok (.i2l, 1) := by decide +kernel
theorem dX4_step_43 : decode cX4_step 43 = .ok (.lrem, 1) := by decide +kernel
theorem dX4_step_44 : decode cX4_step 44 = .ok (.l2i, 1) := by decide +kernel
theorem dX4_step_45 : decode cX4_step 45 = .ok (.istore 12, 2) := by decide +kernel
theorem dX4_step_47 : decode cX4_step 47 = .ok (.aload_n 0, 1) := by decide +kernel
theorem dX4_step_48 : decode cX4_step 48 = .ok (.getfield 37, 3) := by decide +kernel
theorem dX4_step_51 : decode cX4_step 51 = .ok (.getfield 96, 3) := by decide +kernel
theorem dX4_step_54 : decode cX4_step 54 = .ok (.iload 12, 2) := by decide +kernel
theorem dX4_step_56 : decode cX4_step 56 = .ok (.baload, 1) := by decide +kernel
theorem dX4_step_57 : decode cX4_step 57 = .ok (.ifCond .eq (16), 3) := by decide +kernel
theorem dX4_step_60 : decode cX4_step 60 = .ok (.aload_n 0, 1) := by decide +kernel
theorem dX4_step_61 : decode cX4_step 61 = .ok (.getfield 12, 3) := by decide +kernel
theorem dX4_step_64 : decode cX4_step 64 = .ok (.getfield 132, 3) := by decide +kernel
theorem dX4_step_67 : decode cX4_step 67 = .ok (.iload 12, 2) := by decide +kernel
theorem dX4_step_69 : decode cX4_step 69 = .ok (.baload, 1) := by decide +kernel
theorem dX4_step_70 : decode cX4_step 70 = .ok (.ifCond .eq (5), 3) := by decide +kernel
theorem dX4_step_73 : decode cX4_step 73 = .ok (.iconst 0, 1) := by decide +kernel
theorem dX4_step_74 : decode cX4_step 74 = .ok (.ireturn, 1) := by decide +kernel
theorem dX4_step_75 : decode cX4_step 75 = .ok (.aload_n 0, 1) := by decide +kernel
theorem dX4_step_76 : decode cX4_step 76 = .ok (.getfield 41, 3) := by decide +kernel
theorem dX4_step_79 : decode cX4_step 79 = .ok (.aload_n 0, 1) := by decide +kernel
theorem dX4_step_80 : decode cX4_step 80 = .ok (.getfield 37, 3) := by decide +kernel
theorem dX4_step_83 : decode cX4_step 83 = .ok (.invokevirtual 108, 3) := by decide +kernel
theorem dX4_step_86 : decode cX4_step 86 = .ok (.lload 5, 2) := by decide +kernel
theorem dX4_step_88 : decode cX4_step 88 = .ok (.ldc2_w 276, 3) := by decide +kernel
theorem dX4_step_91 : decode cX4_step 91 = .ok (.lrem, 1) := by decide +kernel
theorem dX4_step_92 : decode cX4_step 92 = .ok (.lconst 0, 1) := by decide +kernel
theorem dX4_step_93 : decode cX4_step 93 = .ok (.lcmp, 1) := by decide +kernel
theorem dX4_step_94 : decode cX4_step 94 = .ok (.ifCond .ne (19), 3) := by decide +kernel
theorem dX4_step_97 : decode cX4_step 97 = .ok (.aload_n 0, 1) := by decide +kernel
theorem dX4_step_98 : decode cX4_step 98 = .ok (.iload 12, 2) := by decide +kernel
theorem dX4_step_100 : decode cX4_step 100 = .ok (.lload 7, 2) := by decide +kernel
theorem dX4_step_102 : decode cX4_step 102 = .ok (.iload 11, 2) := by decide +kernel
theorem dX4_step_104 : decode cX4_step 104 = .ok (.i2l, 1) := by decide +kernel
theorem dX4_step_105 : decode cX4_step 105 = .ok (.lrem, 1) := by decide +kernel
theorem dX4_step_106 : decode cX4_step 106 = .ok (.l2i, 1) := by decide +kernel
theorem dX4_step_107 : decode cX4_step 107 = .ok (.invokevirtual 278, 3) := by decide +kernel
theorem dX4_step_110 : decode cX4_step 110 = .ok (.goto (77), 3) := by decide +kernel
theorem dX4_step_113 : decode cX4_step 113 = .ok (.lload 5, 2) := by decide +kernel
theorem dX4_step_115 : decode cX4_step 115 = .ok (.ldc2_w 276, 3) := by decide +kernel
theorem dX4_step_118 : decode cX4_step 118 = .ok (.lrem, 1) := by decide +kernel
theorem dX4_step_119 : decode cX4_step 119 = .ok (.lconst 1, 1) := by decide +kernel
theorem dX4_step_120 : decode cX4_step 120 = .ok (.lcmp, 1) := by decide +kernel
theorem dX4_step_121 : decode cX4_step 121 = .ok (.ifCond .ne (21), 3) := by decide +kernel
theorem dX4_step_124 : decode cX4_step 124 = .ok (.aload_n 0, 1) := by decide +kernel
theorem dX4_step_125 : decode cX4_step 125 = .ok (.iload 12, 2) := by decide +kernel
theorem dX4_step_127 : decode cX4_step 127 = .ok (.lload 9, 2) := by decide +kernel
theorem dX4_step_129 : decode cX4_step 129 = .ok (.ldc2_w 282, 3) := by decide +kernel
theorem dX4_step_132 : decode cX4_step 132 = .ok (.lrem, 1) := by decide +kernel
theorem dX4_step_133 : decode cX4_step 133 = .ok (.l2i, 1) := by decide +kernel
theorem dX4_step_134 : decode cX4_step 134 = .ok (.iconst 1, 1) := by decide +kernel
theorem dX4_step_135 : decode cX4_step 135 = .ok (.iadd, 1) := by decide +kernel
theorem dX4_step_136 : decode cX4_step 136 = .ok (.invokevirtual 284, 3) := by decide +kernel
theorem dX4_step_139 : decode cX4_step 139 = .ok (.goto (48), 3) := by decide +kernel
theorem dX4_step_142 : decode cX4_step 142 = .ok (.aload_n 0, 1) := by decide +kernel
theorem dX4_step_143 : decode cX4_step 143 = .ok (.getfield 37, 3) := by decide +kernel
theorem dX4_step_146 : decode cX4_step 146 = .ok (.iload 12, 2) := by decide +kernel
theorem dX4_step_148 : decode cX4_step 148 = .ok (.lload 7, 2) := by decide +kernel
theorem dX4_step_150 : decode cX4_step 150 = .ok (.aload_n 0, 1) := by decide +kernel
theorem dX4_step_151 : decode cX4_step 151 = .ok (.getfield 62, 3) := by decide +kernel
theorem dX4_step_154 : decode cX4_step 154 = .ok (.lrem, 1) := by decide +kernel
theorem dX4_step_155 : decode cX4_step 155 = .ok (.aload_n 0, 1) := by decide +kernel
theorem dX4_step_156 : decode cX4_step 156 = .ok (.getfield 37, 3) := by decide +kernel
theorem dX4_step_159 : decode cX4_step 159 = .ok (.getfield 112, 3) := by decide +kernel
theorem dX4_step_162 : decode cX4_step 162 = .ok (.iload 12, 2) := by decide +kernel
theorem dX4_step_164 : decode cX4_step 164 = .ok (.laload, 1) := by decide +kernel
theorem dX4_step_165 : decode cX4_step 165 = .ok (.lsub, 1) := by decide +kernel
theorem dX4_step_166 : decode cX4_step 166 = .ok (.lload 9, 2) := by decide +kernel
theorem dX4_step_168 : decode cX4_step 168 = .ok (.aload_n 0, 1) := by decide +kernel
theorem dX4_step_169 : decode cX4_step 169 = .ok (.getfield 65, 3) := by decide +kernel
theorem dX4_step_172 : decode cX4_step 172 = .ok (.lrem, 1) := by decide +kernel
theorem dX4_step_173 : decode cX4_step 173 = .ok (.aload_n 0, 1) := by decide +kernel
theorem dX4_step_174 : decode cX4_step 174 = .ok (.getfield 37, 3) := by decide +kernel
theorem dX4_step_177 : decode cX4_step 177 = .ok (.getfield 116, 3) := by decide +kernel
theorem dX4_step_180 : decode cX4_step 180 = .ok (.iload 12, 2) := by decide +kernel
theorem dX4_step_182 : decode cX4_step 182 = .ok (.laload, 1) := by decide +kernel
theorem dX4_step_183 : decode cX4_step 183 = .ok (.lsub, 1) := by decide +kernel
theorem dX4_step_184 : decode cX4_step 184 = .ok (.invokevirtual 119, 3) := by decide +kernel
theorem dX4_step_187 : decode cX4_step 187 = .ok (.aload_n 0, 1) := by decide +kernel
theorem dX4_step_188 : decode cX4_step 188 = .ok (.iconst (-1), 1) := by decide +kernel
theorem dX4_step_189 : decode cX4_step 189 = .ok (.invokevirtual 181, 3) := by decide +kernel
theorem dX4_step_192 : decode cX4_step 192 = .ok (.ifCond .le (15), 3) := by decide +kernel
theorem dX4_step_195 : decode cX4_step 195 = .ok (.aload_n 0, 1) := by decide +kernel
theorem dX4_step_196 : decode cX4_step 196 = .ok (.lload_n 1, 1) := by decide +kernel
theorem dX4_step_197 : decode cX4_step 197 = .ok (.invokevirtual 129, 3) := by decide +kernel
theorem dX4_step_200 : decode cX4_step 200 = .ok (.ifCond .eq (7), 3) := by decide +kernel
theorem dX4_step_203 : decode cX4_step 203 = .ok (.iconst 1, 1) := by decide +kernel
theorem dX4_step_204 : decode cX4_step 204 = .ok (.goto (4), 3) := by decide +kernel
theorem dX4_step_207 : decode cX4_step 207 = .ok (.iconst 0, 1) := by decide +kernel
theorem dX4_step_208 : decode cX4_step 208 = .ok (.ireturn, 1) := by decide +kernel
abbrev cX4_swapPlaces : ByteArray := prog_1_method_30_code
def yX4_swapPlaces : MethodName := ⟨RX4, "swapPlaces", "(II)V"⟩
def wsX4_swapPlaces : List Cond := .code yX4_swapPlaces cX4_swapPlaces 7 none :: bT
theorem dX4_swapPlaces_0 : decode cX4_swapPlaces 0 = .ok (.aload_n 0, 1) := by decide +kernel
theorem dX4_swapPlaces_1 : decode cX4_swapPlaces 1 = .ok (.getfield 37, 3) := by decide +kernel
theorem dX4_swapPlaces_4 : decode cX4_swapPlaces 4 = .ok (.getfield 96, 3) := by decide +kernel
theorem dX4_swapPlaces_7 : decode cX4_swapPlaces 7 = .ok (.iload_n 2, 1) := by decide +kernel
theorem dX4_swapPlaces_8 : decode cX4_swapPlaces 8 = .ok (.baload, 1) := by decide +kernel
theorem dX4_swapPlaces_9 : decode cX4_swapPlaces 9 = .ok (.ifCond .eq (15), 3) := by decide +kernel
theorem dX4_swapPlaces_12 : decode cX4_swapPlaces 12 = .ok (.aload_n 0, 1) := by decide +kernel
theorem dX4_swapPlaces_13 : decode cX4_swapPlaces 13 = .ok (.getfield 12, 3) := by decide +kernel
theorem dX4_swapPlaces_16 : decode cX4_swapPlaces 16 = .ok (.iload_n 1, 1) := by decide +kernel
theorem dX4_swapPlaces_17 : decode cX4_swapPlaces 17 = .ok (.iload_n 2, 1) := by decide +kernel
theorem dX4_swapPlaces_18 : decode cX4_swapPlaces 18 = .ok (.invokevirtual 256, 3) := by decide +kernel
theorem dX4_swapPlaces_21 : decode cX4_swapPlaces 21 = .ok (.ifCond .eq (4), 3) := by decide +kernel
theorem dX4_swapPlaces_24 : decode cX4_swapPlaces 24 = .ok (.return_, 1) := by decide +kernel
theorem dX4_swapPlaces_25 : decode cX4_swapPlaces 25 = .ok (.aload_n 0, 1) := by decide +kernel
theorem dX4_swapPlaces_26 : decode cX4_swapPlaces 26 = .ok (.getfield 37, 3) := by decide +kernel
theorem dX4_swapPlaces_29 : decode cX4_swapPlaces 29 = .ok (.getfield 112, 3) := by decide +kernel
theorem dX4_swapPlaces_32 : decode cX4_swapPlaces 32 = .ok (.iload_n 2, 1) := by decide +kernel
theorem dX4_swapPlaces_33 : decode cX4_swapPlaces 33 = .ok (.laload, 1) := by decide +kernel
theorem dX4_swapPlaces_34 : decode cX4_swapPlaces 34 = .ok (.aload_n 0, 1) := by decide +kernel
theorem dX4_swapPlaces_35 : decode cX4_swapPlaces 35 = .ok (.getfield 37, 3) := by decide +kernel
theorem dX4_swapPlaces_38 : decode cX4_swapPlaces 38 = .ok (.getfield 112, 3) := by decide +kernel
theorem dX4_swapPlaces_41 : decode cX4_swapPlaces 41 = .ok (.iload_n 1, 1) := by decide +kernel
theorem dX4_swapPlaces_42 : decode cX4_swapPlaces 42 = .ok (.laload, 1) := by decide +kernel
theorem dX4_swapPlaces_43 : decode cX4_swapPlaces 43 = .ok (.lsub, 1) := by decide +kernel
theorem dX4_swapPlaces_44 : decode cX4_swapPlaces 44 = .ok (.lstore_n 3, 1) := by decide +kernel
theorem dX4_swapPlaces_45 : decode cX4_swapPlaces 45 = .ok (.aload_n 0, 1) := by decide +kernel
theorem dX4_swapPlaces_46 : decode cX4_swapPlaces 46 = .ok (.getfield 37, 3) := by decide +kernel
theorem dX4_swapPlaces_49 : decode cX4_swapPlaces 49 = .ok (.getfield 116, 3) := by decide +kernel
theorem dX4_swapPlaces_52 : decode cX4_swapPlaces 52 = .ok (.iload_n 2, 1) := by decide +kernel
theorem dX4_swapPlaces_53 : decode cX4_swapPlaces 53 = .ok (.laload, 1) := by decide +kernel
theorem dX4_swapPlaces_54 : decode cX4_swapPlaces 54 = .ok (.aload_n 0, 1) := by decide +kernel
theorem dX4_swapPlaces_55 : decode cX4_swapPlaces 55 = .ok (.getfield 37, 3) := by decide +kernel
theorem dX4_swapPlaces_58 : decode cX4_swapPlaces 58 = .ok (.getfield 116, 3) := by decide +kernel
theorem dX4_swapPlaces_61 : decode cX4_swapPlaces 61 = .ok (.iload_n 1, 1) := by decide +kernel
theorem dX4_swapPlaces_62 : decode cX4_swapPlaces 62 = .ok (.laload, 1) := by decide +kernel
theorem dX4_swapPlaces_63 : decode cX4_swapPlaces 63 = .ok (.lsub, 1) := by decide +kernel
theorem dX4_swapPlaces_64 : decode cX4_swapPlaces 64 = .ok (.lstore 5, 2) := by decide +kernel
theorem dX4_swapPlaces_66 : decode cX4_swapPlaces 66 = .ok (.aload_n 0, 1) := by decide +kernel
theorem dX4_swapPlaces_67 : decode cX4_swapPlaces 67 = .ok (.getfield 37, 3) := by decide +kernel
theorem dX4_swapPlaces_70 : decode cX4_swapPlaces 70 = .ok (.iload_n 1, 1) := by decide +kernel
theorem dX4_swapPlaces_71 : decode cX4_swapPlaces 71 = .ok (.lload_n 3, 1) := by decide +kernel
theorem dX4_swapPlaces_72 : decode cX4_swapPlaces 72 = .ok (.lload 5, 2) := by decide +kernel
theorem dX4_swapPlaces_74 : decode cX4_swapPlaces 74 = .ok (.invokevirtual 119, 3) := by decide +kernel
theorem dX4_swapPlaces_77 : decode cX4_swapPlaces 77 = .ok (.aload_n 0, 1) := by decide +kernel
theorem dX4_swapPlaces_78 : decode cX4_swapPlaces 78 = .ok (.getfield 37, 3) := by decide +kernel
theorem dX4_swapPlaces_81 : decode cX4_swapPlaces 81 = .ok (.iload_n 2, 1) := by decide +kernel
theorem dX4_swapPlaces_82 : decode cX4_swapPlaces 82 = .ok (.lload_n 3, 1) := by decide +kernel
theorem dX4_swapPlaces_83 : decode cX4_swapPlaces 83 = .ok (.lneg, 1) := by decide +kernel
theorem dX4_swapPlaces_84 : decode cX4_swapPlaces 84 = .ok (.lload 5, 2) := by decide +kernel
theorem dX4_swapPlaces_86 : decode cX4_swapPlaces 86 = .ok (.lneg, 1) := by decide +kernel
theorem dX4_swapPlaces_87 : decode cX4_swapPlaces 87 = .ok (.invokevirtual 119, 3) := by decide +kernel
theorem dX4_swapPlaces_90 : decode cX4_swapPlaces 90 = .ok (.return_, 1) := by decide +kernel
abbrev cX4_turnAlone : ByteArray := prog_1_method_31_code
def yX4_turnAlone : MethodName := ⟨RX4, "turnAlone", "(II)V"⟩
def wsX4_turnAlone : List Cond := .code yX4_turnAlone cX4_turnAlone 3 none :: bT
theorem dX4_turnAlone_0 : decode cX4_turnAlone 0 = .ok (.aload_n 0, 1) := by decide +kernel
theorem dX4_turnAlone_1 : decode cX4_turnAlone 1 = .ok (.getfield 37, 3) := by decide +kernel
theorem dX4_turnAlone_4 : decode cX4_turnAlone 4 = .ok (.iload_n 1, 1) := by decide +kernel
theorem dX4_turnAlone_5 : decode cX4_turnAlone 5 = .ok (.invokevirtual 104, 3) := by decide +kernel
theorem dX4_turnAlone_8 : decode cX4_turnAlone 8 = .ok (.ifCond .ne (25), 3) := by decide +kernel
theorem dX4_turnAlone_11 : decode cX4_turnAlone 11 = .ok (.aload_n 0, 1) := by decide +kernel
theorem dX4_turnAlone_12 : decode cX4_turnAlone 12 = .ok (.getfield 37, 3) := by decide +kernel
theorem dX4_turnAlone_15 : decode cX4_turnAlone 15 = .ok (.getfield 100, 3) := by decide +kernel
theorem dX4_turnAlone_18 : decode cX4_turnAlone 18 = .ok (.iload_n 1, 1) := by decide +kernel
theorem dX4_turnAlone_19 : decode cX4_turnAlone 19 = .ok (.aload_n 0, 1) := by decide +kernel
theorem dX4_turnAlone_20 : decode cX4_turnAlone 20 = .ok (.getfield 37, 3) := by decide +kernel
theorem dX4_turnAlone_23 : decode cX4_turnAlone 23 = .ok (.getfield 100, 3) := by decide +kernel
theorem dX4_turnAlone_26 : decode cX4_turnAlone 26 = .ok (.iload_n 1, 1) := by decide +kernel
theorem dX4_turnAlone_27 : decode cX4_turnAlone 27 = .ok (.iaload, 1) := by decide +kernel
theorem dX4_turnAlone_28 : decode cX4_turnAlone 28 = .ok (.iload_n 2, 1) := by decide +kernel
theorem dX4_turnAlone_29 : decode cX4_turnAlone 29 = .ok (.iadd, 1) := by decide +kernel
theorem dX4_turnAlone_30 : decode cX4_turnAlone 30 = .ok (.iconst 4, 1) := by decide +kernel
theorem dX4_turnAlone_31 : decode cX4_turnAlone 31 = .ok (.irem, 1) := by decide +kernel
theorem dX4_turnAlone_32 : decode cX4_turnAlone 32 = .ok (.iastore, 1) := by decide +kernel
theorem dX4_turnAlone_33 : decode cX4_turnAlone 33 = .ok (.return_, 1) := by decide +kernel
abbrev cX5_left : ByteArray := prog_7_method_6_code
def yX5_left : MethodName := ⟨RX5, "left", "(II)J"⟩
def wsX5_left : List Cond := .code yX5_left cX5_left 3 (some .long) :: bT
theorem dX5_left_0 : decode cX5_left 0 = .ok (.aload_n 0, 1) := by decide +kernel
theorem dX5_left_1 : decode cX5_left 1 = .ok (.getfield 33, 3) := by decide +kernel
theorem dX5_left_4 : decode cX5_left 4 = .ok (.bipush 40, 2) := by decide +kernel
theorem dX5_left_6 : decode cX5_left 6 = .ok (.iload_n 1, 1) := by decide +kernel
theorem dX5_left_7 : decode cX5_left 7 = .ok (.imul, 1) := by decide +kernel
theorem dX5_left_8 : decode cX5_left 8 = .ok (.iload_n 2, 1) := by decide +kernel
theorem dX5_left_9 : decode cX5_left 9 = .ok (.iadd, 1) := by decide +kernel
theorem dX5_left_10 : decode cX5_left 10 = .ok (.laload, 1) := by decide +kernel
theorem dX5_left_11 : decode cX5_left 11 = .ok (.lreturn, 1) := by decide +kernel
abbrev cX5_low : ByteArray := prog_7_method_7_code
def yX5_low : MethodName := ⟨RX5, "low", "(II)J"⟩
def wsX5_low : List Cond := .code yX5_low cX5_low 3 (some .long) :: bT
theorem dX5_low_0 : decode cX5_low 0 = .ok (.aload_n 0, 1) := by decide +kernel
theorem dX5_low_1 : decode cX5_low 1 = .ok (.getfield 36, 3) := by decide +kernel
theorem dX5_low_4 : decode cX5_low 4 = .ok (.bipush 40, 2) := by decide +kernel
theorem dX5_low_6 : decode cX5_low 6 = .ok (.iload_n 1, 1) := by decide +kernel
theorem dX5_low_7 : decode cX5_low 7 = .ok (.imul, 1) := by decide +kernel
theorem dX5_low_8 : decode cX5_low 8 = .ok (.iload_n 2, 1) := by decide +kernel
theorem dX5_low_9 : decode cX5_low 9 = .ok (.iadd, 1) := by decide +kernel
theorem dX5_low_10 : decode cX5_low 10 = .ok (.laload, 1) := by decide +kernel
theorem dX5_low_11 : decode cX5_low 11 = .ok (.lreturn, 1) := by decide +kernel
abbrev cX5_lies : ByteArray := prog_7_method_8_code
def yX5_lies : MethodName := ⟨RX5, "lies", "(II)Z"⟩
def wsX5_lies : List Cond := .code yX5_lies cX5_lies 3 (some .boolean) :: bT
theorem dX5_lies_0 : decode cX5_lies 0 = .ok (.aload_n 0, 1) := by decide +kernel
theorem dX5_lies_1 : decode cX5_lies 1 = .ok (.getfield 39, 3) := by decide +kernel
theorem dX5_lies_4 : decode cX5_lies 4 = .ok (.bipush 40, 2) := by decide +kernel
theorem dX5_lies_6 : decode cX5_lies 6 = .ok (.iload_n 1, 1) := by decide +kernel
theorem dX5_lies_7 : decode cX5_lies 7 = .ok (.imul, 1) := by decide +kernel
theorem dX5_lies_8 : decode cX5_lies 8 = .ok (.iload_n 2, 1) := by decide +kernel
theorem dX5_lies_9 : decode cX5_lies 9 = .ok (.iadd, 1) := by decide +kernel
theorem dX5_lies_10 : decode cX5_lies 10 = .ok (.iaload, 1) := by decide +kernel
theorem dX5_lies_11 : decode cX5_lies 11 = .ok (.iconst 2, 1) := by decide +kernel
theorem dX5_lies_12 : decode cX5_lies 12 = .ok (.irem, 1) := by decide +kernel
theorem dX5_lies_13 : decode cX5_lies 13 = .ok (.iconst 1, 1) := by decide +kernel
theorem dX5_lies_14 : decode cX5_lies 14 = .ok (.if_icmp .ne (7), 3) := by decide +kernel
theorem dX5_lies_17 : decode cX5_lies 17 = .ok (.iconst 1, 1) := by decide +kernel
theorem dX5_lies_18 : decode cX5_lies 18 = .ok (.goto (4), 3) := by decide +kernel
theorem dX5_lies_21 : decode cX5_lies 21 = .ok (.iconst 0, 1) := by decide +kernel
theorem dX5_lies_22 : decode cX5_lies 22 = .ok (.ireturn, 1) := by decide +kernel
abbrev cX5_right : ByteArray := prog_7_method_9_code
def yX5_right : MethodName := ⟨RX5, "right", "(II)J"⟩
def wsX5_right : List Cond := .code yX5_right cX5_right 3 (some .long) :: bT
theorem dX5_right_0 : decode cX5_right 0 = .ok (.aload_n 0, 1) := by decide +kernel
theorem dX5_right_1 : decode cX5_right 1 = .ok (.iload_n 1, 1) := by decide +kernel
theorem dX5_right_2 : decode cX5_right 2 = .ok (.iload_n 2, 1) := by decide +kernel
theorem dX5_right_3 : decode cX5_right 3 = .ok (.invokevirtual 92, 3) := by decide +kernel
theorem dX5_right_6 : decode cX5_right 6 = .ok (.aload_n 0, 1) := by decide +kernel
theorem dX5_right_7 : decode cX5_right 7 = .ok (.iload_n 1, 1) := by decide +kernel
theorem dX5_right_8 : decode cX5_right 8 = .ok (.iload_n 2, 1) := by decide +kernel
theorem dX5_right_9 : decode cX5_right 9 = .ok (.invokevirtual 96, 3) := by decide +kernel
theorem dX5_right_12 : decode cX5_right 12 = .ok (.ifCond .eq (12), 3) := by decide +kernel
theorem dX5_right_15 : decode cX5_right 15 = .ok (.aload_n 0, 1) := by decide +kernel
theorem dX5_right_16 : decode cX5_right 16 = .ok (.getfield 13, 3) := by decide +kernel
theorem dX5_right_19 : decode cX5_right 19 = .ok (.iload_n 2, 1) := by decide +kernel
theorem dX5_right_20 : decode cX5_right 20 = .ok (.laload, 1) := by decide +kernel
theorem dX5_right_21 : decode cX5_right 21 = .ok (.goto (9), 3) := by decide +kernel
theorem dX5_right_24 : decode cX5_right 24 = .ok (.aload_n 0, 1) := by decide +kernel
theorem dX5_right_25 : decode cX5_right 25 = .ok (.getfield 7, 3) := by decide +kernel
theorem dX5_right_28 : decode cX5_right 28 = .ok (.iload_n 2, 1) := by decide +kernel
theorem dX5_right_29 : decode cX5_right 29 = .ok (.laload, 1) := by decide +kernel
theorem dX5_right_30 : decode cX5_right 30 = .ok (.ladd, 1) := by decide +kernel
theorem dX5_right_31 : decode cX5_right 31 = .ok (.lreturn, 1) := by decide +kernel
abbrev cX5_top : ByteArray := prog_7_method_10_code
def yX5_top : MethodName := ⟨RX5, "top", "(II)J"⟩
def wsX5_top : List Cond := .code yX5_top cX5_top 3 (some .long) :: bT
theorem dX5_top_0 : decode cX5_top 0 = .ok (.aload_n 0, 1) := by decide +kernel
theorem dX5_top_1 : decode cX5_top 1 = .ok (.iload_n 1, 1) := by decide +kernel
theorem dX5_top_2 : decode cX5_top 2 = .ok (.iload_n 2, 1) := by decide +kernel
theorem dX5_top_3 : decode cX5_top 3 = .ok (.invokevirtual 100, 3) := by decide +kernel
theorem dX5_top_6 : decode cX5_top 6 = .ok (.aload_n 0, 1) := by decide +kernel
theorem dX5_top_7 : decode cX5_top 7 = .ok (.iload_n 1, 1) := by decide +kernel
theorem dX5_top_8 : decode cX5_top 8 = .ok (.iload_n 2, 1) := by decide +kernel
theorem dX5_top_9 : decode cX5_top 9 = .ok (.invokevirtual 96, 3) := by decide +kernel
theorem dX5_top_12 : decode cX5_top 12 = .ok (.ifCond .eq (12), 3) := by decide +kernel
theorem dX5_top_15 : decode cX5_top 15 = .ok (.aload_n 0, 1) := by decide +kernel
theorem dX5_top_16 : decode cX5_top 16 = .ok (.getfield 7, 3) := by decide +kernel
theorem dX5_top_19 : decode cX5_top 19 = .ok (.iload_n 2, 1) := by decide +kernel
theorem dX5_top_20 : decode cX5_top 20 = .ok (.laload, 1) := by decide +kernel
theorem dX5_top_21 : decode cX5_top 21 = .ok (.goto (9), 3) := by decide +kernel
theorem dX5_top_24 : decode cX5_top 24 = .ok (.aload_n 0, 1) := by decide +kernel
theorem dX5_top_25 : decode cX5_top 25 = .ok (.getfield 13, 3) := by decide +kernel
theorem dX5_top_28 : decode cX5_top 28 = .ok (.iload_n 2, 1) := by decide +kernel
theorem dX5_top_29 : decode cX5_top 29 = .ok (.laload, 1) := by decide +kernel
theorem dX5_top_30 : decode cX5_top 30 = .ok (.ladd, 1) := by decide +kernel
theorem dX5_top_31 : decode cX5_top 31 = .ok (.lreturn, 1) := by decide +kernel
abbrev cX5_overlap : ByteArray := prog_7_method_11_code
def yX5_overlap : MethodName := ⟨RX5, "overlap", "(III)Z"⟩
def wsX5_overlap : List Cond := .code yX5_overlap cX5_overlap 4 (some .boolean) :: bT
theorem dX5_overlap_0 : decode cX5_overlap 0 = .ok (.aload_n 0, 1) := by decide +kernel
theorem dX5_overlap_1 : decode cX5_overlap 1 = .ok (.iload_n 1, 1) := by decide +kernel
theorem dX5_overlap_2 : decode cX5_overlap 2 = .ok (.iload_n 2, 1) := by decide +kernel
theorem dX5_overlap_3 : decode cX5_overlap 3 = .ok (.invokevirtual 92, 3) := by decide +kernel
theorem dX5_overlap_6 : decode cX5_overlap 6 = .ok (.aload_n 0, 1) := by decide +kernel
theorem dX5_overlap_7 : decode cX5_overlap 7 = .ok (.iload_n 1, 1) := by decide +kernel
theorem dX5_overlap_8 : decode cX5_overlap 8 = .ok (.iload_n 3, 1) := by decide +kernel
theorem dX5_overlap_9 : decode cX5_overlap 9 = .ok (.invokevirtual 103, 3) := by decide +kernel
theorem dX5_overlap_12 : decode cX5_overlap 12 = .ok (.lcmp, 1) := by decide +kernel
theorem dX5_overlap_13 : decode cX5_overlap 13 = .ok (.ifCond .ge (55), 3) := by decide +kernel
theorem dX5_overlap_16 : decode cX5_overlap 16 = .ok (.aload_n 0, 1) := by decide +kernel
theorem dX5_overlap_17 : decode cX5_overlap 17 = .ok (.iload_n 1, 1) := by decide +kernel
theorem dX5_overlap_18 : decode cX5_overlap 18 = .ok (.iload_n 3, 1) := by decide +kernel
theorem dX5_overlap_19 : decode cX5_overlap 19 = .ok (.invokevirtual 92, 3) := by decide +kernel
theorem dX5_overlap_22 : decode cX5_overlap 22 = .ok (.aload_n 0, 1) := by decide +kernel
theorem dX5_overlap_23 : decode cX5_overlap 23 = .ok (.iload_n 1, 1) := by decide +kernel
theorem dX5_overlap_24 : decode cX5_overlap 24 = .ok (.iload_n 2, 1) := by decide +kernel
theorem dX5_overlap_25 : decode cX5_overlap 25 = .ok (.invokevirtual 103, 3) := by decide +kernel
theorem dX5_overlap_28 : decode cX5_overlap 28 = .ok (.lcmp, 1) := by decide +kernel
theorem dX5_overlap_29 : decode cX5_overlap 29 = .ok (.ifCond .ge (39), 3) := by decide +kernel
theorem dX5_overlap_32 : decode cX5_overlap 32 = .ok (.aload_n 0, 1) := by decide +kernel
theorem dX5_overlap_33 : decode cX5_overlap 33 = .ok (.iload_n 1, 1) := by decide +kernel
theorem dX5_overlap_34 : decode cX5_overlap 34 = .ok (.iload_n 2, 1) := by decide +kernel
theorem dX5_overlap_35 : decode cX5_overlap 35 = .ok (.invokevirtual 100, 3) := by decide +kernel
theorem dX5_overlap_38 : decode cX5_overlap 38 = .ok (.aload_n 0, 1) := by decide +kernel
theorem dX5_overlap_39 : decode cX5_overlap 39 = .ok (.iload_n 1, 1) := by decide +kernel
theorem dX5_overlap_40 : decode cX5_overlap 40 = .ok (.iload_n 3, 1) := by decide +kernel
theorem dX5_overlap_41 : decode cX5_overlap 41 = .ok (.invokevirtual 106, 3) := by decide +kernel
theorem dX5_overlap_44 : decode cX5_overlap 44 = .ok (.lcmp, 1) := by decide +kernel
theorem dX5_overlap_45 : decode cX5_overlap 45 = .ok (.ifCond .ge (23), 3) := by decide +kernel
theorem dX5_overlap_48 : decode cX5_overlap 48 = .ok (.aload_n 0, 1) := by decide +kernel
theorem dX5_overlap_49 : decode cX5_overlap 49 = .ok (.iload_n 1, 1) := by decide +kernel
theorem dX5_overlap_50 : decode cX5_overlap 50 = .ok (.iload_n 3, 1) := by decide +kernel
theorem dX5_overlap_51 : decode cX5_overlap 51 = .ok (.invokevirtual 100, 3) := by decide +kernel
theorem dX5_overlap_54 : decode cX5_overlap 54 = .ok (.aload_n 0, 1) := by decide +kernel
theorem dX5_overlap_55 : decode cX5_overlap 55 = .ok (.iload_n 1, 1) := by decide +kernel
theorem dX5_overlap_56 : decode cX5_overlap 56 = .ok (.iload_n 2, 1) := by decide +kernel
theorem dX5_overlap_57 : decode cX5_overlap 57 = .ok (.invokevirtual 106, 3) := by decide +kernel
theorem dX5_overlap_60 : decode cX5_overlap 60 = .ok (.lcmp, 1) := by decide +kernel
theorem dX5_overlap_61 : decode cX5_overlap 61 = .ok (.ifCond .ge (7), 3) := by decide +kernel
theorem dX5_overlap_64 : decode cX5_overlap 64 = .ok (.iconst 1, 1) := by decide +kernel
theorem dX5_overlap_65 : decode cX5_overlap 65 = .ok (.goto (4), 3) := by decide +kernel
theorem dX5_overlap_68 : decode cX5_overlap 68 = .ok (.iconst 0, 1) := by decide +kernel
theorem dX5_overlap_69 : decode cX5_overlap 69 = .ok (.ireturn, 1) := by decide +kernel
abbrev cX5_isOnBoard : ByteArray := prog_7_method_12_code
def yX5_isOnBoard : MethodName := ⟨RX5, "isOnBoard", "(II)Z"⟩
def wsX5_isOnBoard : List Cond := .code yX5_isOnBoard cX5_isOnBoard 7 (some .boolean) :: bT
theorem dX5_isOnBoard_0 : decode cX5_isOnBoard 0 = .ok (.aload_n 0, 1) := by decide +kernel
theorem dX5_isOnBoard_1 : decode cX5_isOnBoard 1 = .ok (.iload_n 1, 1) := by decide +kernel
theorem dX5_isOnBoard_2 : decode cX5_isOnBoard 2 = .ok (.iload_n 2, 1) := by decide +kernel
theorem dX5_isOnBoard_3 : decode cX5_isOnBoard 3 = .ok (.invokevirtual 92, 3) := by decide +kernel
theorem dX5_isOnBoard_6 : decode cX5_isOnBoard 6 = .ok (.lstore_n 3, 1) := by decide +kernel
theorem dX5_isOnBoard_7 : decode cX5_isOnBoard 7 = .ok (.aload_n 0, 1) := by decide +kernel
theorem dX5_isOnBoard_8 : decode cX5_isOnBoard 8 = .ok (.iload_n 1, 1) := by decide +kernel
theorem dX5_isOnBoard_9 : decode cX5_isOnBoard 9 = .ok (.iload_n 2, 1) := by decide +kernel
theorem dX5_isOnBoard_10 : decode cX5_isOnBoard 10 = .ok (.invokevirtual 100, 3) := by decide +kernel
theorem dX5_isOnBoard_13 : decode cX5_isOnBoard 13 = .ok (.lstore 5, 2) := by decide +kernel
theorem dX5_isOnBoard_15 : decode cX5_isOnBoard 15 = .ok (.lload_n 3, 1) := by decide +kernel
theorem dX5_isOnBoard_16 : decode cX5_isOnBoard 16 = .ok (.lconst 0, 1) := by decide +kernel
theorem dX5_isOnBoard_17 : decode cX5_isOnBoard 17 = .ok (.lcmp, 1) := by decide +kernel
theorem dX5_isOnBoard_18 : decode cX5_isOnBoard 18 = .ok (.ifCond .lt (61), 3) := by decide +kernel
theorem dX5_isOnBoard_21 : decode cX5_isOnBoard 21 = .ok (.lload_n 3, 1) := by decide +kernel
theorem dX5_isOnBoard_22 : decode cX5_isOnBoard 22 = .ok (.aload_n 0, 1) := by decide +kernel
theorem dX5_isOnBoard_23 : decode cX5_isOnBoard 23 = .ok (.getfield 71, 3) := by decide +kernel
theorem dX5_isOnBoard_26 : decode cX5_isOnBoard 26 = .ok (.lcmp, 1) := by decide +kernel
theorem dX5_isOnBoard_27 : decode cX5_isOnBoard 27 = .ok (.ifCond .gt (52), 3) := by decide +kernel
theorem dX5_isOnBoard_30 : decode cX5_isOnBoard 30 = .ok (.aload_n 0, 1) := by decide +kernel
theorem dX5_isOnBoard_31 : decode cX5_isOnBoard 31 = .ok (.iload_n 1, 1) := by decide +kernel
theorem dX5_isOnBoard_32 : decode cX5_isOnBoard 32 = .ok (.iload_n 2, 1) := by decide +kernel
theorem dX5_isOnBoard_33 : decode cX5_isOnBoard 33 = .ok (.invokevirtual 103, 3) := by decide +kernel
theorem dX5_isOnBoard_36 : decode cX5_isOnBoard 36 = .ok (.aload_n 0, 1) := by decide +kernel
theorem dX5_isOnBoard_37 : decode cX5_isOnBoard 37 = .ok (.getfield 71, 3) := by decide +kernel
theorem dX5_isOnBoard_40 : decode cX5_isOnBoard 40 = .ok (.lcmp, 1) := by decide +kernel
theorem dX5_isOnBoard_41 : decode cX5_isOnBoard 41 = .ok (.ifCond .gt (38), 3) := by decide +kernel
theorem dX5_isOnBoard_44 : decode cX5_isOnBoard 44 = .ok (.lload 5, 2) := by decide +kernel
theorem dX5_isOnBoard_46 : decode cX5_isOnBoard 46 = .ok (.lconst 0, 1) := by decide +kernel
theorem dX5_isOnBoard_47 : decode cX5_isOnBoard 47 = .ok (.lcmp, 1) := by decide +kernel
theorem dX5_isOnBoard_48 : decode cX5_isOnBoard 48 = .ok (.ifCond .lt (31), 3) := by decide +kernel
theorem dX5_isOnBoard_51 : decode cX5_isOnBoard 51 = .ok (.lload 5, 2) := by decide +kernel
theorem dX5_isOnBoard_53 : decode cX5_isOnBoard 53 = .ok (.aload_n 0, 1) := by decide +kernel
theorem dX5_isOnBoard_54 : decode cX5_isOnBoard 54 = .ok (.getfield 75, 3) := by decide +kernel
theorem dX5_isOnBoard_57 : decode cX5_isOnBoard 57 = .ok (.lcmp, 1) := by decide +kernel
theorem dX5_isOnBoard_58 : decode cX5_isOnBoard 58 = .ok (.ifCond .gt (21), 3) := by decide +kernel
theorem dX5_isOnBoard_61 : decode cX5_isOnBoard 61 = .ok (.aload_n 0, 1) := by decide +kernel
theorem dX5_isOnBoard_62 : decode cX5_isOnBoard 62 = .ok (.iload_n 1, 1) := by decide +kernel
theorem dX5_isOnBoard_63 : decode cX5_isOnBoard 63 = .ok (.iload_n 2, 1) := by decide +kernel
theorem dX5_isOnBoard_64 : decode cX5_isOnBoard 64 = .ok (.invokevirtual 106, 3) := by decide +kernel
theorem dX5_isOnBoard_67 : decode cX5_isOnBoard 67 = .ok (.aload_n 0, 1) := by decide +kernel
theorem dX5_isOnBoard_68 : decode cX5_isOnBoard 68 = .ok (.getfield 75, 3) := by decide +kernel
theorem dX5_isOnBoard_71 : decode cX5_isOnBoard 71 = .ok (.lcmp, 1) := by decide +kernel
theorem dX5_isOnBoard_72 : decode cX5_isOnBoard 72 = .ok (.ifCond .gt (7), 3) := by decide +kernel
theorem dX5_isOnBoard_75 : decode cX5_isOnBoard 75 = .ok (.iconst 1, 1) := by decide +kernel
theorem dX5_isOnBoard_76 : decode cX5_isOnBoard 76 = .ok (.goto (4), 3) := by decide +kernel
theorem dX5_isOnBoard_79 : decode cX5_isOnBoard 79 = .ok (.iconst 0, 1) := by decide +kernel
theorem dX5_isOnBoard_80 : decode cX5_isOnBoard 80 = .ok (.ireturn, 1) := by decide +kernel
abbrev cX5_isKeptOut : ByteArray := prog_7_method_13_code
def yX5_isKeptOut : MethodName := ⟨RX5, "isKeptOut", "(II)Z"⟩
def wsX5_isKeptOut : List Cond := .code yX5_isKeptOut cX5_isKeptOut 6 (some .boolean) :: bT
theorem dX5_isKeptOut_0 : decode cX5_isKeptOut 0 = .ok (.iconst 0, 1) := by decide +kernel
theorem dX5_isKeptOut_1 : decode cX5_isKeptOut 1 = .ok (.istore_n 3, 1) := by decide +kernel
theorem dX5_isKeptOut_2 : decode cX5_isKeptOut 2 = .ok (.iconst 0, 1) := by decide +kernel
theorem dX5_isKeptOut_3 : decode cX5_isKeptOut 3 = .ok (.istore 4, 2) := by decide +kernel
theorem dX5_isKeptOut_5 : decode cX5_isKeptOut 5 = .ok (.iload 4, 2) := by decide +kernel
theorem dX5_isKeptOut_7 : decode cX5_isKeptOut 7 = .ok (.iconst 5, 1) := by decide +kernel
theorem dX5_isKeptOut_8 : decode cX5_isKeptOut 8 = .ok (.aload_n 0, 1) := by decide +kernel
theorem dX5_isKeptOut_9 : decode cX5_isKeptOut 9 = .ok (.getfield 109, 3) := by decide +kernel
theorem dX5_isKeptOut_12 : decode cX5_isKeptOut 12 = .ok (.imul, 1) := by decide +kernel
theorem dX5_isKeptOut_13 : decode cX5_isKeptOut 13 = .ok (.if_icmp .ge (124), 3) := by decide +kernel
theorem dX5_isKeptOut_16 : decode cX5_isKeptOut 16 = .ok (.aload_n 0, 1) := by decide +kernel
theorem dX5_isKeptOut_17 : decode cX5_isKeptOut 17 = .ok (.iload_n 1, 1) := by decide +kernel
theorem dX5_isKeptOut_18 : decode cX5_isKeptOut 18 = .ok (.iload_n 2, 1) := by decide +kernel
theorem dX5_isKeptOut_19 : decode cX5_isKeptOut 19 = .ok (.invokevirtual 92, 3) := by decide +kernel
theorem dX5_isKeptOut_22 : decode cX5_isKeptOut 22 = .ok (.aload_n 0, 1) := by decide +kernel
theorem dX5_isKeptOut_23 : decode cX5_isKeptOut 23 = .ok (.getfield 42, 3) := by decide +kernel
theorem dX5_isKeptOut_26 : decode cX5_isKeptOut 26 = .ok (.iload 4, 2) := by decide +kernel
theorem dX5_isKeptOut_28 : decode cX5_isKeptOut 28 = .ok (.iconst 2, 1) := by decide +kernel
theorem dX5_isKeptOut_29 : decode cX5_isKeptOut 29 = .ok (.iadd, 1) := by decide +kernel
theorem dX5_isKeptOut_30 : decode cX5_isKeptOut 30 = .ok (.laload, 1) := by decide +kernel
theorem dX5_isKeptOut_31 : decode cX5_isKeptOut 31 = .ok (.lcmp, 1) := by decide +kernel
theorem dX5_isKeptOut_32 : decode cX5_isKeptOut 32 = .ok (.ifCond .ge (62), 3) := by decide +kernel
theorem dX5_isKeptOut_35 : decode cX5_isKeptOut 35 = .ok (.aload_n 0, 1) := by decide +kernel
theorem dX5_isKeptOut_36 : decode cX5_isKeptOut 36 = .ok (.getfield 42, 3) := by decide +kernel
theorem dX5_isKeptOut_39 : decode cX5_isKeptOut 39 = .ok (.iload 4, 2) := by decide +kernel
theorem dX5_isKeptOut_41 : decode cX5_isKeptOut 41 = .ok (.laload, 1) := by decide +kernel
theorem dX5_isKeptOut_42 : decode cX5_isKeptOut 42 = .ok (.aload_n 0, 1) := by decide +kernel
theorem dX5_isKeptOut_43 : decode cX5_isKeptOut 43 = .ok (.iload_n 1, 1) := by decide +kernel
theorem dX5_isKeptOut_44 : decode cX5_isKeptOut 44 = .ok (.iload_n 2, 1) := by decide +kernel
theorem dX5_isKeptOut_45 : decode cX5_isKeptOut 45 = .ok (.invokevirtual 103, 3) := by decide +kernel
theorem dX5_isKeptOut_48 : decode cX5_isKeptOut 48 = .ok (.lcmp, 1) := by decide +kernel
theorem dX5_isKeptOut_49 : decode cX5_isKeptOut 49 = .ok (.ifCond .ge (45), 3) := by decide +kernel
theorem dX5_isKeptOut_52 : decode cX5_isKeptOut 52 = .ok (.aload_n 0, 1) := by decide +kernel
theorem dX5_isKeptOut_53 : decode cX5_isKeptOut 53 = .ok (.iload_n 1, 1) := by decide +kernel
theorem dX5_isKeptOut_54 : decode cX5_isKeptOut 54 = .ok (.iload_n 2, 1) := by decide +kernel
theorem dX5_isKeptOut_55 : decode cX5_isKeptOut 55 = .ok (.invokevirtual 100, 3) := by decide +kernel
theorem dX5_isKeptOut_58 : decode cX5_isKeptOut 58 = .ok (.aload_n 0, 1) := by decide +kernel
theorem dX5_isKeptOut_59 : decode cX5_isKeptOut 59 = .ok (.getfield 42, 3) := by decide +kernel
theorem dX5_isKeptOut_62 : decode cX5_isKeptOut 62 = .ok (.iload 4, 2) := by decide +kernel
theorem dX5_isKeptOut_64 : decode cX5_isKeptOut 64 = .ok (.iconst 3, 1) := by decide +kernel
theorem dX5_isKeptOut_65 : decode cX5_isKeptOut 65 = .ok (.iadd, 1) := by decide +kernel
theorem dX5_isKeptOut_66 : decode cX5_isKeptOut 66 = .ok (.laload, 1) := by decide +kernel
theorem dX5_isKeptOut_67 : decode cX5_isKeptOut 67 = .ok (.lcmp, 1) := by decide +kernel
theorem dX5_isKeptOut_68 : decode cX5_isKeptOut 68 = .ok (.ifCond .ge (26), 3) := by decide +kernel
theorem dX5_isKeptOut_71 : decode cX5_isKeptOut 71 = .ok (.aload_n 0, 1) := by decide +kernel
theorem dX5_isKeptOut_72 : decode cX5_isKeptOut 72 = .ok (.getfield 42, 3) := by decide +kernel
theorem dX5_isKeptOut_75 : decode cX5_isKeptOut 75 = .ok (.iload 4, 2) := by decide +kernel
theorem dX5_isKeptOut_77 : decode cX5_isKeptOut 77 = .ok (.iconst 1, 1) := by decide +kernel
theorem dX5_isKeptOut_78 : decode cX5_isKeptOut 78 = .ok (.iadd, 1) := by decide +kernel
theorem dX5_isKeptOut_79 : decode cX5_isKeptOut 79 = .ok (.laload, 1) := by decide +kernel
theorem dX5_isKeptOut_80 : decode cX5_isKeptOut 80 = .ok (.aload_n 0, 1) := by decide +kernel
theorem dX5_isKeptOut_81 : decode cX5_isKeptOut 81 = .ok (.iload_n 1, 1) := by decide +kernel
theorem dX5_isKeptOut_82 : decode cX5_isKeptOut 82 = .ok (.iload_n 2, 1) := by decide +kernel
theorem dX5_isKeptOut_83 : decode cX5_isKeptOut 83 = .ok (.invokevirtual 106, 3) := by decide +kernel
theorem dX5_isKeptOut_86 : decode cX5_isKeptOut 86 = .ok (.lcmp, 1) := by decide +kernel
theorem dX5_isKeptOut_87 : decode cX5_isKeptOut 87 = .ok (.ifCond .ge (7), 3) := by decide +kernel
theorem dX5_isKeptOut_90 : decode cX5_isKeptOut 90 = .ok (.iconst 1, 1) := by decide +kernel
theorem dX5_isKeptOut_91 : decode cX5_isKeptOut 91 = .ok (.goto (4), 3) := by decide +kernel
theorem dX5_isKeptOut_94 : decode cX5_isKeptOut 94 = .ok (.iconst 0, 1) := by decide +kernel
theorem dX5_isKeptOut_95 : decode cX5_isKeptOut 95 = .ok (.istore 5, 2) := by decide +kernel
theorem dX5_isKeptOut_97 : decode cX5_isKeptOut 97 = .ok (.iload_n 3, 1) := by decide +kernel
theorem dX5_isKeptOut_98 : decode cX5_isKeptOut 98 = .ok (.ifCond .ne (27), 3) := by decide +kernel
theorem dX5_isKeptOut_101 : decode cX5_isKeptOut 101 = .ok (.iload 5, 2) := by decide +kernel
theorem dX5_isKeptOut_103 : decode cX5_isKeptOut 103 = .ok (.ifCond .eq (26), 3) := by decide +kernel
theorem dX5_isKeptOut_106 : decode cX5_isKeptOut 106 = .ok (.aload_n 0, 1) := by decide +kernel
theorem dX5_isKeptOut_107 : decode cX5_isKeptOut 107 = .ok (.getfield 20, 3) := by decide +kernel
theorem dX5_isKeptOut_110 : decode cX5_isKeptOut 110 = .ok (.iload_n 2, 1) := by decide +kernel
theorem dX5_isKeptOut_111 : decode cX5_isKeptOut 111 = .ok (.laload, 1) := by decide +kernel
theorem dX5_isKeptOut_112 : decode cX5_isKeptOut 112 = .ok (.aload_n 0, 1) := by decide +kernel
theorem dX5_isKeptOut_113 : decode cX5_isKeptOut 113 = .ok (.getfield 42, 3) := by decide +kernel
theorem dX5_isKeptOut_116 : decode cX5_isKeptOut 116 = .ok (.iload 4, 2) := by decide +kernel
theorem dX5_isKeptOut_118 : decode cX5_isKeptOut 118 = .ok (.iconst 4, 1) := by decide +kernel
theorem dX5_isKeptOut_119 : decode cX5_isKeptOut 119 = .ok (.iadd, 1) := by decide +kernel
theorem dX5_isKeptOut_120 : decode cX5_isKeptOut 120 = .ok (.laload, 1) := by decide +kernel
theorem dX5_isKeptOut_121 : decode cX5_isKeptOut 121 = .ok (.lcmp, 1) := by decide +kernel
theorem dX5_isKeptOut_122 : decode cX5_isKeptOut 122 = .ok (.ifCond .le (7), 3) := by decide +kernel
theorem dX5_isKeptOut_125 : decode cX5_isKeptOut 125 = .ok (.iconst 1, 1) := by decide +kernel
theorem dX5_isKeptOut_126 : decode cX5_isKeptOut 126 = .ok (.goto (4), 3) := by decide +kernel
theorem dX5_isKeptOut_129 : decode cX5_isKeptOut 129 = .ok (.iconst 0, 1) := by decide +kernel
theorem dX5_isKeptOut_130 : decode cX5_isKeptOut 130 = .ok (.istore_n 3, 1) := by decide +kernel
theorem dX5_isKeptOut_131 : decode cX5_isKeptOut 131 = .ok (.iinc 4 5, 3) := by decide +kernel
theorem dX5_isKeptOut_134 : decode cX5_isKeptOut 134 = .ok (.goto (-129), 3) := by decide +kernel
theorem dX5_isKeptOut_137 : decode cX5_isKeptOut 137 = .ok (.iload_n 3, 1) := by decide +kernel
theorem dX5_isKeptOut_138 : decode cX5_isKeptOut 138 = .ok (.ireturn, 1) := by decide +kernel
abbrev cX5_gap : ByteArray := prog_7_method_14_code
def yX5_gap : MethodName := ⟨RX5, "gap", "(JJJJ)J"⟩
def wsX5_gap : List Cond := .code yX5_gap cX5_gap 8 (some .long) :: bT
theorem dX5_gap_0 : decode cX5_gap 0 = .ok (.lload 4, 2) := by decide +kernel
theorem dX5_gap_2 : decode cX5_gap 2 = .ok (.lload_n 2, 1) := by decide +kernel
theorem dX5_gap_3 : decode cX5_gap 3 = .ok (.lcmp, 1) := by decide +kernel
theorem dX5_gap_4 : decode cX5_gap 4 = .ok (.ifCond .le (10), 3) := by decide +kernel
theorem dX5_gap_7 : decode cX5_gap 7 = .ok (.lload 4, 2) := by decide +kernel
theorem dX5_gap_9 : decode cX5_gap 9 = .ok (.lload_n 2, 1) := by decide +kernel
theorem dX5_gap_10 : decode cX5_gap 10 = .ok (.lsub, 1) := by decide +kernel
theorem dX5_gap_11 : decode cX5_gap 11 = .ok (.goto (18), 3) := by decide +kernel
theorem dX5_gap_14 : decode cX5_gap 14 = .ok (.lload_n 0, 1) := by decide +kernel
theorem dX5_gap_15 : decode cX5_gap 15 = .ok (.lload 6, 2) := by decide +kernel
theorem dX5_gap_17 : decode cX5_gap 17 = .ok (.lcmp, 1) := by decide +kernel
theorem dX5_gap_18 : decode cX5_gap 18 = .ok (.ifCond .le (10), 3) := by decide +kernel
theorem dX5_gap_21 : decode cX5_gap 21 = .ok (.lload_n 0, 1) := by decide +kernel
theorem dX5_gap_22 : decode cX5_gap 22 = .ok (.lload 6, 2) := by decide +kernel
theorem dX5_gap_24 : decode cX5_gap 24 = .ok (.lsub, 1) := by decide +kernel
theorem dX5_gap_25 : decode cX5_gap 25 = .ok (.goto (4), 3) := by decide +kernel
theorem dX5_gap_28 : decode cX5_gap 28 = .ok (.lconst 0, 1) := by decide +kernel
theorem dX5_gap_29 : decode cX5_gap 29 = .ok (.lreturn, 1) := by decide +kernel
abbrev cX5_isNear : ByteArray := prog_7_method_15_code
def yX5_isNear : MethodName := ⟨RX5, "isNear", "(II)Z"⟩
def wsX5_isNear : List Cond := .code yX5_isNear cX5_isNear 5 (some .boolean) :: bT
theorem dX5_isNear_0 : decode cX5_isNear 0 = .ok (.aload_n 0, 1) := by decide +kernel
theorem dX5_isNear_1 : decode cX5_isNear 1 = .ok (.getfield 45, 3) := by decide +kernel
theorem dX5_isNear_4 : decode cX5_isNear 4 = .ok (.iload_n 2, 1) := by decide +kernel
theorem dX5_isNear_5 : decode cX5_isNear 5 = .ok (.iaload, 1) := by decide +kernel
theorem dX5_isNear_6 : decode cX5_isNear 6 = .ok (.istore_n 3, 1) := by decide +kernel
theorem dX5_isNear_7 : decode cX5_isNear 7 = .ok (.aload_n 0, 1) := by decide +kernel
theorem dX5_isNear_8 : decode cX5_isNear 8 = .ok (.getfield 48, 3) := by decide +kernel
theorem dX5_isNear_11 : decode cX5_isNear 11 = .ok (.iload_n 2, 1) := by decide +kernel
theorem dX5_isNear_12 : decode cX5_isNear 12 = .ok (.iaload, 1) := by decide +kernel
theorem dX5_isNear_13 : decode cX5_isNear 13 = .ok (.istore 4, 2) := by decide +kernel
theorem dX5_isNear_15 : decode cX5_isNear 15 = .ok (.aload_n 0, 1) := by decide +kernel
theorem dX5_isNear_16 : decode cX5_isNear 16 = .ok (.getfield 30, 3) := by decide +kernel
theorem dX5_isNear_19 : decode cX5_isNear 19 = .ok (.iload_n 3, 1) := by decide +kernel
theorem dX5_isNear_20 : decode cX5_isNear 20 = .ok (.baload, 1) := by decide +kernel
theorem dX5_isNear_21 : decode cX5_isNear 21 = .ok (.ifCond .eq (13), 3) := by decide +kernel
theorem dX5_isNear_24 : decode cX5_isNear 24 = .ok (.aload_n 0, 1) := by decide +kernel
theorem dX5_isNear_25 : decode cX5_isNear 25 = .ok (.getfield 30, 3) := by decide +kernel
theorem dX5_isNear_28 : decode cX5_isNear 28 = .ok (.iload 4, 2) := by decide +kernel
theorem dX5_isNear_30 : decode cX5_isNear 30 = .ok (.baload, 1) := by decide +kernel
theorem dX5_isNear_31 : decode cX5_isNear 31 = .ok (.ifCond .ne (5), 3) := by decide +kernel
theorem dX5_isNear_34 : decode cX5_isNear 34 = .ok (.iconst 1, 1) := by decide +kernel
theorem dX5_isNear_35 : decode cX5_isNear 35 = .ok (.ireturn, 1) := by decide +kernel
theorem dX5_isNear_36 : decode cX5_isNear 36 = .ok (.aload_n 0, 1) := by decide +kernel
theorem dX5_isNear_37 : decode cX5_isNear 37 = .ok (.iload_n 1, 1) := by decide +kernel
theorem dX5_isNear_38 : decode cX5_isNear 38 = .ok (.iload_n 3, 1) := by decide +kernel
theorem dX5_isNear_39 : decode cX5_isNear 39 = .ok (.invokevirtual 92, 3) := by decide +kernel
theorem dX5_isNear_42 : decode cX5_isNear 42 = .ok (.aload_n 0, 1) := by decide +kernel
theorem dX5_isNear_43 : decode cX5_isNear 43 = .ok (.iload_n 1, 1) := by decide +kernel
theorem dX5_isNear_44 : decode cX5_isNear 44 = .ok (.iload_n 3, 1) := by decide +kernel
theorem dX5_isNear_45 : decode cX5_isNear 45 = .ok (.invokevirtual 103, 3) := by decide +kernel
theorem dX5_isNear_48 : decode cX5_isNear 48 = .ok (.aload_n 0, 1) := by decide +kernel
theorem dX5_isNear_49 : decode cX5_isNear 49 = .ok (.iload_n 1, 1) := by decide +kernel
theorem dX5_isNear_50 : decode cX5_isNear 50 = .ok (.iload 4, 2) := by decide +kernel
theorem dX5_isNear_52 : decode cX5_isNear 52 = .ok (.invokevirtual 92, 3) := by decide +kernel
theorem dX5_isNear_55 : decode cX5_isNear 55 = .ok (.aload_n 0, 1) := by decide +kernel
theorem dX5_isNear_56 : decode cX5_isNear 56 = .ok (.iload_n 1, 1) := by decide +kernel
theorem dX5_isNear_57 : decode cX5_isNear 57 = .ok (.iload 4, 2) := by decide +kernel
theorem dX5_isNear_59 : decode cX5_isNear 59 = .ok (.invokevirtual 103, 3) := by decide +kernel
theorem dX5_isNear_62 : decode cX5_isNear 62 = .ok (.invokestatic 112, 3) := by decide +kernel
theorem dX5_isNear_65 : decode cX5_isNear 65 = .ok (.aload_n 0, 1) := by decide +kernel
theorem dX5_isNear_66 : decode cX5_isNear 66 = .ok (.iload_n 1, 1) := by decide +kernel
theorem dX5_isNear_67 : decode cX5_isNear 67 = .ok (.iload_n 3, 1) := by decide +kernel
theorem dX5_isNear_68 : decode cX5_isNear 68 = .ok (.invokevirtual 100, 3) := by decide +kernel
theorem dX5_isNear_71 : decode cX5_isNear 71 = .ok (.aload_n 0, 1) := by decide +kernel
theorem dX5_isNear_72 : decode cX5_isNear 72 = .ok (.iload_n 1, 1) := by decide +kernel
theorem dX5_isNear_73 : decode cX5_isNear 73 = .ok (.iload_n 3, 1) := by decide +kernel
theorem dX5_isNear_74 : decode cX5_isNear 74 = .ok (.invokevirtual 106, 3) := by decide +kernel
theorem dX5_isNear_77 : decode cX5_isNear 77 = .ok (.aload_n 0, 1) := by decide +kernel
theorem dX5_isNear_78 : decode cX5_isNear 78 = .ok (.iload_n 1, 1) := by decide +kernel
theorem dX5_isNear_79 : decode cX5_isNear 79 = .ok (.iload 4, 2) := by decide +kernel
theorem dX5_isNear_81 : decode cX5_isNear 81 = .ok (.invokevirtual 100, 3) := by decide +kernel
theorem dX5_isNear_84 : decode cX5_isNear 84 = .ok (.aload_n 0, 1) := by decide +kernel
theorem dX5_isNear_85 : decode cX5_isNear 85 = .ok (.iload_n 1, 1) := by decide +kernel
theorem dX5_isNear_86 : decode cX5_isNear 86 = .ok (.iload 4, 2) := by decide +kernel
theorem dX5_isNear_88 : decode cX5_isNear 88 = .ok (.invokevirtual 106, 3) := by decide +kernel
theorem dX5_isNear_91 : decode cX5_isNear 91 = .ok (.invokestatic 112, 3) := by decide +kernel
theorem dX5_isNear_94 : decode cX5_isNear 94 = .ok (.ladd, 1) := by decide +kernel
theorem dX5_isNear_95 : decode cX5_isNear 95 = .ok (.aload_n 0, 1) := by decide +kernel
theorem dX5_isNear_96 : decode cX5_isNear 96 = .ok (.getfield 51, 3) := by decide +kernel
theorem dX5_isNear_99 : decode cX5_isNear 99 = .ok (.iload_n 2, 1) := by decide +kernel
theorem dX5_isNear_100 : decode cX5_isNear 100 = .ok (.laload, 1) := by decide +kernel
theorem dX5_isNear_101 : decode cX5_isNear 101 = .ok (.lcmp, 1) := by decide +kernel
theorem dX5_isNear_102 : decode cX5_isNear 102 = .ok (.ifCond .gt (7), 3) := by decide +kernel
theorem dX5_isNear_105 : decode cX5_isNear 105 = .ok (.iconst 1, 1) := by decide +kernel
theorem dX5_isNear_106 : decode cX5_isNear 106 = .ok (.goto (4), 3) := by decide +kernel
theorem dX5_isNear_109 : decode cX5_isNear 109 = .ok (.iconst 0, 1) := by decide +kernel
theorem dX5_isNear_110 : decode cX5_isNear 110 = .ok (.ireturn, 1) := by decide +kernel
abbrev cX5_isWell : ByteArray := prog_7_method_16_code
def yX5_isWell : MethodName := ⟨RX5, "isWell", "(I)Z"⟩
def wsX5_isWell : List Cond := .code yX5_isWell cX5_isWell 4 (some .boolean) :: bT
theorem dX5_isWell_0 : decode cX5_isWell 0 = .ok (.iconst 0, 1) := by decide +kernel
theorem dX5_isWell_1 : decode cX5_isWell 1 = .ok (.istore_n 2, 1) := by decide +kernel
theorem dX5_isWell_2 : decode cX5_isWell 2 = .ok (.iload_n 2, 1) := by decide +kernel
theorem dX5_isWell_3 : decode cX5_isWell 3 = .ok (.aload_n 0, 1) := by decide +kernel
theorem dX5_isWell_4 : decode cX5_isWell 4 = .ok (.getfield 85, 3) := by decide +kernel
theorem dX5_isWell_7 : decode cX5_isWell 7 = .ok (.if_icmp .ge (90), 3) := by decide +kernel
theorem dX5_isWell_10 : decode cX5_isWell 10 = .ok (.aload_n 0, 1) := by decide +kernel
theorem dX5_isWell_11 : decode cX5_isWell 11 = .ok (.getfield 30, 3) := by decide +kernel
theorem dX5_isWell_14 : decode cX5_isWell 14 = .ok (.iload_n 2, 1) := by decide +kernel
theorem dX5_isWell_15 : decode cX5_isWell 15 = .ok (.baload, 1) := by decide +kernel
theorem dX5_isWell_16 : decode cX5_isWell 16 = .ok (.ifCond .ne (6), 3) := by decide +kernel
theorem dX5_isWell_19 : decode cX5_isWell 19 = .ok (.goto (72), 3) := by decide +kernel
theorem dX5_isWell_22 : decode cX5_isWell 22 = .ok (.aload_n 0, 1) := by decide +kernel
theorem dX5_isWell_23 : decode cX5_isWell 23 = .ok (.iload_n 1, 1) := by decide +kernel
theorem dX5_isWell_24 : decode cX5_isWell 24 = .ok (.iload_n 2, 1) := by decide +kernel
theorem dX5_isWell_25 : decode cX5_isWell 25 = .ok (.invokevirtual 116, 3) := by decide +kernel
theorem dX5_isWell_28 : decode cX5_isWell 28 = .ok (.ifCond .eq (12), 3) := by decide +kernel
theorem dX5_isWell_31 : decode cX5_isWell 31 = .ok (.aload_n 0, 1) := by decide +kernel
theorem dX5_isWell_32 : decode cX5_isWell 32 = .ok (.iload_n 1, 1) := by decide +kernel
theorem dX5_isWell_33 : decode cX5_isWell 33 = .ok (.iload_n 2, 1) := by decide +kernel
theorem dX5_isWell_34 : decode cX5_isWell 34 = .ok (.invokevirtual 119, 3) := by decide +kernel
theorem dX5_isWell_37 : decode cX5_isWell 37 = .ok (.ifCond .eq (5), 3) := by decide +kernel
theorem dX5_isWell_40 : decode cX5_isWell 40 = .ok (.iconst 0, 1) := by decide +kernel
theorem dX5_isWell_41 : decode cX5_isWell 41 = .ok (.ireturn, 1) := by decide +kernel
theorem dX5_isWell_42 : decode cX5_isWell 42 = .ok (.iconst 0, 1) := by decide +kernel
theorem dX5_isWell_43 : decode cX5_isWell 43 = .ok (.istore_n 3, 1) := by decide +kernel
theorem dX5_isWell_44 : decode cX5_isWell 44 = .ok (.iload_n 3, 1) := by decide +kernel
theorem dX5_isWell_45 : decode cX5_isWell 45 = .ok (.iload_n 2, 1) := by decide +kernel
theorem dX5_isWell_46 : decode cX5_isWell 46 = .ok (.if_icmp .ge (45), 3) := by decide +kernel
theorem dX5_isWell_49 : decode cX5_isWell 49 = .ok (.aload_n 0, 1) := by decide +kernel
theorem dX5_isWell_50 : decode cX5_isWell 50 = .ok (.getfield 30, 3) := by decide +kernel
theorem dX5_isWell_53 : decode cX5_isWell 53 = .ok (.iload_n 3, 1) := by decide +kernel
theorem dX5_isWell_54 : decode cX5_isWell 54 = .ok (.baload, 1) := by decide +kernel
theorem dX5_isWell_55 : decode cX5_isWell 55 = .ok (.ifCond .eq (30), 3) := by decide +kernel
theorem dX5_isWell_58 : decode cX5_isWell 58 = .ok (.aload_n 0, 1) := by decide +kernel
theorem dX5_isWell_59 : decode cX5_isWell 59 = .ok (.getfield 16, 3) := by decide +kernel
theorem dX5_isWell_62 : decode cX5_isWell 62 = .ok (.iload_n 2, 1) := by decide +kernel
theorem dX5_isWell_63 : decode cX5_isWell 63 = .ok (.iaload, 1) := by decide +kernel
theorem dX5_isWell_64 : decode cX5_isWell 64 = .ok (.aload_n 0, 1) := by decide +kernel
theorem dX5_isWell_65 : decode cX5_isWell 65 = .ok (.getfield 16, 3) := by decide +kernel
theorem dX5_isWell_68 : decode cX5_isWell 68 = .ok (.iload_n 3, 1) := by decide +kernel
theorem dX5_isWell_69 : decode cX5_isWell 69 = .ok (.iaload, 1) := by decide +kernel
theorem dX5_isWell_70 : decode cX5_isWell 70 = .ok (.if_icmp .ne (15), 3) := by decide +kernel
theorem dX5_isWell_73 : decode cX5_isWell 73 = .ok (.aload_n 0, 1) := by decide +kernel
theorem dX5_isWell_74 : decode cX5_isWell 74 = .ok (.iload_n 1, 1) := by decide +kernel
theorem dX5_isWell_75 : decode cX5_isWell 75 = .ok (.iload_n 2, 1) := by decide +kernel
theorem dX5_isWell_76 : decode cX5_isWell 76 = .ok (.iload_n 3, 1) := by decide +kernel
theorem dX5_isWell_77 : decode cX5_isWell 77 = .ok (.invokevirtual 122, 3) := by decide +kernel
theorem dX5_isWell_80 : decode cX5_isWell 80 = .ok (.ifCond .eq (5), 3) := by decide +kernel
theorem dX5_isWell_83 : decode cX5_isWell 83 = .ok (.iconst 0, 1) := by decide +kernel
theorem dX5_isWell_84 : decode cX5_isWell 84 = .ok (.ireturn, 1) := by decide +kernel
theorem dX5_isWell_85 : decode cX5_isWell 85 = .ok (.iinc 3 1, 3) := by decide +kernel
theorem dX5_isWell_88 : decode cX5_isWell 88 = .ok (.goto (-44), 3) := by decide +kernel
theorem dX5_isWell_91 : decode cX5_isWell 91 = .ok (.iinc 2 1, 3) := by decide +kernel
theorem dX5_isWell_94 : decode cX5_isWell 94 = .ok (.goto (-92), 3) := by decide +kernel
theorem dX5_isWell_97 : decode cX5_isWell 97 = .ok (.iconst 1, 1) := by decide +kernel
theorem dX5_isWell_98 : decode cX5_isWell 98 = .ok (.istore_n 2, 1) := by decide +kernel
theorem dX5_isWell_99 : decode cX5_isWell 99 = .ok (.iconst 0, 1) := by decide +kernel
theorem dX5_isWell_100 : decode cX5_isWell 100 = .ok (.istore_n 3, 1) := by decide +kernel
theorem dX5_isWell_101 : decode cX5_isWell 101 = .ok (.iload_n 3, 1) := by decide +kernel
theorem dX5_isWell_102 : decode cX5_isWell 102 = .ok (.aload_n 0, 1) := by decide +kernel
theorem dX5_isWell_103 : decode cX5_isWell 103 = .ok (.getfield 126, 3) := by decide +kernel
theorem dX5_isWell_106 : decode cX5_isWell 106 = .ok (.if_icmp .ge (28), 3) := by decide +kernel
theorem dX5_isWell_109 : decode cX5_isWell 109 = .ok (.iload_n 2, 1) := by decide +kernel
theorem dX5_isWell_110 : decode cX5_isWell 110 = .ok (.ifCond .eq (16), 3) := by decide +kernel
theorem dX5_isWell_113 : decode cX5_isWell 113 = .ok (.aload_n 0, 1) := by decide +kernel
theorem dX5_isWell_114 : decode cX5_isWell 114 = .ok (.iload_n 1, 1) := by decide +kernel
theorem dX5_isWell_115 : decode cX5_isWell 115 = .ok (.iload_n 3, 1) := by decide +kernel
theorem dX5_isWell_116 : decode cX5_isWell 116 = .ok (.invokevirtual 129, 3) := by decide +kernel
theorem dX5_isWell_119 : decode cX5_isWell 119 = .ok (.ifCond .eq (7), 3) := by decide +kernel
theorem dX5_isWell_122 : decode cX5_isWell 122 = .ok (.iconst 1, 1) := by decide +kernel
theorem dX5_isWell_123 : decode cX5_isWell 123 = .ok (.goto (4), 3) := by decide +kernel
theorem dX5_isWell_126 : decode cX5_isWell 126 = .ok (.iconst 0, 1) := by decide +kernel
theorem dX5_isWell_127 : decode cX5_isWell 127 = .ok (.istore_n 2, 1) := by decide +kernel
theorem dX5_isWell_128 : decode cX5_isWell 128 = .ok (.iinc 3 1, 3) := by decide +kernel
theorem dX5_isWell_131 : decode cX5_isWell 131 = .ok (.goto (-30), 3) := by decide +kernel
theorem dX5_isWell_134 : decode cX5_isWell 134 = .ok (.iload_n 2, 1) := by decide +kernel
theorem dX5_isWell_135 : decode cX5_isWell 135 = .ok (.ireturn, 1) := by decide +kernel
abbrev cX5_copy : ByteArray := prog_7_method_17_code
def yX5_copy : MethodName := ⟨RX5, "copy", "(II)V"⟩
def wsX5_copy : List Cond := .code yX5_copy cX5_copy 4 none :: bT
theorem dX5_copy_0 : decode cX5_copy 0 = .ok (.iconst 0, 1) := by decide +kernel
theorem dX5_copy_1 : decode cX5_copy 1 = .ok (.istore_n 3, 1) := by decide +kernel
theorem dX5_copy_2 : decode cX5_copy 2 = .ok (.iload_n 3, 1) := by decide +kernel
theorem dX5_copy_3 : decode cX5_copy 3 = .ok (.bipush 40, 2) := by decide +kernel
theorem dX5_copy_5 : decode cX5_copy 5 = .ok (.if_icmp .ge (75), 3) := by decide +kernel
theorem dX5_copy_8 : decode cX5_copy 8 = .ok (.aload_n 0, 1) := by decide +kernel
theorem dX5_copy_9 : decode cX5_copy 9 = .ok (.getfield 33, 3) := by decide +kernel
theorem dX5_copy_12 : decode cX5_copy 12 = .ok (.bipush 40, 2) := by decide +kernel
theorem dX5_copy_14 : decode cX5_copy 14 = .ok (.iload_n 1, 1) := by decide +kernel
theorem dX5_copy_15 : decode cX5_copy 15 = .ok (.imul, 1) := by decide +kernel
theorem dX5_copy_16 : decode cX5_copy 16 = .ok (.iload_n 3, 1) := by decide +kernel
theorem dX5_copy_17 : decode cX5_copy 17 = .ok (.iadd, 1) := by decide +kernel
theorem dX5_copy_18 : decode cX5_copy 18 = .ok (.aload_n 0, 1) := by decide +kernel
theorem dX5_copy_19 : decode cX5_copy 19 = .ok (.getfield 33, 3) := by decide +kernel
theorem dX5_copy_22 : decode cX5_copy 22 = .ok (.bipush 40, 2) := by decide +kernel
theorem dX5_copy_24 : decode cX5_copy 24 = .ok (.iload_n 2, 1) := by decide +kernel
theorem dX5_copy_25 : decode cX5_copy 25 = .ok (.imul, 1) := by decide +kernel
theorem dX5_copy_26 : decode cX5_copy 26 = .ok (.iload_n 3, 1) := by decide +kernel
theorem dX5_copy_27 : decode cX5_copy 27 = .ok (.iadd, 1) := by decide +kernel
theorem dX5_copy_28 : decode cX5_copy 28 = .ok (.laload, 1) := by decide +kernel
theorem dX5_copy_29 : decode cX5_copy 29 = .ok (.lastore, 1) := by decide +kernel
theorem dX5_copy_30 : decode cX5_copy 30 = .ok (.aload_n 0, 1) := by decide +kernel
theorem dX5_copy_31 : decode cX5_copy 31 = .ok (.getfield 36, 3) := by decide +kernel
theorem dX5_copy_34 : decode cX5_copy 34 = .ok (.bipush 40, 2) := by decide +kernel
theorem dX5_copy_36 : decode cX5_copy 36 = .ok (.iload_n 1, 1) := by decide +kernel
theorem dX5_copy_37 : decode cX5_copy 37 = .ok (.imul, 1) := by decide +kernel
theorem dX5_copy_38 : decode cX5_copy 38 = .ok (.iload_n 3, 1) := by decide +kernel
theorem dX5_copy_39 : decode cX5_copy 39 = .ok (.iadd, 1) := by decide +kernel
theorem dX5_copy_40 : decode cX5_copy 40 = .ok (.aload_n 0, 1) := by decide +kernel
theorem dX5_copy_41 : decode cX5_copy 41 = .ok (.getfield 36, 3) := by decide +kernel
theorem dX5_copy_44 : decode cX5_copy 44 = .ok (.bipush 40, 2) := by decide +kernel
theorem dX5_copy_46 : decode cX5_copy 46 = .ok (.iload_n 2, 1) := by decide +kernel
theorem dX5_copy_47 : decode cX5_copy 47 = .ok (.imul, 1) := by decide +kernel
theorem dX5_copy_48 : decode cX5_copy 48 = .ok (.iload_n 3, 1) := by decide +kernel
theorem dX5_copy_49 : decode cX5_copy 49 = .ok (.iadd, 1) := by decide +kernel
theorem dX5_copy_50 : decode cX5_copy 50 = .ok (.laload, 1) := by decide +kernel
theorem dX5_copy_51 : decode cX5_copy 51 = .ok (.lastore, 1) := by decide +kernel
theorem dX5_copy_52 : decode cX5_copy 52 = .ok (.aload_n 0, 1) := by decide +kernel
theorem dX5_copy_53 : decode cX5_copy 53 = .ok (.getfield 39, 3) := by decide +kernel
theorem dX5_copy_56 : decode cX5_copy 56 = .ok (.bipush 40, 2) := by decide +kernel
theorem dX5_copy_58 : decode cX5_copy 58 = .ok (.iload_n 1, 1) := by decide +kernel
theorem dX5_copy_59 : decode cX5_copy 59 = .ok (.imul, 1) := by decide +kernel
theorem dX5_copy_60 : decode cX5_copy 60 = .ok (.iload_n 3, 1) := by decide +kernel
theorem dX5_copy_61 : decode cX5_copy 61 = .ok (.iadd, 1) := by decide +kernel
theorem dX5_copy_62 : decode cX5_copy 62 = .ok (.aload_n 0, 1) := by decide +kernel
theorem dX5_copy_63 : decode cX5_copy 63 = .ok (.getfield 39, 3) := by decide +kernel
theorem dX5_copy_66 : decode cX5_copy 66 = .ok (.bipush 40, 2) := by decide +kernel
theorem dX5_copy_68 : decode cX5_copy 68 = .ok (.iload_n 2, 1) := by decide +kernel
theorem dX5_copy_69 : decode cX5_copy 69 = .ok (.imul, 1) := by decide +kernel
theorem dX5_copy_70 : decode cX5_copy 70 = .ok (.iload_n 3, 1) := by decide +kernel
theorem dX5_copy_71 : decode cX5_copy 71 = .ok (.iadd, 1) := by decide +kernel
theorem dX5_copy_72 : decode cX5_copy 72 = .ok (.iaload, 1) := by decide +kernel
theorem dX5_copy_73 : decode cX5_copy 73 = .ok (.iastore, 1) := by decide +kernel
theorem dX5_copy_74 : decode cX5_copy 74 = .ok (.iinc 3 1, 3) := by decide +kernel
theorem dX5_copy_77 : decode cX5_copy 77 = .ok (.goto (-75), 3) := by decide +kernel
theorem dX5_copy_80 : decode cX5_copy 80 = .ok (.return_, 1) := by decide +kernel
abbrev cX5_isSame : ByteArray := prog_7_method_18_code
def yX5_isSame : MethodName := ⟨RX5, "isSame", "(II)Z"⟩
def wsX5_isSame : List Cond := .code yX5_isSame cX5_isSame 3 (some .boolean) :: bT
theorem dX5_isSame_0 : decode cX5_isSame 0 = .ok (.aload_n 0, 1) := by decide +kernel
theorem dX5_isSame_1 : decode cX5_isSame 1 = .ok (.iload_n 1, 1) := by decide +kernel
theorem dX5_isSame_2 : decode cX5_isSame 2 = .ok (.iload_n 2, 1) := by decide +kernel
theorem dX5_isSame_3 : decode cX5_isSame 3 = .ok (.invokevirtual 92, 3) := by decide +kernel
theorem dX5_isSame_6 : decode cX5_isSame 6 = .ok (.aload_n 0, 1) := by decide +kernel
theorem dX5_isSame_7 : decode cX5_isSame 7 = .ok (.iconst 0, 1) := by decide +kernel
theorem dX5_isSame_8 : decode cX5_isSame 8 = .ok (.iload_n 2, 1) := by decide +kernel
theorem dX5_isSame_9 : decode cX5_isSame 9 = .ok (.invokevirtual 92, 3) := by decide +kernel
theorem dX5_isSame_12 : decode cX5_isSame 12 = .ok (.lcmp, 1) := by decide +kernel
theorem dX5_isSame_13 : decode cX5_isSame 13 = .ok (.ifCond .ne (43), 3) := by decide +kernel
theorem dX5_isSame_16 : decode cX5_isSame 16 = .ok (.aload_n 0, 1) := by decide +kernel
theorem dX5_isSame_17 : decode cX5_isSame 17 = .ok (.iload_n 1, 1) := by decide +kernel
theorem dX5_isSame_18 : decode cX5_isSame 18 = .ok (.iload_n 2, 1) := by decide +kernel
theorem dX5_isSame_19 : decode cX5_isSame 19 = .ok (.invokevirtual 100, 3) := by decide +kernel
theorem dX5_isSame_22 : decode cX5_isSame 22 = .ok (.aload_n 0, 1) := by decide +kernel
theorem dX5_isSame_23 : decode cX5_isSame 23 = .ok (.iconst 0, 1) := by decide +kernel
theorem dX5_isSame_24 : decode cX5_isSame 24 = .ok (.iload_n 2, 1) := by decide +kernel
theorem dX5_isSame_25 : decode cX5_isSame 25 = .ok (.invokevirtual 100, 3) := by decide +kernel
theorem dX5_isSame_28 : decode cX5_isSame 28 = .ok (.lcmp, 1) := by decide +kernel
theorem dX5_isSame_29 : decode cX5_isSame 29 = .ok (.ifCond .ne (27), 3) := by decide +kernel
theorem dX5_isSame_32 : decode cX5_isSame 32 = .ok (.aload_n 0, 1) := by decide +kernel
theorem dX5_isSame_33 : decode cX5_isSame 33 = .ok (.getfield 39, 3) := by decide +kernel
theorem dX5_isSame_36 : decode cX5_isSame 36 = .ok (.bipush 40, 2) := by decide +kernel
theorem dX5_isSame_38 : decode cX5_isSame 38 = .ok (.iload_n 1, 1) := by decide +kernel
theorem dX5_isSame_39 : decode cX5_isSame 39 = .ok (.imul, 1) := by decide +kernel
theorem dX5_isSame_40 : decode cX5_isSame 40 = .ok (.iload_n 2, 1) := by decide +kernel
theorem dX5_isSame_41 : decode cX5_isSame 41 = .ok (.iadd, 1) := by decide +kernel
theorem dX5_isSame_42 : decode cX5_isSame 42 = .ok (.iaload, 1) := by decide +kernel
theorem dX5_isSame_43 : decode cX5_isSame 43 = .ok (.aload_n 0, 1) := by decide +kernel
theorem dX5_isSame_44 : decode cX5_isSame 44 = .ok (.getfield 39, 3) := by decide +kernel
theorem dX5_isSame_47 : decode cX5_isSame 47 = .ok (.iload_n 2, 1) := by decide +kernel
theorem dX5_isSame_48 : decode cX5_isSame 48 = .ok (.iaload, 1) := by decide +kernel
theorem dX5_isSame_49 : decode cX5_isSame 49 = .ok (.if_icmp .ne (7), 3) := by decide +kernel
theorem dX5_isSame_52 : decode cX5_isSame 52 = .ok (.iconst 1, 1) := by decide +kernel
theorem dX5_isSame_53 : decode cX5_isSame 53 = .ok (.goto (4), 3) := by decide +kernel
theorem dX5_isSame_56 : decode cX5_isSame 56 = .ok (.iconst 0, 1) := by decide +kernel
theorem dX5_isSame_57 : decode cX5_isSame 57 = .ok (.ireturn, 1) := by decide +kernel
abbrev cX5_go : ByteArray := prog_7_method_19_code
def yX5_go : MethodName := ⟨RX5, "go", "(IJJ)V"⟩
def wsX5_go : List Cond := .code yX5_go cX5_go 7 none :: bT
theorem dX5_go_0 : decode cX5_go 0 = .ok (.iconst 0, 1) := by decide +kernel
theorem dX5_go_1 : decode cX5_go 1 = .ok (.istore 6, 2) := by decide +kernel
theorem dX5_go_3 : decode cX5_go 3 = .ok (.iload 6, 2) := by decide +kernel
theorem dX5_go_5 : decode cX5_go 5 = .ok (.aload_n 0, 1) := by decide +kernel
theorem dX5_go_6 : decode cX5_go 6 = .ok (.getfield 85, 3) := by decide +kernel
theorem dX5_go_9 : decode cX5_go 9 = .ok (.if_icmp .ge (102), 3) := by decide +kernel
theorem dX5_go_12 : decode cX5_go 12 = .ok (.aload_n 0, 1) := by decide +kernel
theorem dX5_go_13 : decode cX5_go 13 = .ok (.getfield 27, 3) := by decide +kernel
theorem dX5_go_16 : decode cX5_go 16 = .ok (.iload 6, 2) := by decide +kernel
theorem dX5_go_18 : decode cX5_go 18 = .ok (.iaload, 1) := by decide +kernel
theorem dX5_go_19 : decode cX5_go 19 = .ok (.aload_n 0, 1) := by decide +kernel
theorem dX5_go_20 : decode cX5_go 20 = .ok (.getfield 27, 3) := by decide +kernel
theorem dX5_go_23 : decode cX5_go 23 = .ok (.iload_n 1, 1) := by decide +kernel
theorem dX5_go_24 : decode cX5_go 24 = .ok (.iaload, 1) := by decide +kernel
theorem dX5_go_25 : decode cX5_go 25 = .ok (.if_icmp .ne (80), 3) := by decide +kernel
theorem dX5_go_28 : decode cX5_go 28 = .ok (.aload_n 0, 1) := by decide +kernel
theorem dX5_go_29 : decode cX5_go 29 = .ok (.getfield 30, 3) := by decide +kernel
theorem dX5_go_32 : decode cX5_go 32 = .ok (.iload 6, 2) := by decide +kernel
theorem dX5_go_34 : decode cX5_go 34 = .ok (.baload, 1) := by decide +kernel
theorem dX5_go_35 : decode cX5_go 35 = .ok (.ifCond .ne (6), 3) := by decide +kernel
theorem dX5_go_38 : decode cX5_go 38 = .ok (.goto (67), 3) := by decide +kernel
theorem dX5_go_41 : decode cX5_go 41 = .ok (.aload_n 0, 1) := by decide +kernel
theorem dX5_go_42 : decode cX5_go 42 = .ok (.getfield 33, 3) := by decide +kernel
theorem dX5_go_45 : decode cX5_go 45 = .ok (.bipush 40, 2) := by decide +kernel
theorem dX5_go_47 : decode cX5_go 47 = .ok (.iload 6, 2) := by decide +kernel
theorem dX5_go_49 : decode cX5_go 49 = .ok (.iadd, 1) := by decide +kernel
theorem dX5_go_50 : decode cX5_go 50 = .ok (.dup2, 1) := by decide +kernel
theorem dX5_go_51 : decode cX5_go 51 = .ok (.laload, 1) := by decide +kernel
theorem dX5_go_52 : decode cX5_go 52 = .ok (.lload_n 2, 1) := by decide +kernel
theorem dX5_go_53 : decode cX5_go 53 = .ok (.ladd, 1) := by decide +kernel
theorem dX5_go_54 : decode cX5_go 54 = .ok (.lastore, 1) := by decide +kernel
theorem dX5_go_55 : decode cX5_go 55 = .ok (.aload_n 0, 1) := by decide +kernel
theorem dX5_go_56 : decode cX5_go 56 = .ok (.getfield 36, 3) := by decide +kernel
theorem dX5_go_59 : decode cX5_go 59 = .ok (.bipush 40, 2) := by decide +kernel
theorem dX5_go_61 : decode cX5_go 61 = .ok (.iload 6, 2) := by decide +kernel
theorem dX5_go_63 : decode cX5_go 63 = .ok (.iadd, 1) := by decide +kernel
theorem dX5_go_64 : decode cX5_go 64 = .ok (.dup2, 1) := by decide +kernel
theorem dX5_go_65 : decode cX5_go 65 = .ok (.laload, 1) := by decide +kernel
theorem dX5_go_66 : decode cX5_go 66 = .ok (.lload 4, 2) := by decide +kernel
theorem dX5_go_68 : decode cX5_go 68 = .ok (.ladd, 1) := by decide +kernel
theorem dX5_go_69 : decode cX5_go 69 = .ok (.lastore, 1) := by decide +kernel
theorem dX5_go_70 : decode cX5_go 70 = .ok (.aload_n 0, 1) := by decide +kernel
theorem dX5_go_71 : decode cX5_go 71 = .ok (.getfield 66, 3) := by decide +kernel
theorem dX5_go_74 : decode cX5_go 74 = .ok (.iload 6, 2) := by decide +kernel
theorem dX5_go_76 : decode cX5_go 76 = .ok (.aload_n 0, 1) := by decide +kernel
theorem dX5_go_77 : decode cX5_go 77 = .ok (.getfield 66, 3) := by decide +kernel
theorem dX5_go_80 : decode cX5_go 80 = .ok (.iload 6, 2) := by decide +kernel
theorem dX5_go_82 : decode cX5_go 82 = .ok (.baload, 1) := by decide +kernel
theorem dX5_go_83 : decode cX5_go 83 = .ok (.ifCond .ne (16), 3) := by decide +kernel
theorem dX5_go_86 : decode cX5_go 86 = .ok (.lload_n 2, 1) := by decide +kernel
theorem dX5_go_87 : decode cX5_go 87 = .ok (.lconst 0, 1) := by decide +kernel
theorem dX5_go_88 : decode cX5_go 88 = .ok (.lcmp, 1) := by decide +kernel
theorem dX5_go_89 : decode cX5_go 89 = .ok (.ifCond .ne (10), 3) := by decide +kernel
theorem dX5_go_92 : decode cX5_go 92 = .ok (.lload 4, 2) := by decide +kernel
theorem dX5_go_94 : decode cX5_go 94 = .ok (.lconst 0, 1) := by decide +kernel
theorem dX5_go_95 : decode cX5_go 95 = .ok (.lcmp, 1) := by decide +kernel
theorem dX5_go_96 : decode cX5_go 96 = .ok (.ifCond .eq (7), 3) := by decide +kernel
theorem dX5_go_99 : decode cX5_go 99 = .ok (.iconst 1, 1) := by decide +kernel
theorem dX5_go_100 : decode cX5_go 100 = .ok (.goto (4), 3) := by decide +kernel
theorem dX5_go_103 : decode cX5_go 103 = .ok (.iconst 0, 1) := by decide +kernel
theorem dX5_go_104 : decode cX5_go 104 = .ok (.bastore, 1) := by decide +kernel
theorem dX5_go_105 : decode cX5_go 105 = .ok (.iinc 6 1, 3) := by decide +kernel
theorem dX5_go_108 : decode cX5_go 108 = .ok (.goto (-105), 3) := by decide +kernel
theorem dX5_go_111 : decode cX5_go 111 = .ok (.return_, 1) := by decide +kernel
abbrev cX5_begin : ByteArray := prog_7_method_20_code
def yX5_begin : MethodName := ⟨RX5, "begin", "()V"⟩
def wsX5_begin : List Cond := .code yX5_begin cX5_begin 2 none :: bT
theorem dX5_begin_0 : decode cX5_begin 0 = .ok (.aload_n 0, 1) := by decide +kernel
theorem dX5_begin_1 : decode cX5_begin 1 = .ok (.iconst 1, 1) := by decide +kernel
theorem dX5_begin_2 : decode cX5_begin 2 = .ok (.iconst 0, 1) := by decide +kernel
theorem dX5_begin_3 : decode cX5_begin 3 = .ok (.invokevirtual 132, 3) := by decide +kernel
theorem dX5_begin_6 : decode cX5_begin 6 = .ok (.iconst 0, 1) := by decide +kernel
theorem dX5_begin_7 : decode cX5_begin 7 = .ok (.istore_n 1, 1) := by decide +kernel
theorem dX5_begin_8 : decode cX5_begin 8 = .ok (.iload_n 1, 1) := by decide +kernel
theorem dX5_begin_9 : decode cX5_begin 9 = .ok (.bipush 40, 2) := by decide +kernel
theorem dX5_begin_11 : decode cX5_begin 11 = .ok (.if_icmp .ge (16), 3) := by decide +kernel
theorem dX5_begin_14 : decode cX5_begin 14 = .ok (.aload_n 0, 1) := by decide +kernel
theorem dX5_begin_15 : decode cX5_begin 15 = .ok (.getfield 66, 3) := by decide +kernel
theorem dX5_begin_18 : decode cX5_begin 18 = .ok (.iload_n 1, 1) := by decide +kernel
theorem dX5_begin_19 : decode cX5_begin 19 = .ok (.iconst 0, 1) := by decide +kernel
theorem dX5_begin_20 : decode cX5_begin 20 = .ok (.bastore, 1) := by decide +kernel
theorem dX5_begin_21 : decode cX5_begin 21 = .ok (.iinc 1 1, 3) := by decide +kernel
theorem dX5_begin_24 : decode cX5_begin 24 = .ok (.goto (-16), 3) := by decide +kernel
theorem dX5_begin_27 : decode cX5_begin 27 = .ok (.return_, 1) := by decide +kernel
abbrev cX5_movesLocked : ByteArray := prog_7_method_21_code
def yX5_movesLocked : MethodName := ⟨RX5, "movesLocked", "()Z"⟩
def wsX5_movesLocked : List Cond := .code yX5_movesLocked cX5_movesLocked 3 (some .boolean) :: bT
theorem dX5_movesLocked_0 : decode cX5_movesLocked 0 = .ok (.iconst 0, 1) := by decide +kernel
theorem dX5_movesLocked_1 : decode cX5_movesLocked 1 = .ok (.istore_n 1, 1) := by decide +kernel
theorem dX5_movesLocked_2 : decode cX5_movesLocked 2 = .ok (.iconst 0, 1) := by decide +kernel
theorem dX5_movesLocked_3 : decode cX5_movesLocked 3 = .ok (.istore_n 2, 1) := by decide +kernel
theorem dX5_movesLocked_4 : decode cX5_movesLocked 4 = .ok (.iload_n 2, 1) := by decide +kernel
theorem dX5_movesLocked_5 : decode cX5_movesLocked 5 = .ok (.aload_n 0, 1) := by decide +kernel
theorem dX5_movesLocked_6 : decode cX5_movesLocked 6 = .ok (.getfield 85, 3) := by decide +kernel
theorem dX5_movesLocked_9 : decode cX5_movesLocked 9 = .ok (.if_icmp .ge (46), 3) := by decide +kernel
theorem dX5_movesLocked_12 : decode cX5_movesLocked 12 = .ok (.iload_n 1, 1) := by decide +kernel
theorem dX5_movesLocked_13 : decode cX5_movesLocked 13 = .ok (.ifCond .ne (30), 3) := by decide +kernel
theorem dX5_movesLocked_16 : decode cX5_movesLocked 16 = .ok (.aload_n 0, 1) := by decide +kernel
theorem dX5_movesLocked_17 : decode cX5_movesLocked 17 = .ok (.getfield 30, 3) := by decide +kernel
theorem dX5_movesLocked_20 : decode cX5_movesLocked 20 = .ok (.iload_n 2, 1) := by decide +kernel
theorem dX5_movesLocked_21 : decode cX5_movesLocked 21 = .ok (.baload, 1) := by decide +kernel
theorem dX5_movesLocked_22 : decode cX5_movesLocked 22 = .ok (.ifCond .eq (25), 3) := by decide +kernel
theorem dX5_movesLocked_25 : decode cX5_movesLocked 25 = .ok (.aload_n 0, 1) := by decide +kernel
theorem dX5_movesLocked_26 : decode cX5_movesLocked 26 = .ok (.getfield 23, 3) := by decide +kernel
theorem dX5_movesLocked_29 : decode cX5_movesLocked 29 = .ok (.iload_n 2, 1) := by decide +kernel
theorem dX5_movesLocked_30 : decode cX5_movesLocked 30 = .ok (.baload, 1) := by decide +kernel
theorem dX5_movesLocked_31 : decode cX5_movesLocked 31 = .ok (.ifCond .eq (16), 3) := by decide +kernel
theorem dX5_movesLocked_34 : decode cX5_movesLocked 34 = .ok (.aload_n 0, 1) := by decide +kernel
theorem dX5_movesLocked_35 : decode cX5_movesLocked 35 = .ok (.iconst 1, 1) := by decide +kernel
theorem dX5_movesLocked_36 : decode cX5_movesLocked 36 = .ok (.iload_n 2, 1) := by decide +kernel
theorem dX5_movesLocked_37 : decode cX5_movesLocked 37 = .ok (.invokevirtual 136, 3) := by decide +kernel
theorem dX5_movesLocked_40 : decode cX5_movesLocked 40 = .ok (.ifCond .ne (7), 3) := by decide +kernel
theorem dX5_movesLocked_43 : decode cX5_movesLocked 43 = .ok (.iconst 1, 1) := by decide +kernel
theorem dX5_movesLocked_44 : decode cX5_movesLocked 44 = .ok (.goto (4), 3) := by decide +kernel
theorem dX5_movesLocked_47 : decode cX5_movesLocked 47 = .ok (.iconst 0, 1) := by decide +kernel
theorem dX5_movesLocked_48 : decode cX5_movesLocked 48 = .ok (.istore_n 1, 1) := by decide +kernel
theorem dX5_movesLocked_49 : decode cX5_movesLocked 49 = .ok (.iinc 2 1, 3) := by decide +kernel
theorem dX5_movesLocked_52 : decode cX5_movesLocked 52 = .ok (.goto (-48), 3) := by decide +kernel
theorem dX5_movesLocked_55 : decode cX5_movesLocked 55 = .ok (.iload_n 1, 1) := by decide +kernel
theorem dX5_movesLocked_56 : decode cX5_movesLocked 56 = .ok (.ireturn, 1) := by decide +kernel
abbrev cX5_hasMate : ByteArray := prog_7_method_22_code
def yX5_hasMate : MethodName := ⟨RX5, "hasMate", "(I)Z"⟩
def wsX5_hasMate : List Cond := .code yX5_hasMate cX5_hasMate 4 (some .boolean) :: bT
theorem dX5_hasMate_0 : decode cX5_hasMate 0 = .ok (.iconst 0, 1) := by decide +kernel
theorem dX5_hasMate_1 : decode cX5_hasMate 1 = .ok (.istore_n 2, 1) := by decide +kernel
theorem dX5_hasMate_2 : decode cX5_hasMate 2 = .ok (.iconst 0, 1) := by decide +kernel
theorem dX5_hasMate_3 : decode cX5_hasMate 3 = .ok (.istore_n 3, 1) := by decide +kernel
theorem dX5_hasMate_4 : decode cX5_hasMate 4 = .ok (.iload_n 3, 1) := by decide +kernel
theorem dX5_hasMate_5 : decode cX5_hasMate 5 = .ok (.aload_n 0, 1) := by decide +kernel
theorem dX5_hasMate_6 : decode cX5_hasMate 6 = .ok (.getfield 85, 3) := by decide +kernel
theorem dX5_hasMate_9 : decode cX5_hasMate 9 = .ok (.if_icmp .ge (48), 3) := by decide +kernel
theorem dX5_hasMate_12 : decode cX5_hasMate 12 = .ok (.iload_n 2, 1) := by decide +kernel
theorem dX5_hasMate_13 : decode cX5_hasMate 13 = .ok (.ifCond .ne (32), 3) := by decide +kernel
theorem dX5_hasMate_16 : decode cX5_hasMate 16 = .ok (.iload_n 3, 1) := by decide +kernel
theorem dX5_hasMate_17 : decode cX5_hasMate 17 = .ok (.iload_n 1, 1) := by decide +kernel
theorem dX5_hasMate_18 : decode cX5_hasMate 18 = .ok (.if_icmp .eq (31), 3) := by decide +kernel
theorem dX5_hasMate_21 : decode cX5_hasMate 21 = .ok (.aload_n 0, 1) := by decide +kernel
theorem dX5_hasMate_22 : decode cX5_hasMate 22 = .ok (.getfield 30, 3) := by decide +kernel
theorem dX5_hasMate_25 : decode cX5_hasMate 25 = .ok (.iload_n 3, 1) := by decide +kernel
theorem dX5_hasMate_26 : decode cX5_hasMate 26 = .ok (.baload, 1) := by decide +kernel
theorem dX5_hasMate_27 : decode cX5_hasMate 27 = .ok (.ifCond .eq (22), 3) := by decide +kernel
theorem dX5_hasMate_30 : decode cX5_hasMate 30 = .ok (.aload_n 0, 1) := by decide +kernel
theorem dX5_hasMate_31 : decode cX5_hasMate 31 = .ok (.getfield 27, 3) := by decide +kernel
theorem dX5_hasMate_34 : decode cX5_hasMate 34 = .ok (.iload_n 3, 1) := by decide +kernel
theorem dX5_hasMate_35 : decode cX5_hasMate 35 = .ok (.iaload, 1) := by decide +kernel
theorem dX5_hasMate_36 : decode cX5_hasMate 36 = .ok (.aload_n 0, 1) := by decide +kernel
theorem dX5_hasMate_37 : decode cX5_hasMate 37 = .ok (.getfield 27, 3) := by decide +kernel
theorem dX5_hasMate_40 : decode cX5_hasMate 40 = .ok (.iload_n 1, 1) := by decide +kernel
theorem dX5_hasMate_41 : decode cX5_hasMate 41 = .ok (.iaload, 1) := by decide +kernel
theorem dX5_hasMate_42 : decode cX5_hasMate 42 = .ok (.if_icmp .ne (7), 3) := by decide +kernel
theorem dX5_hasMate_45 : decode cX5_hasMate 45 = .ok (.iconst 1, 1) := by decide +kernel
theorem dX5_hasMate_46 : decode cX5_hasMate 46 = .ok (.goto (4), 3) := by decide +kernel
theorem dX5_hasMate_49 : decode cX5_hasMate 49 = .ok (.iconst 0, 1) := by decide +kernel
theorem dX5_hasMate_50 : decode cX5_hasMate 50 = .ok (.istore_n 2, 1) := by decide +kernel
theorem dX5_hasMate_51 : decode cX5_hasMate 51 = .ok (.iinc 3 1, 3) := by decide +kernel
theorem dX5_hasMate_54 : decode cX5_hasMate 54 = .ok (.goto (-50), 3) := by decide +kernel
theorem dX5_hasMate_57 : decode cX5_hasMate 57 = .ok (.iload_n 2, 1) := by decide +kernel
theorem dX5_hasMate_58 : decode cX5_hasMate 58 = .ok (.ireturn, 1) := by decide +kernel
abbrev cX5_pinAt : ByteArray := prog_7_method_27_code
def yX5_pinAt : MethodName := ⟨RX5, "pinAt", "(IIZ)J"⟩
def wsX5_pinAt : List Cond := .code yX5_pinAt cX5_pinAt 9 (some .long) :: bT
theorem dX5_pinAt_0 : decode cX5_pinAt 0 = .ok (.aload_n 0, 1) := by decide +kernel
theorem dX5_pinAt_1 : decode cX5_pinAt 1 = .ok (.getfield 57, 3) := by decide +kernel
theorem dX5_pinAt_4 : decode cX5_pinAt 4 = .ok (.iload_n 2, 1) := by decide +kernel
theorem dX5_pinAt_5 : decode cX5_pinAt 5 = .ok (.iaload, 1) := by decide +kernel
theorem dX5_pinAt_6 : decode cX5_pinAt 6 = .ok (.istore 4, 2) := by decide +kernel
theorem dX5_pinAt_8 : decode cX5_pinAt 8 = .ok (.aload_n 0, 1) := by decide +kernel
theorem dX5_pinAt_9 : decode cX5_pinAt 9 = .ok (.getfield 60, 3) := by decide +kernel
theorem dX5_pinAt_12 : decode cX5_pinAt 12 = .ok (.iload_n 2, 1) := by decide +kernel
theorem dX5_pinAt_13 : decode cX5_pinAt 13 = .ok (.laload, 1) := by decide +kernel
theorem dX5_pinAt_14 : decode cX5_pinAt 14 = .ok (.lstore 5, 2) := by decide +kernel
theorem dX5_pinAt_16 : decode cX5_pinAt 16 = .ok (.aload_n 0, 1) := by decide +kernel
theorem dX5_pinAt_17 : decode cX5_pinAt 17 = .ok (.getfield 63, 3) := by decide +kernel
theorem dX5_pinAt_20 : decode cX5_pinAt 20 = .ok (.iload_n 2, 1) := by decide +kernel
theorem dX5_pinAt_21 : decode cX5_pinAt 21 = .ok (.laload, 1) := by decide +kernel
theorem dX5_pinAt_22 : decode cX5_pinAt 22 = .ok (.lstore 7, 2) := by decide +kernel
theorem dX5_pinAt_24 : decode cX5_pinAt 24 = .ok (.aload_n 0, 1) := by decide +kernel
theorem dX5_pinAt_25 : decode cX5_pinAt 25 = .ok (.getfield 39, 3) := by decide +kernel
theorem dX5_pinAt_28 : decode cX5_pinAt 28 = .ok (.bipush 40, 2) := by decide +kernel
theorem dX5_pinAt_30 : decode cX5_pinAt 30 = .ok (.iload_n 1, 1) := by decide +kernel
theorem dX5_pinAt_31 : decode cX5_pinAt 31 = .ok (.imul, 1) := by decide +kernel
theorem dX5_pinAt_32 : decode cX5_pinAt 32 = .ok (.iload 4, 2) := by decide +kernel
theorem dX5_pinAt_34 : decode cX5_pinAt 34 = .ok (.iadd, 1) := by decide +kernel
theorem dX5_pinAt_35 : decode cX5_pinAt 35 = .ok (.iaload, 1) := by decide +kernel
theorem dX5_pinAt_36 : decode cX5_pinAt 36 = .ok (.tableswitch 136 0 2 #[28, 56, 92], 28) := by decide +kernel
theorem dX5_pinAt_64 : decode cX5_pinAt 64 = .ok (.iload_n 3, 1) := by decide +kernel
theorem dX5_pinAt_65 : decode cX5_pinAt 65 = .ok (.ifCond .eq (16), 3) := by decide +kernel
theorem dX5_pinAt_68 : decode cX5_pinAt 68 = .ok (.aload_n 0, 1) := by decide +kernel
theorem dX5_pinAt_69 : decode cX5_pinAt 69 = .ok (.iload_n 1, 1) := by decide +kernel
theorem dX5_pinAt_70 : decode cX5_pinAt 70 = .ok (.iload 4, 2) := by decide +kernel
theorem dX5_pinAt_72 : decode cX5_pinAt 72 = .ok (.invokevirtual 92, 3) := by decide +kernel
theorem dX5_pinAt_75 : decode cX5_pinAt 75 = .ok (.lload 5, 2) := by decide +kernel
theorem dX5_pinAt_77 : decode cX5_pinAt 77 = .ok (.ladd, 1) := by decide +kernel
theorem dX5_pinAt_78 : decode cX5_pinAt 78 = .ok (.goto (13), 3) := by decide +kernel
theorem dX5_pinAt_81 : decode cX5_pinAt 81 = .ok (.aload_n 0, 1) := by decide +kernel
theorem dX5_pinAt_82 : decode cX5_pinAt 82 = .ok (.iload_n 1, 1) := by decide +kernel
theorem dX5_pinAt_83 : decode cX5_pinAt 83 = .ok (.iload 4, 2) := by decide +kernel
theorem dX5_pinAt_85 : decode cX5_pinAt 85 = .ok (.invokevirtual 100, 3) := by decide +kernel
theorem dX5_pinAt_88 : decode cX5_pinAt 88 = .ok (.lload 7, 2) := by decide +kernel
theorem dX5_pinAt_90 : decode cX5_pinAt 90 = .ok (.ladd, 1) := by decide +kernel
theorem dX5_pinAt_91 : decode cX5_pinAt 91 = .ok (.lreturn, 1) := by decide +kernel
theorem dX5_pinAt_92 : decode cX5_pinAt 92 = .ok (.iload_n 3, 1) := by decide +kernel
theorem dX5_pinAt_93 : decode cX5_pinAt 93 = .ok (.ifCond .eq (24), 3) := by decide +kernel
theorem dX5_pinAt_96 : decode cX5_pinAt 96 = .ok (.aload_n 0, 1) := by decide +kernel
theorem dX5_pinAt_97 : decode cX5_pinAt 97 = .ok (.iload_n 1, 1) := by decide +kernel
theorem dX5_pinAt_98 : decode cX5_pinAt 98 = .ok (.iload 4, 2) := by decide +kernel
theorem dX5_pinAt_100 : decode cX5_pinAt 100 = .ok (.invokevirtual 92, 3) := by decide +kernel
theorem dX5_pinAt_103 : decode cX5_pinAt 103 = .ok (.aload_n 0, 1) := by decide +kernel
theorem dX5_pinAt_104 : decode cX5_pinAt 104 = .ok (.getfield 13, 3) := by decide +kernel
theorem dX5_pinAt_107 : decode cX5_pinAt 107 = .ok (.iload 4, 2) := by decide +kernel
theorem dX5_pinAt_109 : decode cX5_pinAt 109 = .ok (.laload, 1) := by decide +kernel
theorem dX5_pinAt_110 : decode cX5_pinAt 110 = .ok (.ladd, 1) := by decide +kernel
theorem dX5_pinAt_111 : decode cX5_pinAt 111 = .ok (.lload 7, 2) := by decide +kernel
theorem dX5_pinAt_113 : decode cX5_pinAt 113 = .ok (.lsub, 1) := by decide +kernel
theorem dX5_pinAt_114 : decode cX5_pinAt 114 = .ok (.goto (13), 3) := by decide +kernel
theorem dX5_pinAt_117 : decode cX5_pinAt 117 = .ok (.aload_n 0, 1) := by decide +kernel
theorem dX5_pinAt_118 : decode cX5_pinAt 118 = .ok (.iload_n 1, 1) := by decide +kernel
theorem dX5_pinAt_119 : decode cX5_pinAt 119 = .ok (.iload 4, 2) := by decide +kernel
theorem dX5_pinAt_121 : decode cX5_pinAt 121 = .ok (.invokevirtual 100, 3) := by decide +kernel
theorem dX5_pinAt_124 : decode cX5_pinAt 124 = .ok (.lload 5, 2) := by decide +kernel
theorem dX5_pinAt_126 : decode cX5_pinAt 126 = .ok (.ladd, 1) := by decide +kernel
theorem dX5_pinAt_127 : decode cX5_pinAt 127 = .ok (.lreturn, 1) := by decide +kernel
theorem dX5_pinAt_128 : decode cX5_pinAt 128 = .ok (.iload_n 3, 1) := by decide +kernel
theorem dX5_pinAt_129 : decode cX5_pinAt 129 = .ok (.ifCond .eq (24), 3) := by decide +kernel
theorem dX5_pinAt_132 : decode cX5_pinAt 132 = .ok (.aload_n 0, 1) := by decide +kernel
theorem dX5_pinAt_133 : decode cX5_pinAt 133 = .ok (.iload_n 1, 1) := by decide +kernel
theorem dX5_pinAt_134 : decode cX5_pinAt 134 = .ok (.iload 4, 2) := by decide +kernel
theorem dX5_pinAt_136 : decode cX5_pinAt 136 = .ok (.invokevirtual 92, 3) := by decide +kernel
theorem dX5_pinAt_139 : decode cX5_pinAt 139 = .ok (.aload_n 0, 1) := by decide +kernel
theorem dX5_pinAt_140 : decode cX5_pinAt 140 = .ok (.getfield 7, 3) := by decide +kernel
theorem dX5_pinAt_143 : decode cX5_pinAt 143 = .ok (.iload 4, 2) := by decide +kernel
theorem dX5_pinAt_145 : decode cX5_pinAt 145 = .ok (.laload, 1) := by decide +kernel
theorem dX5_pinAt_146 : decode cX5_pinAt 146 = .ok (.ladd, 1) := by decide +kernel
theorem dX5_pinAt_147 : decode cX5_pinAt 147 = .ok (.lload 5, 2) := by decide +kernel
theorem dX5_pinAt_149 : decode cX5_pinAt 149 = .ok (.lsub, 1) := by decide +kernel
theorem dX5_pinAt_150 : decode cX5_pinAt 150 = .ok (.goto (21), 3) := by decide +kernel
theorem dX5_pinAt_153 : decode cX5_pinAt 153 = .ok (.aload_n 0, 1) := by decide +kernel
theorem dX5_pinAt_154 : decode cX5_pinAt 154 = .ok (.iload_n 1, 1) := by decide +kernel
theorem dX5_pinAt_155 : decode cX5_pinAt 155 = .ok (.iload 4, 2) := by decide +kernel
theorem dX5_pinAt_157 : decode cX5_pinAt 157 = .ok (.invokevirtual 100, 3) := by decide +kernel
theorem dX5_pinAt_160 : decode cX5_pinAt 160 = .ok (.aload_n 0, 1) := by decide +kernel
theorem dX5_pinAt_161 : decode cX5_pinAt 161 = .ok (.getfield 13, 3) := by decide +kernel
theorem dX5_pinAt_164 : decode cX5_pinAt 164 = .ok (.iload 4, 2) := by decide +kernel
theorem dX5_pinAt_166 : decode cX5_pinAt 166 = .ok (.laload, 1) := by decide +kernel
theorem dX5_pinAt_167 : decode cX5_pinAt 167 = .ok (.ladd, 1) := by decide +kernel
theorem dX5_pinAt_168 : decode cX5_pinAt 168 = .ok (.lload 7, 2) := by decide +kernel
theorem dX5_pinAt_170 : decode cX5_pinAt 170 = .ok (.lsub, 1) := by decide +kernel
theorem dX5_pinAt_171 : decode cX5_pinAt 171 = .ok (.lreturn, 1) := by decide +kernel
theorem dX5_pinAt_172 : decode cX5_pinAt 172 = .ok (.iload_n 3, 1) := by decide +kernel
theorem dX5_pinAt_173 : decode cX5_pinAt 173 = .ok (.ifCond .eq (16), 3) := by decide +kernel
theorem dX5_pinAt_176 : decode cX5_pinAt 176 = .ok (.aload_n 0, 1) := by decide +kernel
theorem dX5_pinAt_177 : decode cX5_pinAt 177 = .ok (.iload_n 1, 1) := by decide +kernel
theorem dX5_pinAt_178 : decode cX5_pinAt 178 = .ok (.iload 4, 2) := by decide +kernel
theorem dX5_pinAt_180 : decode cX5_pinAt 180 = .ok (.invokevirtual 92, 3) := by decide +kernel
theorem dX5_pinAt_183 : decode cX5_pinAt 183 = .ok (.lload 7, 2) := by decide +kernel
theorem dX5_pinAt_185 : decode cX5_pinAt 185 = .ok (.ladd, 1) := by decide +kernel
theorem dX5_pinAt_186 : decode cX5_pinAt 186 = .ok (.goto (21), 3) := by decide +kernel
theorem dX5_pinAt_189 : decode cX5_pinAt 189 = .ok (.aload_n 0, 1) := by decide +kernel
theorem dX5_pinAt_190 : decode cX5_pinAt 190 = .ok (.iload_n 1, 1) := by decide +kernel
theorem dX5_pinAt_191 : decode cX5_pinAt 191 = .ok (.iload 4, 2) := by decide +kernel
theorem dX5_pinAt_193 : decode cX5_pinAt 193 = .ok (.invokevirtual 100, 3) := by decide +kernel
theorem dX5_pinAt_196 : decode cX5_pinAt 196 = .ok (.aload_n 0, 1) := by decide +kernel
theorem dX5_pinAt_197 : decode cX5_pinAt 197 = .ok (.getfield 7, 3) := by decide +kernel
theorem dX5_pinAt_200 : decode cX5_pinAt 200 = .ok (.iload 4, 2) := by decide +kernel
theorem dX5_pinAt_202 : decode cX5_pinAt 202 = .ok (.laload, 1) := by decide +kernel
theorem dX5_pinAt_203 : decode cX5_pinAt 203 = .ok (.ladd, 1) := by decide +kernel
theorem dX5_pinAt_204 : decode cX5_pinAt 204 = .ok (.lload 5, 2) := by decide +kernel
theorem dX5_pinAt_206 : decode cX5_pinAt 206 = .ok (.lsub, 1) := by decide +kernel
theorem dX5_pinAt_207 : decode cX5_pinAt 207 = .ok (.lreturn, 1) := by decide +kernel
abbrev cX5_reach : ByteArray := prog_7_method_28_code
def yX5_reach : MethodName := ⟨RX5, "reach", "(IIZ)J"⟩
def wsX5_reach : List Cond := .code yX5_reach cX5_reach 12 (some .long) :: bT
theorem dX5_reach_0 : decode cX5_reach 0 = .ok (.iconst 0, 1) := by decide +kernel
theorem dX5_reach_1 : decode cX5_reach 1 = .ok (.istore 4, 2) := by decide +kernel
theorem dX5_reach_3 : decode cX5_reach 3 = .ok (.lconst 0, 1) := by decide +kernel
theorem dX5_reach_4 : decode cX5_reach 4 = .ok (.lstore 5, 2) := by decide +kernel
theorem dX5_reach_6 : decode cX5_reach 6 = .ok (.lconst 0, 1) := by decide +kernel
theorem dX5_reach_7 : decode cX5_reach 7 = .ok (.lstore 7, 2) := by decide +kernel
theorem dX5_reach_9 : decode cX5_reach 9 = .ok (.iconst 0, 1) := by decide +kernel
theorem dX5_reach_10 : decode cX5_reach 10 = .ok (.istore 9, 2) := by decide +kernel
theorem dX5_reach_12 : decode cX5_reach 12 = .ok (.iload 9, 2) := by decide +kernel
theorem dX5_reach_14 : decode cX5_reach 14 = .ok (.aload_n 0, 1) := by decide +kernel
theorem dX5_reach_15 : decode cX5_reach 15 = .ok (.getfield 163, 3) := by decide +kernel
theorem dX5_reach_18 : decode cX5_reach 18 = .ok (.if_icmp .ge (95), 3) := by decide +kernel
theorem dX5_reach_21 : decode cX5_reach 21 = .ok (.aload_n 0, 1) := by decide +kernel
theorem dX5_reach_22 : decode cX5_reach 22 = .ok (.getfield 54, 3) := by decide +kernel
theorem dX5_reach_25 : decode cX5_reach 25 = .ok (.iload 9, 2) := by decide +kernel
theorem dX5_reach_27 : decode cX5_reach 27 = .ok (.iaload, 1) := by decide +kernel
theorem dX5_reach_28 : decode cX5_reach 28 = .ok (.iload_n 2, 1) := by decide +kernel
theorem dX5_reach_29 : decode cX5_reach 29 = .ok (.if_icmp .ne (78), 3) := by decide +kernel
theorem dX5_reach_32 : decode cX5_reach 32 = .ok (.aload_n 0, 1) := by decide +kernel
theorem dX5_reach_33 : decode cX5_reach 33 = .ok (.getfield 30, 3) := by decide +kernel
theorem dX5_reach_36 : decode cX5_reach 36 = .ok (.aload_n 0, 1) := by decide +kernel
theorem dX5_reach_37 : decode cX5_reach 37 = .ok (.getfield 57, 3) := by decide +kernel
theorem dX5_reach_40 : decode cX5_reach 40 = .ok (.iload 9, 2) := by decide +kernel
theorem dX5_reach_42 : decode cX5_reach 42 = .ok (.iaload, 1) := by decide +kernel
theorem dX5_reach_43 : decode cX5_reach 43 = .ok (.baload, 1) := by decide +kernel
theorem dX5_reach_44 : decode cX5_reach 44 = .ok (.ifCond .ne (6), 3) := by decide +kernel
theorem dX5_reach_47 : decode cX5_reach 47 = .ok (.goto (60), 3) := by decide +kernel
theorem dX5_reach_50 : decode cX5_reach 50 = .ok (.aload_n 0, 1) := by decide +kernel
theorem dX5_reach_51 : decode cX5_reach 51 = .ok (.iload_n 1, 1) := by decide +kernel
theorem dX5_reach_52 : decode cX5_reach 52 = .ok (.iload 9, 2) := by decide +kernel
theorem dX5_reach_54 : decode cX5_reach 54 = .ok (.iload_n 3, 1) := by decide +kernel
theorem dX5_reach_55 : decode cX5_reach 55 = .ok (.invokevirtual 166, 3) := by decide +kernel
theorem dX5_reach_58 : decode cX5_reach 58 = .ok (.lstore 10, 2) := by decide +kernel
theorem dX5_reach_60 : decode cX5_reach 60 = .ok (.iload 4, 2) := by decide +kernel
theorem dX5_reach_62 : decode cX5_reach 62 = .ok (.ifCond .eq (11), 3) := by decide +kernel
theorem dX5_reach_65 : decode cX5_reach 65 = .ok (.lload 10, 2) := by decide +kernel
theorem dX5_reach_67 : decode cX5_reach 67 = .ok (.lload 5, 2) := by decide +kernel
theorem dX5_reach_69 : decode cX5_reach 69 = .ok (.lcmp, 1) := by decide +kernel
theorem dX5_reach_70 : decode cX5_reach 70 = .ok (.ifCond .ge (8), 3) := by decide +kernel
theorem dX5_reach_73 : decode cX5_reach 73 = .ok (.lload 10, 2) := by decide +kernel
theorem dX5_reach_75 : decode cX5_reach 75 = .ok (.goto (5), 3) := by decide +kernel
theorem dX5_reach_78 : decode cX5_reach 78 = .ok (.lload 5, 2) := by decide +kernel
theorem dX5_reach_80 : decode cX5_reach 80 = .ok (.lstore 5, 2) := by decide +kernel
theorem dX5_reach_82 : decode cX5_reach 82 = .ok (.iload 4, 2) := by decide +kernel
theorem dX5_reach_84 : decode cX5_reach 84 = .ok (.ifCond .eq (11), 3) := by decide +kernel
theorem dX5_reach_87 : decode cX5_reach 87 = .ok (.lload 10, 2) := by decide +kernel
theorem dX5_reach_89 : decode cX5_reach 89 = .ok (.lload 7, 2) := by decide +kernel
theorem dX5_reach_91 : decode cX5_reach 91 = .ok (.lcmp, 1) := by decide +kernel
theorem dX5_reach_92 : decode cX5_reach 92 = .ok (.ifCond .le (8), 3) := by decide +kernel
theorem dX5_reach_95 : decode cX5_reach 95 = .ok (.lload 10, 2) := by decide +kernel
theorem dX5_reach_97 : decode cX5_reach 97 = .ok (.goto (5), 3) := by decide +kernel
theorem dX5_reach_100 : decode cX5_reach 100 = .ok (.lload 7, 2) := by decide +kernel
theorem dX5_reach_102 : decode cX5_reach 102 = .ok (.lstore 7, 2) := by decide +kernel
theorem dX5_reach_104 : decode cX5_reach 104 = .ok (.iconst 1, 1) := by decide +kernel
theorem dX5_reach_105 : decode cX5_reach 105 = .ok (.istore 4, 2) := by decide +kernel
theorem dX5_reach_107 : decode cX5_reach 107 = .ok (.iinc 9 1, 3) := by decide +kernel
theorem dX5_reach_110 : decode cX5_reach 110 = .ok (.goto (-98), 3) := by decide +kernel
theorem dX5_reach_113 : decode cX5_reach 113 = .ok (.lload 7, 2) := by decide +kernel
theorem dX5_reach_115 : decode cX5_reach 115 = .ok (.lload 5, 2) := by decide +kernel
theorem dX5_reach_117 : decode cX5_reach 117 = .ok (.lsub, 1) := by decide +kernel
theorem dX5_reach_118 : decode cX5_reach 118 = .ok (.lreturn, 1) := by decide +kernel
abbrev cX5_wireOf : ByteArray := prog_7_method_29_code
def yX5_wireOf : MethodName := ⟨RX5, "wireOf", "(I)J"⟩
def wsX5_wireOf : List Cond := .code yX5_wireOf cX5_wireOf 5 (some .long) :: bT
theorem dX5_wireOf_0 : decode cX5_wireOf 0 = .ok (.lconst 0, 1) := by decide +kernel
theorem dX5_wireOf_1 : decode cX5_wireOf 1 = .ok (.lstore_n 2, 1) := by decide +kernel
theorem dX5_wireOf_2 : decode cX5_wireOf 2 = .ok (.iconst 0, 1) := by decide +kernel
theorem dX5_wireOf_3 : decode cX5_wireOf 3 = .ok (.istore 4, 2) := by decide +kernel
theorem dX5_wireOf_5 : decode cX5_wireOf 5 = .ok (.iload 4, 2) := by decide +kernel
theorem dX5_wireOf_7 : decode cX5_wireOf 7 = .ok (.aload_n 0, 1) := by decide +kernel
theorem dX5_wireOf_8 : decode cX5_wireOf 8 = .ok (.getfield 160, 3) := by decide +kernel
theorem dX5_wireOf_11 : decode cX5_wireOf 11 = .ok (.if_icmp .ge (29), 3) := by decide +kernel
theorem dX5_wireOf_14 : decode cX5_wireOf 14 = .ok (.lload_n 2, 1) := by decide +kernel
theorem dX5_wireOf_15 : decode cX5_wireOf 15 = .ok (.aload_n 0, 1) := by decide +kernel
theorem dX5_wireOf_16 : decode cX5_wireOf 16 = .ok (.iload_n 1, 1) := by decide +kernel
theorem dX5_wireOf_17 : decode cX5_wireOf 17 = .ok (.iload 4, 2) := by decide +kernel
theorem dX5_wireOf_19 : decode cX5_wireOf 19 = .ok (.iconst 1, 1) := by decide +kernel
theorem dX5_wireOf_20 : decode cX5_wireOf 20 = .ok (.invokevirtual 170, 3) := by decide +kernel
theorem dX5_wireOf_23 : decode cX5_wireOf 23 = .ok (.aload_n 0, 1) := by decide +kernel
theorem dX5_wireOf_24 : decode cX5_wireOf 24 = .ok (.iload_n 1, 1) := by decide +kernel
theorem dX5_wireOf_25 : decode cX5_wireOf 25 = .ok (.iload 4, 2) := by decide +kernel
theorem dX5_wireOf_27 : decode cX5_wireOf 27 = .ok (.iconst 0, 1) := by decide +kernel
theorem dX5_wireOf_28 : decode cX5_wireOf 28 = .ok (.invokevirtual 170, 3) := by decide +kernel
theorem dX5_wireOf_31 : decode cX5_wireOf 31 = .ok (.ladd, 1) := by decide +kernel
theorem dX5_wireOf_32 : decode cX5_wireOf 32 = .ok (.ladd, 1) := by decide +kernel
theorem dX5_wireOf_33 : decode cX5_wireOf 33 = .ok (.lstore_n 2, 1) := by decide +kernel
theorem dX5_wireOf_34 : decode cX5_wireOf 34 = .ok (.iinc 4 1, 3) := by decide +kernel
theorem dX5_wireOf_37 : decode cX5_wireOf 37 = .ok (.goto (-32), 3) := by decide +kernel
theorem dX5_wireOf_40 : decode cX5_wireOf 40 = .ok (.lload_n 2, 1) := by decide +kernel
theorem dX5_wireOf_41 : decode cX5_wireOf 41 = .ok (.lreturn, 1) := by decide +kernel
abbrev cX5_beginOn : ByteArray := prog_7_method_33_code
def yX5_beginOn : MethodName := ⟨RX5, "beginOn", "(II)J"⟩
def wsX5_beginOn : List Cond := .code yX5_beginOn cX5_beginOn 3 (some .long) :: bT
theorem dX5_beginOn_0 : decode cX5_beginOn 0 = .ok (.iload_n 2, 1) := by decide +kernel
theorem dX5_beginOn_1 : decode cX5_beginOn 1 = .ok (.tableswitch 50 0 2 #[27, 34, 43], 27) := by decide +kernel
theorem dX5_beginOn_28 : decode cX5_beginOn 28 = .ok (.aload_n 0, 1) := by decide +kernel
theorem dX5_beginOn_29 : decode cX5_beginOn 29 = .ok (.iconst 1, 1) := by decide +kernel
theorem dX5_beginOn_30 : decode cX5_beginOn 30 = .ok (.iload_n 1, 1) := by decide +kernel
theorem dX5_beginOn_31 : decode cX5_beginOn 31 = .ok (.invokevirtual 92, 3) := by decide +kernel
theorem dX5_beginOn_34 : decode cX5_beginOn 34 = .ok (.lreturn, 1) := by decide +kernel
theorem dX5_beginOn_35 : decode cX5_beginOn 35 = .ok (.lconst 0, 1) := by decide +kernel
theorem dX5_beginOn_36 : decode cX5_beginOn 36 = .ok (.aload_n 0, 1) := by decide +kernel
theorem dX5_beginOn_37 : decode cX5_beginOn 37 = .ok (.iconst 1, 1) := by decide +kernel
theorem dX5_beginOn_38 : decode cX5_beginOn 38 = .ok (.iload_n 1, 1) := by decide +kernel
theorem dX5_beginOn_39 : decode cX5_beginOn 39 = .ok (.invokevirtual 103, 3) := by decide +kernel
theorem dX5_beginOn_42 : decode cX5_beginOn 42 = .ok (.lsub, 1) := by decide +kernel
theorem dX5_beginOn_43 : decode cX5_beginOn 43 = .ok (.lreturn, 1) := by decide +kernel
theorem dX5_beginOn_44 : decode cX5_beginOn 44 = .ok (.aload_n 0, 1) := by decide +kernel
theorem dX5_beginOn_45 : decode cX5_beginOn 45 = .ok (.iconst 1, 1) := by decide +kernel
theorem dX5_beginOn_46 : decode cX5_beginOn 46 = .ok (.iload_n 1, 1) := by decide +kernel
theorem dX5_beginOn_47 : decode cX5_beginOn 47 = .ok (.invokevirtual 100, 3) := by decide +kernel
theorem dX5_beginOn_50 : decode cX5_beginOn 50 = .ok (.lreturn, 1) := by decide +kernel
theorem dX5_beginOn_51 : decode cX5_beginOn 51 = .ok (.lconst 0, 1) := by decide +kernel
theorem dX5_beginOn_52 : decode cX5_beginOn 52 = .ok (.aload_n 0, 1) := by decide +kernel
theorem dX5_beginOn_53 : decode cX5_beginOn 53 = .ok (.iconst 1, 1) := by decide +kernel
theorem dX5_beginOn_54 : decode cX5_beginOn 54 = .ok (.iload_n 1, 1) := by decide +kernel
theorem dX5_beginOn_55 : decode cX5_beginOn 55 = .ok (.invokevirtual 106, 3) := by decide +kernel
theorem dX5_beginOn_58 : decode cX5_beginOn 58 = .ok (.lsub, 1) := by decide +kernel
theorem dX5_beginOn_59 : decode cX5_beginOn 59 = .ok (.lreturn, 1) := by decide +kernel
abbrev cX5_firstOverlap : ByteArray := prog_7_method_34_code
def yX5_firstOverlap : MethodName := ⟨RX5, "firstOverlap", "()I"⟩
def wsX5_firstOverlap : List Cond := .code yX5_firstOverlap cX5_firstOverlap 4 (some .int) :: bT
theorem dX5_firstOverlap_0 : decode cX5_firstOverlap 0 = .ok (.iconst 0, 1) := by decide +kernel
theorem dX5_firstOverlap_1 : decode cX5_firstOverlap 1 = .ok (.istore_n 1, 1) := by decide +kernel
theorem dX5_firstOverlap_2 : decode cX5_firstOverlap 2 = .ok (.iload_n 1, 1) := by decide +kernel
theorem dX5_firstOverlap_3 : decode cX5_firstOverlap 3 = .ok (.aload_n 0, 1) := by decide +kernel
theorem dX5_firstOverlap_4 : decode cX5_firstOverlap 4 = .ok (.getfield 85, 3) := by decide +kernel
theorem dX5_firstOverlap_7 : decode cX5_firstOverlap 7 = .ok (.if_icmp .ge (105), 3) := by decide +kernel
theorem dX5_firstOverlap_10 : decode cX5_firstOverlap 10 = .ok (.iload_n 1, 1) := by decide +kernel
theorem dX5_firstOverlap_11 : decode cX5_firstOverlap 11 = .ok (.iconst 1, 1) := by decide +kernel
theorem dX5_firstOverlap_12 : decode cX5_firstOverlap 12 = .ok (.iadd, 1) := by decide +kernel
theorem dX5_firstOverlap_13 : decode cX5_firstOverlap 13 = .ok (.istore_n 2, 1) := by decide +kernel
theorem dX5_firstOverlap_14 : decode cX5_firstOverlap 14 = .ok (.iload_n 2, 1) := by decide +kernel
theorem dX5_firstOverlap_15 : decode cX5_firstOverlap 15 = .ok (.aload_n 0, 1) := by decide +kernel
theorem dX5_firstOverlap_16 : decode cX5_firstOverlap 16 = .ok (.getfield 85, 3) := by decide +kernel
theorem dX5_firstOverlap_19 : decode cX5_firstOverlap 19 = .ok (.if_icmp .ge (87), 3) := by decide +kernel
theorem dX5_firstOverlap_22 : decode cX5_firstOverlap 22 = .ok (.aload_n 0, 1) := by decide +kernel
theorem dX5_firstOverlap_23 : decode cX5_firstOverlap 23 = .ok (.getfield 30, 3) := by decide +kernel
theorem dX5_firstOverlap_26 : decode cX5_firstOverlap 26 = .ok (.iload_n 1, 1) := by decide +kernel
theorem dX5_firstOverlap_27 : decode cX5_firstOverlap 27 = .ok (.baload, 1) := by decide +kernel
theorem dX5_firstOverlap_28 : decode cX5_firstOverlap 28 = .ok (.ifCond .eq (31), 3) := by decide +kernel
theorem dX5_firstOverlap_31 : decode cX5_firstOverlap 31 = .ok (.aload_n 0, 1) := by decide +kernel
theorem dX5_firstOverlap_32 : decode cX5_firstOverlap 32 = .ok (.getfield 30, 3) := by decide +kernel
theorem dX5_firstOverlap_35 : decode cX5_firstOverlap 35 = .ok (.iload_n 2, 1) := by decide +kernel
theorem dX5_firstOverlap_36 : decode cX5_firstOverlap 36 = .ok (.baload, 1) := by decide +kernel
theorem dX5_firstOverlap_37 : decode cX5_firstOverlap 37 = .ok (.ifCond .eq (22), 3) := by decide +kernel
theorem dX5_firstOverlap_40 : decode cX5_firstOverlap 40 = .ok (.aload_n 0, 1) := by decide +kernel
theorem dX5_firstOverlap_41 : decode cX5_firstOverlap 41 = .ok (.getfield 16, 3) := by decide +kernel
theorem dX5_firstOverlap_44 : decode cX5_firstOverlap 44 = .ok (.iload_n 1, 1) := by decide +kernel
theorem dX5_firstOverlap_45 : decode cX5_firstOverlap 45 = .ok (.iaload, 1) := by decide +kernel
theorem dX5_firstOverlap_46 : decode cX5_firstOverlap 46 = .ok (.aload_n 0, 1) := by decide +kernel
theorem dX5_firstOverlap_47 : decode cX5_firstOverlap 47 = .ok (.getfield 16, 3) := by decide +kernel
theorem dX5_firstOverlap_50 : decode cX5_firstOverlap 50 = .ok (.iload_n 2, 1) := by decide +kernel
theorem dX5_firstOverlap_51 : decode cX5_firstOverlap 51 = .ok (.iaload, 1) := by decide +kernel
theorem dX5_firstOverlap_52 : decode cX5_firstOverlap 52 = .ok (.if_icmp .ne (7), 3) := by decide +kernel
theorem dX5_firstOverlap_55 : decode cX5_firstOverlap 55 = .ok (.iconst 1, 1) := by decide +kernel
theorem dX5_firstOverlap_56 : decode cX5_firstOverlap 56 = .ok (.goto (4), 3) := by decide +kernel
theorem dX5_firstOverlap_59 : decode cX5_firstOverlap 59 = .ok (.iconst 0, 1) := by decide +kernel
theorem dX5_firstOverlap_60 : decode cX5_firstOverlap 60 = .ok (.istore_n 3, 1) := by decide +kernel
theorem dX5_firstOverlap_61 : decode cX5_firstOverlap 61 = .ok (.iload_n 3, 1) := by decide +kernel
theorem dX5_firstOverlap_62 : decode cX5_firstOverlap 62 = .ok (.ifCond .eq (38), 3) := by decide +kernel
theorem dX5_firstOverlap_65 : decode cX5_firstOverlap 65 = .ok (.aload_n 0, 1) := by decide +kernel
theorem dX5_firstOverlap_66 : decode cX5_firstOverlap 66 = .ok (.getfield 66, 3) := by decide +kernel
theorem dX5_firstOverlap_69 : decode cX5_firstOverlap 69 = .ok (.iload_n 1, 1) := by decide +kernel
theorem dX5_firstOverlap_70 : decode cX5_firstOverlap 70 = .ok (.baload, 1) := by decide +kernel
theorem dX5_firstOverlap_71 : decode cX5_firstOverlap 71 = .ok (.ifCond .ne (12), 3) := by decide +kernel
theorem dX5_firstOverlap_74 : decode cX5_firstOverlap 74 = .ok (.aload_n 0, 1) := by decide +kernel
theorem dX5_firstOverlap_75 : decode cX5_firstOverlap 75 = .ok (.getfield 66, 3) := by decide +kernel
theorem dX5_firstOverlap_78 : decode cX5_firstOverlap 78 = .ok (.iload_n 2, 1) := by decide +kernel
theorem dX5_firstOverlap_79 : decode cX5_firstOverlap 79 = .ok (.baload, 1) := by decide +kernel
theorem dX5_firstOverlap_80 : decode cX5_firstOverlap 80 = .ok (.ifCond .eq (20), 3) := by decide +kernel
theorem dX5_firstOverlap_83 : decode cX5_firstOverlap 83 = .ok (.aload_n 0, 1) := by decide +kernel
theorem dX5_firstOverlap_84 : decode cX5_firstOverlap 84 = .ok (.iconst 1, 1) := by decide +kernel
theorem dX5_firstOverlap_85 : decode cX5_firstOverlap 85 = .ok (.iload_n 1, 1) := by decide +kernel
theorem dX5_firstOverlap_86 : decode cX5_firstOverlap 86 = .ok (.iload_n 2, 1) := by decide +kernel
theorem dX5_firstOverlap_87 : decode cX5_firstOverlap 87 = .ok (.invokevirtual 122, 3) := by decide +kernel
theorem dX5_firstOverlap_90 : decode cX5_firstOverlap 90 = .ok (.ifCond .eq (10), 3) := by decide +kernel
theorem dX5_firstOverlap_93 : decode cX5_firstOverlap 93 = .ok (.bipush 40, 2) := by decide +kernel
theorem dX5_firstOverlap_95 : decode cX5_firstOverlap 95 = .ok (.iload_n 1, 1) := by decide +kernel
theorem dX5_firstOverlap_96 : decode cX5_firstOverlap 96 = .ok (.imul, 1) := by decide +kernel
theorem dX5_firstOverlap_97 : decode cX5_firstOverlap 97 = .ok (.iload_n 2, 1) := by decide +kernel
theorem dX5_firstOverlap_98 : decode cX5_firstOverlap 98 = .ok (.iadd, 1) := by decide +kernel
theorem dX5_firstOverlap_99 : decode cX5_firstOverlap 99 = .ok (.ireturn, 1) := by decide +kernel
theorem dX5_firstOverlap_100 : decode cX5_firstOverlap 100 = .ok (.iinc 2 1, 3) := by decide +kernel
theorem dX5_firstOverlap_103 : decode cX5_firstOverlap 103 = .ok (.goto (-89), 3) := by decide +kernel
theorem dX5_firstOverlap_106 : decode cX5_firstOverlap 106 = .ok (.iinc 1 1, 3) := by decide +kernel
theorem dX5_firstOverlap_109 : decode cX5_firstOverlap 109 = .ok (.goto (-107), 3) := by decide +kernel
theorem dX5_firstOverlap_112 : decode cX5_firstOverlap 112 = .ok (.iconst (-1), 1) := by decide +kernel
theorem dX5_firstOverlap_113 : decode cX5_firstOverlap 113 = .ok (.ireturn, 1) := by decide +kernel
abbrev cX5_goOn : ByteArray := prog_7_method_35_code
def yX5_goOn : MethodName := ⟨RX5, "goOn", "(III)V"⟩
def wsX5_goOn : List Cond := .code yX5_goOn cX5_goOn 4 none :: bT
theorem dX5_goOn_0 : decode cX5_goOn 0 = .ok (.iload_n 3, 1) := by decide +kernel
theorem dX5_goOn_1 : decode cX5_goOn 1 = .ok (.ifCond .ne (25), 3) := by decide +kernel
theorem dX5_goOn_4 : decode cX5_goOn 4 = .ok (.aload_n 0, 1) := by decide +kernel
theorem dX5_goOn_5 : decode cX5_goOn 5 = .ok (.iload_n 1, 1) := by decide +kernel
theorem dX5_goOn_6 : decode cX5_goOn 6 = .ok (.aload_n 0, 1) := by decide +kernel
theorem dX5_goOn_7 : decode cX5_goOn 7 = .ok (.iconst 1, 1) := by decide +kernel
theorem dX5_goOn_8 : decode cX5_goOn 8 = .ok (.iload_n 2, 1) := by decide +kernel
theorem dX5_goOn_9 : decode cX5_goOn 9 = .ok (.invokevirtual 103, 3) := by decide +kernel
theorem dX5_goOn_12 : decode cX5_goOn 12 = .ok (.aload_n 0, 1) := by decide +kernel
theorem dX5_goOn_13 : decode cX5_goOn 13 = .ok (.iconst 1, 1) := by decide +kernel
theorem dX5_goOn_14 : decode cX5_goOn 14 = .ok (.iload_n 1, 1) := by decide +kernel
theorem dX5_goOn_15 : decode cX5_goOn 15 = .ok (.invokevirtual 92, 3) := by decide +kernel
theorem dX5_goOn_18 : decode cX5_goOn 18 = .ok (.lsub, 1) := by decide +kernel
theorem dX5_goOn_19 : decode cX5_goOn 19 = .ok (.lconst 0, 1) := by decide +kernel
theorem dX5_goOn_20 : decode cX5_goOn 20 = .ok (.invokevirtual 149, 3) := by decide +kernel
theorem dX5_goOn_23 : decode cX5_goOn 23 = .ok (.goto (76), 3) := by decide +kernel
theorem dX5_goOn_26 : decode cX5_goOn 26 = .ok (.iload_n 3, 1) := by decide +kernel
theorem dX5_goOn_27 : decode cX5_goOn 27 = .ok (.iconst 1, 1) := by decide +kernel
theorem dX5_goOn_28 : decode cX5_goOn 28 = .ok (.if_icmp .ne (25), 3) := by decide +kernel
theorem dX5_goOn_31 : decode cX5_goOn 31 = .ok (.aload_n 0, 1) := by decide +kernel
theorem dX5_goOn_32 : decode cX5_goOn 32 = .ok (.iload_n 1, 1) := by decide +kernel
theorem dX5_goOn_33 : decode cX5_goOn 33 = .ok (.aload_n 0, 1) := by decide +kernel
theorem dX5_goOn_34 : decode cX5_goOn 34 = .ok (.iconst 1, 1) := by decide +kernel
theorem dX5_goOn_35 : decode cX5_goOn 35 = .ok (.iload_n 2, 1) := by decide +kernel
theorem dX5_goOn_36 : decode cX5_goOn 36 = .ok (.invokevirtual 92, 3) := by decide +kernel
theorem dX5_goOn_39 : decode cX5_goOn 39 = .ok (.aload_n 0, 1) := by decide +kernel
theorem dX5_goOn_40 : decode cX5_goOn 40 = .ok (.iconst 1, 1) := by decide +kernel
theorem dX5_goOn_41 : decode cX5_goOn 41 = .ok (.iload_n 1, 1) := by decide +kernel
theorem dX5_goOn_42 : decode cX5_goOn 42 = .ok (.invokevirtual 103, 3) := by decide +kernel
theorem dX5_goOn_45 : decode cX5_goOn 45 = .ok (.lsub, 1) := by decide +kernel
theorem dX5_goOn_46 : decode cX5_goOn 46 = .ok (.lconst 0, 1) := by decide +kernel
theorem dX5_goOn_47 : decode cX5_goOn 47 = .ok (.invokevirtual 149, 3) := by decide +kernel
theorem dX5_goOn_50 : decode cX5_goOn 50 = .ok (.goto (49), 3) := by decide +kernel
theorem dX5_goOn_53 : decode cX5_goOn 53 = .ok (.iload_n 3, 1) := by decide +kernel
theorem dX5_goOn_54 : decode cX5_goOn 54 = .ok (.iconst 2, 1) := by decide +kernel
theorem dX5_goOn_55 : decode cX5_goOn 55 = .ok (.if_icmp .ne (25), 3) := by decide +kernel
theorem dX5_goOn_58 : decode cX5_goOn 58 = .ok (.aload_n 0, 1) := by decide +kernel
theorem dX5_goOn_59 : decode cX5_goOn 59 = .ok (.iload_n 1, 1) := by decide +kernel
theorem dX5_goOn_60 : decode cX5_goOn 60 = .ok (.lconst 0, 1) := by decide +kernel
theorem dX5_goOn_61 : decode cX5_goOn 61 = .ok (.aload_n 0, 1) := by decide +kernel
theorem dX5_goOn_62 : decode cX5_goOn 62 = .ok (.iconst 1, 1) := by decide +kernel
theorem dX5_goOn_63 : decode cX5_goOn 63 = .ok (.iload_n 2, 1) := by decide +kernel
theorem dX5_goOn_64 : decode cX5_goOn 64 = .ok (.invokevirtual 106, 3) := by decide +kernel
theorem dX5_goOn_67 : decode cX5_goOn 67 = .ok (.aload_n 0, 1) := by decide +kernel
theorem dX5_goOn_68 : decode cX5_goOn 68 = .ok (.iconst 1, 1) := by decide +kernel
theorem dX5_goOn_69 : decode cX5_goOn 69 = .ok (.iload_n 1, 1) := by decide +kernel
theorem dX5_goOn_70 : decode cX5_goOn 70 = .ok (.invokevirtual 100, 3) := by decide +kernel
theorem dX5_goOn_73 : decode cX5_goOn 73 = .ok (.lsub, 1) := by decide +kernel
theorem dX5_goOn_74 : decode cX5_goOn 74 = .ok (.invokevirtual 149, 3) := by decide +kernel
theorem dX5_goOn_77 : decode cX5_goOn 77 = .ok (.goto (22), 3) := by decide +kernel
theorem dX5_goOn_80 : decode cX5_goOn 80 = .ok (.aload_n 0, 1) := by decide +kernel
theorem dX5_goOn_81 : decode cX5_goOn 81 = .ok (.iload_n 1, 1) := by decide +kernel
theorem dX5_goOn_82 : decode cX5_goOn 82 = .ok (.lconst 0, 1) := by decide +kernel
theorem dX5_goOn_83 : decode cX5_goOn 83 = .ok (.aload_n 0, 1) := by decide +kernel
theorem dX5_goOn_84 : decode cX5_goOn 84 = .ok (.iconst 1, 1) := by decide +kernel
theorem dX5_goOn_85 : decode cX5_goOn 85 = .ok (.iload_n 2, 1) := by decide +kernel
theorem dX5_goOn_86 : decode cX5_goOn 86 = .ok (.invokevirtual 100, 3) := by decide +kernel
theorem dX5_goOn_89 : decode cX5_goOn 89 = .ok (.aload_n 0, 1) := by decide +kernel
theorem dX5_goOn_90 : decode cX5_goOn 90 = .ok (.iconst 1, 1) := by decide +kernel
theorem dX5_goOn_91 : decode cX5_goOn 91 = .ok (.iload_n 1, 1) := by decide +kernel
theorem dX5_goOn_92 : decode cX5_goOn 92 = .ok (.invokevirtual 106, 3) := by decide +kernel
theorem dX5_goOn_95 : decode cX5_goOn 95 = .ok (.lsub, 1) := by decide +kernel
theorem dX5_goOn_96 : decode cX5_goOn 96 = .ok (.invokevirtual 149, 3) := by decide +kernel
theorem dX5_goOn_99 : decode cX5_goOn 99 = .ok (.return_, 1) := by decide +kernel
abbrev cX5_shove : ByteArray := prog_7_method_36_code
def yX5_shove : MethodName := ⟨RX5, "shove", "(II)Z"⟩
def wsX5_shove : List Cond := .code yX5_shove cX5_shove 8 (some .boolean) :: bT
theorem dX5_shove_0 : decode cX5_shove 0 = .ok (.aload_n 0, 1) := by decide +kernel
theorem dX5_shove_1 : decode cX5_shove 1 = .ok (.invokevirtual 177, 3) := by decide +kernel
theorem dX5_shove_4 : decode cX5_shove 4 = .ok (.istore_n 3, 1) := by decide +kernel
theorem dX5_shove_5 : decode cX5_shove 5 = .ok (.iconst 0, 1) := by decide +kernel
theorem dX5_shove_6 : decode cX5_shove 6 = .ok (.istore 4, 2) := by decide +kernel
theorem dX5_shove_8 : decode cX5_shove 8 = .ok (.iload_n 3, 1) := by decide +kernel
theorem dX5_shove_9 : decode cX5_shove 9 = .ok (.iconst (-1), 1) := by decide +kernel
theorem dX5_shove_10 : decode cX5_shove 10 = .ok (.if_icmp .eq (136), 3) := by decide +kernel
theorem dX5_shove_13 : decode cX5_shove 13 = .ok (.iload_n 3, 1) := by decide +kernel
theorem dX5_shove_14 : decode cX5_shove 14 = .ok (.bipush 40, 2) := by decide +kernel
theorem dX5_shove_16 : decode cX5_shove 16 = .ok (.idiv, 1) := by decide +kernel
theorem dX5_shove_17 : decode cX5_shove 17 = .ok (.istore 5, 2) := by decide +kernel
theorem dX5_shove_19 : decode cX5_shove 19 = .ok (.iload_n 3, 1) := by decide +kernel
theorem dX5_shove_20 : decode cX5_shove 20 = .ok (.bipush 40, 2) := by decide +kernel
theorem dX5_shove_22 : decode cX5_shove 22 = .ok (.irem, 1) := by decide +kernel
theorem dX5_shove_23 : decode cX5_shove 23 = .ok (.istore 6, 2) := by decide +kernel
theorem dX5_shove_25 : decode cX5_shove 25 = .ok (.iload 4, 2) := by decide +kernel
theorem dX5_shove_27 : decode cX5_shove 27 = .ok (.sipush 200, 3) := by decide +kernel
theorem dX5_shove_30 : decode cX5_shove 30 = .ok (.if_icmp .eq (20), 3) := by decide +kernel
theorem dX5_shove_33 : decode cX5_shove 33 = .ok (.aload_n 0, 1) := by decide +kernel
theorem dX5_shove_34 : decode cX5_shove 34 = .ok (.getfield 27, 3) := by decide +kernel
theorem dX5_shove_37 : decode cX5_shove 37 = .ok (.iload 5, 2) := by decide +kernel
theorem dX5_shove_39 : decode cX5_shove 39 = .ok (.iaload, 1) := by decide +kernel
theorem dX5_shove_40 : decode cX5_shove 40 = .ok (.aload_n 0, 1) := by decide +kernel
theorem dX5_shove_41 : decode cX5_shove 41 = .ok (.getfield 27, 3) := by decide +kernel
theorem dX5_shove_44 : decode cX5_shove 44 = .ok (.iload 6, 2) := by decide +kernel
theorem dX5_shove_46 : decode cX5_shove 46 = .ok (.iaload, 1) := by decide +kernel
theorem dX5_shove_47 : decode cX5_shove 47 = .ok (.if_icmp .ne (5), 3) := by decide +kernel
theorem dX5_shove_50 : decode cX5_shove 50 = .ok (.iconst 0, 1) := by decide +kernel
theorem dX5_shove_51 : decode cX5_shove 51 = .ok (.ireturn, 1) := by decide +kernel
theorem dX5_shove_52 : decode cX5_shove 52 = .ok (.aload_n 0, 1) := by decide +kernel
theorem dX5_shove_53 : decode cX5_shove 53 = .ok (.getfield 27, 3) := by decide +kernel
theorem dX5_shove_56 : decode cX5_shove 56 = .ok (.iload 5, 2) := by decide +kernel
theorem dX5_shove_58 : decode cX5_shove 58 = .ok (.iaload, 1) := by decide +kernel
theorem dX5_shove_59 : decode cX5_shove 59 = .ok (.aload_n 0, 1) := by decide +kernel
theorem dX5_shove_60 : decode cX5_shove 60 = .ok (.getfield 27, 3) := by decide +kernel
theorem dX5_shove_63 : decode cX5_shove 63 = .ok (.iload_n 1, 1) := by decide +kernel
theorem dX5_shove_64 : decode cX5_shove 64 = .ok (.iaload, 1) := by decide +kernel
theorem dX5_shove_65 : decode cX5_shove 65 = .ok (.if_icmp .eq (37), 3) := by decide +kernel
theorem dX5_shove_68 : decode cX5_shove 68 = .ok (.aload_n 0, 1) := by decide +kernel
theorem dX5_shove_69 : decode cX5_shove 69 = .ok (.getfield 27, 3) := by decide +kernel
theorem dX5_shove_72 : decode cX5_shove 72 = .ok (.iload 6, 2) := by decide +kernel
theorem dX5_shove_74 : decode cX5_shove 74 = .ok (.iaload, 1) := by decide +kernel
theorem dX5_shove_75 : decode cX5_shove 75 = .ok (.aload_n 0, 1) := by decide +kernel
theorem dX5_shove_76 : decode cX5_shove 76 = .ok (.getfield 27, 3) := by decide +kernel
theorem dX5_shove_79 : decode cX5_shove 79 = .ok (.iload_n 1, 1) := by decide +kernel
theorem dX5_shove_80 : decode cX5_shove 80 = .ok (.iaload, 1) := by decide +kernel
theorem dX5_shove_81 : decode cX5_shove 81 = .ok (.if_icmp .eq (25), 3) := by decide +kernel
theorem dX5_shove_84 : decode cX5_shove 84 = .ok (.aload_n 0, 1) := by decide +kernel
theorem dX5_shove_85 : decode cX5_shove 85 = .ok (.iload 6, 2) := by decide +kernel
theorem dX5_shove_87 : decode cX5_shove 87 = .ok (.iload_n 2, 1) := by decide +kernel
theorem dX5_shove_88 : decode cX5_shove 88 = .ok (.invokevirtual 181, 3) := by decide +kernel
theorem dX5_shove_91 : decode cX5_shove 91 = .ok (.aload_n 0, 1) := by decide +kernel
theorem dX5_shove_92 : decode cX5_shove 92 = .ok (.iload 5, 2) := by decide +kernel
theorem dX5_shove_94 : decode cX5_shove 94 = .ok (.iload_n 2, 1) := by decide +kernel
theorem dX5_shove_95 : decode cX5_shove 95 = .ok (.invokevirtual 181, 3) := by decide +kernel
theorem dX5_shove_98 : decode cX5_shove 98 = .ok (.lcmp, 1) := by decide +kernel
theorem dX5_shove_99 : decode cX5_shove 99 = .ok (.ifCond .lt (7), 3) := by decide +kernel
theorem dX5_shove_102 : decode cX5_shove 102 = .ok (.iconst 1, 1) := by decide +kernel
theorem dX5_shove_103 : decode cX5_shove 103 = .ok (.goto (4), 3) := by decide +kernel
theorem dX5_shove_106 : decode cX5_shove 106 = .ok (.iconst 0, 1) := by decide +kernel
theorem dX5_shove_107 : decode cX5_shove 107 = .ok (.istore 7, 2) := by decide +kernel
theorem dX5_shove_109 : decode cX5_shove 109 = .ok (.iload 7, 2) := by decide +kernel
theorem dX5_shove_111 : decode cX5_shove 111 = .ok (.ifCond .eq (15), 3) := by decide +kernel
theorem dX5_shove_114 : decode cX5_shove 114 = .ok (.aload_n 0, 1) := by decide +kernel
theorem dX5_shove_115 : decode cX5_shove 115 = .ok (.iload 6, 2) := by decide +kernel
theorem dX5_shove_117 : decode cX5_shove 117 = .ok (.iload 5, 2) := by decide +kernel
theorem dX5_shove_119 : decode cX5_shove 119 = .ok (.iload_n 2, 1) := by decide +kernel
theorem dX5_shove_120 : decode cX5_shove 120 = .ok (.invokevirtual 184, 3) := by decide +kernel
theorem dX5_shove_123 : decode cX5_shove 123 = .ok (.goto (12), 3) := by decide +kernel
theorem dX5_shove_126 : decode cX5_shove 126 = .ok (.aload_n 0, 1) := by decide +kernel
theorem dX5_shove_127 : decode cX5_shove 127 = .ok (.iload 5, 2) := by decide +kernel
theorem dX5_shove_129 : decode cX5_shove 129 = .ok (.iload 6, 2) := by decide +kernel
theorem dX5_shove_131 : decode cX5_shove 131 = .ok (.iload_n 2, 1) := by decide +kernel
theorem dX5_shove_132 : decode cX5_shove 132 = .ok (.invokevirtual 184, 3) := by decide +kernel
theorem dX5_shove_135 : decode cX5_shove 135 = .ok (.aload_n 0, 1) := by decide +kernel
theorem dX5_shove_136 : decode cX5_shove 136 = .ok (.invokevirtual 177, 3) := by decide +kernel
theorem dX5_shove_139 : decode cX5_shove 139 = .ok (.istore_n 3, 1) := by decide +kernel
theorem dX5_shove_140 : decode cX5_shove 140 = .ok (.iinc 4 1, 3) := by decide +kernel
theorem dX5_shove_143 : decode cX5_shove 143 = .ok (.goto (-135), 3) := by decide +kernel
theorem dX5_shove_146 : decode cX5_shove 146 = .ok (.iconst 1, 1) := by decide +kernel
theorem dX5_shove_147 : decode cX5_shove 147 = .ok (.ireturn, 1) := by decide +kernel
abbrev cX5_draw : ByteArray := prog_7_method_41_code
def yX5_draw : MethodName := ⟨RX5, "draw", "()J"⟩
def wsX5_draw : List Cond := .code yX5_draw cX5_draw 1 (some .long) :: bT
theorem dX5_draw_0 : decode cX5_draw 0 = .ok (.aload_n 0, 1) := by decide +kernel
theorem dX5_draw_1 : decode cX5_draw 1 = .ok (.aload_n 0, 1) := by decide +kernel
theorem dX5_draw_2 : decode cX5_draw 2 = .ok (.getfield 78, 3) := by decide +kernel
theorem dX5_draw_5 : decode cX5_draw 5 = .ok (.ldc2_w 195, 3) := by decide +kernel
theorem dX5_draw_8 : decode cX5_draw 8 = .ok (.lmul, 1) := by decide +kernel
theorem dX5_draw_9 : decode cX5_draw 9 = .ok (.ldc2_w 197, 3) := by decide +kernel
theorem dX5_draw_12 : decode cX5_draw 12 = .ok (.ladd, 1) := by decide +kernel
theorem dX5_draw_13 : decode cX5_draw 13 = .ok (.putfield 78, 3) := by decide +kernel
theorem dX5_draw_16 : decode cX5_draw 16 = .ok (.aload_n 0, 1) := by decide +kernel
theorem dX5_draw_17 : decode cX5_draw 17 = .ok (.getfield 78, 3) := by decide +kernel
theorem dX5_draw_20 : decode cX5_draw 20 = .ok (.bipush 33, 2) := by decide +kernel
theorem dX5_draw_22 : decode cX5_draw 22 = .ok (.lushr, 1) := by decide +kernel
theorem dX5_draw_23 : decode cX5_draw 23 = .ok (.lreturn, 1) := by decide +kernel
abbrev cX5_step : ByteArray := prog_7_method_42_code
def yX5_step : MethodName := ⟨RX5, "step", "(JJJJ)V"⟩
def wsX5_step : List Cond := .code yX5_step cX5_step 15 none :: bT
theorem dX5_step_0 : decode cX5_step 0 = .ok (.lload_n 1, 1) := by decide +kernel
theorem dX5_step_1 : decode cX5_step 1 = .ok (.aload_n 0, 1) := by decide +kernel
theorem dX5_step_2 : decode cX5_step 2 = .ok (.getfield 85, 3) := by decide +kernel
theorem dX5_step_5 : decode cX5_step 5 = .ok (.i2l, 1) := by decide +kernel
theorem dX5_step_6 : decode cX5_step 6 = .ok (.lrem, 1) := by decide +kernel
theorem dX5_step_7 : decode cX5_step 7 = .ok (.l2i, 1) := by decide +kernel
theorem dX5_step_8 : decode cX5_step 8 = .ok (.istore 9, 2) := by decide +kernel
theorem dX5_step_10 : decode cX5_step 10 = .ok (.lload 5, 2) := by decide +kernel
theorem dX5_step_12 : decode cX5_step 12 = .ok (.aload_n 0, 1) := by decide +kernel
theorem dX5_step_13 : decode cX5_step 13 = .ok (.getfield 85, 3) := by decide +kernel
theorem dX5_step_16 : decode cX5_step 16 = .ok (.i2l, 1) := by decide +kernel
theorem dX5_step_17 : decode cX5_step 17 = .ok (.lrem, 1) := by decide +kernel
theorem dX5_step_18 : decode cX5_step 18 = .ok (.l2i, 1) := by decide +kernel
theorem dX5_step_19 : decode cX5_step 19 = .ok (.istore 10, 2) := by decide +kernel
theorem dX5_step_21 : decode cX5_step 21 = .ok (.aload_n 0, 1) := by decide +kernel
theorem dX5_step_22 : decode cX5_step 22 = .ok (.getfield 30, 3) := by decide +kernel
theorem dX5_step_25 : decode cX5_step 25 = .ok (.iload 9, 2) := by decide +kernel
theorem dX5_step_27 : decode cX5_step 27 = .ok (.baload, 1) := by decide +kernel
theorem dX5_step_28 : decode cX5_step 28 = .ok (.ifCond .eq (13), 3) := by decide +kernel
theorem dX5_step_31 : decode cX5_step 31 = .ok (.aload_n 0, 1) := by decide +kernel
theorem dX5_step_32 : decode cX5_step 32 = .ok (.getfield 23, 3) := by decide +kernel
theorem dX5_step_35 : decode cX5_step 35 = .ok (.iload 9, 2) := by decide +kernel
theorem dX5_step_37 : decode cX5_step 37 = .ok (.baload, 1) := by decide +kernel
theorem dX5_step_38 : decode cX5_step 38 = .ok (.ifCond .eq (4), 3) := by decide +kernel
theorem dX5_step_41 : decode cX5_step 41 = .ok (.return_, 1) := by decide +kernel
theorem dX5_step_42 : decode cX5_step 42 = .ok (.lload_n 3, 1) := by decide +kernel
theorem dX5_step_43 : decode cX5_step 43 = .ok (.ldc2_w 199, 3) := by decide +kernel
theorem dX5_step_46 : decode cX5_step 46 = .ok (.lrem, 1) := by decide +kernel
theorem dX5_step_47 : decode cX5_step 47 = .ok (.lconst 0, 1) := by decide +kernel
theorem dX5_step_48 : decode cX5_step 48 = .ok (.lcmp, 1) := by decide +kernel
theorem dX5_step_49 : decode cX5_step 49 = .ok (.ifCond .ne (92), 3) := by decide +kernel
theorem dX5_step_52 : decode cX5_step 52 = .ok (.aload_n 0, 1) := by decide +kernel
theorem dX5_step_53 : decode cX5_step 53 = .ok (.getfield 30, 3) := by decide +kernel
theorem dX5_step_56 : decode cX5_step 56 = .ok (.iload 10, 2) := by decide +kernel
theorem dX5_step_58 : decode cX5_step 58 = .ok (.baload, 1) := by decide +kernel
theorem dX5_step_59 : decode cX5_step 59 = .ok (.ifCond .eq (20), 3) := by decide +kernel
theorem dX5_step_62 : decode cX5_step 62 = .ok (.aload_n 0, 1) := by decide +kernel
theorem dX5_step_63 : decode cX5_step 63 = .ok (.getfield 27, 3) := by decide +kernel
theorem dX5_step_66 : decode cX5_step 66 = .ok (.iload 9, 2) := by decide +kernel
theorem dX5_step_68 : decode cX5_step 68 = .ok (.iaload, 1) := by decide +kernel
theorem dX5_step_69 : decode cX5_step 69 = .ok (.aload_n 0, 1) := by decide +kernel
theorem dX5_step_70 : decode cX5_step 70 = .ok (.getfield 27, 3) := by decide +kernel
theorem dX5_step_73 : decode cX5_step 73 = .ok (.iload 10, 2) := by decide +kernel
theorem dX5_step_75 : decode cX5_step 75 = .ok (.iaload, 1) := by decide +kernel
theorem dX5_step_76 : decode cX5_step 76 = .ok (.if_icmp .ne (4), 3) := by decide +kernel
theorem dX5_step_79 : decode cX5_step 79 = .ok (.return_, 1) := by decide +kernel
theorem dX5_step_80 : decode cX5_step 80 = .ok (.aload_n 0, 1) := by decide +kernel
theorem dX5_step_81 : decode cX5_step 81 = .ok (.iconst 0, 1) := by decide +kernel
theorem dX5_step_82 : decode cX5_step 82 = .ok (.iload 10, 2) := by decide +kernel
theorem dX5_step_84 : decode cX5_step 84 = .ok (.invokevirtual 92, 3) := by decide +kernel
theorem dX5_step_87 : decode cX5_step 87 = .ok (.aload_n 0, 1) := by decide +kernel
theorem dX5_step_88 : decode cX5_step 88 = .ok (.iconst 0, 1) := by decide +kernel
theorem dX5_step_89 : decode cX5_step 89 = .ok (.iload 9, 2) := by decide +kernel
theorem dX5_step_91 : decode cX5_step 91 = .ok (.invokevirtual 92, 3) := by decide +kernel
theorem dX5_step_94 : decode cX5_step 94 = .ok (.lsub, 1) := by decide +kernel
theorem dX5_step_95 : decode cX5_step 95 = .ok (.lstore 11, 2) := by decide +kernel
theorem dX5_step_97 : decode cX5_step 97 = .ok (.aload_n 0, 1) := by decide +kernel
theorem dX5_step_98 : decode cX5_step 98 = .ok (.iconst 0, 1) := by decide +kernel
theorem dX5_step_99 : decode cX5_step 99 = .ok (.iload 10, 2) := by decide +kernel
theorem dX5_step_101 : decode cX5_step 101 = .ok (.invokevirtual 100, 3) := by decide +kernel
theorem dX5_step_104 : decode cX5_step 104 = .ok (.aload_n 0, 1) := by decide +kernel
theorem dX5_step_105 : decode cX5_step 105 = .ok (.iconst 0, 1) := by decide +kernel
theorem dX5_step_106 : decode cX5_step 106 = .ok (.iload 9, 2) := by decide +kernel
theorem dX5_step_108 : decode cX5_step 108 = .ok (.invokevirtual 100, 3) := by decide +kernel
theorem dX5_step_111 : decode cX5_step 111 = .ok (.lsub, 1) := by decide +kernel
theorem dX5_step_112 : decode cX5_step 112 = .ok (.lstore 13, 2) := by decide +kernel
theorem dX5_step_114 : decode cX5_step 114 = .ok (.aload_n 0, 1) := by decide +kernel
theorem dX5_step_115 : decode cX5_step 115 = .ok (.iload 9, 2) := by decide +kernel
theorem dX5_step_117 : decode cX5_step 117 = .ok (.lload 11, 2) := by decide +kernel
theorem dX5_step_119 : decode cX5_step 119 = .ok (.lload 13, 2) := by decide +kernel
theorem dX5_step_121 : decode cX5_step 121 = .ok (.invokevirtual 149, 3) := by decide +kernel
theorem dX5_step_124 : decode cX5_step 124 = .ok (.aload_n 0, 1) := by decide +kernel
theorem dX5_step_125 : decode cX5_step 125 = .ok (.iload 10, 2) := by decide +kernel
theorem dX5_step_127 : decode cX5_step 127 = .ok (.lconst 0, 1) := by decide +kernel
theorem dX5_step_128 : decode cX5_step 128 = .ok (.lload 11, 2) := by decide +kernel
theorem dX5_step_130 : decode cX5_step 130 = .ok (.lsub, 1) := by decide +kernel
theorem dX5_step_131 : decode cX5_step 131 = .ok (.lconst 0, 1) := by decide +kernel
theorem dX5_step_132 : decode cX5_step 132 = .ok (.lload 13, 2) := by decide +kernel
theorem dX5_step_134 : decode cX5_step 134 = .ok (.lsub, 1) := by decide +kernel
theorem dX5_step_135 : decode cX5_step 135 = .ok (.invokevirtual 149, 3) := by decide +kernel
theorem dX5_step_138 : decode cX5_step 138 = .ok (.goto (90), 3) := by decide +kernel
theorem dX5_step_141 : decode cX5_step 141 = .ok (.lload_n 3, 1) := by decide +kernel
theorem dX5_step_142 : decode cX5_step 142 = .ok (.ldc2_w 199, 3) := by decide +kernel
theorem dX5_step_145 : decode cX5_step 145 = .ok (.lrem, 1) := by decide +kernel
theorem dX5_step_146 : decode cX5_step 146 = .ok (.lconst 1, 1) := by decide +kernel
theorem dX5_step_147 : decode cX5_step 147 = .ok (.lcmp, 1) := by decide +kernel
theorem dX5_step_148 : decode cX5_step 148 = .ok (.ifCond .ne (44), 3) := by decide +kernel
theorem dX5_step_151 : decode cX5_step 151 = .ok (.aload_n 0, 1) := by decide +kernel
theorem dX5_step_152 : decode cX5_step 152 = .ok (.iload 9, 2) := by decide +kernel
theorem dX5_step_154 : decode cX5_step 154 = .ok (.invokevirtual 146, 3) := by decide +kernel
theorem dX5_step_157 : decode cX5_step 157 = .ok (.ifCond .ne (71), 3) := by decide +kernel
theorem dX5_step_160 : decode cX5_step 160 = .ok (.aload_n 0, 1) := by decide +kernel
theorem dX5_step_161 : decode cX5_step 161 = .ok (.getfield 39, 3) := by decide +kernel
theorem dX5_step_164 : decode cX5_step 164 = .ok (.bipush 40, 2) := by decide +kernel
theorem dX5_step_166 : decode cX5_step 166 = .ok (.iload 9, 2) := by decide +kernel
theorem dX5_step_168 : decode cX5_step 168 = .ok (.iadd, 1) := by decide +kernel
theorem dX5_step_169 : decode cX5_step 169 = .ok (.aload_n 0, 1) := by decide +kernel
theorem dX5_step_170 : decode cX5_step 170 = .ok (.getfield 39, 3) := by decide +kernel
theorem dX5_step_173 : decode cX5_step 173 = .ok (.iload 9, 2) := by decide +kernel
theorem dX5_step_175 : decode cX5_step 175 = .ok (.iaload, 1) := by decide +kernel
theorem dX5_step_176 : decode cX5_step 176 = .ok (.lload 7, 2) := by decide +kernel
theorem dX5_step_178 : decode cX5_step 178 = .ok (.ldc2_w 201, 3) := by decide +kernel
theorem dX5_step_181 : decode cX5_step 181 = .ok (.lrem, 1) := by decide +kernel
theorem dX5_step_182 : decode cX5_step 182 = .ok (.l2i, 1) := by decide +kernel
theorem dX5_step_183 : decode cX5_step 183 = .ok (.iadd, 1) := by decide +kernel
theorem dX5_step_184 : decode cX5_step 184 = .ok (.iconst 1, 1) := by decide +kernel
theorem dX5_step_185 : decode cX5_step 185 = .ok (.iadd, 1) := by decide +kernel
theorem dX5_step_186 : decode cX5_step 186 = .ok (.iconst 4, 1) := by decide +kernel
theorem dX5_step_187 : decode cX5_step 187 = .ok (.irem, 1) := by decide +kernel
theorem dX5_step_188 : decode cX5_step 188 = .ok (.iastore, 1) := by decide +kernel
theorem dX5_step_189 : decode cX5_step 189 = .ok (.goto (39), 3) := by decide +kernel
theorem dX5_step_192 : decode cX5_step 192 = .ok (.aload_n 0, 1) := by decide +kernel
theorem dX5_step_193 : decode cX5_step 193 = .ok (.iload 9, 2) := by decide +kernel
theorem dX5_step_195 : decode cX5_step 195 = .ok (.lload 5, 2) := by decide +kernel
theorem dX5_step_197 : decode cX5_step 197 = .ok (.aload_n 0, 1) := by decide +kernel
theorem dX5_step_198 : decode cX5_step 198 = .ok (.getfield 71, 3) := by decide +kernel
theorem dX5_step_201 : decode cX5_step 201 = .ok (.lrem, 1) := by decide +kernel
theorem dX5_step_202 : decode cX5_step 202 = .ok (.aload_n 0, 1) := by decide +kernel
theorem dX5_step_203 : decode cX5_step 203 = .ok (.iconst 0, 1) := by decide +kernel
theorem dX5_step_204 : decode cX5_step 204 = .ok (.iload 9, 2) := by decide +kernel
theorem dX5_step_206 : decode cX5_step 206 = .ok (.invokevirtual 92, 3) := by decide +kernel
theorem dX5_step_209 : decode cX5_step 209 = .ok (.lsub, 1) := by decide +kernel
theorem dX5_step_210 : decode cX5_step 210 = .ok (.lload 7, 2) := by decide +kernel
theorem dX5_step_212 : decode cX5_step 212 = .ok (.aload_n 0, 1) := by decide +kernel
theorem dX5_step_213 : decode cX5_step 213 = .ok (.getfield 75, 3) := by decide +kernel
theorem dX5_step_216 : decode cX5_step 216 = .ok (.lrem, 1) := by decide +kernel
theorem dX5_step_217 : decode cX5_step 217 = .ok (.aload_n 0, 1) := by decide +kernel
theorem dX5_step_218 : decode cX5_step 218 = .ok (.iconst 0, 1) := by decide +kernel
theorem dX5_step_219 : decode cX5_step 219 = .ok (.iload 9, 2) := by decide +kernel
theorem dX5_step_221 : decode cX5_step 221 = .ok (.invokevirtual 100, 3) := by decide +kernel
theorem dX5_step_224 : decode cX5_step 224 = .ok (.lsub, 1) := by decide +kernel
theorem dX5_step_225 : decode cX5_step 225 = .ok (.invokevirtual 149, 3) := by decide +kernel
theorem dX5_step_228 : decode cX5_step 228 = .ok (.return_, 1) := by decide +kernel
abbrev cX5_changes : ByteArray := prog_7_method_43_code
def yX5_changes : MethodName := ⟨RX5, "changes", "()Z"⟩
def wsX5_changes : List Cond := .code yX5_changes cX5_changes 3 (some .boolean) :: bT
theorem dX5_changes_0 : decode cX5_changes 0 = .ok (.iconst 0, 1) := by decide +kernel
theorem dX5_changes_1 : decode cX5_changes 1 = .ok (.istore_n 1, 1) := by decide +kernel
theorem dX5_changes_2 : decode cX5_changes 2 = .ok (.iconst 0, 1) := by decide +kernel
theorem dX5_changes_3 : decode cX5_changes 3 = .ok (.istore_n 2, 1) := by decide +kernel
theorem dX5_changes_4 : decode cX5_changes 4 = .ok (.iload_n 2, 1) := by decide +kernel
theorem dX5_changes_5 : decode cX5_changes 5 = .ok (.aload_n 0, 1) := by decide +kernel
theorem dX5_changes_6 : decode cX5_changes 6 = .ok (.getfield 85, 3) := by decide +kernel
theorem dX5_changes_9 : decode cX5_changes 9 = .ok (.if_icmp .ge (37), 3) := by decide +kernel
theorem dX5_changes_12 : decode cX5_changes 12 = .ok (.iload_n 1, 1) := by decide +kernel
theorem dX5_changes_13 : decode cX5_changes 13 = .ok (.ifCond .ne (21), 3) := by decide +kernel
theorem dX5_changes_16 : decode cX5_changes 16 = .ok (.aload_n 0, 1) := by decide +kernel
theorem dX5_changes_17 : decode cX5_changes 17 = .ok (.getfield 30, 3) := by decide +kernel
theorem dX5_changes_20 : decode cX5_changes 20 = .ok (.iload_n 2, 1) := by decide +kernel
theorem dX5_changes_21 : decode cX5_changes 21 = .ok (.baload, 1) := by decide +kernel
theorem dX5_changes_22 : decode cX5_changes 22 = .ok (.ifCond .eq (16), 3) := by decide +kernel
theorem dX5_changes_25 : decode cX5_changes 25 = .ok (.aload_n 0, 1) := by decide +kernel
theorem dX5_changes_26 : decode cX5_changes 26 = .ok (.iconst 1, 1) := by decide +kernel
theorem dX5_changes_27 : decode cX5_changes 27 = .ok (.iload_n 2, 1) := by decide +kernel
theorem dX5_changes_28 : decode cX5_changes 28 = .ok (.invokevirtual 136, 3) := by decide +kernel
theorem dX5_changes_31 : decode cX5_changes 31 = .ok (.ifCond .ne (7), 3) := by decide +kernel
theorem dX5_changes_34 : decode cX5_changes 34 = .ok (.iconst 1, 1) := by decide +kernel
theorem dX5_changes_35 : decode cX5_changes 35 = .ok (.goto (4), 3) := by decide +kernel
theorem dX5_changes_38 : decode cX5_changes 38 = .ok (.iconst 0, 1) := by decide +kernel
theorem dX5_changes_39 : decode cX5_changes 39 = .ok (.istore_n 1, 1) := by decide +kernel
theorem dX5_changes_40 : decode cX5_changes 40 = .ok (.iinc 2 1, 3) := by decide +kernel
theorem dX5_changes_43 : decode cX5_changes 43 = .ok (.goto (-39), 3) := by decide +kernel
theorem dX5_changes_46 : decode cX5_changes 46 = .ok (.iload_n 1, 1) := by decide +kernel
theorem dX5_changes_47 : decode cX5_changes 47 = .ok (.ireturn, 1) := by decide +kernel
abbrev cX0_addKeepOut : ByteArray := prog_2_method_2_code
def yX0_addKeepOut : MethodName := ⟨RX0, "addKeepOut", "(JJJJJ)Z"⟩
def wsX0_addKeepOut : List Cond := .code yX0_addKeepOut cX0_addKeepOut 11 (some .boolean) :: bT
theorem dX0_addKeepOut_0 : decode cX0_addKeepOut 0 = .ok (.aload_n 0, 1) := by decide +kernel
theorem dX0_addKeepOut_1 : decode cX0_addKeepOut 1 = .ok (.getfield 37, 3) := by decide +kernel
theorem dX0_addKeepOut_4 : decode cX0_addKeepOut 4 = .ok (.bipush 10, 2) := by decide +kernel
theorem dX0_addKeepOut_6 : decode cX0_addKeepOut 6 = .ok (.if_icmp .lt (5), 3) := by decide +kernel
theorem dX0_addKeepOut_9 : decode cX0_addKeepOut 9 = .ok (.iconst 0, 1) := by decide +kernel
theorem dX0_addKeepOut_10 : decode cX0_addKeepOut 10 = .ok (.ireturn, 1) := by decide +kernel
theorem dX0_addKeepOut_11 : decode cX0_addKeepOut 11 = .ok (.aload_n 0, 1) := by decide +kernel
theorem dX0_addKeepOut_12 : decode cX0_addKeepOut 12 = .ok (.getfield 9, 3) := by decide +kernel
theorem dX0_addKeepOut_15 : decode cX0_addKeepOut 15 = .ok (.aload_n 0, 1) := by decide +kernel
theorem dX0_addKeepOut_16 : decode cX0_addKeepOut 16 = .ok (.getfield 37, 3) := by decide +kernel
theorem dX0_addKeepOut_19 : decode cX0_addKeepOut 19 = .ok (.lload_n 1, 1) := by decide +kernel
theorem dX0_addKeepOut_20 : decode cX0_addKeepOut 20 = .ok (.lastore, 1) := by decide +kernel
theorem dX0_addKeepOut_21 : decode cX0_addKeepOut 21 = .ok (.aload_n 0, 1) := by decide +kernel
theorem dX0_addKeepOut_22 : decode cX0_addKeepOut 22 = .ok (.getfield 15, 3) := by decide +kernel
theorem dX0_addKeepOut_25 : decode cX0_addKeepOut 25 = .ok (.aload_n 0, 1) := by decide +kernel
theorem dX0_addKeepOut_26 : decode cX0_addKeepOut 26 = .ok (.getfield 37, 3) := by decide +kernel
theorem dX0_addKeepOut_29 : decode cX0_addKeepOut 29 = .ok (.lload_n 3, 1) := by decide +kernel
theorem dX0_addKeepOut_30 : decode cX0_addKeepOut 30 = .ok (.lastore, 1) := by decide +kernel
theorem dX0_addKeepOut_31 : decode cX0_addKeepOut 31 = .ok (.aload_n 0, 1) := by decide +kernel
theorem dX0_addKeepOut_32 : decode cX0_addKeepOut 32 = .ok (.getfield 18, 3) := by decide +kernel
theorem dX0_addKeepOut_35 : decode cX0_addKeepOut 35 = .ok (.aload_n 0, 1) := by decide +kernel
theorem dX0_addKeepOut_36 : decode cX0_addKeepOut 36 = .ok (.getfield 37, 3) := by decide +kernel
theorem dX0_addKeepOut_39 : decode cX0_addKeepOut 39 = .ok (.lload 5, 2) := by decide +kernel
theorem dX0_addKeepOut_41 : decode cX0_addKeepOut 41 = .ok (.lastore, 1) := by decide +kernel
theorem dX0_addKeepOut_42 : decode cX0_addKeepOut 42 = .ok (.aload_n 0, 1) := by decide +kernel
theorem dX0_addKeepOut_43 : decode cX0_addKeepOut 43 = .ok (.getfield 21, 3) := by decide +kernel
theorem dX0_addKeepOut_46 : decode cX0_addKeepOut 46 = .ok (.aload_n 0, 1) := by decide +kernel
theorem dX0_addKeepOut_47 : decode cX0_addKeepOut 47 = .ok (.getfield 37, 3) := by decide +kernel
theorem dX0_addKeepOut_50 : decode cX0_addKeepOut 50 = .ok (.lload 7, 2) := by decide +kernel
theorem dX0_addKeepOut_52 : decode cX0_addKeepOut 52 = .ok (.lastore, 1) := by decide +kernel
theorem dX0_addKeepOut_53 : decode cX0_addKeepOut 53 = .ok (.aload_n 0, 1) := by decide +kernel
theorem dX0_addKeepOut_54 : decode cX0_addKeepOut 54 = .ok (.getfield 24, 3) := by decide +kernel
theorem dX0_addKeepOut_57 : decode cX0_addKeepOut 57 = .ok (.aload_n 0, 1) := by decide +kernel
theorem dX0_addKeepOut_58 : decode cX0_addKeepOut 58 = .ok (.getfield 37, 3) := by decide +kernel
theorem dX0_addKeepOut_61 : decode cX0_addKeepOut 61 = .ok (.lload 9, 2) := by decide +kernel
theorem dX0_addKeepOut_63 : decode cX0_addKeepOut 63 = .ok (.lastore, 1) := by decide +kernel
theorem dX0_addKeepOut_64 : decode cX0_addKeepOut 64 = .ok (.aload_n 0, 1) := by decide +kernel
theorem dX0_addKeepOut_65 : decode cX0_addKeepOut 65 = .ok (.dup, 1) := by decide +kernel
theorem dX0_addKeepOut_66 : decode cX0_addKeepOut 66 = .ok (.getfield 37, 3) := by decide +kernel
theorem dX0_addKeepOut_69 : decode cX0_addKeepOut 69 = .ok (.iconst 1, 1) := by decide +kernel
theorem dX0_addKeepOut_70 : decode cX0_addKeepOut 70 = .ok (.iadd, 1) := by decide +kernel
theorem dX0_addKeepOut_71 : decode cX0_addKeepOut 71 = .ok (.putfield 37, 3) := by decide +kernel
theorem dX0_addKeepOut_74 : decode cX0_addKeepOut 74 = .ok (.iconst 1, 1) := by decide +kernel
theorem dX0_addKeepOut_75 : decode cX0_addKeepOut 75 = .ok (.ireturn, 1) := by decide +kernel
abbrev cX0_dropKeepOut : ByteArray := prog_2_method_3_code
def yX0_dropKeepOut : MethodName := ⟨RX0, "dropKeepOut", "()V"⟩
def wsX0_dropKeepOut : List Cond := .code yX0_dropKeepOut cX0_dropKeepOut 1 none :: bT
theorem dX0_dropKeepOut_0 : decode cX0_dropKeepOut 0 = .ok (.aload_n 0, 1) := by decide +kernel
theorem dX0_dropKeepOut_1 : decode cX0_dropKeepOut 1 = .ok (.getfield 37, 3) := by decide +kernel
theorem dX0_dropKeepOut_4 : decode cX0_dropKeepOut 4 = .ok (.ifCond .le (13), 3) := by decide +kernel
theorem dX0_dropKeepOut_7 : decode cX0_dropKeepOut 7 = .ok (.aload_n 0, 1) := by decide +kernel
theorem dX0_dropKeepOut_8 : decode cX0_dropKeepOut 8 = .ok (.dup, 1) := by decide +kernel
theorem dX0_dropKeepOut_9 : decode cX0_dropKeepOut 9 = .ok (.getfield 37, 3) := by decide +kernel
theorem dX0_dropKeepOut_12 : decode cX0_dropKeepOut 12 = .ok (.iconst 1, 1) := by decide +kernel
theorem dX0_dropKeepOut_13 : decode cX0_dropKeepOut 13 = .ok (.isub, 1) := by decide +kernel
theorem dX0_dropKeepOut_14 : decode cX0_dropKeepOut 14 = .ok (.putfield 37, 3) := by decide +kernel
theorem dX0_dropKeepOut_17 : decode cX0_dropKeepOut 17 = .ok (.return_, 1) := by decide +kernel
abbrev cX0_addNear : ByteArray := prog_2_method_4_code
def yX0_addNear : MethodName := ⟨RX0, "addNear", "(IIJ)Z"⟩
def wsX0_addNear : List Cond := .code yX0_addNear cX0_addNear 5 (some .boolean) :: bT
theorem dX0_addNear_0 : decode cX0_addNear 0 = .ok (.aload_n 0, 1) := by decide +kernel
theorem dX0_addNear_1 : decode cX0_addNear 1 = .ok (.getfield 41, 3) := by decide +kernel
theorem dX0_addNear_4 : decode cX0_addNear 4 = .ok (.bipush 20, 2) := by decide +kernel
theorem dX0_addNear_6 : decode cX0_addNear 6 = .ok (.if_icmp .lt (5), 3) := by decide +kernel
theorem dX0_addNear_9 : decode cX0_addNear 9 = .ok (.iconst 0, 1) := by decide +kernel
theorem dX0_addNear_10 : decode cX0_addNear 10 = .ok (.ireturn, 1) := by decide +kernel
theorem dX0_addNear_11 : decode cX0_addNear 11 = .ok (.aload_n 0, 1) := by decide +kernel
theorem dX0_addNear_12 : decode cX0_addNear 12 = .ok (.getfield 27, 3) := by decide +kernel
theorem dX0_addNear_15 : decode cX0_addNear 15 = .ok (.aload_n 0, 1) := by decide +kernel
theorem dX0_addNear_16 : decode cX0_addNear 16 = .ok (.getfield 41, 3) := by decide +kernel
theorem dX0_addNear_19 : decode cX0_addNear 19 = .ok (.iload_n 1, 1) := by decide +kernel
theorem dX0_addNear_20 : decode cX0_addNear 20 = .ok (.iastore, 1) := by decide +kernel
theorem dX0_addNear_21 : decode cX0_addNear 21 = .ok (.aload_n 0, 1) := by decide +kernel
theorem dX0_addNear_22 : decode cX0_addNear 22 = .ok (.getfield 31, 3) := by decide +kernel
theorem dX0_addNear_25 : decode cX0_addNear 25 = .ok (.aload_n 0, 1) := by decide +kernel
theorem dX0_addNear_26 : decode cX0_addNear 26 = .ok (.getfield 41, 3) := by decide +kernel
theorem dX0_addNear_29 : decode cX0_addNear 29 = .ok (.iload_n 2, 1) := by decide +kernel
theorem dX0_addNear_30 : decode cX0_addNear 30 = .ok (.iastore, 1) := by decide +kernel
theorem dX0_addNear_31 : decode cX0_addNear 31 = .ok (.aload_n 0, 1) := by decide +kernel
theorem dX0_addNear_32 : decode cX0_addNear 32 = .ok (.getfield 34, 3) := by decide +kernel
theorem dX0_addNear_35 : decode cX0_addNear 35 = .ok (.aload_n 0, 1) := by decide +kernel
theorem dX0_addNear_36 : decode cX0_addNear 36 = .ok (.getfield 41, 3) := by decide +kernel
theorem dX0_addNear_39 : decode cX0_addNear 39 = .ok (.lload_n 3, 1) := by decide +kernel
theorem dX0_addNear_40 : decode cX0_addNear 40 = .ok (.lastore, 1) := by decide +kernel
theorem dX0_addNear_41 : decode cX0_addNear 41 = .ok (.aload_n 0, 1) := by decide +kernel
theorem dX0_addNear_42 : decode cX0_addNear 42 = .ok (.dup, 1) := by decide +kernel
theorem dX0_addNear_43 : decode cX0_addNear 43 = .ok (.getfield 41, 3) := by decide +kernel
theorem dX0_addNear_46 : decode cX0_addNear 46 = .ok (.iconst 1, 1) := by decide +kernel
theorem dX0_addNear_47 : decode cX0_addNear 47 = .ok (.iadd, 1) := by decide +kernel
theorem dX0_addNear_48 : decode cX0_addNear 48 = .ok (.putfield 41, 3) := by decide +kernel
theorem dX0_addNear_51 : decode cX0_addNear 51 = .ok (.iconst 1, 1) := by decide +kernel
theorem dX0_addNear_52 : decode cX0_addNear 52 = .ok (.ireturn, 1) := by decide +kernel
abbrev cX0_isLowEnough : ByteArray := prog_2_method_5_code
def yX0_isLowEnough : MethodName := ⟨RX0, "isLowEnough", "(LBoardMoves$Placement;I)Z"⟩
def wsX0_isLowEnough : List Cond := .code yX0_isLowEnough cX0_isLowEnough 4 (some .boolean) :: bT
theorem dX0_isLowEnough_0 : decode cX0_isLowEnough 0 = .ok (.iconst 0, 1) := by decide +kernel
theorem dX0_isLowEnough_1 : decode cX0_isLowEnough 1 = .ok (.istore_n 3, 1) := by decide +kernel
theorem dX0_isLowEnough_2 : decode cX0_isLowEnough 2 = .ok (.iload_n 3, 1) := by decide +kernel
theorem dX0_isLowEnough_3 : decode cX0_isLowEnough 3 = .ok (.aload_n 0, 1) := by decide +kernel
theorem dX0_isLowEnough_4 : decode cX0_isLowEnough 4 = .ok (.getfield 37, 3) := by decide +kernel
theorem dX0_isLowEnough_7 : decode cX0_isLowEnough 7 = .ok (.if_icmp .ge (62), 3) := by decide +kernel
theorem dX0_isLowEnough_10 : decode cX0_isLowEnough 10 = .ok (.aload_n 0, 1) := by decide +kernel
theorem dX0_isLowEnough_11 : decode cX0_isLowEnough 11 = .ok (.getfield 44, 3) := by decide +kernel
theorem dX0_isLowEnough_14 : decode cX0_isLowEnough 14 = .ok (.getfield 48, 3) := by decide +kernel
theorem dX0_isLowEnough_17 : decode cX0_isLowEnough 17 = .ok (.iload_n 2, 1) := by decide +kernel
theorem dX0_isLowEnough_18 : decode cX0_isLowEnough 18 = .ok (.laload, 1) := by decide +kernel
theorem dX0_isLowEnough_19 : decode cX0_isLowEnough 19 = .ok (.aload_n 0, 1) := by decide +kernel
theorem dX0_isLowEnough_20 : decode cX0_isLowEnough 20 = .ok (.getfield 24, 3) := by decide +kernel
theorem dX0_isLowEnough_23 : decode cX0_isLowEnough 23 = .ok (.iload_n 3, 1) := by decide +kernel
theorem dX0_isLowEnough_24 : decode cX0_isLowEnough 24 = .ok (.laload, 1) := by decide +kernel
theorem dX0_isLowEnough_25 : decode cX0_isLowEnough 25 = .ok (.lcmp, 1) := by decide +kernel
theorem dX0_isLowEnough_26 : decode cX0_isLowEnough 26 = .ok (.ifCond .le (37), 3) := by decide +kernel
theorem dX0_isLowEnough_29 : decode cX0_isLowEnough 29 = .ok (.aload_n 1, 1) := by decide +kernel
theorem dX0_isLowEnough_30 : decode cX0_isLowEnough 30 = .ok (.iload_n 2, 1) := by decide +kernel
theorem dX0_isLowEnough_31 : decode cX0_isLowEnough 31 = .ok (.aload_n 0, 1) := by decide +kernel
theorem dX0_isLowEnough_32 : decode cX0_isLowEnough 32 = .ok (.getfield 9, 3) := by decide +kernel
theorem dX0_isLowEnough_35 : decode cX0_isLowEnough 35 = .ok (.iload_n 3, 1) := by decide +kernel
theorem dX0_isLowEnough_36 : decode cX0_isLowEnough 36 = .ok (.laload, 1) := by decide +kernel
theorem dX0_isLowEnough_37 : decode cX0_isLowEnough 37 = .ok (.aload_n 0, 1) := by decide +kernel
theorem dX0_isLowEnough_38 : decode cX0_isLowEnough 38 = .ok (.getfield 15, 3) := by decide +kernel
theorem dX0_isLowEnough_41 : decode cX0_isLowEnough 41 = .ok (.iload_n 3, 1) := by decide +kernel
theorem dX0_isLowEnough_42 : decode cX0_isLowEnough 42 = .ok (.laload, 1) := by decide +kernel
theorem dX0_isLowEnough_43 : decode cX0_isLowEnough 43 = .ok (.aload_n 0, 1) := by decide +kernel
theorem dX0_isLowEnough_44 : decode cX0_isLowEnough 44 = .ok (.getfield 18, 3) := by decide +kernel
theorem dX0_isLowEnough_47 : decode cX0_isLowEnough 47 = .ok (.iload_n 3, 1) := by decide +kernel
theorem dX0_isLowEnough_48 : decode cX0_isLowEnough 48 = .ok (.laload, 1) := by decide +kernel
theorem dX0_isLowEnough_49 : decode cX0_isLowEnough 49 = .ok (.aload_n 0, 1) := by decide +kernel
theorem dX0_isLowEnough_50 : decode cX0_isLowEnough 50 = .ok (.getfield 21, 3) := by decide +kernel
theorem dX0_isLowEnough_53 : decode cX0_isLowEnough 53 = .ok (.iload_n 3, 1) := by decide +kernel
theorem dX0_isLowEnough_54 : decode cX0_isLowEnough 54 = .ok (.laload, 1) := by decide +kernel
theorem dX0_isLowEnough_55 : decode cX0_isLowEnough 55 = .ok (.invokevirtual 53, 3) := by decide +kernel
theorem dX0_isLowEnough_58 : decode cX0_isLowEnough 58 = .ok (.ifCond .eq (5), 3) := by decide +kernel
theorem dX0_isLowEnough_61 : decode cX0_isLowEnough 61 = .ok (.iconst 0, 1) := by decide +kernel
theorem dX0_isLowEnough_62 : decode cX0_isLowEnough 62 = .ok (.ireturn, 1) := by decide +kernel
theorem dX0_isLowEnough_63 : decode cX0_isLowEnough 63 = .ok (.iinc 3 1, 3) := by decide +kernel
theorem dX0_isLowEnough_66 : decode cX0_isLowEnough 66 = .ok (.goto (-64), 3) := by decide +kernel
theorem dX0_isLowEnough_69 : decode cX0_isLowEnough 69 = .ok (.iconst 1, 1) := by decide +kernel
theorem dX0_isLowEnough_70 : decode cX0_isLowEnough 70 = .ok (.ireturn, 1) := by decide +kernel
abbrev cX0_isNearEnough : ByteArray := prog_2_method_6_code
def yX0_isNearEnough : MethodName := ⟨RX0, "isNearEnough", "(LBoardMoves$Placement;I)Z"⟩
def wsX0_isNearEnough : List Cond := .code yX0_isNearEnough cX0_isNearEnough 5 (some .boolean) :: bT
theorem dX0_isNearEnough_0 : decode cX0_isNearEnough 0 = .ok (.iconst 0, 1) := by decide +kernel
theorem dX0_isNearEnough_1 : decode cX0_isNearEnough 1 = .ok (.istore_n 3, 1) := by decide +kernel
theorem dX0_isNearEnough_2 : decode cX0_isNearEnough 2 = .ok (.iload_n 3, 1) := by decide +kernel
theorem dX0_isNearEnough_3 : decode cX0_isNearEnough 3 = .ok (.aload_n 0, 1) := by decide +kernel
theorem dX0_isNearEnough_4 : decode cX0_isNearEnough 4 = .ok (.getfield 41, 3) := by decide +kernel
theorem dX0_isNearEnough_7 : decode cX0_isNearEnough 7 = .ok (.if_icmp .ge (68), 3) := by decide +kernel
theorem dX0_isNearEnough_10 : decode cX0_isNearEnough 10 = .ok (.aload_n 0, 1) := by decide +kernel
theorem dX0_isNearEnough_11 : decode cX0_isNearEnough 11 = .ok (.getfield 27, 3) := by decide +kernel
theorem dX0_isNearEnough_14 : decode cX0_isNearEnough 14 = .ok (.iload_n 3, 1) := by decide +kernel
theorem dX0_isNearEnough_15 : decode cX0_isNearEnough 15 = .ok (.iaload, 1) := by decide +kernel
theorem dX0_isNearEnough_16 : decode cX0_isNearEnough 16 = .ok (.iload_n 2, 1) := by decide +kernel
theorem dX0_isNearEnough_17 : decode cX0_isNearEnough 17 = .ok (.if_icmp .eq (13), 3) := by decide +kernel
theorem dX0_isNearEnough_20 : decode cX0_isNearEnough 20 = .ok (.aload_n 0, 1) := by decide +kernel
theorem dX0_isNearEnough_21 : decode cX0_isNearEnough 21 = .ok (.getfield 31, 3) := by decide +kernel
theorem dX0_isNearEnough_24 : decode cX0_isNearEnough 24 = .ok (.iload_n 3, 1) := by decide +kernel
theorem dX0_isNearEnough_25 : decode cX0_isNearEnough 25 = .ok (.iaload, 1) := by decide +kernel
theorem dX0_isNearEnough_26 : decode cX0_isNearEnough 26 = .ok (.iload_n 2, 1) := by decide +kernel
theorem dX0_isNearEnough_27 : decode cX0_isNearEnough 27 = .ok (.if_icmp .ne (7), 3) := by decide +kernel
theorem dX0_isNearEnough_30 : decode cX0_isNearEnough 30 = .ok (.iconst 1, 1) := by decide +kernel
theorem dX0_isNearEnough_31 : decode cX0_isNearEnough 31 = .ok (.goto (4), 3) := by decide +kernel
theorem dX0_isNearEnough_34 : decode cX0_isNearEnough 34 = .ok (.iconst 0, 1) := by decide +kernel
theorem dX0_isNearEnough_35 : decode cX0_isNearEnough 35 = .ok (.istore 4, 2) := by decide +kernel
theorem dX0_isNearEnough_37 : decode cX0_isNearEnough 37 = .ok (.iload 4, 2) := by decide +kernel
theorem dX0_isNearEnough_39 : decode cX0_isNearEnough 39 = .ok (.ifCond .eq (30), 3) := by decide +kernel
theorem dX0_isNearEnough_42 : decode cX0_isNearEnough 42 = .ok (.aload_n 1, 1) := by decide +kernel
theorem dX0_isNearEnough_43 : decode cX0_isNearEnough 43 = .ok (.aload_n 0, 1) := by decide +kernel
theorem dX0_isNearEnough_44 : decode cX0_isNearEnough 44 = .ok (.getfield 27, 3) := by decide +kernel
theorem dX0_isNearEnough_47 : decode cX0_isNearEnough 47 = .ok (.iload_n 3, 1) := by decide +kernel
theorem dX0_isNearEnough_48 : decode cX0_isNearEnough 48 = .ok (.iaload, 1) := by decide +kernel
theorem dX0_isNearEnough_49 : decode cX0_isNearEnough 49 = .ok (.aload_n 0, 1) := by decide +kernel
theorem dX0_isNearEnough_50 : decode cX0_isNearEnough 50 = .ok (.getfield 31, 3) := by decide +kernel
theorem dX0_isNearEnough_53 : decode cX0_isNearEnough 53 = .ok (.iload_n 3, 1) := by decide +kernel
theorem dX0_isNearEnough_54 : decode cX0_isNearEnough 54 = .ok (.iaload, 1) := by decide +kernel
theorem dX0_isNearEnough_55 : decode cX0_isNearEnough 55 = .ok (.aload_n 0, 1) := by decide +kernel
theorem dX0_isNearEnough_56 : decode cX0_isNearEnough 56 = .ok (.getfield 34, 3) := by decide +kernel
theorem dX0_isNearEnough_59 : decode cX0_isNearEnough 59 = .ok (.iload_n 3, 1) := by decide +kernel
theorem dX0_isNearEnough_60 : decode cX0_isNearEnough 60 = .ok (.laload, 1) := by decide +kernel
theorem dX0_isNearEnough_61 : decode cX0_isNearEnough 61 = .ok (.invokevirtual 59, 3) := by decide +kernel
theorem dX0_isNearEnough_64 : decode cX0_isNearEnough 64 = .ok (.ifCond .ne (5), 3) := by decide +kernel
theorem dX0_isNearEnough_67 : decode cX0_isNearEnough 67 = .ok (.iconst 0, 1) := by decide +kernel
theorem dX0_isNearEnough_68 : decode cX0_isNearEnough 68 = .ok (.ireturn, 1) := by decide +kernel
theorem dX0_isNearEnough_69 : decode cX0_isNearEnough 69 = .ok (.iinc 3 1, 3) := by decide +kernel
theorem dX0_isNearEnough_72 : decode cX0_isNearEnough 72 = .ok (.goto (-70), 3) := by decide +kernel
theorem dX0_isNearEnough_75 : decode cX0_isNearEnough 75 = .ok (.iconst 1, 1) := by decide +kernel
theorem dX0_isNearEnough_76 : decode cX0_isNearEnough 76 = .ok (.ireturn, 1) := by decide +kernel
abbrev cX1_areMates : ByteArray := prog_3_method_3_code
def yX1_areMates : MethodName := ⟨RX1, "areMates", "(II)Z"⟩
def wsX1_areMates : List Cond := .code yX1_areMates cX1_areMates 3 (some .boolean) :: bT
theorem dX1_areMates_0 : decode cX1_areMates 0 = .ok (.aload_n 0, 1) := by decide +kernel
theorem dX1_areMates_1 : decode cX1_areMates 1 = .ok (.getfield 29, 3) := by decide +kernel
theorem dX1_areMates_4 : decode cX1_areMates 4 = .ok (.iload_n 1, 1) := by decide +kernel
theorem dX1_areMates_5 : decode cX1_areMates 5 = .ok (.iaload, 1) := by decide +kernel
theorem dX1_areMates_6 : decode cX1_areMates 6 = .ok (.aload_n 0, 1) := by decide +kernel
theorem dX1_areMates_7 : decode cX1_areMates 7 = .ok (.getfield 29, 3) := by decide +kernel
theorem dX1_areMates_10 : decode cX1_areMates 10 = .ok (.iload_n 2, 1) := by decide +kernel
theorem dX1_areMates_11 : decode cX1_areMates 11 = .ok (.iaload, 1) := by decide +kernel
theorem dX1_areMates_12 : decode cX1_areMates 12 = .ok (.if_icmp .ne (7), 3) := by decide +kernel
theorem dX1_areMates_15 : decode cX1_areMates 15 = .ok (.iconst 1, 1) := by decide +kernel
theorem dX1_areMates_16 : decode cX1_areMates 16 = .ok (.goto (4), 3) := by decide +kernel
theorem dX1_areMates_19 : decode cX1_areMates 19 = .ok (.iconst 0, 1) := by decide +kernel
theorem dX1_areMates_20 : decode cX1_areMates 20 = .ok (.ireturn, 1) := by decide +kernel
abbrev cX1_join : ByteArray := prog_3_method_4_code
def yX1_join : MethodName := ⟨RX1, "join", "(II)I"⟩
def wsX1_join : List Cond := .code yX1_join cX1_join 8 (some .int) :: bT
theorem dX1_join_0 : decode cX1_join 0 = .ok (.aload_n 0, 1) := by decide +kernel
theorem dX1_join_1 : decode cX1_join 1 = .ok (.getfield 29, 3) := by decide +kernel
theorem dX1_join_4 : decode cX1_join 4 = .ok (.iload_n 1, 1) := by decide +kernel
theorem dX1_join_5 : decode cX1_join 5 = .ok (.iaload, 1) := by decide +kernel
theorem dX1_join_6 : decode cX1_join 6 = .ok (.istore_n 3, 1) := by decide +kernel
theorem dX1_join_7 : decode cX1_join 7 = .ok (.aload_n 0, 1) := by decide +kernel
theorem dX1_join_8 : decode cX1_join 8 = .ok (.getfield 29, 3) := by decide +kernel
theorem dX1_join_11 : decode cX1_join 11 = .ok (.iload_n 2, 1) := by decide +kernel
theorem dX1_join_12 : decode cX1_join 12 = .ok (.iaload, 1) := by decide +kernel
theorem dX1_join_13 : decode cX1_join 13 = .ok (.istore 4, 2) := by decide +kernel
theorem dX1_join_15 : decode cX1_join 15 = .ok (.iload_n 3, 1) := by decide +kernel
theorem dX1_join_16 : decode cX1_join 16 = .ok (.iload 4, 2) := by decide +kernel
theorem dX1_join_18 : decode cX1_join 18 = .ok (.invokestatic 36, 3) := by decide +kernel
theorem dX1_join_21 : decode cX1_join 21 = .ok (.istore 5, 2) := by decide +kernel
theorem dX1_join_23 : decode cX1_join 23 = .ok (.iconst 0, 1) := by decide +kernel
theorem dX1_join_24 : decode cX1_join 24 = .ok (.istore 6, 2) := by decide +kernel
theorem dX1_join_26 : decode cX1_join 26 = .ok (.iconst 0, 1) := by decide +kernel
theorem dX1_join_27 : decode cX1_join 27 = .ok (.istore 7, 2) := by decide +kernel
theorem dX1_join_29 : decode cX1_join 29 = .ok (.iload 7, 2) := by decide +kernel
theorem dX1_join_31 : decode cX1_join 31 = .ok (.aload_n 0, 1) := by decide +kernel
theorem dX1_join_32 : decode cX1_join 32 = .ok (.getfield 32, 3) := by decide +kernel
theorem dX1_join_35 : decode cX1_join 35 = .ok (.if_icmp .ge (44), 3) := by decide +kernel
theorem dX1_join_38 : decode cX1_join 38 = .ok (.aload_n 0, 1) := by decide +kernel
theorem dX1_join_39 : decode cX1_join 39 = .ok (.getfield 29, 3) := by decide +kernel
theorem dX1_join_42 : decode cX1_join 42 = .ok (.iload 7, 2) := by decide +kernel
theorem dX1_join_44 : decode cX1_join 44 = .ok (.iaload, 1) := by decide +kernel
theorem dX1_join_45 : decode cX1_join 45 = .ok (.iload_n 3, 1) := by decide +kernel
theorem dX1_join_46 : decode cX1_join 46 = .ok (.if_icmp .eq (15), 3) := by decide +kernel
theorem dX1_join_49 : decode cX1_join 49 = .ok (.aload_n 0, 1) := by decide +kernel
theorem dX1_join_50 : decode cX1_join 50 = .ok (.getfield 29, 3) := by decide +kernel
theorem dX1_join_53 : decode cX1_join 53 = .ok (.iload 7, 2) := by decide +kernel
theorem dX1_join_55 : decode cX1_join 55 = .ok (.iaload, 1) := by decide +kernel
theorem dX1_join_56 : decode cX1_join 56 = .ok (.iload 4, 2) := by decide +kernel
theorem dX1_join_58 : decode cX1_join 58 = .ok (.if_icmp .ne (15), 3) := by decide +kernel
theorem dX1_join_61 : decode cX1_join 61 = .ok (.aload_n 0, 1) := by decide +kernel
theorem dX1_join_62 : decode cX1_join 62 = .ok (.getfield 29, 3) := by decide +kernel
theorem dX1_join_65 : decode cX1_join 65 = .ok (.iload 7, 2) := by decide +kernel
theorem dX1_join_67 : decode cX1_join 67 = .ok (.iload 5, 2) := by decide +kernel
theorem dX1_join_69 : decode cX1_join 69 = .ok (.iastore, 1) := by decide +kernel
theorem dX1_join_70 : decode cX1_join 70 = .ok (.iinc 6 1, 3) := by decide +kernel
theorem dX1_join_73 : decode cX1_join 73 = .ok (.iinc 7 1, 3) := by decide +kernel
theorem dX1_join_76 : decode cX1_join 76 = .ok (.goto (-47), 3) := by decide +kernel
theorem dX1_join_79 : decode cX1_join 79 = .ok (.iload 6, 2) := by decide +kernel
theorem dX1_join_81 : decode cX1_join 81 = .ok (.ireturn, 1) := by decide +kernel
abbrev cX2_copyFrom : ByteArray := prog_4_method_2_code
def yX2_copyFrom : MethodName := ⟨RX2, "copyFrom", "(LBoardMoves$Placement;)V"⟩
def wsX2_copyFrom : List Cond := .code yX2_copyFrom cX2_copyFrom 3 none :: bT
theorem dX2_copyFrom_0 : decode cX2_copyFrom 0 = .ok (.iconst 0, 1) := by decide +kernel
theorem dX2_copyFrom_1 : decode cX2_copyFrom 1 = .ok (.istore_n 2, 1) := by decide +kernel
theorem dX2_copyFrom_2 : decode cX2_copyFrom 2 = .ok (.iload_n 2, 1) := by decide +kernel
theorem dX2_copyFrom_3 : decode cX2_copyFrom 3 = .ok (.aload_n 0, 1) := by decide +kernel
theorem dX2_copyFrom_4 : decode cX2_copyFrom 4 = .ok (.getfield 26, 3) := by decide +kernel
theorem dX2_copyFrom_7 : decode cX2_copyFrom 7 = .ok (.getfield 30, 3) := by decide +kernel
theorem dX2_copyFrom_10 : decode cX2_copyFrom 10 = .ok (.if_icmp .ge (57), 3) := by decide +kernel
theorem dX2_copyFrom_13 : decode cX2_copyFrom 13 = .ok (.aload_n 0, 1) := by decide +kernel
theorem dX2_copyFrom_14 : decode cX2_copyFrom 14 = .ok (.getfield 9, 3) := by decide +kernel
theorem dX2_copyFrom_17 : decode cX2_copyFrom 17 = .ok (.iload_n 2, 1) := by decide +kernel
theorem dX2_copyFrom_18 : decode cX2_copyFrom 18 = .ok (.aload_n 1, 1) := by decide +kernel
theorem dX2_copyFrom_19 : decode cX2_copyFrom 19 = .ok (.getfield 9, 3) := by decide +kernel
theorem dX2_copyFrom_22 : decode cX2_copyFrom 22 = .ok (.iload_n 2, 1) := by decide +kernel
theorem dX2_copyFrom_23 : decode cX2_copyFrom 23 = .ok (.laload, 1) := by decide +kernel
theorem dX2_copyFrom_24 : decode cX2_copyFrom 24 = .ok (.lastore, 1) := by decide +kernel
theorem dX2_copyFrom_25 : decode cX2_copyFrom 25 = .ok (.aload_n 0, 1) := by decide +kernel
theorem dX2_copyFrom_26 : decode cX2_copyFrom 26 = .ok (.getfield 15, 3) := by decide +kernel
theorem dX2_copyFrom_29 : decode cX2_copyFrom 29 = .ok (.iload_n 2, 1) := by decide +kernel
theorem dX2_copyFrom_30 : decode cX2_copyFrom 30 = .ok (.aload_n 1, 1) := by decide +kernel
theorem dX2_copyFrom_31 : decode cX2_copyFrom 31 = .ok (.getfield 15, 3) := by decide +kernel
theorem dX2_copyFrom_34 : decode cX2_copyFrom 34 = .ok (.iload_n 2, 1) := by decide +kernel
theorem dX2_copyFrom_35 : decode cX2_copyFrom 35 = .ok (.laload, 1) := by decide +kernel
theorem dX2_copyFrom_36 : decode cX2_copyFrom 36 = .ok (.lastore, 1) := by decide +kernel
theorem dX2_copyFrom_37 : decode cX2_copyFrom 37 = .ok (.aload_n 0, 1) := by decide +kernel
theorem dX2_copyFrom_38 : decode cX2_copyFrom 38 = .ok (.getfield 18, 3) := by decide +kernel
theorem dX2_copyFrom_41 : decode cX2_copyFrom 41 = .ok (.iload_n 2, 1) := by decide +kernel
theorem dX2_copyFrom_42 : decode cX2_copyFrom 42 = .ok (.aload_n 1, 1) := by decide +kernel
theorem dX2_copyFrom_43 : decode cX2_copyFrom 43 = .ok (.getfield 18, 3) := by decide +kernel
theorem dX2_copyFrom_46 : decode cX2_copyFrom 46 = .ok (.iload_n 2, 1) := by decide +kernel
theorem dX2_copyFrom_47 : decode cX2_copyFrom 47 = .ok (.iaload, 1) := by decide +kernel
theorem dX2_copyFrom_48 : decode cX2_copyFrom 48 = .ok (.iastore, 1) := by decide +kernel
theorem dX2_copyFrom_49 : decode cX2_copyFrom 49 = .ok (.aload_n 0, 1) := by decide +kernel
theorem dX2_copyFrom_50 : decode cX2_copyFrom 50 = .ok (.getfield 22, 3) := by decide +kernel
theorem dX2_copyFrom_53 : decode cX2_copyFrom 53 = .ok (.iload_n 2, 1) := by decide +kernel
theorem dX2_copyFrom_54 : decode cX2_copyFrom 54 = .ok (.aload_n 1, 1) := by decide +kernel
theorem dX2_copyFrom_55 : decode cX2_copyFrom 55 = .ok (.getfield 22, 3) := by decide +kernel
theorem dX2_copyFrom_58 : decode cX2_copyFrom 58 = .ok (.iload_n 2, 1) := by decide +kernel
theorem dX2_copyFrom_59 : decode cX2_copyFrom 59 = .ok (.baload, 1) := by decide +kernel
theorem dX2_copyFrom_60 : decode cX2_copyFrom 60 = .ok (.bastore, 1) := by decide +kernel
theorem dX2_copyFrom_61 : decode cX2_copyFrom 61 = .ok (.iinc 2 1, 3) := by decide +kernel
theorem dX2_copyFrom_64 : decode cX2_copyFrom 64 = .ok (.goto (-62), 3) := by decide +kernel
theorem dX2_copyFrom_67 : decode cX2_copyFrom 67 = .ok (.return_, 1) := by decide +kernel
abbrev cX2_differs : ByteArray := prog_4_method_3_code
def yX2_differs : MethodName := ⟨RX2, "differs", "(LBoardMoves$Placement;I)Z"⟩
def wsX2_differs : List Cond := .code yX2_differs cX2_differs 3 (some .boolean) :: bT
theorem dX2_differs_0 : decode cX2_differs 0 = .ok (.aload_n 0, 1) := by decide +kernel
theorem dX2_differs_1 : decode cX2_differs 1 = .ok (.getfield 9, 3) := by decide +kernel
theorem dX2_differs_4 : decode cX2_differs 4 = .ok (.iload_n 2, 1) := by decide +kernel
theorem dX2_differs_5 : decode cX2_differs 5 = .ok (.laload, 1) := by decide +kernel
theorem dX2_differs_6 : decode cX2_differs 6 = .ok (.aload_n 1, 1) := by decide +kernel
theorem dX2_differs_7 : decode cX2_differs 7 = .ok (.getfield 9, 3) := by decide +kernel
theorem dX2_differs_10 : decode cX2_differs 10 = .ok (.iload_n 2, 1) := by decide +kernel
theorem dX2_differs_11 : decode cX2_differs 11 = .ok (.laload, 1) := by decide +kernel
theorem dX2_differs_12 : decode cX2_differs 12 = .ok (.lcmp, 1) := by decide +kernel
theorem dX2_differs_13 : decode cX2_differs 13 = .ok (.ifCond .ne (49), 3) := by decide +kernel
theorem dX2_differs_16 : decode cX2_differs 16 = .ok (.aload_n 0, 1) := by decide +kernel
theorem dX2_differs_17 : decode cX2_differs 17 = .ok (.getfield 15, 3) := by decide +kernel
theorem dX2_differs_20 : decode cX2_differs 20 = .ok (.iload_n 2, 1) := by decide +kernel
theorem dX2_differs_21 : decode cX2_differs 21 = .ok (.laload, 1) := by decide +kernel
theorem dX2_differs_22 : decode cX2_differs 22 = .ok (.aload_n 1, 1) := by decide +kernel
theorem dX2_differs_23 : decode cX2_differs 23 = .ok (.getfield 15, 3) := by decide +kernel
theorem dX2_differs_26 : decode cX2_differs 26 = .ok (.iload_n 2, 1) := by decide +kernel
theorem dX2_differs_27 : decode cX2_differs 27 = .ok (.laload, 1) := by decide +kernel
theorem dX2_differs_28 : decode cX2_differs 28 = .ok (.lcmp, 1) := by decide +kernel
theorem dX2_differs_29 : decode cX2_differs 29 = .ok (.ifCond .ne (33), 3) := by decide +kernel
theorem dX2_differs_32 : decode cX2_differs 32 = .ok (.aload_n 0, 1) := by decide +kernel
theorem dX2_differs_33 : decode cX2_differs 33 = .ok (.getfield 18, 3) := by decide +kernel
theorem dX2_differs_36 : decode cX2_differs 36 = .ok (.iload_n 2, 1) := by decide +kernel
theorem dX2_differs_37 : decode cX2_differs 37 = .ok (.iaload, 1) := by decide +kernel
theorem dX2_differs_38 : decode cX2_differs 38 = .ok (.aload_n 1, 1) := by decide +kernel
theorem dX2_differs_39 : decode cX2_differs 39 = .ok (.getfield 18, 3) := by decide +kernel
theorem dX2_differs_42 : decode cX2_differs 42 = .ok (.iload_n 2, 1) := by decide +kernel
theorem dX2_differs_43 : decode cX2_differs 43 = .ok (.iaload, 1) := by decide +kernel
theorem dX2_differs_44 : decode cX2_differs 44 = .ok (.if_icmp .ne (18), 3) := by decide +kernel
theorem dX2_differs_47 : decode cX2_differs 47 = .ok (.aload_n 0, 1) := by decide +kernel
theorem dX2_differs_48 : decode cX2_differs 48 = .ok (.getfield 22, 3) := by decide +kernel
theorem dX2_differs_51 : decode cX2_differs 51 = .ok (.iload_n 2, 1) := by decide +kernel
theorem dX2_differs_52 : decode cX2_differs 52 = .ok (.baload, 1) := by decide +kernel
theorem dX2_differs_53 : decode cX2_differs 53 = .ok (.aload_n 1, 1) := by decide +kernel
theorem dX2_differs_54 : decode cX2_differs 54 = .ok (.getfield 22, 3) := by decide +kernel
theorem dX2_differs_57 : decode cX2_differs 57 = .ok (.iload_n 2, 1) := by decide +kernel
theorem dX2_differs_58 : decode cX2_differs 58 = .ok (.baload, 1) := by decide +kernel
theorem dX2_differs_59 : decode cX2_differs 59 = .ok (.if_icmp .eq (7), 3) := by decide +kernel
theorem dX2_differs_62 : decode cX2_differs 62 = .ok (.iconst 1, 1) := by decide +kernel
theorem dX2_differs_63 : decode cX2_differs 63 = .ok (.goto (4), 3) := by decide +kernel
theorem dX2_differs_66 : decode cX2_differs 66 = .ok (.iconst 0, 1) := by decide +kernel
theorem dX2_differs_67 : decode cX2_differs 67 = .ok (.ireturn, 1) := by decide +kernel
abbrev cX2_place : ByteArray := prog_4_method_4_code
def yX2_place : MethodName := ⟨RX2, "place", "(IJJI)V"⟩
def wsX2_place : List Cond := .code yX2_place cX2_place 7 none :: bT
theorem dX2_place_0 : decode cX2_place 0 = .ok (.aload_n 0, 1) := by decide +kernel
theorem dX2_place_1 : decode cX2_place 1 = .ok (.getfield 9, 3) := by decide +kernel
theorem dX2_place_4 : decode cX2_place 4 = .ok (.iload_n 1, 1) := by decide +kernel
theorem dX2_place_5 : decode cX2_place 5 = .ok (.lload_n 2, 1) := by decide +kernel
theorem dX2_place_6 : decode cX2_place 6 = .ok (.lastore, 1) := by decide +kernel
theorem dX2_place_7 : decode cX2_place 7 = .ok (.aload_n 0, 1) := by decide +kernel
theorem dX2_place_8 : decode cX2_place 8 = .ok (.getfield 15, 3) := by decide +kernel
theorem dX2_place_11 : decode cX2_place 11 = .ok (.iload_n 1, 1) := by decide +kernel
theorem dX2_place_12 : decode cX2_place 12 = .ok (.lload 4, 2) := by decide +kernel
theorem dX2_place_14 : decode cX2_place 14 = .ok (.lastore, 1) := by decide +kernel
theorem dX2_place_15 : decode cX2_place 15 = .ok (.aload_n 0, 1) := by decide +kernel
theorem dX2_place_16 : decode cX2_place 16 = .ok (.getfield 18, 3) := by decide +kernel
theorem dX2_place_19 : decode cX2_place 19 = .ok (.iload_n 1, 1) := by decide +kernel
theorem dX2_place_20 : decode cX2_place 20 = .ok (.iload 6, 2) := by decide +kernel
theorem dX2_place_22 : decode cX2_place 22 = .ok (.iastore, 1) := by decide +kernel
theorem dX2_place_23 : decode cX2_place 23 = .ok (.aload_n 0, 1) := by decide +kernel
theorem dX2_place_24 : decode cX2_place 24 = .ok (.getfield 22, 3) := by decide +kernel
theorem dX2_place_27 : decode cX2_place 27 = .ok (.iload_n 1, 1) := by decide +kernel
theorem dX2_place_28 : decode cX2_place 28 = .ok (.iconst 1, 1) := by decide +kernel
theorem dX2_place_29 : decode cX2_place 29 = .ok (.bastore, 1) := by decide +kernel
theorem dX2_place_30 : decode cX2_place 30 = .ok (.return_, 1) := by decide +kernel
abbrev cX2_shiftGroup : ByteArray := prog_4_method_5_code
def yX2_shiftGroup : MethodName := ⟨RX2, "shiftGroup", "(IJJ)V"⟩
def wsX2_shiftGroup : List Cond := .code yX2_shiftGroup cX2_shiftGroup 7 none :: bT
theorem dX2_shiftGroup_0 : decode cX2_shiftGroup 0 = .ok (.iconst 0, 1) := by decide +kernel
theorem dX2_shiftGroup_1 : decode cX2_shiftGroup 1 = .ok (.istore 6, 2) := by decide +kernel
theorem dX2_shiftGroup_3 : decode cX2_shiftGroup 3 = .ok (.iload 6, 2) := by decide +kernel
theorem dX2_shiftGroup_5 : decode cX2_shiftGroup 5 = .ok (.aload_n 0, 1) := by decide +kernel
theorem dX2_shiftGroup_6 : decode cX2_shiftGroup 6 = .ok (.getfield 26, 3) := by decide +kernel
theorem dX2_shiftGroup_9 : decode cX2_shiftGroup 9 = .ok (.getfield 30, 3) := by decide +kernel
theorem dX2_shiftGroup_12 : decode cX2_shiftGroup 12 = .ok (.if_icmp .ge (55), 3) := by decide +kernel
theorem dX2_shiftGroup_15 : decode cX2_shiftGroup 15 = .ok (.aload_n 0, 1) := by decide +kernel
theorem dX2_shiftGroup_16 : decode cX2_shiftGroup 16 = .ok (.getfield 22, 3) := by decide +kernel
theorem dX2_shiftGroup_19 : decode cX2_shiftGroup 19 = .ok (.iload 6, 2) := by decide +kernel
theorem dX2_shiftGroup_21 : decode cX2_shiftGroup 21 = .ok (.baload, 1) := by decide +kernel
theorem dX2_shiftGroup_22 : decode cX2_shiftGroup 22 = .ok (.ifCond .eq (39), 3) := by decide +kernel
theorem dX2_shiftGroup_25 : decode cX2_shiftGroup 25 = .ok (.aload_n 0, 1) := by decide +kernel
theorem dX2_shiftGroup_26 : decode cX2_shiftGroup 26 = .ok (.getfield 26, 3) := by decide +kernel
theorem dX2_shiftGroup_29 : decode cX2_shiftGroup 29 = .ok (.iload 6, 2) := by decide +kernel
theorem dX2_shiftGroup_31 : decode cX2_shiftGroup 31 = .ok (.iload_n 1, 1) := by decide +kernel
theorem dX2_shiftGroup_32 : decode cX2_shiftGroup 32 = .ok (.invokevirtual 36, 3) := by decide +kernel
theorem dX2_shiftGroup_35 : decode cX2_shiftGroup 35 = .ok (.ifCond .eq (26), 3) := by decide +kernel
theorem dX2_shiftGroup_38 : decode cX2_shiftGroup 38 = .ok (.aload_n 0, 1) := by decide +kernel
theorem dX2_shiftGroup_39 : decode cX2_shiftGroup 39 = .ok (.getfield 9, 3) := by decide +kernel
theorem dX2_shiftGroup_42 : decode cX2_shiftGroup 42 = .ok (.iload 6, 2) := by decide +kernel
theorem dX2_shiftGroup_44 : decode cX2_shiftGroup 44 = .ok (.dup2, 1) := by decide +kernel
theorem dX2_shiftGroup_45 : decode cX2_shiftGroup 45 = .ok (.laload, 1) := by decide +kernel
theorem dX2_shiftGroup_46 : decode cX2_shiftGroup 46 = .ok (.lload_n 2, 1) := by decide +kernel
theorem dX2_shiftGroup_47 : decode cX2_shiftGroup 47 = .ok (.ladd, 1) := by decide +kernel
theorem dX2_shiftGroup_48 : decode cX2_shiftGroup 48 = .ok (.lastore, 1) := by decide +kernel
theorem dX2_shiftGroup_49 : decode cX2_shiftGroup 49 = .ok (.aload_n 0, 1) := by decide +kernel
theorem dX2_shiftGroup_50 : decode cX2_shiftGroup 50 = .ok (.getfield 15, 3) := by decide +kernel
theorem dX2_shiftGroup_53 : decode cX2_shiftGroup 53 = .ok (.iload 6, 2) := by decide +kernel
theorem dX2_shiftGroup_55 : decode cX2_shiftGroup 55 = .ok (.dup2, 1) := by decide +kernel
theorem dX2_shiftGroup_56 : decode cX2_shiftGroup 56 = .ok (.laload, 1) := by decide +kernel
theorem dX2_shiftGroup_57 : decode cX2_shiftGroup 57 = .ok (.lload 4, 2) := by decide +kernel
theorem dX2_shiftGroup_59 : decode cX2_shiftGroup 59 = .ok (.ladd, 1) := by decide +kernel
theorem dX2_shiftGroup_60 : decode cX2_shiftGroup 60 = .ok (.lastore, 1) := by decide +kernel
theorem dX2_shiftGroup_61 : decode cX2_shiftGroup 61 = .ok (.iinc 6 1, 3) := by decide +kernel
theorem dX2_shiftGroup_64 : decode cX2_shiftGroup 64 = .ok (.goto (-61), 3) := by decide +kernel
theorem dX2_shiftGroup_67 : decode cX2_shiftGroup 67 = .ok (.return_, 1) := by decide +kernel
abbrev cX2_hasPlacedMate : ByteArray := prog_4_method_6_code
def yX2_hasPlacedMate : MethodName := ⟨RX2, "hasPlacedMate", "(I)Z"⟩
def wsX2_hasPlacedMate : List Cond := .code yX2_hasPlacedMate cX2_hasPlacedMate 3 (some .boolean) :: bT
theorem dX2_hasPlacedMate_0 : decode cX2_hasPlacedMate 0 = .ok (.iconst 0, 1) := by decide +kernel
theorem dX2_hasPlacedMate_1 : decode cX2_hasPlacedMate 1 = .ok (.istore_n 2, 1) := by decide +kernel
theorem dX2_hasPlacedMate_2 : decode cX2_hasPlacedMate 2 = .ok (.iload_n 2, 1) := by decide +kernel
theorem dX2_hasPlacedMate_3 : decode cX2_hasPlacedMate 3 = .ok (.aload_n 0, 1) := by decide +kernel
theorem dX2_hasPlacedMate_4 : decode cX2_hasPlacedMate 4 = .ok (.getfield 26, 3) := by decide +kernel
theorem dX2_hasPlacedMate_7 : decode cX2_hasPlacedMate 7 = .ok (.getfield 30, 3) := by decide +kernel
theorem dX2_hasPlacedMate_10 : decode cX2_hasPlacedMate 10 = .ok (.if_icmp .ge (37), 3) := by decide +kernel
theorem dX2_hasPlacedMate_13 : decode cX2_hasPlacedMate 13 = .ok (.iload_n 2, 1) := by decide +kernel
theorem dX2_hasPlacedMate_14 : decode cX2_hasPlacedMate 14 = .ok (.iload_n 1, 1) := by decide +kernel
theorem dX2_hasPlacedMate_15 : decode cX2_hasPlacedMate 15 = .ok (.if_icmp .eq (26), 3) := by decide +kernel
theorem dX2_hasPlacedMate_18 : decode cX2_hasPlacedMate 18 = .ok (.aload_n 0, 1) := by decide +kernel
theorem dX2_hasPlacedMate_19 : decode cX2_hasPlacedMate 19 = .ok (.getfield 22, 3) := by decide +kernel
theorem dX2_hasPlacedMate_22 : decode cX2_hasPlacedMate 22 = .ok (.iload_n 2, 1) := by decide +kernel
theorem dX2_hasPlacedMate_23 : decode cX2_hasPlacedMate 23 = .ok (.baload, 1) := by decide +kernel
theorem dX2_hasPlacedMate_24 : decode cX2_hasPlacedMate 24 = .ok (.ifCond .eq (17), 3) := by decide +kernel
theorem dX2_hasPlacedMate_27 : decode cX2_hasPlacedMate 27 = .ok (.aload_n 0, 1) := by decide +kernel
theorem dX2_hasPlacedMate_28 : decode cX2_hasPlacedMate 28 = .ok (.getfield 26, 3) := by decide +kernel
theorem dX2_hasPlacedMate_31 : decode cX2_hasPlacedMate 31 = .ok (.iload_n 2, 1) := by decide +kernel
theorem dX2_hasPlacedMate_32 : decode cX2_hasPlacedMate 32 = .ok (.iload_n 1, 1) := by decide +kernel
theorem dX2_hasPlacedMate_33 : decode cX2_hasPlacedMate 33 = .ok (.invokevirtual 36, 3) := by decide +kernel
theorem dX2_hasPlacedMate_36 : decode cX2_hasPlacedMate 36 = .ok (.ifCond .eq (5), 3) := by decide +kernel
theorem dX2_hasPlacedMate_39 : decode cX2_hasPlacedMate 39 = .ok (.iconst 1, 1) := by decide +kernel
theorem dX2_hasPlacedMate_40 : decode cX2_hasPlacedMate 40 = .ok (.ireturn, 1) := by decide +kernel
theorem dX2_hasPlacedMate_41 : decode cX2_hasPlacedMate 41 = .ok (.iinc 2 1, 3) := by decide +kernel
theorem dX2_hasPlacedMate_44 : decode cX2_hasPlacedMate 44 = .ok (.goto (-42), 3) := by decide +kernel
theorem dX2_hasPlacedMate_47 : decode cX2_hasPlacedMate 47 = .ok (.iconst 0, 1) := by decide +kernel
theorem dX2_hasPlacedMate_48 : decode cX2_hasPlacedMate 48 = .ok (.ireturn, 1) := by decide +kernel
abbrev cX2_endX : ByteArray := prog_4_method_7_code
def yX2_endX : MethodName := ⟨RX2, "endX", "(I)J"⟩
def wsX2_endX : List Cond := .code yX2_endX cX2_endX 2 (some .long) :: bT
theorem dX2_endX_0 : decode cX2_endX 0 = .ok (.aload_n 0, 1) := by decide +kernel
theorem dX2_endX_1 : decode cX2_endX 1 = .ok (.getfield 9, 3) := by decide +kernel
theorem dX2_endX_4 : decode cX2_endX 4 = .ok (.iload_n 1, 1) := by decide +kernel
theorem dX2_endX_5 : decode cX2_endX 5 = .ok (.laload, 1) := by decide +kernel
theorem dX2_endX_6 : decode cX2_endX 6 = .ok (.aload_n 0, 1) := by decide +kernel
theorem dX2_endX_7 : decode cX2_endX 7 = .ok (.getfield 18, 3) := by decide +kernel
theorem dX2_endX_10 : decode cX2_endX 10 = .ok (.iload_n 1, 1) := by decide +kernel
theorem dX2_endX_11 : decode cX2_endX 11 = .ok (.iaload, 1) := by decide +kernel
theorem dX2_endX_12 : decode cX2_endX 12 = .ok (.iconst 2, 1) := by decide +kernel
theorem dX2_endX_13 : decode cX2_endX 13 = .ok (.irem, 1) := by decide +kernel
theorem dX2_endX_14 : decode cX2_endX 14 = .ok (.ifCond .ne (15), 3) := by decide +kernel
theorem dX2_endX_17 : decode cX2_endX 17 = .ok (.aload_n 0, 1) := by decide +kernel
theorem dX2_endX_18 : decode cX2_endX 18 = .ok (.getfield 26, 3) := by decide +kernel
theorem dX2_endX_21 : decode cX2_endX 21 = .ok (.getfield 40, 3) := by decide +kernel
theorem dX2_endX_24 : decode cX2_endX 24 = .ok (.iload_n 1, 1) := by decide +kernel
theorem dX2_endX_25 : decode cX2_endX 25 = .ok (.laload, 1) := by decide +kernel
theorem dX2_endX_26 : decode cX2_endX 26 = .ok (.goto (12), 3) := by decide +kernel
theorem dX2_endX_29 : decode cX2_endX 29 = .ok (.aload_n 0, 1) := by decide +kernel
theorem dX2_endX_30 : decode cX2_endX 30 = .ok (.getfield 26, 3) := by decide +kernel
theorem dX2_endX_33 : decode cX2_endX 33 = .ok (.getfield 43, 3) := by decide +kernel
theorem dX2_endX_36 : decode cX2_endX 36 = .ok (.iload_n 1, 1) := by decide +kernel
theorem dX2_endX_37 : decode cX2_endX 37 = .ok (.laload, 1) := by decide +kernel
theorem dX2_endX_38 : decode cX2_endX 38 = .ok (.ladd, 1) := by decide +kernel
theorem dX2_endX_39 : decode cX2_endX 39 = .ok (.lreturn, 1) := by decide +kernel
abbrev cX2_endY : ByteArray := prog_4_method_8_code
def yX2_endY : MethodName := ⟨RX2, "endY", "(I)J"⟩
def wsX2_endY : List Cond := .code yX2_endY cX2_endY 2 (some .long) :: bT
theorem dX2_endY_0 : decode cX2_endY 0 = .ok (.aload_n 0, 1) := by decide +kernel
theorem dX2_endY_1 : decode cX2_endY 1 = .ok (.getfield 15, 3) := by decide +kernel
theorem dX2_endY_4 : decode cX2_endY 4 = .ok (.iload_n 1, 1) := by decide +kernel
theorem dX2_endY_5 : decode cX2_endY 5 = .ok (.laload, 1) := by decide +kernel
theorem dX2_endY_6 : decode cX2_endY 6 = .ok (.aload_n 0, 1) := by decide +kernel
theorem dX2_endY_7 : decode cX2_endY 7 = .ok (.getfield 18, 3) := by decide +kernel
theorem dX2_endY_10 : decode cX2_endY 10 = .ok (.iload_n 1, 1) := by decide +kernel
theorem dX2_endY_11 : decode cX2_endY 11 = .ok (.iaload, 1) := by decide +kernel
theorem dX2_endY_12 : decode cX2_endY 12 = .ok (.iconst 2, 1) := by decide +kernel
theorem dX2_endY_13 : decode cX2_endY 13 = .ok (.irem, 1) := by decide +kernel
theorem dX2_endY_14 : decode cX2_endY 14 = .ok (.ifCond .ne (15), 3) := by decide +kernel
theorem dX2_endY_17 : decode cX2_endY 17 = .ok (.aload_n 0, 1) := by decide +kernel
theorem dX2_endY_18 : decode cX2_endY 18 = .ok (.getfield 26, 3) := by decide +kernel
theorem dX2_endY_21 : decode cX2_endY 21 = .ok (.getfield 43, 3) := by decide +kernel
theorem dX2_endY_24 : decode cX2_endY 24 = .ok (.iload_n 1, 1) := by decide +kernel
theorem dX2_endY_25 : decode cX2_endY 25 = .ok (.laload, 1) := by decide +kernel
theorem dX2_endY_26 : decode cX2_endY 26 = .ok (.goto (12), 3) := by decide +kernel
theorem dX2_endY_29 : decode cX2_endY 29 = .ok (.aload_n 0, 1) := by decide +kernel
theorem dX2_endY_30 : decode cX2_endY 30 = .ok (.getfield 26, 3) := by decide +kernel
theorem dX2_endY_33 : decode cX2_endY 33 = .ok (.getfield 40, 3) := by decide +kernel
theorem dX2_endY_36 : decode cX2_endY 36 = .ok (.iload_n 1, 1) := by decide +kernel
theorem dX2_endY_37 : decode cX2_endY 37 = .ok (.laload, 1) := by decide +kernel
theorem dX2_endY_38 : decode cX2_endY 38 = .ok (.ladd, 1) := by decide +kernel
theorem dX2_endY_39 : decode cX2_endY 39 = .ok (.lreturn, 1) := by decide +kernel
abbrev cX2_meetsArea : ByteArray := prog_4_method_9_code
def yX2_meetsArea : MethodName := ⟨RX2, "meetsArea", "(IJJJJ)Z"⟩
def wsX2_meetsArea : List Cond := .code yX2_meetsArea cX2_meetsArea 10 (some .boolean) :: bT
theorem dX2_meetsArea_0 : decode cX2_meetsArea 0 = .ok (.aload_n 0, 1) := by decide +kernel
theorem dX2_meetsArea_1 : decode cX2_meetsArea 1 = .ok (.getfield 22, 3) := by decide +kernel
theorem dX2_meetsArea_4 : decode cX2_meetsArea 4 = .ok (.iload_n 1, 1) := by decide +kernel
theorem dX2_meetsArea_5 : decode cX2_meetsArea 5 = .ok (.baload, 1) := by decide +kernel
theorem dX2_meetsArea_6 : decode cX2_meetsArea 6 = .ok (.ifCond .eq (52), 3) := by decide +kernel
theorem dX2_meetsArea_9 : decode cX2_meetsArea 9 = .ok (.aload_n 0, 1) := by decide +kernel
theorem dX2_meetsArea_10 : decode cX2_meetsArea 10 = .ok (.getfield 9, 3) := by decide +kernel
theorem dX2_meetsArea_13 : decode cX2_meetsArea 13 = .ok (.iload_n 1, 1) := by decide +kernel
theorem dX2_meetsArea_14 : decode cX2_meetsArea 14 = .ok (.laload, 1) := by decide +kernel
theorem dX2_meetsArea_15 : decode cX2_meetsArea 15 = .ok (.lload 6, 2) := by decide +kernel
theorem dX2_meetsArea_17 : decode cX2_meetsArea 17 = .ok (.lcmp, 1) := by decide +kernel
theorem dX2_meetsArea_18 : decode cX2_meetsArea 18 = .ok (.ifCond .ge (40), 3) := by decide +kernel
theorem dX2_meetsArea_21 : decode cX2_meetsArea 21 = .ok (.lload_n 2, 1) := by decide +kernel
theorem dX2_meetsArea_22 : decode cX2_meetsArea 22 = .ok (.aload_n 0, 1) := by decide +kernel
theorem dX2_meetsArea_23 : decode cX2_meetsArea 23 = .ok (.iload_n 1, 1) := by decide +kernel
theorem dX2_meetsArea_24 : decode cX2_meetsArea 24 = .ok (.invokevirtual 46, 3) := by decide +kernel
theorem dX2_meetsArea_27 : decode cX2_meetsArea 27 = .ok (.lcmp, 1) := by decide +kernel
theorem dX2_meetsArea_28 : decode cX2_meetsArea 28 = .ok (.ifCond .ge (30), 3) := by decide +kernel
theorem dX2_meetsArea_31 : decode cX2_meetsArea 31 = .ok (.aload_n 0, 1) := by decide +kernel
theorem dX2_meetsArea_32 : decode cX2_meetsArea 32 = .ok (.getfield 15, 3) := by decide +kernel
theorem dX2_meetsArea_35 : decode cX2_meetsArea 35 = .ok (.iload_n 1, 1) := by decide +kernel
theorem dX2_meetsArea_36 : decode cX2_meetsArea 36 = .ok (.laload, 1) := by decide +kernel
theorem dX2_meetsArea_37 : decode cX2_meetsArea 37 = .ok (.lload 8, 2) := by decide +kernel
theorem dX2_meetsArea_39 : decode cX2_meetsArea 39 = .ok (.lcmp, 1) := by decide +kernel
theorem dX2_meetsArea_40 : decode cX2_meetsArea 40 = .ok (.ifCond .ge (18), 3) := by decide +kernel
theorem dX2_meetsArea_43 : decode cX2_meetsArea 43 = .ok (.lload 4, 2) := by decide +kernel
theorem dX2_meetsArea_45 : decode cX2_meetsArea 45 = .ok (.aload_n 0, 1) := by decide +kernel
theorem dX2_meetsArea_46 : decode cX2_meetsArea 46 = .ok (.iload_n 1, 1) := by decide +kernel
theorem dX2_meetsArea_47 : decode cX2_meetsArea 47 = .ok (.invokevirtual 50, 3) := by decide +kernel
theorem dX2_meetsArea_50 : decode cX2_meetsArea 50 = .ok (.lcmp, 1) := by decide +kernel
theorem dX2_meetsArea_51 : decode cX2_meetsArea 51 = .ok (.ifCond .ge (7), 3) := by decide +kernel
theorem dX2_meetsArea_54 : decode cX2_meetsArea 54 = .ok (.iconst 1, 1) := by decide +kernel
theorem dX2_meetsArea_55 : decode cX2_meetsArea 55 = .ok (.goto (4), 3) := by decide +kernel
theorem dX2_meetsArea_58 : decode cX2_meetsArea 58 = .ok (.iconst 0, 1) := by decide +kernel
theorem dX2_meetsArea_59 : decode cX2_meetsArea 59 = .ok (.ireturn, 1) := by decide +kernel
abbrev cX2_overlapped : ByteArray := prog_4_method_10_code
def yX2_overlapped : MethodName := ⟨RX2, "overlapped", "(II)I"⟩
def wsX2_overlapped : List Cond := .code yX2_overlapped cX2_overlapped 8 (some .int) :: bT
theorem dX2_overlapped_0 : decode cX2_overlapped 0 = .ok (.aload_n 0, 1) := by decide +kernel
theorem dX2_overlapped_1 : decode cX2_overlapped 1 = .ok (.iload_n 1, 1) := by decide +kernel
theorem dX2_overlapped_2 : decode cX2_overlapped 2 = .ok (.invokevirtual 46, 3) := by decide +kernel
theorem dX2_overlapped_5 : decode cX2_overlapped 5 = .ok (.lstore_n 3, 1) := by decide +kernel
theorem dX2_overlapped_6 : decode cX2_overlapped 6 = .ok (.aload_n 0, 1) := by decide +kernel
theorem dX2_overlapped_7 : decode cX2_overlapped 7 = .ok (.iload_n 1, 1) := by decide +kernel
theorem dX2_overlapped_8 : decode cX2_overlapped 8 = .ok (.invokevirtual 50, 3) := by decide +kernel
theorem dX2_overlapped_11 : decode cX2_overlapped 11 = .ok (.lstore 5, 2) := by decide +kernel
theorem dX2_overlapped_13 : decode cX2_overlapped 13 = .ok (.iload_n 2, 1) := by decide +kernel
theorem dX2_overlapped_14 : decode cX2_overlapped 14 = .ok (.istore 7, 2) := by decide +kernel
theorem dX2_overlapped_16 : decode cX2_overlapped 16 = .ok (.iload 7, 2) := by decide +kernel
theorem dX2_overlapped_18 : decode cX2_overlapped 18 = .ok (.aload_n 0, 1) := by decide +kernel
theorem dX2_overlapped_19 : decode cX2_overlapped 19 = .ok (.getfield 26, 3) := by decide +kernel
theorem dX2_overlapped_22 : decode cX2_overlapped 22 = .ok (.getfield 30, 3) := by decide +kernel
theorem dX2_overlapped_25 : decode cX2_overlapped 25 = .ok (.if_icmp .ge (64), 3) := by decide +kernel
theorem dX2_overlapped_28 : decode cX2_overlapped 28 = .ok (.iload 7, 2) := by decide +kernel
theorem dX2_overlapped_30 : decode cX2_overlapped 30 = .ok (.iload_n 1, 1) := by decide +kernel
theorem dX2_overlapped_31 : decode cX2_overlapped 31 = .ok (.if_icmp .eq (52), 3) := by decide +kernel
theorem dX2_overlapped_34 : decode cX2_overlapped 34 = .ok (.aload_n 0, 1) := by decide +kernel
theorem dX2_overlapped_35 : decode cX2_overlapped 35 = .ok (.getfield 26, 3) := by decide +kernel
theorem dX2_overlapped_38 : decode cX2_overlapped 38 = .ok (.getfield 53, 3) := by decide +kernel
theorem dX2_overlapped_41 : decode cX2_overlapped 41 = .ok (.iload 7, 2) := by decide +kernel
theorem dX2_overlapped_43 : decode cX2_overlapped 43 = .ok (.iaload, 1) := by decide +kernel
theorem dX2_overlapped_44 : decode cX2_overlapped 44 = .ok (.aload_n 0, 1) := by decide +kernel
theorem dX2_overlapped_45 : decode cX2_overlapped 45 = .ok (.getfield 26, 3) := by decide +kernel
theorem dX2_overlapped_48 : decode cX2_overlapped 48 = .ok (.getfield 53, 3) := by decide +kernel
theorem dX2_overlapped_51 : decode cX2_overlapped 51 = .ok (.iload_n 1, 1) := by decide +kernel
theorem dX2_overlapped_52 : decode cX2_overlapped 52 = .ok (.iaload, 1) := by decide +kernel
theorem dX2_overlapped_53 : decode cX2_overlapped 53 = .ok (.if_icmp .ne (30), 3) := by decide +kernel
theorem dX2_overlapped_56 : decode cX2_overlapped 56 = .ok (.aload_n 0, 1) := by decide +kernel
theorem dX2_overlapped_57 : decode cX2_overlapped 57 = .ok (.iload 7, 2) := by decide +kernel
theorem dX2_overlapped_59 : decode cX2_overlapped 59 = .ok (.aload_n 0, 1) := by decide +kernel
theorem dX2_overlapped_60 : decode cX2_overlapped 60 = .ok (.getfield 9, 3) := by decide +kernel
theorem dX2_overlapped_63 : decode cX2_overlapped 63 = .ok (.iload_n 1, 1) := by decide +kernel
theorem dX2_overlapped_64 : decode cX2_overlapped 64 = .ok (.laload, 1) := by decide +kernel
theorem dX2_overlapped_65 : decode cX2_overlapped 65 = .ok (.aload_n 0, 1) := by decide +kernel
theorem dX2_overlapped_66 : decode cX2_overlapped 66 = .ok (.getfield 15, 3) := by decide +kernel
theorem dX2_overlapped_69 : decode cX2_overlapped 69 = .ok (.iload_n 1, 1) := by decide +kernel
theorem dX2_overlapped_70 : decode cX2_overlapped 70 = .ok (.laload, 1) := by decide +kernel
theorem dX2_overlapped_71 : decode cX2_overlapped 71 = .ok (.lload_n 3, 1) := by decide +kernel
theorem dX2_overlapped_72 : decode cX2_overlapped 72 = .ok (.lload 5, 2) := by decide +kernel
theorem dX2_overlapped_74 : decode cX2_overlapped 74 = .ok (.invokevirtual 56, 3) := by decide +kernel
theorem dX2_overlapped_77 : decode cX2_overlapped 77 = .ok (.ifCond .eq (6), 3) := by decide +kernel
theorem dX2_overlapped_80 : decode cX2_overlapped 80 = .ok (.iload 7, 2) := by decide +kernel
theorem dX2_overlapped_82 : decode cX2_overlapped 82 = .ok (.ireturn, 1) := by decide +kernel
theorem dX2_overlapped_83 : decode cX2_overlapped 83 = .ok (.iinc 7 1, 3) := by decide +kernel
theorem dX2_overlapped_86 : decode cX2_overlapped 86 = .ok (.goto (-70), 3) := by decide +kernel
theorem dX2_overlapped_89 : decode cX2_overlapped 89 = .ok (.iconst (-1), 1) := by decide +kernel
theorem dX2_overlapped_90 : decode cX2_overlapped 90 = .ok (.ireturn, 1) := by decide +kernel
abbrev cX2_firstOverlapping : ByteArray := prog_4_method_11_code
def yX2_firstOverlapping : MethodName := ⟨RX2, "firstOverlapping", "()I"⟩
def wsX2_firstOverlapping : List Cond := .code yX2_firstOverlapping cX2_firstOverlapping 2 (some .int) :: bT
theorem dX2_firstOverlapping_0 : decode cX2_firstOverlapping 0 = .ok (.iconst 0, 1) := by decide +kernel
theorem dX2_firstOverlapping_1 : decode cX2_firstOverlapping 1 = .ok (.istore_n 1, 1) := by decide +kernel
theorem dX2_firstOverlapping_2 : decode cX2_firstOverlapping 2 = .ok (.iload_n 1, 1) := by decide +kernel
theorem dX2_firstOverlapping_3 : decode cX2_firstOverlapping 3 = .ok (.aload_n 0, 1) := by decide +kernel
theorem dX2_firstOverlapping_4 : decode cX2_firstOverlapping 4 = .ok (.getfield 26, 3) := by decide +kernel
theorem dX2_firstOverlapping_7 : decode cX2_firstOverlapping 7 = .ok (.getfield 30, 3) := by decide +kernel
theorem dX2_firstOverlapping_10 : decode cX2_firstOverlapping 10 = .ok (.if_icmp .ge (32), 3) := by decide +kernel
theorem dX2_firstOverlapping_13 : decode cX2_firstOverlapping 13 = .ok (.aload_n 0, 1) := by decide +kernel
theorem dX2_firstOverlapping_14 : decode cX2_firstOverlapping 14 = .ok (.getfield 22, 3) := by decide +kernel
theorem dX2_firstOverlapping_17 : decode cX2_firstOverlapping 17 = .ok (.iload_n 1, 1) := by decide +kernel
theorem dX2_firstOverlapping_18 : decode cX2_firstOverlapping 18 = .ok (.baload, 1) := by decide +kernel
theorem dX2_firstOverlapping_19 : decode cX2_firstOverlapping 19 = .ok (.ifCond .eq (17), 3) := by decide +kernel
theorem dX2_firstOverlapping_22 : decode cX2_firstOverlapping 22 = .ok (.aload_n 0, 1) := by decide +kernel
theorem dX2_firstOverlapping_23 : decode cX2_firstOverlapping 23 = .ok (.iload_n 1, 1) := by decide +kernel
theorem dX2_firstOverlapping_24 : decode cX2_firstOverlapping 24 = .ok (.iload_n 1, 1) := by decide +kernel
theorem dX2_firstOverlapping_25 : decode cX2_firstOverlapping 25 = .ok (.iconst 1, 1) := by decide +kernel
theorem dX2_firstOverlapping_26 : decode cX2_firstOverlapping 26 = .ok (.iadd, 1) := by decide +kernel
theorem dX2_firstOverlapping_27 : decode cX2_firstOverlapping 27 = .ok (.invokevirtual 60, 3) := by decide +kernel
theorem dX2_firstOverlapping_30 : decode cX2_firstOverlapping 30 = .ok (.iconst (-1), 1) := by decide +kernel
theorem dX2_firstOverlapping_31 : decode cX2_firstOverlapping 31 = .ok (.if_icmp .eq (5), 3) := by decide +kernel
theorem dX2_firstOverlapping_34 : decode cX2_firstOverlapping 34 = .ok (.iload_n 1, 1) := by decide +kernel
theorem dX2_firstOverlapping_35 : decode cX2_firstOverlapping 35 = .ok (.ireturn, 1) := by decide +kernel
theorem dX2_firstOverlapping_36 : decode cX2_firstOverlapping 36 = .ok (.iinc 1 1, 3) := by decide +kernel
theorem dX2_firstOverlapping_39 : decode cX2_firstOverlapping 39 = .ok (.goto (-37), 3) := by decide +kernel
theorem dX2_firstOverlapping_42 : decode cX2_firstOverlapping 42 = .ok (.iconst (-1), 1) := by decide +kernel
theorem dX2_firstOverlapping_43 : decode cX2_firstOverlapping 43 = .ok (.ireturn, 1) := by decide +kernel
abbrev cX2_wayToBorder : ByteArray := prog_4_method_12_code
def yX2_wayToBorder : MethodName := ⟨RX2, "wayToBorder", "(IIZZ)J"⟩
def wsX2_wayToBorder : List Cond := .code yX2_wayToBorder cX2_wayToBorder 5 (some .long) :: bT
theorem dX2_wayToBorder_0 : decode cX2_wayToBorder 0 = .ok (.iload_n 3, 1) := by decide +kernel
theorem dX2_wayToBorder_1 : decode cX2_wayToBorder 1 = .ok (.ifCond .eq (36), 3) := by decide +kernel
theorem dX2_wayToBorder_4 : decode cX2_wayToBorder 4 = .ok (.iload 4, 2) := by decide +kernel
theorem dX2_wayToBorder_6 : decode cX2_wayToBorder 6 = .ok (.ifCond .eq (18), 3) := by decide +kernel
theorem dX2_wayToBorder_9 : decode cX2_wayToBorder 9 = .ok (.aload_n 0, 1) := by decide +kernel
theorem dX2_wayToBorder_10 : decode cX2_wayToBorder 10 = .ok (.iload_n 2, 1) := by decide +kernel
theorem dX2_wayToBorder_11 : decode cX2_wayToBorder 11 = .ok (.invokevirtual 46, 3) := by decide +kernel
theorem dX2_wayToBorder_14 : decode cX2_wayToBorder 14 = .ok (.aload_n 0, 1) := by decide +kernel
theorem dX2_wayToBorder_15 : decode cX2_wayToBorder 15 = .ok (.getfield 9, 3) := by decide +kernel
theorem dX2_wayToBorder_18 : decode cX2_wayToBorder 18 = .ok (.iload_n 1, 1) := by decide +kernel
theorem dX2_wayToBorder_19 : decode cX2_wayToBorder 19 = .ok (.laload, 1) := by decide +kernel
theorem dX2_wayToBorder_20 : decode cX2_wayToBorder 20 = .ok (.lsub, 1) := by decide +kernel
theorem dX2_wayToBorder_21 : decode cX2_wayToBorder 21 = .ok (.goto (15), 3) := by decide +kernel
theorem dX2_wayToBorder_24 : decode cX2_wayToBorder 24 = .ok (.aload_n 0, 1) := by decide +kernel
theorem dX2_wayToBorder_25 : decode cX2_wayToBorder 25 = .ok (.getfield 9, 3) := by decide +kernel
theorem dX2_wayToBorder_28 : decode cX2_wayToBorder 28 = .ok (.iload_n 2, 1) := by decide +kernel
theorem dX2_wayToBorder_29 : decode cX2_wayToBorder 29 = .ok (.laload, 1) := by decide +kernel
theorem dX2_wayToBorder_30 : decode cX2_wayToBorder 30 = .ok (.aload_n 0, 1) := by decide +kernel
theorem dX2_wayToBorder_31 : decode cX2_wayToBorder 31 = .ok (.iload_n 1, 1) := by decide +kernel
theorem dX2_wayToBorder_32 : decode cX2_wayToBorder 32 = .ok (.invokevirtual 46, 3) := by decide +kernel
theorem dX2_wayToBorder_35 : decode cX2_wayToBorder 35 = .ok (.lsub, 1) := by decide +kernel
theorem dX2_wayToBorder_36 : decode cX2_wayToBorder 36 = .ok (.lreturn, 1) := by decide +kernel
theorem dX2_wayToBorder_37 : decode cX2_wayToBorder 37 = .ok (.iload 4, 2) := by decide +kernel
theorem dX2_wayToBorder_39 : decode cX2_wayToBorder 39 = .ok (.ifCond .eq (18), 3) := by decide +kernel
theorem dX2_wayToBorder_42 : decode cX2_wayToBorder 42 = .ok (.aload_n 0, 1) := by decide +kernel
theorem dX2_wayToBorder_43 : decode cX2_wayToBorder 43 = .ok (.iload_n 2, 1) := by decide +kernel
theorem dX2_wayToBorder_44 : decode cX2_wayToBorder 44 = .ok (.invokevirtual 50, 3) := by decide +kernel
theorem dX2_wayToBorder_47 : decode cX2_wayToBorder 47 = .ok (.aload_n 0, 1) := by decide +kernel
theorem dX2_wayToBorder_48 : decode cX2_wayToBorder 48 = .ok (.getfield 15, 3) := by decide +kernel
theorem dX2_wayToBorder_51 : decode cX2_wayToBorder 51 = .ok (.iload_n 1, 1) := by decide +kernel
theorem dX2_wayToBorder_52 : decode cX2_wayToBorder 52 = .ok (.laload, 1) := by decide +kernel
theorem dX2_wayToBorder_53 : decode cX2_wayToBorder 53 = .ok (.lsub, 1) := by decide +kernel
theorem dX2_wayToBorder_54 : decode cX2_wayToBorder 54 = .ok (.goto (15), 3) := by decide +kernel
theorem dX2_wayToBorder_57 : decode cX2_wayToBorder 57 = .ok (.aload_n 0, 1) := by decide +kernel
theorem dX2_wayToBorder_58 : decode cX2_wayToBorder 58 = .ok (.getfield 15, 3) := by decide +kernel
theorem dX2_wayToBorder_61 : decode cX2_wayToBorder 61 = .ok (.iload_n 2, 1) := by decide +kernel
theorem dX2_wayToBorder_62 : decode cX2_wayToBorder 62 = .ok (.laload, 1) := by decide +kernel
theorem dX2_wayToBorder_63 : decode cX2_wayToBorder 63 = .ok (.aload_n 0, 1) := by decide +kernel
theorem dX2_wayToBorder_64 : decode cX2_wayToBorder 64 = .ok (.iload_n 1, 1) := by decide +kernel
theorem dX2_wayToBorder_65 : decode cX2_wayToBorder 65 = .ok (.invokevirtual 50, 3) := by decide +kernel
theorem dX2_wayToBorder_68 : decode cX2_wayToBorder 68 = .ok (.lsub, 1) := by decide +kernel
theorem dX2_wayToBorder_69 : decode cX2_wayToBorder 69 = .ok (.lreturn, 1) := by decide +kernel
abbrev cX2_isNear : ByteArray := prog_4_method_13_code
def yX2_isNear : MethodName := ⟨RX2, "isNear", "(IIJ)Z"⟩
def wsX2_isNear : List Cond := .code yX2_isNear cX2_isNear 9 (some .boolean) :: bT
theorem dX2_isNear_0 : decode cX2_isNear 0 = .ok (.aload_n 0, 1) := by decide +kernel
theorem dX2_isNear_1 : decode cX2_isNear 1 = .ok (.getfield 22, 3) := by decide +kernel
theorem dX2_isNear_4 : decode cX2_isNear 4 = .ok (.iload_n 1, 1) := by decide +kernel
theorem dX2_isNear_5 : decode cX2_isNear 5 = .ok (.baload, 1) := by decide +kernel
theorem dX2_isNear_6 : decode cX2_isNear 6 = .ok (.ifCond .eq (12), 3) := by decide +kernel
theorem dX2_isNear_9 : decode cX2_isNear 9 = .ok (.aload_n 0, 1) := by decide +kernel
theorem dX2_isNear_10 : decode cX2_isNear 10 = .ok (.getfield 22, 3) := by decide +kernel
theorem dX2_isNear_13 : decode cX2_isNear 13 = .ok (.iload_n 2, 1) := by decide +kernel
theorem dX2_isNear_14 : decode cX2_isNear 14 = .ok (.baload, 1) := by decide +kernel
theorem dX2_isNear_15 : decode cX2_isNear 15 = .ok (.ifCond .ne (5), 3) := by decide +kernel
theorem dX2_isNear_18 : decode cX2_isNear 18 = .ok (.iconst 1, 1) := by decide +kernel
theorem dX2_isNear_19 : decode cX2_isNear 19 = .ok (.ireturn, 1) := by decide +kernel
theorem dX2_isNear_20 : decode cX2_isNear 20 = .ok (.aload_n 0, 1) := by decide +kernel
theorem dX2_isNear_21 : decode cX2_isNear 21 = .ok (.getfield 9, 3) := by decide +kernel
theorem dX2_isNear_24 : decode cX2_isNear 24 = .ok (.iload_n 1, 1) := by decide +kernel
theorem dX2_isNear_25 : decode cX2_isNear 25 = .ok (.laload, 1) := by decide +kernel
theorem dX2_isNear_26 : decode cX2_isNear 26 = .ok (.aload_n 0, 1) := by decide +kernel
theorem dX2_isNear_27 : decode cX2_isNear 27 = .ok (.getfield 9, 3) := by decide +kernel
theorem dX2_isNear_30 : decode cX2_isNear 30 = .ok (.iload_n 2, 1) := by decide +kernel
theorem dX2_isNear_31 : decode cX2_isNear 31 = .ok (.laload, 1) := by decide +kernel
theorem dX2_isNear_32 : decode cX2_isNear 32 = .ok (.invokestatic 64, 3) := by decide +kernel
theorem dX2_isNear_35 : decode cX2_isNear 35 = .ok (.aload_n 0, 1) := by decide +kernel
theorem dX2_isNear_36 : decode cX2_isNear 36 = .ok (.iload_n 1, 1) := by decide +kernel
theorem dX2_isNear_37 : decode cX2_isNear 37 = .ok (.invokevirtual 46, 3) := by decide +kernel
theorem dX2_isNear_40 : decode cX2_isNear 40 = .ok (.aload_n 0, 1) := by decide +kernel
theorem dX2_isNear_41 : decode cX2_isNear 41 = .ok (.iload_n 2, 1) := by decide +kernel
theorem dX2_isNear_42 : decode cX2_isNear 42 = .ok (.invokevirtual 46, 3) := by decide +kernel
theorem dX2_isNear_45 : decode cX2_isNear 45 = .ok (.invokestatic 70, 3) := by decide +kernel
theorem dX2_isNear_48 : decode cX2_isNear 48 = .ok (.lsub, 1) := by decide +kernel
theorem dX2_isNear_49 : decode cX2_isNear 49 = .ok (.lstore 5, 2) := by decide +kernel
theorem dX2_isNear_51 : decode cX2_isNear 51 = .ok (.aload_n 0, 1) := by decide +kernel
theorem dX2_isNear_52 : decode cX2_isNear 52 = .ok (.getfield 15, 3) := by decide +kernel
theorem dX2_isNear_55 : decode cX2_isNear 55 = .ok (.iload_n 1, 1) := by decide +kernel
theorem dX2_isNear_56 : decode cX2_isNear 56 = .ok (.laload, 1) := by decide +kernel
theorem dX2_isNear_57 : decode cX2_isNear 57 = .ok (.aload_n 0, 1) := by decide +kernel
theorem dX2_isNear_58 : decode cX2_isNear 58 = .ok (.getfield 15, 3) := by decide +kernel
theorem dX2_isNear_61 : decode cX2_isNear 61 = .ok (.iload_n 2, 1) := by decide +kernel
theorem dX2_isNear_62 : decode cX2_isNear 62 = .ok (.laload, 1) := by decide +kernel
theorem dX2_isNear_63 : decode cX2_isNear 63 = .ok (.invokestatic 64, 3) := by decide +kernel
theorem dX2_isNear_66 : decode cX2_isNear 66 = .ok (.aload_n 0, 1) := by decide +kernel
theorem dX2_isNear_67 : decode cX2_isNear 67 = .ok (.iload_n 1, 1) := by decide +kernel
theorem dX2_isNear_68 : decode cX2_isNear 68 = .ok (.invokevirtual 50, 3) := by decide +kernel
theorem dX2_isNear_71 : decode cX2_isNear 71 = .ok (.aload_n 0, 1) := by decide +kernel
theorem dX2_isNear_72 : decode cX2_isNear 72 = .ok (.iload_n 2, 1) := by decide +kernel
theorem dX2_isNear_73 : decode cX2_isNear 73 = .ok (.invokevirtual 50, 3) := by decide +kernel
theorem dX2_isNear_76 : decode cX2_isNear 76 = .ok (.invokestatic 70, 3) := by decide +kernel
theorem dX2_isNear_79 : decode cX2_isNear 79 = .ok (.lsub, 1) := by decide +kernel
theorem dX2_isNear_80 : decode cX2_isNear 80 = .ok (.lstore 7, 2) := by decide +kernel
theorem dX2_isNear_82 : decode cX2_isNear 82 = .ok (.lconst 0, 1) := by decide +kernel
theorem dX2_isNear_83 : decode cX2_isNear 83 = .ok (.lload 5, 2) := by decide +kernel
theorem dX2_isNear_85 : decode cX2_isNear 85 = .ok (.invokestatic 64, 3) := by decide +kernel
theorem dX2_isNear_88 : decode cX2_isNear 88 = .ok (.lconst 0, 1) := by decide +kernel
theorem dX2_isNear_89 : decode cX2_isNear 89 = .ok (.lload 7, 2) := by decide +kernel
theorem dX2_isNear_91 : decode cX2_isNear 91 = .ok (.invokestatic 64, 3) := by decide +kernel
theorem dX2_isNear_94 : decode cX2_isNear 94 = .ok (.ladd, 1) := by decide +kernel
theorem dX2_isNear_95 : decode cX2_isNear 95 = .ok (.lload_n 3, 1) := by decide +kernel
theorem dX2_isNear_96 : decode cX2_isNear 96 = .ok (.lcmp, 1) := by decide +kernel
theorem dX2_isNear_97 : decode cX2_isNear 97 = .ok (.ifCond .gt (7), 3) := by decide +kernel
theorem dX2_isNear_100 : decode cX2_isNear 100 = .ok (.iconst 1, 1) := by decide +kernel
theorem dX2_isNear_101 : decode cX2_isNear 101 = .ok (.goto (4), 3) := by decide +kernel
theorem dX2_isNear_104 : decode cX2_isNear 104 = .ok (.iconst 0, 1) := by decide +kernel
theorem dX2_isNear_105 : decode cX2_isNear 105 = .ok (.ireturn, 1) := by decide +kernel
abbrev cX3_addPin : ByteArray := prog_5_method_3_code
def yX3_addPin : MethodName := ⟨RX3, "addPin", "(IIJJ)Z"⟩
def wsX3_addPin : List Cond := .code yX3_addPin cX3_addPin 7 (some .boolean) :: bT
theorem dX3_addPin_0 : decode cX3_addPin 0 = .ok (.aload_n 0, 1) := by decide +kernel
theorem dX3_addPin_1 : decode cX3_addPin 1 = .ok (.getfield 45, 3) := by decide +kernel
theorem dX3_addPin_4 : decode cX3_addPin 4 = .ok (.bipush 120, 2) := by decide +kernel
theorem dX3_addPin_6 : decode cX3_addPin 6 = .ok (.if_icmp .lt (5), 3) := by decide +kernel
theorem dX3_addPin_9 : decode cX3_addPin 9 = .ok (.iconst 0, 1) := by decide +kernel
theorem dX3_addPin_10 : decode cX3_addPin 10 = .ok (.ireturn, 1) := by decide +kernel
theorem dX3_addPin_11 : decode cX3_addPin 11 = .ok (.aload_n 0, 1) := by decide +kernel
theorem dX3_addPin_12 : decode cX3_addPin 12 = .ok (.getfield 9, 3) := by decide +kernel
theorem dX3_addPin_15 : decode cX3_addPin 15 = .ok (.aload_n 0, 1) := by decide +kernel
theorem dX3_addPin_16 : decode cX3_addPin 16 = .ok (.getfield 45, 3) := by decide +kernel
theorem dX3_addPin_19 : decode cX3_addPin 19 = .ok (.iload_n 1, 1) := by decide +kernel
theorem dX3_addPin_20 : decode cX3_addPin 20 = .ok (.iastore, 1) := by decide +kernel
theorem dX3_addPin_21 : decode cX3_addPin 21 = .ok (.aload_n 0, 1) := by decide +kernel
theorem dX3_addPin_22 : decode cX3_addPin 22 = .ok (.getfield 15, 3) := by decide +kernel
theorem dX3_addPin_25 : decode cX3_addPin 25 = .ok (.aload_n 0, 1) := by decide +kernel
theorem dX3_addPin_26 : decode cX3_addPin 26 = .ok (.getfield 45, 3) := by decide +kernel
theorem dX3_addPin_29 : decode cX3_addPin 29 = .ok (.iload_n 2, 1) := by decide +kernel
theorem dX3_addPin_30 : decode cX3_addPin 30 = .ok (.iastore, 1) := by decide +kernel
theorem dX3_addPin_31 : decode cX3_addPin 31 = .ok (.aload_n 0, 1) := by decide +kernel
theorem dX3_addPin_32 : decode cX3_addPin 32 = .ok (.getfield 18, 3) := by decide +kernel
theorem dX3_addPin_35 : decode cX3_addPin 35 = .ok (.aload_n 0, 1) := by decide +kernel
theorem dX3_addPin_36 : decode cX3_addPin 36 = .ok (.getfield 45, 3) := by decide +kernel
theorem dX3_addPin_39 : decode cX3_addPin 39 = .ok (.lload_n 3, 1) := by decide +kernel
theorem dX3_addPin_40 : decode cX3_addPin 40 = .ok (.lastore, 1) := by decide +kernel
theorem dX3_addPin_41 : decode cX3_addPin 41 = .ok (.aload_n 0, 1) := by decide +kernel
theorem dX3_addPin_42 : decode cX3_addPin 42 = .ok (.getfield 22, 3) := by decide +kernel
theorem dX3_addPin_45 : decode cX3_addPin 45 = .ok (.aload_n 0, 1) := by decide +kernel
theorem dX3_addPin_46 : decode cX3_addPin 46 = .ok (.getfield 45, 3) := by decide +kernel
theorem dX3_addPin_49 : decode cX3_addPin 49 = .ok (.lload 5, 2) := by decide +kernel
theorem dX3_addPin_51 : decode cX3_addPin 51 = .ok (.lastore, 1) := by decide +kernel
theorem dX3_addPin_52 : decode cX3_addPin 52 = .ok (.aload_n 0, 1) := by decide +kernel
theorem dX3_addPin_53 : decode cX3_addPin 53 = .ok (.dup, 1) := by decide +kernel
theorem dX3_addPin_54 : decode cX3_addPin 54 = .ok (.getfield 45, 3) := by decide +kernel
theorem dX3_addPin_57 : decode cX3_addPin 57 = .ok (.iconst 1, 1) := by decide +kernel
theorem dX3_addPin_58 : decode cX3_addPin 58 = .ok (.iadd, 1) := by decide +kernel
theorem dX3_addPin_59 : decode cX3_addPin 59 = .ok (.putfield 45, 3) := by decide +kernel
theorem dX3_addPin_62 : decode cX3_addPin 62 = .ok (.iconst 1, 1) := by decide +kernel
theorem dX3_addPin_63 : decode cX3_addPin 63 = .ok (.ireturn, 1) := by decide +kernel
abbrev cX3_measure : ByteArray := prog_5_method_4_code
def yX3_measure : MethodName := ⟨RX3, "measure", "(LBoardMoves$Placement;)J"⟩
def wsX3_measure : List Cond := .code yX3_measure cX3_measure 5 (some .long) :: bT
theorem dX3_measure_0 : decode cX3_measure 0 = .ok (.iconst 0, 1) := by decide +kernel
theorem dX3_measure_1 : decode cX3_measure 1 = .ok (.istore_n 2, 1) := by decide +kernel
theorem dX3_measure_2 : decode cX3_measure 2 = .ok (.iload_n 2, 1) := by decide +kernel
theorem dX3_measure_3 : decode cX3_measure 3 = .ok (.aload_n 0, 1) := by decide +kernel
theorem dX3_measure_4 : decode cX3_measure 4 = .ok (.getfield 41, 3) := by decide +kernel
theorem dX3_measure_7 : decode cX3_measure 7 = .ok (.if_icmp .ge (16), 3) := by decide +kernel
theorem dX3_measure_10 : decode cX3_measure 10 = .ok (.aload_n 0, 1) := by decide +kernel
theorem dX3_measure_11 : decode cX3_measure 11 = .ok (.getfield 25, 3) := by decide +kernel
theorem dX3_measure_14 : decode cX3_measure 14 = .ok (.iload_n 2, 1) := by decide +kernel
theorem dX3_measure_15 : decode cX3_measure 15 = .ok (.iconst 0, 1) := by decide +kernel
theorem dX3_measure_16 : decode cX3_measure 16 = .ok (.bastore, 1) := by decide +kernel
theorem dX3_measure_17 : decode cX3_measure 17 = .ok (.iinc 2 1, 3) := by decide +kernel
theorem dX3_measure_20 : decode cX3_measure 20 = .ok (.goto (-18), 3) := by decide +kernel
theorem dX3_measure_23 : decode cX3_measure 23 = .ok (.iconst 0, 1) := by decide +kernel
theorem dX3_measure_24 : decode cX3_measure 24 = .ok (.istore_n 2, 1) := by decide +kernel
theorem dX3_measure_25 : decode cX3_measure 25 = .ok (.iload_n 2, 1) := by decide +kernel
theorem dX3_measure_26 : decode cX3_measure 26 = .ok (.aload_n 0, 1) := by decide +kernel
theorem dX3_measure_27 : decode cX3_measure 27 = .ok (.getfield 45, 3) := by decide +kernel
theorem dX3_measure_30 : decode cX3_measure 30 = .ok (.if_icmp .ge (73), 3) := by decide +kernel
theorem dX3_measure_33 : decode cX3_measure 33 = .ok (.aload_n 0, 1) := by decide +kernel
theorem dX3_measure_34 : decode cX3_measure 34 = .ok (.getfield 15, 3) := by decide +kernel
theorem dX3_measure_37 : decode cX3_measure 37 = .ok (.iload_n 2, 1) := by decide +kernel
theorem dX3_measure_38 : decode cX3_measure 38 = .ok (.iaload, 1) := by decide +kernel
theorem dX3_measure_39 : decode cX3_measure 39 = .ok (.istore_n 3, 1) := by decide +kernel
theorem dX3_measure_40 : decode cX3_measure 40 = .ok (.aload_n 1, 1) := by decide +kernel
theorem dX3_measure_41 : decode cX3_measure 41 = .ok (.getfield 52, 3) := by decide +kernel
theorem dX3_measure_44 : decode cX3_measure 44 = .ok (.iload_n 3, 1) := by decide +kernel
theorem dX3_measure_45 : decode cX3_measure 45 = .ok (.baload, 1) := by decide +kernel
theorem dX3_measure_46 : decode cX3_measure 46 = .ok (.ifCond .eq (51), 3) := by decide +kernel
theorem dX3_measure_49 : decode cX3_measure 49 = .ok (.aload_n 1, 1) := by decide +kernel
theorem dX3_measure_50 : decode cX3_measure 50 = .ok (.getfield 57, 3) := by decide +kernel
theorem dX3_measure_53 : decode cX3_measure 53 = .ok (.iload_n 3, 1) := by decide +kernel
theorem dX3_measure_54 : decode cX3_measure 54 = .ok (.iaload, 1) := by decide +kernel
theorem dX3_measure_55 : decode cX3_measure 55 = .ok (.istore 4, 2) := by decide +kernel
theorem dX3_measure_57 : decode cX3_measure 57 = .ok (.aload_n 0, 1) := by decide +kernel
theorem dX3_measure_58 : decode cX3_measure 58 = .ok (.aload_n 0, 1) := by decide +kernel
theorem dX3_measure_59 : decode cX3_measure 59 = .ok (.getfield 9, 3) := by decide +kernel
theorem dX3_measure_62 : decode cX3_measure 62 = .ok (.iload_n 2, 1) := by decide +kernel
theorem dX3_measure_63 : decode cX3_measure 63 = .ok (.iaload, 1) := by decide +kernel
theorem dX3_measure_64 : decode cX3_measure 64 = .ok (.aload_n 1, 1) := by decide +kernel
theorem dX3_measure_65 : decode cX3_measure 65 = .ok (.getfield 60, 3) := by decide +kernel
theorem dX3_measure_68 : decode cX3_measure 68 = .ok (.iload_n 3, 1) := by decide +kernel
theorem dX3_measure_69 : decode cX3_measure 69 = .ok (.laload, 1) := by decide +kernel
theorem dX3_measure_70 : decode cX3_measure 70 = .ok (.aload_n 0, 1) := by decide +kernel
theorem dX3_measure_71 : decode cX3_measure 71 = .ok (.iload_n 2, 1) := by decide +kernel
theorem dX3_measure_72 : decode cX3_measure 72 = .ok (.iload_n 3, 1) := by decide +kernel
theorem dX3_measure_73 : decode cX3_measure 73 = .ok (.iload 4, 2) := by decide +kernel
theorem dX3_measure_75 : decode cX3_measure 75 = .ok (.invokevirtual 63, 3) := by decide +kernel
theorem dX3_measure_78 : decode cX3_measure 78 = .ok (.ladd, 1) := by decide +kernel
theorem dX3_measure_79 : decode cX3_measure 79 = .ok (.aload_n 1, 1) := by decide +kernel
theorem dX3_measure_80 : decode cX3_measure 80 = .ok (.getfield 67, 3) := by decide +kernel
theorem dX3_measure_83 : decode cX3_measure 83 = .ok (.iload_n 3, 1) := by decide +kernel
theorem dX3_measure_84 : decode cX3_measure 84 = .ok (.laload, 1) := by decide +kernel
theorem dX3_measure_85 : decode cX3_measure 85 = .ok (.aload_n 0, 1) := by decide +kernel
theorem dX3_measure_86 : decode cX3_measure 86 = .ok (.iload_n 2, 1) := by decide +kernel
theorem dX3_measure_87 : decode cX3_measure 87 = .ok (.iload_n 3, 1) := by decide +kernel
theorem dX3_measure_88 : decode cX3_measure 88 = .ok (.iload 4, 2) := by decide +kernel
theorem dX3_measure_90 : decode cX3_measure 90 = .ok (.invokevirtual 70, 3) := by decide +kernel
theorem dX3_measure_93 : decode cX3_measure 93 = .ok (.ladd, 1) := by decide +kernel
theorem dX3_measure_94 : decode cX3_measure 94 = .ok (.invokevirtual 73, 3) := by decide +kernel
theorem dX3_measure_97 : decode cX3_measure 97 = .ok (.iinc 2 1, 3) := by decide +kernel
theorem dX3_measure_100 : decode cX3_measure 100 = .ok (.goto (-75), 3) := by decide +kernel
theorem dX3_measure_103 : decode cX3_measure 103 = .ok (.lconst 0, 1) := by decide +kernel
theorem dX3_measure_104 : decode cX3_measure 104 = .ok (.lstore_n 2, 1) := by decide +kernel
theorem dX3_measure_105 : decode cX3_measure 105 = .ok (.iconst 0, 1) := by decide +kernel
theorem dX3_measure_106 : decode cX3_measure 106 = .ok (.istore 4, 2) := by decide +kernel
theorem dX3_measure_108 : decode cX3_measure 108 = .ok (.iload 4, 2) := by decide +kernel
theorem dX3_measure_110 : decode cX3_measure 110 = .ok (.aload_n 0, 1) := by decide +kernel
theorem dX3_measure_111 : decode cX3_measure 111 = .ok (.getfield 41, 3) := by decide +kernel
theorem dX3_measure_114 : decode cX3_measure 114 = .ok (.if_icmp .ge (53), 3) := by decide +kernel
theorem dX3_measure_117 : decode cX3_measure 117 = .ok (.aload_n 0, 1) := by decide +kernel
theorem dX3_measure_118 : decode cX3_measure 118 = .ok (.getfield 25, 3) := by decide +kernel
theorem dX3_measure_121 : decode cX3_measure 121 = .ok (.iload 4, 2) := by decide +kernel
theorem dX3_measure_123 : decode cX3_measure 123 = .ok (.baload, 1) := by decide +kernel
theorem dX3_measure_124 : decode cX3_measure 124 = .ok (.ifCond .eq (37), 3) := by decide +kernel
theorem dX3_measure_127 : decode cX3_measure 127 = .ok (.lload_n 2, 1) := by decide +kernel
theorem dX3_measure_128 : decode cX3_measure 128 = .ok (.aload_n 0, 1) := by decide +kernel
theorem dX3_measure_129 : decode cX3_measure 129 = .ok (.getfield 32, 3) := by decide +kernel
theorem dX3_measure_132 : decode cX3_measure 132 = .ok (.iload 4, 2) := by decide +kernel
theorem dX3_measure_134 : decode cX3_measure 134 = .ok (.laload, 1) := by decide +kernel
theorem dX3_measure_135 : decode cX3_measure 135 = .ok (.aload_n 0, 1) := by decide +kernel
theorem dX3_measure_136 : decode cX3_measure 136 = .ok (.getfield 29, 3) := by decide +kernel
theorem dX3_measure_139 : decode cX3_measure 139 = .ok (.iload 4, 2) := by decide +kernel
theorem dX3_measure_141 : decode cX3_measure 141 = .ok (.laload, 1) := by decide +kernel
theorem dX3_measure_142 : decode cX3_measure 142 = .ok (.lsub, 1) := by decide +kernel
theorem dX3_measure_143 : decode cX3_measure 143 = .ok (.aload_n 0, 1) := by decide +kernel
theorem dX3_measure_144 : decode cX3_measure 144 = .ok (.getfield 38, 3) := by decide +kernel
theorem dX3_measure_147 : decode cX3_measure 147 = .ok (.iload 4, 2) := by decide +kernel
theorem dX3_measure_149 : decode cX3_measure 149 = .ok (.laload, 1) := by decide +kernel
theorem dX3_measure_150 : decode cX3_measure 150 = .ok (.ladd, 1) := by decide +kernel
theorem dX3_measure_151 : decode cX3_measure 151 = .ok (.aload_n 0, 1) := by decide +kernel
theorem dX3_measure_152 : decode cX3_measure 152 = .ok (.getfield 35, 3) := by decide +kernel
theorem dX3_measure_155 : decode cX3_measure 155 = .ok (.iload 4, 2) := by decide +kernel
theorem dX3_measure_157 : decode cX3_measure 157 = .ok (.laload, 1) := by decide +kernel
theorem dX3_measure_158 : decode cX3_measure 158 = .ok (.lsub, 1) := by decide +kernel
theorem dX3_measure_159 : decode cX3_measure 159 = .ok (.ladd, 1) := by decide +kernel
theorem dX3_measure_160 : decode cX3_measure 160 = .ok (.lstore_n 2, 1) := by decide +kernel
theorem dX3_measure_161 : decode cX3_measure 161 = .ok (.iinc 4 1, 3) := by decide +kernel
theorem dX3_measure_164 : decode cX3_measure 164 = .ok (.goto (-56), 3) := by decide +kernel
theorem dX3_measure_167 : decode cX3_measure 167 = .ok (.lload_n 2, 1) := by decide +kernel
theorem dX3_measure_168 : decode cX3_measure 168 = .ok (.lreturn, 1) := by decide +kernel
abbrev cX3_reach : ByteArray := prog_5_method_5_code
def yX3_reach : MethodName := ⟨RX3, "reach", "(IJJ)V"⟩
def wsX3_reach : List Cond := .code yX3_reach cX3_reach 7 none :: bT
theorem dX3_reach_0 : decode cX3_reach 0 = .ok (.aload_n 0, 1) := by decide +kernel
theorem dX3_reach_1 : decode cX3_reach 1 = .ok (.getfield 25, 3) := by decide +kernel
theorem dX3_reach_4 : decode cX3_reach 4 = .ok (.iload_n 1, 1) := by decide +kernel
theorem dX3_reach_5 : decode cX3_reach 5 = .ok (.baload, 1) := by decide +kernel
theorem dX3_reach_6 : decode cX3_reach 6 = .ok (.ifCond .ne (7), 3) := by decide +kernel
theorem dX3_reach_9 : decode cX3_reach 9 = .ok (.iconst 1, 1) := by decide +kernel
theorem dX3_reach_10 : decode cX3_reach 10 = .ok (.goto (4), 3) := by decide +kernel
theorem dX3_reach_13 : decode cX3_reach 13 = .ok (.iconst 0, 1) := by decide +kernel
theorem dX3_reach_14 : decode cX3_reach 14 = .ok (.istore 6, 2) := by decide +kernel
theorem dX3_reach_16 : decode cX3_reach 16 = .ok (.aload_n 0, 1) := by decide +kernel
theorem dX3_reach_17 : decode cX3_reach 17 = .ok (.getfield 25, 3) := by decide +kernel
theorem dX3_reach_20 : decode cX3_reach 20 = .ok (.iload_n 1, 1) := by decide +kernel
theorem dX3_reach_21 : decode cX3_reach 21 = .ok (.iconst 1, 1) := by decide +kernel
theorem dX3_reach_22 : decode cX3_reach 22 = .ok (.bastore, 1) := by decide +kernel
theorem dX3_reach_23 : decode cX3_reach 23 = .ok (.aload_n 0, 1) := by decide +kernel
theorem dX3_reach_24 : decode cX3_reach 24 = .ok (.getfield 29, 3) := by decide +kernel
theorem dX3_reach_27 : decode cX3_reach 27 = .ok (.iload_n 1, 1) := by decide +kernel
theorem dX3_reach_28 : decode cX3_reach 28 = .ok (.iload 6, 2) := by decide +kernel
theorem dX3_reach_30 : decode cX3_reach 30 = .ok (.ifCond .eq (7), 3) := by decide +kernel
theorem dX3_reach_33 : decode cX3_reach 33 = .ok (.lload_n 2, 1) := by decide +kernel
theorem dX3_reach_34 : decode cX3_reach 34 = .ok (.goto (13), 3) := by decide +kernel
theorem dX3_reach_37 : decode cX3_reach 37 = .ok (.aload_n 0, 1) := by decide +kernel
theorem dX3_reach_38 : decode cX3_reach 38 = .ok (.getfield 29, 3) := by decide +kernel
theorem dX3_reach_41 : decode cX3_reach 41 = .ok (.iload_n 1, 1) := by decide +kernel
theorem dX3_reach_42 : decode cX3_reach 42 = .ok (.laload, 1) := by decide +kernel
theorem dX3_reach_43 : decode cX3_reach 43 = .ok (.lload_n 2, 1) := by decide +kernel
theorem dX3_reach_44 : decode cX3_reach 44 = .ok (.invokestatic 77, 3) := by decide +kernel
theorem dX3_reach_47 : decode cX3_reach 47 = .ok (.lastore, 1) := by decide +kernel
theorem dX3_reach_48 : decode cX3_reach 48 = .ok (.aload_n 0, 1) := by decide +kernel
theorem dX3_reach_49 : decode cX3_reach 49 = .ok (.getfield 32, 3) := by decide +kernel
theorem dX3_reach_52 : decode cX3_reach 52 = .ok (.iload_n 1, 1) := by decide +kernel
theorem dX3_reach_53 : decode cX3_reach 53 = .ok (.iload 6, 2) := by decide +kernel
theorem dX3_reach_55 : decode cX3_reach 55 = .ok (.ifCond .eq (7), 3) := by decide +kernel
theorem dX3_reach_58 : decode cX3_reach 58 = .ok (.lload_n 2, 1) := by decide +kernel
theorem dX3_reach_59 : decode cX3_reach 59 = .ok (.goto (13), 3) := by decide +kernel
theorem dX3_reach_62 : decode cX3_reach 62 = .ok (.aload_n 0, 1) := by decide +kernel
theorem dX3_reach_63 : decode cX3_reach 63 = .ok (.getfield 32, 3) := by decide +kernel
theorem dX3_reach_66 : decode cX3_reach 66 = .ok (.iload_n 1, 1) := by decide +kernel
theorem dX3_reach_67 : decode cX3_reach 67 = .ok (.laload, 1) := by decide +kernel
theorem dX3_reach_68 : decode cX3_reach 68 = .ok (.lload_n 2, 1) := by decide +kernel
theorem dX3_reach_69 : decode cX3_reach 69 = .ok (.invokestatic 83, 3) := by decide +kernel
theorem dX3_reach_72 : decode cX3_reach 72 = .ok (.lastore, 1) := by decide +kernel
theorem dX3_reach_73 : decode cX3_reach 73 = .ok (.aload_n 0, 1) := by decide +kernel
theorem dX3_reach_74 : decode cX3_reach 74 = .ok (.getfield 35, 3) := by decide +kernel
theorem dX3_reach_77 : decode cX3_reach 77 = .ok (.iload_n 1, 1) := by decide +kernel
theorem dX3_reach_78 : decode cX3_reach 78 = .ok (.iload 6, 2) := by decide +kernel
theorem dX3_reach_80 : decode cX3_reach 80 = .ok (.ifCond .eq (8), 3) := by decide +kernel
theorem dX3_reach_83 : decode cX3_reach 83 = .ok (.lload 4, 2) := by decide +kernel
theorem dX3_reach_85 : decode cX3_reach 85 = .ok (.goto (14), 3) := by decide +kernel
theorem dX3_reach_88 : decode cX3_reach 88 = .ok (.aload_n 0, 1) := by decide +kernel
theorem dX3_reach_89 : decode cX3_reach 89 = .ok (.getfield 35, 3) := by decide +kernel
theorem dX3_reach_92 : decode cX3_reach 92 = .ok (.iload_n 1, 1) := by decide +kernel
theorem dX3_reach_93 : decode cX3_reach 93 = .ok (.laload, 1) := by decide +kernel
theorem dX3_reach_94 : decode cX3_reach 94 = .ok (.lload 4, 2) := by decide +kernel
theorem dX3_reach_96 : decode cX3_reach 96 = .ok (.invokestatic 77, 3) := by decide +kernel
theorem dX3_reach_99 : decode cX3_reach 99 = .ok (.lastore, 1) := by decide +kernel
theorem dX3_reach_100 : decode cX3_reach 100 = .ok (.aload_n 0, 1) := by decide +kernel
theorem dX3_reach_101 : decode cX3_reach 101 = .ok (.getfield 38, 3) := by decide +kernel
theorem dX3_reach_104 : decode cX3_reach 104 = .ok (.iload_n 1, 1) := by decide +kernel
theorem dX3_reach_105 : decode cX3_reach 105 = .ok (.iload 6, 2) := by decide +kernel
theorem dX3_reach_107 : decode cX3_reach 107 = .ok (.ifCond .eq (8), 3) := by decide +kernel
theorem dX3_reach_110 : decode cX3_reach 110 = .ok (.lload 4, 2) := by decide +kernel
theorem dX3_reach_112 : decode cX3_reach 112 = .ok (.goto (14), 3) := by decide +kernel
theorem dX3_reach_115 : decode cX3_reach 115 = .ok (.aload_n 0, 1) := by decide +kernel
theorem dX3_reach_116 : decode cX3_reach 116 = .ok (.getfield 38, 3) := by decide +kernel
theorem dX3_reach_119 : decode cX3_reach 119 = .ok (.iload_n 1, 1) := by decide +kernel
theorem dX3_reach_120 : decode cX3_reach 120 = .ok (.laload, 1) := by decide +kernel
theorem dX3_reach_121 : decode cX3_reach 121 = .ok (.lload 4, 2) := by decide +kernel
theorem dX3_reach_123 : decode cX3_reach 123 = .ok (.invokestatic 83, 3) := by decide +kernel
theorem dX3_reach_126 : decode cX3_reach 126 = .ok (.lastore, 1) := by decide +kernel
theorem dX3_reach_127 : decode cX3_reach 127 = .ok (.return_, 1) := by decide +kernel
abbrev cX3_turnedX : ByteArray := prog_5_method_6_code
def yX3_turnedX : MethodName := ⟨RX3, "turnedX", "(III)J"⟩
def wsX3_turnedX : List Cond := .code yX3_turnedX cX3_turnedX 4 (some .long) :: bT
theorem dX3_turnedX_0 : decode cX3_turnedX 0 = .ok (.iload_n 3, 1) := by decide +kernel
theorem dX3_turnedX_1 : decode cX3_turnedX 1 = .ok (.tableswitch 68 1 3 #[27, 44, 61], 27) := by decide +kernel
theorem dX3_turnedX_28 : decode cX3_turnedX 28 = .ok (.aload_n 0, 1) := by decide +kernel
theorem dX3_turnedX_29 : decode cX3_turnedX 29 = .ok (.getfield 48, 3) := by decide +kernel
theorem dX3_turnedX_32 : decode cX3_turnedX 32 = .ok (.getfield 86, 3) := by decide +kernel
theorem dX3_turnedX_35 : decode cX3_turnedX 35 = .ok (.iload_n 2, 1) := by decide +kernel
theorem dX3_turnedX_36 : decode cX3_turnedX 36 = .ok (.laload, 1) := by decide +kernel
theorem dX3_turnedX_37 : decode cX3_turnedX 37 = .ok (.aload_n 0, 1) := by decide +kernel
theorem dX3_turnedX_38 : decode cX3_turnedX 38 = .ok (.getfield 22, 3) := by decide +kernel
theorem dX3_turnedX_41 : decode cX3_turnedX 41 = .ok (.iload_n 1, 1) := by decide +kernel
theorem dX3_turnedX_42 : decode cX3_turnedX 42 = .ok (.laload, 1) := by decide +kernel
theorem dX3_turnedX_43 : decode cX3_turnedX 43 = .ok (.lsub, 1) := by decide +kernel
theorem dX3_turnedX_44 : decode cX3_turnedX 44 = .ok (.lreturn, 1) := by decide +kernel
theorem dX3_turnedX_45 : decode cX3_turnedX 45 = .ok (.aload_n 0, 1) := by decide +kernel
theorem dX3_turnedX_46 : decode cX3_turnedX 46 = .ok (.getfield 48, 3) := by decide +kernel
theorem dX3_turnedX_49 : decode cX3_turnedX 49 = .ok (.getfield 91, 3) := by decide +kernel
theorem dX3_turnedX_52 : decode cX3_turnedX 52 = .ok (.iload_n 2, 1) := by decide +kernel
theorem dX3_turnedX_53 : decode cX3_turnedX 53 = .ok (.laload, 1) := by decide +kernel
theorem dX3_turnedX_54 : decode cX3_turnedX 54 = .ok (.aload_n 0, 1) := by decide +kernel
theorem dX3_turnedX_55 : decode cX3_turnedX 55 = .ok (.getfield 18, 3) := by decide +kernel
theorem dX3_turnedX_58 : decode cX3_turnedX 58 = .ok (.iload_n 1, 1) := by decide +kernel
theorem dX3_turnedX_59 : decode cX3_turnedX 59 = .ok (.laload, 1) := by decide +kernel
theorem dX3_turnedX_60 : decode cX3_turnedX 60 = .ok (.lsub, 1) := by decide +kernel
theorem dX3_turnedX_61 : decode cX3_turnedX 61 = .ok (.lreturn, 1) := by decide +kernel
theorem dX3_turnedX_62 : decode cX3_turnedX 62 = .ok (.aload_n 0, 1) := by decide +kernel
theorem dX3_turnedX_63 : decode cX3_turnedX 63 = .ok (.getfield 22, 3) := by decide +kernel
theorem dX3_turnedX_66 : decode cX3_turnedX 66 = .ok (.iload_n 1, 1) := by decide +kernel
theorem dX3_turnedX_67 : decode cX3_turnedX 67 = .ok (.laload, 1) := by decide +kernel
theorem dX3_turnedX_68 : decode cX3_turnedX 68 = .ok (.lreturn, 1) := by decide +kernel
theorem dX3_turnedX_69 : decode cX3_turnedX 69 = .ok (.aload_n 0, 1) := by decide +kernel
theorem dX3_turnedX_70 : decode cX3_turnedX 70 = .ok (.getfield 18, 3) := by decide +kernel
theorem dX3_turnedX_73 : decode cX3_turnedX 73 = .ok (.iload_n 1, 1) := by decide +kernel
theorem dX3_turnedX_74 : decode cX3_turnedX 74 = .ok (.laload, 1) := by decide +kernel
theorem dX3_turnedX_75 : decode cX3_turnedX 75 = .ok (.lreturn, 1) := by decide +kernel
abbrev cX3_turnedY : ByteArray := prog_5_method_7_code
def yX3_turnedY : MethodName := ⟨RX3, "turnedY", "(III)J"⟩
def wsX3_turnedY : List Cond := .code yX3_turnedY cX3_turnedY 4 (some .long) :: bT
theorem dX3_turnedY_0 : decode cX3_turnedY 0 = .ok (.iload_n 3, 1) := by decide +kernel
theorem dX3_turnedY_1 : decode cX3_turnedY 1 = .ok (.tableswitch 68 1 3 #[27, 34, 51], 27) := by decide +kernel
theorem dX3_turnedY_28 : decode cX3_turnedY 28 = .ok (.aload_n 0, 1) := by decide +kernel
theorem dX3_turnedY_29 : decode cX3_turnedY 29 = .ok (.getfield 18, 3) := by decide +kernel
theorem dX3_turnedY_32 : decode cX3_turnedY 32 = .ok (.iload_n 1, 1) := by decide +kernel
theorem dX3_turnedY_33 : decode cX3_turnedY 33 = .ok (.laload, 1) := by decide +kernel
theorem dX3_turnedY_34 : decode cX3_turnedY 34 = .ok (.lreturn, 1) := by decide +kernel
theorem dX3_turnedY_35 : decode cX3_turnedY 35 = .ok (.aload_n 0, 1) := by decide +kernel
theorem dX3_turnedY_36 : decode cX3_turnedY 36 = .ok (.getfield 48, 3) := by decide +kernel
theorem dX3_turnedY_39 : decode cX3_turnedY 39 = .ok (.getfield 86, 3) := by decide +kernel
theorem dX3_turnedY_42 : decode cX3_turnedY 42 = .ok (.iload_n 2, 1) := by decide +kernel
theorem dX3_turnedY_43 : decode cX3_turnedY 43 = .ok (.laload, 1) := by decide +kernel
theorem dX3_turnedY_44 : decode cX3_turnedY 44 = .ok (.aload_n 0, 1) := by decide +kernel
theorem dX3_turnedY_45 : decode cX3_turnedY 45 = .ok (.getfield 22, 3) := by decide +kernel
theorem dX3_turnedY_48 : decode cX3_turnedY 48 = .ok (.iload_n 1, 1) := by decide +kernel
theorem dX3_turnedY_49 : decode cX3_turnedY 49 = .ok (.laload, 1) := by decide +kernel
theorem dX3_turnedY_50 : decode cX3_turnedY 50 = .ok (.lsub, 1) := by decide +kernel
theorem dX3_turnedY_51 : decode cX3_turnedY 51 = .ok (.lreturn, 1) := by decide +kernel
theorem dX3_turnedY_52 : decode cX3_turnedY 52 = .ok (.aload_n 0, 1) := by decide +kernel
theorem dX3_turnedY_53 : decode cX3_turnedY 53 = .ok (.getfield 48, 3) := by decide +kernel
theorem dX3_turnedY_56 : decode cX3_turnedY 56 = .ok (.getfield 91, 3) := by decide +kernel
theorem dX3_turnedY_59 : decode cX3_turnedY 59 = .ok (.iload_n 2, 1) := by decide +kernel
theorem dX3_turnedY_60 : decode cX3_turnedY 60 = .ok (.laload, 1) := by decide +kernel
theorem dX3_turnedY_61 : decode cX3_turnedY 61 = .ok (.aload_n 0, 1) := by decide +kernel
theorem dX3_turnedY_62 : decode cX3_turnedY 62 = .ok (.getfield 18, 3) := by decide +kernel
theorem dX3_turnedY_65 : decode cX3_turnedY 65 = .ok (.iload_n 1, 1) := by decide +kernel
theorem dX3_turnedY_66 : decode cX3_turnedY 66 = .ok (.laload, 1) := by decide +kernel
theorem dX3_turnedY_67 : decode cX3_turnedY 67 = .ok (.lsub, 1) := by decide +kernel
theorem dX3_turnedY_68 : decode cX3_turnedY 68 = .ok (.lreturn, 1) := by decide +kernel
theorem dX3_turnedY_69 : decode cX3_turnedY 69 = .ok (.aload_n 0, 1) := by decide +kernel
theorem dX3_turnedY_70 : decode cX3_turnedY 70 = .ok (.getfield 22, 3) := by decide +kernel
theorem dX3_turnedY_73 : decode cX3_turnedY 73 = .ok (.iload_n 1, 1) := by decide +kernel
theorem dX3_turnedY_74 : decode cX3_turnedY 74 = .ok (.laload, 1) := by decide +kernel
theorem dX3_turnedY_75 : decode cX3_turnedY 75 = .ok (.lreturn, 1) := by decide +kernel
end
section
set_option maxHeartbeats 8000000 in
set_option maxRecDepth 100000 in
theorem y_left {l : Launch} {D : va_G} {ad : Nat → Nat} {cJ cI cZ : ClassId} {bm : gBM} {pa : gPA} {p0 p1 p2 : gPL} {li : gLI} {wi : gWI} {mt : Nat} {ms : gMS} {ma : gMA} {mp : gMP} {mk : gMK} {mn : gMN} {ou : Nat → Int64} {zr : Nat} {zp : Nat}  (hp0 : zr < 3) (hp1 : zp < 40)  : bm_Wx l yX5_left wsX5_left ({ frames := 0, cells := 0, slots := 0, locals := 0 }) D vwCl [(cJ, .long), (cI, .int), (cZ, .boolean)] (WW ad cJ cI cZ bm pa p0 p1 p2 li wi mt ms ma mp mk mn ou) [.ref (ad 42), .int (nI zr), .int (nI zp)] (fun ws9 r9 => ws9 = (WW ad cJ cI cZ bm pa p0 p1 p2 li wi mt ms ma mp mk mn ou) ∧ ∃ v9 : Int64, r9 = some (.long v9)) := by
  intro sz
  refine Met.ofW (cc := cX5_left) (maxL := 3) (ret := (some .long)) (by decide) rfl ?_
  intro p e s m args below meth c s₁ B hml hv
  obtain ⟨ha, hsz, hP, hK, hD0⟩ := hv
  have hx := B.exec
  have hb := B.bytes
  have hr := B.returns
  have hts := atoms_spec (ws := wsX5_left) B.pre
  have hown : s.vm.findClass RX5 = some m.cls := findClass_of_methodNamed B.named
  have hlocks := B.notSynchronized
  subst hsz
  have hD := hD0.self (sz := s.heap.size)
  generalize hAe : va_A (WW ad cJ cI cZ bm pa p0 p1 p2 li wi mt ms ma mp mk mn ou) s.heap.size = A at hD ⊢
  have hA : ∀ q : Nat, s.heap.size ≤ q → A q := fun q h => by rw [← hAe]; exact Or.inr h
  have hS : va_S A s.heap s.heap [] := va_S.rf
  have hl := lv_entry ([.ref (ad 42), .int (nI zr), .int (nI zp)]) (n := 3) (Nat.le_of_ble_eq_true rfl)
  refine W.eq (g2 := entryFrame m ([.ref (ad 42), .int (nI zr), .int (nI zp)] : List Value).toArray 3) (by rw [ha]) ?_
  rw [lg_entry_eq]
  generalize (lg_sl ([.ref (ad 42), .int (nI zr), .int (nI zp)]) ++ List.replicate (3 - (lg_sl ([.ref (ad 42), .int (nI zr), .int (nI zp)])).length) Slot.unset).toArray = ls at hl ⊢
  have hl : lv_has ls 3 [(0, .ref (ad 42)), (1, .int (nI zr)), (2, .int (nI zp))] := hl
  refine lv_aload_n hx hb dX5_left_0 rfl (lv_at hl 0 rfl) ?_
  refine va_get (D := D) (ci := 5) (v := .ref (ad 50)) (C := RX5) (T := TX5) (N := 28) hx hb hts (inT inX5) hown hK hP 42 rfl rfl 11 (by decide) (hts (.fieldLink RX5 33 "BoardMovesModel" "x" "[J") (by decide +kernel)) (fun _ h9 => h9) rfl dX5_left_1 ?_
  refine lv_bipush (v := nI 40) hx hb dX5_left_4 (by decide) ?_
  refine lv_iload_n hx hb dX5_left_6 rfl (lv_at hl 1 rfl) ?_
  refine bm_nmul hx hb dX5_left_7 ?_
  refine lv_iload_n hx hb dX5_left_8 rfl (lv_at hl 2 rfl) ?_
  refine bm_nadd hx hb dX5_left_9 ?_
  refine bm_lald (f := mp.1) hx hb hK hP 50 0 rfl rfl (j := ((40 * zr) + zp)) (by omega) (by decide) dX5_left_10 ?_
  refine lv_topl (fun t_1 _ => ?_)
  exact bm_lretX (v := t_1) hx hb hr hP hD hK hS ⟨rfl, t_1, rfl⟩ dX5_left_11 hlocks

set_option maxHeartbeats 8000000 in
set_option maxRecDepth 100000 in
theorem y_low {l : Launch} {D : va_G} {ad : Nat → Nat} {cJ cI cZ : ClassId} {bm : gBM} {pa : gPA} {p0 p1 p2 : gPL} {li : gLI} {wi : gWI} {mt : Nat} {ms : gMS} {ma : gMA} {mp : gMP} {mk : gMK} {mn : gMN} {ou : Nat → Int64} {zr : Nat} {zp : Nat}  (hp0 : zr < 3) (hp1 : zp < 40)  : bm_Wx l yX5_low wsX5_low ({ frames := 0, cells := 0, slots := 0, locals := 0 }) D vwCl [(cJ, .long), (cI, .int), (cZ, .boolean)] (WW ad cJ cI cZ bm pa p0 p1 p2 li wi mt ms ma mp mk mn ou) [.ref (ad 42), .int (nI zr), .int (nI zp)] (fun ws9 r9 => ws9 = (WW ad cJ cI cZ bm pa p0 p1 p2 li wi mt ms ma mp mk mn ou) ∧ ∃ v9 : Int64, r9 = some (.long v9)) := by
  intro sz
  refine Met.ofW (cc := cX5_low) (maxL := 3) (ret := (some .long)) (by decide) rfl ?_
  intro p e s m args below meth c s₁ B hml hv
  obtain ⟨ha, hsz, hP, hK, hD0⟩ := hv
  have hx := B.exec
  have hb := B.bytes
  have hr := B.returns
  have hts := atoms_spec (ws := wsX5_low) B.pre
  have hown : s.vm.findClass RX5 = some m.cls := findClass_of_methodNamed B.named
  have hlocks := B.notSynchronized
  subst hsz
  have hD := hD0.self (sz := s.heap.size)
  generalize hAe : va_A (WW ad cJ cI cZ bm pa p0 p1 p2 li wi mt ms ma mp mk mn ou) s.heap.size = A at hD ⊢
  have hA : ∀ q : Nat, s.heap.size ≤ q → A q := fun q h => by rw [← hAe]; exact Or.inr h
  have hS : va_S A s.heap s.heap [] := va_S.rf
  have hl := lv_entry ([.ref (ad 42), .int (nI zr), .int (nI zp)]) (n := 3) (Nat.le_of_ble_eq_true rfl)
  refine W.eq (g2 := entryFrame m ([.ref (ad 42), .int (nI zr), .int (nI zp)] : List Value).toArray 3) (by rw [ha]) ?_
  rw [lg_entry_eq]
  generalize (lg_sl ([.ref (ad 42), .int (nI zr), .int (nI zp)]) ++ List.replicate (3 - (lg_sl ([.ref (ad 42), .int (nI zr), .int (nI zp)])).length) Slot.unset).toArray = ls at hl ⊢
  have hl : lv_has ls 3 [(0, .ref (ad 42)), (1, .int (nI zr)), (2, .int (nI zp))] := hl
  refine lv_aload_n hx hb dX5_low_0 rfl (lv_at hl 0 rfl) ?_
  refine va_get (D := D) (ci := 5) (v := .ref (ad 51)) (C := RX5) (T := TX5) (N := 28) hx hb hts (inT inX5) hown hK hP 42 rfl rfl 12 (by decide) (hts (.fieldLink RX5 36 "BoardMovesModel" "y" "[J") (by decide +kernel)) (fun _ h9 => h9) rfl dX5_low_1 ?_
  refine lv_bipush (v := nI 40) hx hb dX5_low_4 (by decide) ?_
  refine lv_iload_n hx hb dX5_low_6 rfl (lv_at hl 1 rfl) ?_
  refine bm_nmul hx hb dX5_low_7 ?_
  refine lv_iload_n hx hb dX5_low_8 rfl (lv_at hl 2 rfl) ?_
  refine bm_nadd hx hb dX5_low_9 ?_
  refine bm_lald (f := mp.2.1) hx hb hK hP 51 0 rfl rfl (j := ((40 * zr) + zp)) (by omega) (by decide) dX5_low_10 ?_
  refine lv_topl (fun t_1 _ => ?_)
  exact bm_lretX (v := t_1) hx hb hr hP hD hK hS ⟨rfl, t_1, rfl⟩ dX5_low_11 hlocks

set_option maxHeartbeats 8000000 in
set_option maxRecDepth 100000 in
theorem y_lies {l : Launch} {D : va_G} {ad : Nat → Nat} {cJ cI cZ : ClassId} {bm : gBM} {pa : gPA} {p0 p1 p2 : gPL} {li : gLI} {wi : gWI} {mt : Nat} {ms : gMS} {ma : gMA} {mp : gMP} {mk : gMK} {mn : gMN} {ou : Nat → Int64} {zr : Nat} {zp : Nat} (ok_mp_turns : ∀ i, mp.2.2 i < 40) (hp0 : zr < 3) (hp1 : zp < 40)  : bm_Wx l yX5_lies wsX5_lies ({ frames := 0, cells := 0, slots := 0, locals := 0 }) D vwCl [(cJ, .long), (cI, .int), (cZ, .boolean)] (WW ad cJ cI cZ bm pa p0 p1 p2 li wi mt ms ma mp mk mn ou) [.ref (ad 42), .int (nI zr), .int (nI zp)] (fun ws9 r9 => ws9 = (WW ad cJ cI cZ bm pa p0 p1 p2 li wi mt ms ma mp mk mn ou) ∧ ∃ b9 : Bool, r9 = some (.int (bm_b b9))) := by
  intro sz
  refine Met.ofW (cc := cX5_lies) (maxL := 3) (ret := (some .boolean)) (by decide) rfl ?_
  intro p e s m args below meth c s₁ B hml hv
  obtain ⟨ha, hsz, hP, hK, hD0⟩ := hv
  have hx := B.exec
  have hb := B.bytes
  have hr := B.returns
  have hts := atoms_spec (ws := wsX5_lies) B.pre
  have hown : s.vm.findClass RX5 = some m.cls := findClass_of_methodNamed B.named
  have hlocks := B.notSynchronized
  subst hsz
  have hD := hD0.self (sz := s.heap.size)
  generalize hAe : va_A (WW ad cJ cI cZ bm pa p0 p1 p2 li wi mt ms ma mp mk mn ou) s.heap.size = A at hD ⊢
  have hA : ∀ q : Nat, s.heap.size ≤ q → A q := fun q h => by rw [← hAe]; exact Or.inr h
  have hS : va_S A s.heap s.heap [] := va_S.rf
  have hl := lv_entry ([.ref (ad 42), .int (nI zr), .int (nI zp)]) (n := 3) (Nat.le_of_ble_eq_true rfl)
  refine W.eq (g2 := entryFrame m ([.ref (ad 42), .int (nI zr), .int (nI zp)] : List Value).toArray 3) (by rw [ha]) ?_
  rw [lg_entry_eq]
  generalize (lg_sl ([.ref (ad 42), .int (nI zr), .int (nI zp)]) ++ List.replicate (3 - (lg_sl ([.ref (ad 42), .int (nI zr), .int (nI zp)])).length) Slot.unset).toArray = ls at hl ⊢
  have hl : lv_has ls 3 [(0, .ref (ad 42)), (1, .int (nI zr)), (2, .int (nI zp))] := hl
  refine lv_aload_n hx hb dX5_lies_0 rfl (lv_at hl 0 rfl) ?_
  refine va_get (D := D) (ci := 5) (v := .ref (ad 52)) (C := RX5) (T := TX5) (N := 28) hx hb hts (inT inX5) hown hK hP 42 rfl rfl 13 (by decide) (hts (.fieldLink RX5 39 "BoardMovesModel" "turns" "[I") (by decide +kernel)) (fun _ h9 => h9) rfl dX5_lies_1 ?_
  refine lv_bipush (v := nI 40) hx hb dX5_lies_4 (by decide) ?_
  refine lv_iload_n hx hb dX5_lies_6 rfl (lv_at hl 1 rfl) ?_
  refine bm_nmul hx hb dX5_lies_7 ?_
  refine lv_iload_n hx hb dX5_lies_8 rfl (lv_at hl 2 rfl) ?_
  refine bm_nadd hx hb dX5_lies_9 ?_
  refine bm_nald (f := mp.2.2) hx hb hK hP 52 1 rfl rfl (j := ((40 * zr) + zp)) (by omega) (by decide) dX5_lies_10 ?_
  refine lv_iconst (v := nI 2) hx hb dX5_lies_11 (by decide) ?_
  refine bm_nrem hx hb (bm40 (ok_mp_turns _)) (by decide) (by decide) dX5_lies_12 ?_
  refine lv_iconst (v := nI 1) hx hb dX5_lies_13 (by decide) ?_
  refine bm_ni_ne (x := ((mp.2.2 ((40 * zr) + zp)) % 2)) (y := 1) (tgt := 21) hx hb (by omega) (by omega) dX5_lies_14 (by decide) (fun c_1 => ?_) (fun c_1 => ?_)
  · refine lv_iconst (v := bm_b false) hx hb dX5_lies_21 (by decide) ?_
    exact bm_zretX (v := false) hx hb hr hP hD hK hS ⟨rfl, false, rfl⟩ dX5_lies_22 hlocks
  · refine lv_iconst (v := bm_b true) hx hb dX5_lies_17 (by decide) ?_
    refine lv_goto (tgt := 22) hx hb dX5_lies_18 (by decide) ?_
    exact bm_zretX (v := true) hx hb hr hP hD hK hS ⟨rfl, true, rfl⟩ dX5_lies_22 hlocks

set_option maxHeartbeats 8000000 in
set_option maxRecDepth 100000 in
theorem y_right {l : Launch} {D : va_G} {ad : Nat → Nat} {cJ cI cZ : ClassId} {bm : gBM} {pa : gPA} {p0 p1 p2 : gPL} {li : gLI} {wi : gWI} {mt : Nat} {ms : gMS} {ma : gMA} {mp : gMP} {mk : gMK} {mn : gMN} {ou : Nat → Int64} {zr : Nat} {zp : Nat} (ok_mp_turns : ∀ i, mp.2.2 i < 40) (hp0 : zr < 3) (hp1 : zp < 40)  : bm_Wx l yX5_right wsX5_right ({ frames := 1, cells := 0, slots := 0, locals := 22 }) D vwCl [(cJ, .long), (cI, .int), (cZ, .boolean)] (WW ad cJ cI cZ bm pa p0 p1 p2 li wi mt ms ma mp mk mn ou) [.ref (ad 42), .int (nI zr), .int (nI zp)] (fun ws9 r9 => ws9 = (WW ad cJ cI cZ bm pa p0 p1 p2 li wi mt ms ma mp mk mn ou) ∧ ∃ v9 : Int64, r9 = some (.long v9)) := by
  intro sz
  refine Met.ofW (cc := cX5_right) (maxL := 3) (ret := (some .long)) (by decide) rfl ?_
  intro p e s m args below meth c s₁ B hml hv
  obtain ⟨ha, hsz, hP, hK, hD0⟩ := hv
  have hx := B.exec
  have hb := B.bytes
  have hr := B.returns
  have hts := atoms_spec (ws := wsX5_right) B.pre
  have hown : s.vm.findClass RX5 = some m.cls := findClass_of_methodNamed B.named
  have hlocks := B.notSynchronized
  subst hsz
  have hD := hD0.self (sz := s.heap.size)
  generalize hAe : va_A (WW ad cJ cI cZ bm pa p0 p1 p2 li wi mt ms ma mp mk mn ou) s.heap.size = A at hD ⊢
  have hA : ∀ q : Nat, s.heap.size ≤ q → A q := fun q h => by rw [← hAe]; exact Or.inr h
  have hS : va_S A s.heap s.heap [] := va_S.rf
  have hl := lv_entry ([.ref (ad 42), .int (nI zr), .int (nI zp)]) (n := 3) (Nat.le_of_ble_eq_true rfl)
  refine W.eq (g2 := entryFrame m ([.ref (ad 42), .int (nI zr), .int (nI zp)] : List Value).toArray 3) (by rw [ha]) ?_
  rw [lg_entry_eq]
  generalize (lg_sl ([.ref (ad 42), .int (nI zr), .int (nI zp)]) ++ List.replicate (3 - (lg_sl ([.ref (ad 42), .int (nI zr), .int (nI zp)])).length) Slot.unset).toArray = ls at hl ⊢
  have hl : lv_has ls 3 [(0, .ref (ad 42)), (1, .int (nI zr)), (2, .int (nI zp))] := hl
  refine lv_aload_n hx hb dX5_right_0 rfl (lv_at hl 0 rfl) ?_
  refine lv_iload_n hx hb dX5_right_1 rfl (lv_at hl 1 rfl) ?_
  refine lv_iload_n hx hb dX5_right_2 rfl (lv_at hl 2 rfl) ?_
  refine bm_xcallV (As := [.int (nI zr), .int (nI zp)]) (rest := []) ⟨hx, hb, hml, hown, hts⟩ (y_left  (zr := zr) (zp := zp)  (by omega) (by omega)) (cwV 2 hts (gdV (by decide +kernel) (by decide +kernel) (by decide +kernel) (by decide +kernel) (by decide +kernel)) rfl rfl rfl (by decide +kernel) ⟨Nat.le_of_ble_eq_true rfl, Nat.le_of_ble_eq_true rfl⟩) hK hP hD hS hA 42 5 rfl rfl rfl hl.1 rfl (Nat.le_of_ble_eq_true rfl) dX5_right_3 ⟨Nat.le_of_ble_eq_true rfl, Nat.le_of_ble_eq_true rfl⟩ (fun ws_1 r_2 h_3 H locs hP hD hS => ?_)
  obtain ⟨rfl, v_4, rfl⟩ := h_3
  have hP : va_P D vwCl (WW ad cJ cI cZ bm pa p0 p1 p2 li wi mt ms ma mp mk mn ou) H := hP
  have hD : va_D A (WW ad cJ cI cZ bm pa p0 p1 p2 li wi mt ms ma mp mk mn ou) := hD
  refine lv_aload_n hx hb dX5_right_6 rfl (lv_at hl 0 rfl) ?_
  refine lv_iload_n hx hb dX5_right_7 rfl (lv_at hl 1 rfl) ?_
  refine lv_iload_n hx hb dX5_right_8 rfl (lv_at hl 2 rfl) ?_
  refine bm_xcallV (As := [.int (nI zr), .int (nI zp)]) (rest := [.long v_4]) ⟨hx, hb, hml, hown, hts⟩ (y_lies  (zr := zr) (zp := zp) ok_mp_turns (by omega) (by omega)) (cwV 2 hts (gdV (by decide +kernel) (by decide +kernel) (by decide +kernel) (by decide +kernel) (by decide +kernel)) rfl rfl rfl (by decide +kernel) ⟨Nat.le_of_ble_eq_true rfl, Nat.le_of_ble_eq_true rfl⟩) hK hP hD hS hA 42 5 rfl rfl rfl hl.1 rfl (Nat.le_of_ble_eq_true rfl) dX5_right_9 ⟨Nat.le_of_ble_eq_true rfl, Nat.le_of_ble_eq_true rfl⟩ (fun ws_5 r_6 h_7 H locs hP hD hS => ?_)
  obtain ⟨rfl, v_8, rfl⟩ := h_7
  have hP : va_P D vwCl (WW ad cJ cI cZ bm pa p0 p1 p2 li wi mt ms ma mp mk mn ou) H := hP
  have hD : va_D A (WW ad cJ cI cZ bm pa p0 p1 p2 li wi mt ms ma mp mk mn ou) := hD
  refine bm_zb_eq (x := v_8) (tgt := 24) hx hb dX5_right_12 (by decide) (fun c_9 => ?_) (fun c_9 => ?_)
  · refine lv_aload_n hx hb dX5_right_24 rfl (lv_at hl 0 rfl) ?_
    refine va_get (D := D) (ci := 5) (v := .ref (ad 43)) (C := RX5) (T := TX5) (N := 28) hx hb hts (inT inX5) hown hK hP 42 rfl rfl 4 (by decide) (hts (.fieldLink RX5 7 "BoardMovesModel" "wide" "[J") (by decide +kernel)) (fun _ h9 => h9) rfl dX5_right_25 ?_
    refine lv_iload_n hx hb dX5_right_28 rfl (lv_at hl 2 rfl) ?_
    refine bm_lald (f := ma.1) hx hb hK hP 43 0 rfl rfl (j := zp) (by omega) (by decide) dX5_right_29 ?_
    refine lv_topl (fun t_10 _ => ?_)
    refine lv_ladd hx hb dX5_right_30 ?_
    refine lv_topl (fun t_11 _ => ?_)
    exact bm_lretX (v := t_11) hx hb hr hP hD hK hS ⟨rfl, t_11, rfl⟩ dX5_right_31 hlocks
  · refine lv_aload_n hx hb dX5_right_15 rfl (lv_at hl 0 rfl) ?_
    refine va_get (D := D) (ci := 5) (v := .ref (ad 44)) (C := RX5) (T := TX5) (N := 28) hx hb hts (inT inX5) hown hK hP 42 rfl rfl 5 (by decide) (hts (.fieldLink RX5 13 "BoardMovesModel" "high" "[J") (by decide +kernel)) (fun _ h9 => h9) rfl dX5_right_16 ?_
    refine lv_iload_n hx hb dX5_right_19 rfl (lv_at hl 2 rfl) ?_
    refine bm_lald (f := ma.2.1) hx hb hK hP 44 0 rfl rfl (j := zp) (by omega) (by decide) dX5_right_20 ?_
    refine lv_topl (fun t_12 _ => ?_)
    refine lv_goto (tgt := 30) hx hb dX5_right_21 (by decide) ?_
    refine lv_ladd hx hb dX5_right_30 ?_
    refine lv_topl (fun t_13 _ => ?_)
    exact bm_lretX (v := t_13) hx hb hr hP hD hK hS ⟨rfl, t_13, rfl⟩ dX5_right_31 hlocks

set_option maxHeartbeats 8000000 in
set_option maxRecDepth 100000 in
theorem y_top {l : Launch} {D : va_G} {ad : Nat → Nat} {cJ cI cZ : ClassId} {bm : gBM} {pa : gPA} {p0 p1 p2 : gPL} {li : gLI} {wi : gWI} {mt : Nat} {ms : gMS} {ma : gMA} {mp : gMP} {mk : gMK} {mn : gMN} {ou : Nat → Int64} {zr : Nat} {zp : Nat} (ok_mp_turns : ∀ i, mp.2.2 i < 40) (hp0 : zr < 3) (hp1 : zp < 40)  : bm_Wx l yX5_top wsX5_top ({ frames := 1, cells := 0, slots := 0, locals := 22 }) D vwCl [(cJ, .long), (cI, .int), (cZ, .boolean)] (WW ad cJ cI cZ bm pa p0 p1 p2 li wi mt ms ma mp mk mn ou) [.ref (ad 42), .int (nI zr), .int (nI zp)] (fun ws9 r9 => ws9 = (WW ad cJ cI cZ bm pa p0 p1 p2 li wi mt ms ma mp mk mn ou) ∧ ∃ v9 : Int64, r9 = some (.long v9)) := by
  intro sz
  refine Met.ofW (cc := cX5_top) (maxL := 3) (ret := (some .long)) (by decide) rfl ?_
  intro p e s m args below meth c s₁ B hml hv
  obtain ⟨ha, hsz, hP, hK, hD0⟩ := hv
  have hx := B.exec
  have hb := B.bytes
  have hr := B.returns
  have hts := atoms_spec (ws := wsX5_top) B.pre
  have hown : s.vm.findClass RX5 = some m.cls := findClass_of_methodNamed B.named
  have hlocks := B.notSynchronized
  subst hsz
  have hD := hD0.self (sz := s.heap.size)
  generalize hAe : va_A (WW ad cJ cI cZ bm pa p0 p1 p2 li wi mt ms ma mp mk mn ou) s.heap.size = A at hD ⊢
  have hA : ∀ q : Nat, s.heap.size ≤ q → A q := fun q h => by rw [← hAe]; exact Or.inr h
  have hS : va_S A s.heap s.heap [] := va_S.rf
  have hl := lv_entry ([.ref (ad 42), .int (nI zr), .int (nI zp)]) (n := 3) (Nat.le_of_ble_eq_true rfl)
  refine W.eq (g2 := entryFrame m ([.ref (ad 42), .int (nI zr), .int (nI zp)] : List Value).toArray 3) (by rw [ha]) ?_
  rw [lg_entry_eq]
  generalize (lg_sl ([.ref (ad 42), .int (nI zr), .int (nI zp)]) ++ List.replicate (3 - (lg_sl ([.ref (ad 42), .int (nI zr), .int (nI zp)])).length) Slot.unset).toArray = ls at hl ⊢
  have hl : lv_has ls 3 [(0, .ref (ad 42)), (1, .int (nI zr)), (2, .int (nI zp))] := hl
  refine lv_aload_n hx hb dX5_top_0 rfl (lv_at hl 0 rfl) ?_
  refine lv_iload_n hx hb dX5_top_1 rfl (lv_at hl 1 rfl) ?_
  refine lv_iload_n hx hb dX5_top_2 rfl (lv_at hl 2 rfl) ?_
  refine bm_xcallV (As := [.int (nI zr), .int (nI zp)]) (rest := []) ⟨hx, hb, hml, hown, hts⟩ (y_low  (zr := zr) (zp := zp)  (by omega) (by omega)) (cwV 2 hts (gdV (by decide +kernel) (by decide +kernel) (by decide +kernel) (by decide +kernel) (by decide +kernel)) rfl rfl rfl (by decide +kernel) ⟨Nat.le_of_ble_eq_true rfl, Nat.le_of_ble_eq_true rfl⟩) hK hP hD hS hA 42 5 rfl rfl rfl hl.1 rfl (Nat.le_of_ble_eq_true rfl) dX5_top_3 ⟨Nat.le_of_ble_eq_true rfl, Nat.le_of_ble_eq_true rfl⟩ (fun ws_1 r_2 h_3 H locs hP hD hS => ?_)
  obtain ⟨rfl, v_4, rfl⟩ := h_3
  have hP : va_P D vwCl (WW ad cJ cI cZ bm pa p0 p1 p2 li wi mt ms ma mp mk mn ou) H := hP
  have hD : va_D A (WW ad cJ cI cZ bm pa p0 p1 p2 li wi mt ms ma mp mk mn ou) := hD
  refine lv_aload_n hx hb dX5_top_6 rfl (lv_at hl 0 rfl) ?_
  refine lv_iload_n hx hb dX5_top_7 rfl (lv_at hl 1 rfl) ?_
  refine lv_iload_n hx hb dX5_top_8 rfl (lv_at hl 2 rfl) ?_
  refine bm_xcallV (As := [.int (nI zr), .int (nI zp)]) (rest := [.long v_4]) ⟨hx, hb, hml, hown, hts⟩ (y_lies  (zr := zr) (zp := zp) ok_mp_turns (by omega) (by omega)) (cwV 2 hts (gdV (by decide +kernel) (by decide +kernel) (by decide +kernel) (by decide +kernel) (by decide +kernel)) rfl rfl rfl (by decide +kernel) ⟨Nat.le_of_ble_eq_true rfl, Nat.le_of_ble_eq_true rfl⟩) hK hP hD hS hA 42 5 rfl rfl rfl hl.1 rfl (Nat.le_of_ble_eq_true rfl) dX5_top_9 ⟨Nat.le_of_ble_eq_true rfl, Nat.le_of_ble_eq_true rfl⟩ (fun ws_5 r_6 h_7 H locs hP hD hS => ?_)
  obtain ⟨rfl, v_8, rfl⟩ := h_7
  have hP : va_P D vwCl (WW ad cJ cI cZ bm pa p0 p1 p2 li wi mt ms ma mp mk mn ou) H := hP
  have hD : va_D A (WW ad cJ cI cZ bm pa p0 p1 p2 li wi mt ms ma mp mk mn ou) := hD
  refine bm_zb_eq (x := v_8) (tgt := 24) hx hb dX5_top_12 (by decide) (fun c_9 => ?_) (fun c_9 => ?_)
  · refine lv_aload_n hx hb dX5_top_24 rfl (lv_at hl 0 rfl) ?_
    refine va_get (D := D) (ci := 5) (v := .ref (ad 44)) (C := RX5) (T := TX5) (N := 28) hx hb hts (inT inX5) hown hK hP 42 rfl rfl 5 (by decide) (hts (.fieldLink RX5 13 "BoardMovesModel" "high" "[J") (by decide +kernel)) (fun _ h9 => h9) rfl dX5_top_25 ?_
    refine lv_iload_n hx hb dX5_top_28 rfl (lv_at hl 2 rfl) ?_
    refine bm_lald (f := ma.2.1) hx hb hK hP 44 0 rfl rfl (j := zp) (by omega) (by decide) dX5_top_29 ?_
    refine lv_topl (fun t_10 _ => ?_)
    refine lv_ladd hx hb dX5_top_30 ?_
    refine lv_topl (fun t_11 _ => ?_)
    exact bm_lretX (v := t_11) hx hb hr hP hD hK hS ⟨rfl, t_11, rfl⟩ dX5_top_31 hlocks
  · refine lv_aload_n hx hb dX5_top_15 rfl (lv_at hl 0 rfl) ?_
    refine va_get (D := D) (ci := 5) (v := .ref (ad 43)) (C := RX5) (T := TX5) (N := 28) hx hb hts (inT inX5) hown hK hP 42 rfl rfl 4 (by decide) (hts (.fieldLink RX5 7 "BoardMovesModel" "wide" "[J") (by decide +kernel)) (fun _ h9 => h9) rfl dX5_top_16 ?_
    refine lv_iload_n hx hb dX5_top_19 rfl (lv_at hl 2 rfl) ?_
    refine bm_lald (f := ma.1) hx hb hK hP 43 0 rfl rfl (j := zp) (by omega) (by decide) dX5_top_20 ?_
    refine lv_topl (fun t_12 _ => ?_)
    refine lv_goto (tgt := 30) hx hb dX5_top_21 (by decide) ?_
    refine lv_ladd hx hb dX5_top_30 ?_
    refine lv_topl (fun t_13 _ => ?_)
    exact bm_lretX (v := t_13) hx hb hr hP hD hK hS ⟨rfl, t_13, rfl⟩ dX5_top_31 hlocks

set_option maxHeartbeats 8000000 in
set_option maxRecDepth 100000 in
theorem y_overlap {l : Launch} {D : va_G} {ad : Nat → Nat} {cJ cI cZ : ClassId} {bm : gBM} {pa : gPA} {p0 p1 p2 : gPL} {li : gLI} {wi : gWI} {mt : Nat} {ms : gMS} {ma : gMA} {mp : gMP} {mk : gMK} {mn : gMN} {ou : Nat → Int64} {zr : Nat} {zp : Nat} {zq : Nat} (ok_mp_turns : ∀ i, mp.2.2 i < 40) (hp0 : zr < 3) (hp1 : zp < 40) (hp2 : zq < 40)  : bm_Wx l yX5_overlap wsX5_overlap ({ frames := 2, cells := 0, slots := 0, locals := 44 }) D vwCl [(cJ, .long), (cI, .int), (cZ, .boolean)] (WW ad cJ cI cZ bm pa p0 p1 p2 li wi mt ms ma mp mk mn ou) [.ref (ad 42), .int (nI zr), .int (nI zp), .int (nI zq)] (fun ws9 r9 => ws9 = (WW ad cJ cI cZ bm pa p0 p1 p2 li wi mt ms ma mp mk mn ou) ∧ ∃ b9 : Bool, r9 = some (.int (bm_b b9))) := by
  intro sz
  refine Met.ofW (cc := cX5_overlap) (maxL := 4) (ret := (some .boolean)) (by decide) rfl ?_
  intro p e s m args below meth c s₁ B hml hv
  obtain ⟨ha, hsz, hP, hK, hD0⟩ := hv
  have hx := B.exec
  have hb := B.bytes
  have hr := B.returns
  have hts := atoms_spec (ws := wsX5_overlap) B.pre
  have hown : s.vm.findClass RX5 = some m.cls := findClass_of_methodNamed B.named
  have hlocks := B.notSynchronized
  subst hsz
  have hD := hD0.self (sz := s.heap.size)
  generalize hAe : va_A (WW ad cJ cI cZ bm pa p0 p1 p2 li wi mt ms ma mp mk mn ou) s.heap.size = A at hD ⊢
  have hA : ∀ q : Nat, s.heap.size ≤ q → A q := fun q h => by rw [← hAe]; exact Or.inr h
  have hS : va_S A s.heap s.heap [] := va_S.rf
  have hl := lv_entry ([.ref (ad 42), .int (nI zr), .int (nI zp), .int (nI zq)]) (n := 4) (Nat.le_of_ble_eq_true rfl)
  refine W.eq (g2 := entryFrame m ([.ref (ad 42), .int (nI zr), .int (nI zp), .int (nI zq)] : List Value).toArray 4) (by rw [ha]) ?_
  rw [lg_entry_eq]
  generalize (lg_sl ([.ref (ad 42), .int (nI zr), .int (nI zp), .int (nI zq)]) ++ List.replicate (4 - (lg_sl ([.ref (ad 42), .int (nI zr), .int (nI zp), .int (nI zq)])).length) Slot.unset).toArray = ls at hl ⊢
  have hl : lv_has ls 4 [(0, .ref (ad 42)), (1, .int (nI zr)), (2, .int (nI zp)), (3, .int (nI zq))] := hl
  refine lv_aload_n hx hb dX5_overlap_0 rfl (lv_at hl 0 rfl) ?_
  refine lv_iload_n hx hb dX5_overlap_1 rfl (lv_at hl 1 rfl) ?_
  refine lv_iload_n hx hb dX5_overlap_2 rfl (lv_at hl 2 rfl) ?_
  refine bm_xcallV (As := [.int (nI zr), .int (nI zp)]) (rest := []) ⟨hx, hb, hml, hown, hts⟩ (y_left  (zr := zr) (zp := zp)  (by omega) (by omega)) (cwV 2 hts (gdV (by decide +kernel) (by decide +kernel) (by decide +kernel) (by decide +kernel) (by decide +kernel)) rfl rfl rfl (by decide +kernel) ⟨Nat.le_of_ble_eq_true rfl, Nat.le_of_ble_eq_true rfl⟩) hK hP hD hS hA 42 5 rfl rfl rfl hl.1 rfl (Nat.le_of_ble_eq_true rfl) dX5_overlap_3 ⟨Nat.le_of_ble_eq_true rfl, Nat.le_of_ble_eq_true rfl⟩ (fun ws_1 r_2 h_3 H locs hP hD hS => ?_)
  obtain ⟨rfl, v_4, rfl⟩ := h_3
  have hP : va_P D vwCl (WW ad cJ cI cZ bm pa p0 p1 p2 li wi mt ms ma mp mk mn ou) H := hP
  have hD : va_D A (WW ad cJ cI cZ bm pa p0 p1 p2 li wi mt ms ma mp mk mn ou) := hD
  refine lv_aload_n hx hb dX5_overlap_6 rfl (lv_at hl 0 rfl) ?_
  refine lv_iload_n hx hb dX5_overlap_7 rfl (lv_at hl 1 rfl) ?_
  refine lv_iload_n hx hb dX5_overlap_8 rfl (lv_at hl 3 rfl) ?_
  refine bm_xcallV (As := [.int (nI zr), .int (nI zq)]) (rest := [.long v_4]) ⟨hx, hb, hml, hown, hts⟩ (y_right  (zr := zr) (zp := zq) ok_mp_turns (by omega) (by omega)) (cwV 2 hts (gdV (by decide +kernel) (by decide +kernel) (by decide +kernel) (by decide +kernel) (by decide +kernel)) rfl rfl rfl (by decide +kernel) ⟨Nat.le_of_ble_eq_true rfl, Nat.le_of_ble_eq_true rfl⟩) hK hP hD hS hA 42 5 rfl rfl rfl hl.1 rfl (Nat.le_of_ble_eq_true rfl) dX5_overlap_9 ⟨Nat.le_of_ble_eq_true rfl, Nat.le_of_ble_eq_true rfl⟩ (fun ws_5 r_6 h_7 H locs hP hD hS => ?_)
  obtain ⟨rfl, v_8, rfl⟩ := h_7
  have hP : va_P D vwCl (WW ad cJ cI cZ bm pa p0 p1 p2 li wi mt ms ma mp mk mn ou) H := hP
  have hD : va_D A (WW ad cJ cI cZ bm pa p0 p1 p2 li wi mt ms ma mp mk mn ou) := hD
  refine bm_lc_ge (x := v_4) (y := v_8) (tgt := 68) hx hb dX5_overlap_12 dX5_overlap_13 (by decide) (fun c_9 => ?_) (fun c_9 => ?_)
  · refine lv_iconst (v := bm_b false) hx hb dX5_overlap_68 (by decide) ?_
    exact bm_zretX (v := false) hx hb hr hP hD hK hS ⟨rfl, false, rfl⟩ dX5_overlap_69 hlocks
  · refine lv_aload_n hx hb dX5_overlap_16 rfl (lv_at hl 0 rfl) ?_
    refine lv_iload_n hx hb dX5_overlap_17 rfl (lv_at hl 1 rfl) ?_
    refine lv_iload_n hx hb dX5_overlap_18 rfl (lv_at hl 3 rfl) ?_
    refine bm_xcallV (As := [.int (nI zr), .int (nI zq)]) (rest := []) ⟨hx, hb, hml, hown, hts⟩ (y_left  (zr := zr) (zp := zq)  (by omega) (by omega)) (cwV 2 hts (gdV (by decide +kernel) (by decide +kernel) (by decide +kernel) (by decide +kernel) (by decide +kernel)) rfl rfl rfl (by decide +kernel) ⟨Nat.le_of_ble_eq_true rfl, Nat.le_of_ble_eq_true rfl⟩) hK hP hD hS hA 42 5 rfl rfl rfl hl.1 rfl (Nat.le_of_ble_eq_true rfl) dX5_overlap_19 ⟨Nat.le_of_ble_eq_true rfl, Nat.le_of_ble_eq_true rfl⟩ (fun ws_10 r_11 h_12 H locs hP hD hS => ?_)
    obtain ⟨rfl, v_13, rfl⟩ := h_12
    have hP : va_P D vwCl (WW ad cJ cI cZ bm pa p0 p1 p2 li wi mt ms ma mp mk mn ou) H := hP
    have hD : va_D A (WW ad cJ cI cZ bm pa p0 p1 p2 li wi mt ms ma mp mk mn ou) := hD
    refine lv_aload_n hx hb dX5_overlap_22 rfl (lv_at hl 0 rfl) ?_
    refine lv_iload_n hx hb dX5_overlap_23 rfl (lv_at hl 1 rfl) ?_
    refine lv_iload_n hx hb dX5_overlap_24 rfl (lv_at hl 2 rfl) ?_
    refine bm_xcallV (As := [.int (nI zr), .int (nI zp)]) (rest := [.long v_13]) ⟨hx, hb, hml, hown, hts⟩ (y_right  (zr := zr) (zp := zp) ok_mp_turns (by omega) (by omega)) (cwV 2 hts (gdV (by decide +kernel) (by decide +kernel) (by decide +kernel) (by decide +kernel) (by decide +kernel)) rfl rfl rfl (by decide +kernel) ⟨Nat.le_of_ble_eq_true rfl, Nat.le_of_ble_eq_true rfl⟩) hK hP hD hS hA 42 5 rfl rfl rfl hl.1 rfl (Nat.le_of_ble_eq_true rfl) dX5_overlap_25 ⟨Nat.le_of_ble_eq_true rfl, Nat.le_of_ble_eq_true rfl⟩ (fun ws_14 r_15 h_16 H locs hP hD hS => ?_)
    obtain ⟨rfl, v_17, rfl⟩ := h_16
    have hP : va_P D vwCl (WW ad cJ cI cZ bm pa p0 p1 p2 li wi mt ms ma mp mk mn ou) H := hP
    have hD : va_D A (WW ad cJ cI cZ bm pa p0 p1 p2 li wi mt ms ma mp mk mn ou) := hD
    refine bm_lc_ge (x := v_13) (y := v_17) (tgt := 68) hx hb dX5_overlap_28 dX5_overlap_29 (by decide) (fun c_18 => ?_) (fun c_18 => ?_)
    · refine lv_iconst (v := bm_b false) hx hb dX5_overlap_68 (by decide) ?_
      exact bm_zretX (v := false) hx hb hr hP hD hK hS ⟨rfl, false, rfl⟩ dX5_overlap_69 hlocks
    · refine lv_aload_n hx hb dX5_overlap_32 rfl (lv_at hl 0 rfl) ?_
      refine lv_iload_n hx hb dX5_overlap_33 rfl (lv_at hl 1 rfl) ?_
      refine lv_iload_n hx hb dX5_overlap_34 rfl (lv_at hl 2 rfl) ?_
      refine bm_xcallV (As := [.int (nI zr), .int (nI zp)]) (rest := []) ⟨hx, hb, hml, hown, hts⟩ (y_low  (zr := zr) (zp := zp)  (by omega) (by omega)) (cwV 2 hts (gdV (by decide +kernel) (by decide +kernel) (by decide +kernel) (by decide +kernel) (by decide +kernel)) rfl rfl rfl (by decide +kernel) ⟨Nat.le_of_ble_eq_true rfl, Nat.le_of_ble_eq_true rfl⟩) hK hP hD hS hA 42 5 rfl rfl rfl hl.1 rfl (Nat.le_of_ble_eq_true rfl) dX5_overlap_35 ⟨Nat.le_of_ble_eq_true rfl, Nat.le_of_ble_eq_true rfl⟩ (fun ws_19 r_20 h_21 H locs hP hD hS => ?_)
      obtain ⟨rfl, v_22, rfl⟩ := h_21
      have hP : va_P D vwCl (WW ad cJ cI cZ bm pa p0 p1 p2 li wi mt ms ma mp mk mn ou) H := hP
      have hD : va_D A (WW ad cJ cI cZ bm pa p0 p1 p2 li wi mt ms ma mp mk mn ou) := hD
      refine lv_aload_n hx hb dX5_overlap_38 rfl (lv_at hl 0 rfl) ?_
      refine lv_iload_n hx hb dX5_overlap_39 rfl (lv_at hl 1 rfl) ?_
      refine lv_iload_n hx hb dX5_overlap_40 rfl (lv_at hl 3 rfl) ?_
      refine bm_xcallV (As := [.int (nI zr), .int (nI zq)]) (rest := [.long v_22]) ⟨hx, hb, hml, hown, hts⟩ (y_top  (zr := zr) (zp := zq) ok_mp_turns (by omega) (by omega)) (cwV 2 hts (gdV (by decide +kernel) (by decide +kernel) (by decide +kernel) (by decide +kernel) (by decide +kernel)) rfl rfl rfl (by decide +kernel) ⟨Nat.le_of_ble_eq_true rfl, Nat.le_of_ble_eq_true rfl⟩) hK hP hD hS hA 42 5 rfl rfl rfl hl.1 rfl (Nat.le_of_ble_eq_true rfl) dX5_overlap_41 ⟨Nat.le_of_ble_eq_true rfl, Nat.le_of_ble_eq_true rfl⟩ (fun ws_23 r_24 h_25 H locs hP hD hS => ?_)
      obtain ⟨rfl, v_26, rfl⟩ := h_25
      have hP : va_P D vwCl (WW ad cJ cI cZ bm pa p0 p1 p2 li wi mt ms ma mp mk mn ou) H := hP
      have hD : va_D A (WW ad cJ cI cZ bm pa p0 p1 p2 li wi mt ms ma mp mk mn ou) := hD
      refine bm_lc_ge (x := v_22) (y := v_26) (tgt := 68) hx hb dX5_overlap_44 dX5_overlap_45 (by decide) (fun c_27 => ?_) (fun c_27 => ?_)
      · refine lv_iconst (v := bm_b false) hx hb dX5_overlap_68 (by decide) ?_
        exact bm_zretX (v := false) hx hb hr hP hD hK hS ⟨rfl, false, rfl⟩ dX5_overlap_69 hlocks
      · refine lv_aload_n hx hb dX5_overlap_48 rfl (lv_at hl 0 rfl) ?_
        refine lv_iload_n hx hb dX5_overlap_49 rfl (lv_at hl 1 rfl) ?_
        refine lv_iload_n hx hb dX5_overlap_50 rfl (lv_at hl 3 rfl) ?_
        refine bm_xcallV (As := [.int (nI zr), .int (nI zq)]) (rest := []) ⟨hx, hb, hml, hown, hts⟩ (y_low  (zr := zr) (zp := zq)  (by omega) (by omega)) (cwV 2 hts (gdV (by decide +kernel) (by decide +kernel) (by decide +kernel) (by decide +kernel) (by decide +kernel)) rfl rfl rfl (by decide +kernel) ⟨Nat.le_of_ble_eq_true rfl, Nat.le_of_ble_eq_true rfl⟩) hK hP hD hS hA 42 5 rfl rfl rfl hl.1 rfl (Nat.le_of_ble_eq_true rfl) dX5_overlap_51 ⟨Nat.le_of_ble_eq_true rfl, Nat.le_of_ble_eq_true rfl⟩ (fun ws_28 r_29 h_30 H locs hP hD hS => ?_)
        obtain ⟨rfl, v_31, rfl⟩ := h_30
        have hP : va_P D vwCl (WW ad cJ cI cZ bm pa p0 p1 p2 li wi mt ms ma mp mk mn ou) H := hP
        have hD : va_D A (WW ad cJ cI cZ bm pa p0 p1 p2 li wi mt ms ma mp mk mn ou) := hD
        refine lv_aload_n hx hb dX5_overlap_54 rfl (lv_at hl 0 rfl) ?_
        refine lv_iload_n hx hb dX5_overlap_55 rfl (lv_at hl 1 rfl) ?_
        refine lv_iload_n hx hb dX5_overlap_56 rfl (lv_at hl 2 rfl) ?_
        refine bm_xcallV (As := [.int (nI zr), .int (nI zp)]) (rest := [.long v_31]) ⟨hx, hb, hml, hown, hts⟩ (y_top  (zr := zr) (zp := zp) ok_mp_turns (by omega) (by omega)) (cwV 2 hts (gdV (by decide +kernel) (by decide +kernel) (by decide +kernel) (by decide +kernel) (by decide +kernel)) rfl rfl rfl (by decide +kernel) ⟨Nat.le_of_ble_eq_true rfl, Nat.le_of_ble_eq_true rfl⟩) hK hP hD hS hA 42 5 rfl rfl rfl hl.1 rfl (Nat.le_of_ble_eq_true rfl) dX5_overlap_57 ⟨Nat.le_of_ble_eq_true rfl, Nat.le_of_ble_eq_true rfl⟩ (fun ws_32 r_33 h_34 H locs hP hD hS => ?_)
        obtain ⟨rfl, v_35, rfl⟩ := h_34
        have hP : va_P D vwCl (WW ad cJ cI cZ bm pa p0 p1 p2 li wi mt ms ma mp mk mn ou) H := hP
        have hD : va_D A (WW ad cJ cI cZ bm pa p0 p1 p2 li wi mt ms ma mp mk mn ou) := hD
        refine bm_lc_ge (x := v_31) (y := v_35) (tgt := 68) hx hb dX5_overlap_60 dX5_overlap_61 (by decide) (fun c_36 => ?_) (fun c_36 => ?_)
        · refine lv_iconst (v := bm_b false) hx hb dX5_overlap_68 (by decide) ?_
          exact bm_zretX (v := false) hx hb hr hP hD hK hS ⟨rfl, false, rfl⟩ dX5_overlap_69 hlocks
        · refine lv_iconst (v := bm_b true) hx hb dX5_overlap_64 (by decide) ?_
          refine lv_goto (tgt := 69) hx hb dX5_overlap_65 (by decide) ?_
          exact bm_zretX (v := true) hx hb hr hP hD hK hS ⟨rfl, true, rfl⟩ dX5_overlap_69 hlocks

set_option maxHeartbeats 8000000 in
set_option maxRecDepth 100000 in
theorem y_onBoard {l : Launch} {D : va_G} {ad : Nat → Nat} {cJ cI cZ : ClassId} {bm : gBM} {pa : gPA} {p0 p1 p2 : gPL} {li : gLI} {wi : gWI} {mt : Nat} {ms : gMS} {ma : gMA} {mp : gMP} {mk : gMK} {mn : gMN} {ou : Nat → Int64} {zr : Nat} {zp : Nat} (ok_mp_turns : ∀ i, mp.2.2 i < 40) (hp0 : zr < 3) (hp1 : zp < 40)  : bm_Wx l yX5_isOnBoard wsX5_isOnBoard ({ frames := 2, cells := 0, slots := 0, locals := 44 }) D vwCl [(cJ, .long), (cI, .int), (cZ, .boolean)] (WW ad cJ cI cZ bm pa p0 p1 p2 li wi mt ms ma mp mk mn ou) [.ref (ad 42), .int (nI zr), .int (nI zp)] (fun ws9 r9 => ws9 = (WW ad cJ cI cZ bm pa p0 p1 p2 li wi mt ms ma mp mk mn ou) ∧ ∃ b9 : Bool, r9 = some (.int (bm_b b9))) := by
  intro sz
  refine Met.ofW (cc := cX5_isOnBoard) (maxL := 7) (ret := (some .boolean)) (by decide) rfl ?_
  intro p e s m args below meth c s₁ B hml hv
  obtain ⟨ha, hsz, hP, hK, hD0⟩ := hv
  have hx := B.exec
  have hb := B.bytes
  have hr := B.returns
  have hts := atoms_spec (ws := wsX5_isOnBoard) B.pre
  have hown : s.vm.findClass RX5 = some m.cls := findClass_of_methodNamed B.named
  have hlocks := B.notSynchronized
  subst hsz
  have hD := hD0.self (sz := s.heap.size)
  generalize hAe : va_A (WW ad cJ cI cZ bm pa p0 p1 p2 li wi mt ms ma mp mk mn ou) s.heap.size = A at hD ⊢
  have hA : ∀ q : Nat, s.heap.size ≤ q → A q := fun q h => by rw [← hAe]; exact Or.inr h
  have hS : va_S A s.heap s.heap [] := va_S.rf
  have hl := lv_entry ([.ref (ad 42), .int (nI zr), .int (nI zp)]) (n := 7) (Nat.le_of_ble_eq_true rfl)
  refine W.eq (g2 := entryFrame m ([.ref (ad 42), .int (nI zr), .int (nI zp)] : List Value).toArray 7) (by rw [ha]) ?_
  rw [lg_entry_eq]
  generalize (lg_sl ([.ref (ad 42), .int (nI zr), .int (nI zp)]) ++ List.replicate (7 - (lg_sl ([.ref (ad 42), .int (nI zr), .int (nI zp)])).length) Slot.unset).toArray = ls at hl ⊢
  have hl : lv_has ls 7 [(0, .ref (ad 42)), (1, .int (nI zr)), (2, .int (nI zp))] := hl
  refine lv_aload_n hx hb dX5_isOnBoard_0 rfl (lv_at hl 0 rfl) ?_
  refine lv_iload_n hx hb dX5_isOnBoard_1 rfl (lv_at hl 1 rfl) ?_
  refine lv_iload_n hx hb dX5_isOnBoard_2 rfl (lv_at hl 2 rfl) ?_
  refine bm_xcallV (As := [.int (nI zr), .int (nI zp)]) (rest := []) ⟨hx, hb, hml, hown, hts⟩ (y_left  (zr := zr) (zp := zp)  (by omega) (by omega)) (cwV 2 hts (gdV (by decide +kernel) (by decide +kernel) (by decide +kernel) (by decide +kernel) (by decide +kernel)) rfl rfl rfl (by decide +kernel) ⟨Nat.le_of_ble_eq_true rfl, Nat.le_of_ble_eq_true rfl⟩) hK hP hD hS hA 42 5 rfl rfl rfl hl.1 rfl (Nat.le_of_ble_eq_true rfl) dX5_isOnBoard_3 ⟨Nat.le_of_ble_eq_true rfl, Nat.le_of_ble_eq_true rfl⟩ (fun ws_1 r_2 h_3 H locs hP hD hS => ?_)
  obtain ⟨rfl, v_4, rfl⟩ := h_3
  have hP : va_P D vwCl (WW ad cJ cI cZ bm pa p0 p1 p2 li wi mt ms ma mp mk mn ou) H := hP
  have hD : va_D A (WW ad cJ cI cZ bm pa p0 p1 p2 li wi mt ms ma mp mk mn ou) := hD
  refine lv_lstore_n (lv' := [(3, .long v_4), (0, .ref (ad 42)), (1, .int (nI zr)), (2, .int (nI zp))]) hx hb dX5_isOnBoard_6 rfl hl (by decide) rfl (fun ls hl => ?_)
  refine lv_aload_n hx hb dX5_isOnBoard_7 rfl (lv_at hl 1 rfl) ?_
  refine lv_iload_n hx hb dX5_isOnBoard_8 rfl (lv_at hl 2 rfl) ?_
  refine lv_iload_n hx hb dX5_isOnBoard_9 rfl (lv_at hl 3 rfl) ?_
  refine bm_xcallV (As := [.int (nI zr), .int (nI zp)]) (rest := []) ⟨hx, hb, hml, hown, hts⟩ (y_low  (zr := zr) (zp := zp)  (by omega) (by omega)) (cwV 2 hts (gdV (by decide +kernel) (by decide +kernel) (by decide +kernel) (by decide +kernel) (by decide +kernel)) rfl rfl rfl (by decide +kernel) ⟨Nat.le_of_ble_eq_true rfl, Nat.le_of_ble_eq_true rfl⟩) hK hP hD hS hA 42 5 rfl rfl rfl hl.1 rfl (Nat.le_of_ble_eq_true rfl) dX5_isOnBoard_10 ⟨Nat.le_of_ble_eq_true rfl, Nat.le_of_ble_eq_true rfl⟩ (fun ws_5 r_6 h_7 H locs hP hD hS => ?_)
  obtain ⟨rfl, v_8, rfl⟩ := h_7
  have hP : va_P D vwCl (WW ad cJ cI cZ bm pa p0 p1 p2 li wi mt ms ma mp mk mn ou) H := hP
  have hD : va_D A (WW ad cJ cI cZ bm pa p0 p1 p2 li wi mt ms ma mp mk mn ou) := hD
  refine lv_lstore (lv' := [(5, .long v_8), (3, .long v_4), (0, .ref (ad 42)), (1, .int (nI zr)), (2, .int (nI zp))]) hx hb dX5_isOnBoard_13 hl (by decide) rfl (fun ls hl => ?_)
  refine lv_lload_n hx hb dX5_isOnBoard_15 rfl (lv_at hl 1 rfl) ?_
  refine lv_lconst (v := 0) hx hb dX5_isOnBoard_16 (by decide) ?_
  refine bm_lc_lt (x := v_4) (y := 0) (tgt := 79) hx hb dX5_isOnBoard_17 dX5_isOnBoard_18 (by decide) (fun c_9 => ?_) (fun c_9 => ?_)
  · refine lv_iconst (v := bm_b false) hx hb dX5_isOnBoard_79 (by decide) ?_
    exact bm_zretX (v := false) hx hb hr hP hD hK hS ⟨rfl, false, rfl⟩ dX5_isOnBoard_80 hlocks
  · refine lv_lload_n hx hb dX5_isOnBoard_21 rfl (lv_at hl 1 rfl) ?_
    refine lv_aload_n hx hb dX5_isOnBoard_22 rfl (lv_at hl 2 rfl) ?_
    refine va_get (D := D) (ci := 5) (v := .long ms.1) (C := RX5) (T := TX5) (N := 28) hx hb hts (inT inX5) hown hK hP 42 rfl rfl 1 (by decide) (hts (.fieldLink RX5 71 "BoardMovesModel" "width" "J") (by decide +kernel)) (fun _ h9 => h9) rfl dX5_isOnBoard_23 ?_
    refine bm_lc_gt (x := v_4) (y := ms.1) (tgt := 79) hx hb dX5_isOnBoard_26 dX5_isOnBoard_27 (by decide) (fun c_10 => ?_) (fun c_10 => ?_)
    · refine lv_iconst (v := bm_b false) hx hb dX5_isOnBoard_79 (by decide) ?_
      exact bm_zretX (v := false) hx hb hr hP hD hK hS ⟨rfl, false, rfl⟩ dX5_isOnBoard_80 hlocks
    · refine lv_aload_n hx hb dX5_isOnBoard_30 rfl (lv_at hl 2 rfl) ?_
      refine lv_iload_n hx hb dX5_isOnBoard_31 rfl (lv_at hl 3 rfl) ?_
      refine lv_iload_n hx hb dX5_isOnBoard_32 rfl (lv_at hl 4 rfl) ?_
      refine bm_xcallV (As := [.int (nI zr), .int (nI zp)]) (rest := []) ⟨hx, hb, hml, hown, hts⟩ (y_right  (zr := zr) (zp := zp) ok_mp_turns (by omega) (by omega)) (cwV 2 hts (gdV (by decide +kernel) (by decide +kernel) (by decide +kernel) (by decide +kernel) (by decide +kernel)) rfl rfl rfl (by decide +kernel) ⟨Nat.le_of_ble_eq_true rfl, Nat.le_of_ble_eq_true rfl⟩) hK hP hD hS hA 42 5 rfl rfl rfl hl.1 rfl (Nat.le_of_ble_eq_true rfl) dX5_isOnBoard_33 ⟨Nat.le_of_ble_eq_true rfl, Nat.le_of_ble_eq_true rfl⟩ (fun ws_11 r_12 h_13 H locs hP hD hS => ?_)
      obtain ⟨rfl, v_14, rfl⟩ := h_13
      have hP : va_P D vwCl (WW ad cJ cI cZ bm pa p0 p1 p2 li wi mt ms ma mp mk mn ou) H := hP
      have hD : va_D A (WW ad cJ cI cZ bm pa p0 p1 p2 li wi mt ms ma mp mk mn ou) := hD
      refine lv_aload_n hx hb dX5_isOnBoard_36 rfl (lv_at hl 2 rfl) ?_
      refine va_get (D := D) (ci := 5) (v := .long ms.1) (C := RX5) (T := TX5) (N := 28) hx hb hts (inT inX5) hown hK hP 42 rfl rfl 1 (by decide) (hts (.fieldLink RX5 71 "BoardMovesModel" "width" "J") (by decide +kernel)) (fun _ h9 => h9) rfl dX5_isOnBoard_37 ?_
      refine bm_lc_gt (x := v_14) (y := ms.1) (tgt := 79) hx hb dX5_isOnBoard_40 dX5_isOnBoard_41 (by decide) (fun c_15 => ?_) (fun c_15 => ?_)
      · refine lv_iconst (v := bm_b false) hx hb dX5_isOnBoard_79 (by decide) ?_
        exact bm_zretX (v := false) hx hb hr hP hD hK hS ⟨rfl, false, rfl⟩ dX5_isOnBoard_80 hlocks
      · refine lv_lload hx hb dX5_isOnBoard_44 (lv_at hl 0 rfl) ?_
        refine lv_lconst (v := 0) hx hb dX5_isOnBoard_46 (by decide) ?_
        refine bm_lc_lt (x := v_8) (y := 0) (tgt := 79) hx hb dX5_isOnBoard_47 dX5_isOnBoard_48 (by decide) (fun c_16 => ?_) (fun c_16 => ?_)
        · refine lv_iconst (v := bm_b false) hx hb dX5_isOnBoard_79 (by decide) ?_
          exact bm_zretX (v := false) hx hb hr hP hD hK hS ⟨rfl, false, rfl⟩ dX5_isOnBoard_80 hlocks
        · refine lv_lload hx hb dX5_isOnBoard_51 (lv_at hl 0 rfl) ?_
          refine lv_aload_n hx hb dX5_isOnBoard_53 rfl (lv_at hl 2 rfl) ?_
          refine va_get (D := D) (ci := 5) (v := .long ms.2.1) (C := RX5) (T := TX5) (N := 28) hx hb hts (inT inX5) hown hK hP 42 rfl rfl 2 (by decide) (hts (.fieldLink RX5 75 "BoardMovesModel" "height" "J") (by decide +kernel)) (fun _ h9 => h9) rfl dX5_isOnBoard_54 ?_
          refine bm_lc_gt (x := v_8) (y := ms.2.1) (tgt := 79) hx hb dX5_isOnBoard_57 dX5_isOnBoard_58 (by decide) (fun c_17 => ?_) (fun c_17 => ?_)
          · refine lv_iconst (v := bm_b false) hx hb dX5_isOnBoard_79 (by decide) ?_
            exact bm_zretX (v := false) hx hb hr hP hD hK hS ⟨rfl, false, rfl⟩ dX5_isOnBoard_80 hlocks
          · refine lv_aload_n hx hb dX5_isOnBoard_61 rfl (lv_at hl 2 rfl) ?_
            refine lv_iload_n hx hb dX5_isOnBoard_62 rfl (lv_at hl 3 rfl) ?_
            refine lv_iload_n hx hb dX5_isOnBoard_63 rfl (lv_at hl 4 rfl) ?_
            refine bm_xcallV (As := [.int (nI zr), .int (nI zp)]) (rest := []) ⟨hx, hb, hml, hown, hts⟩ (y_top  (zr := zr) (zp := zp) ok_mp_turns (by omega) (by omega)) (cwV 2 hts (gdV (by decide +kernel) (by decide +kernel) (by decide +kernel) (by decide +kernel) (by decide +kernel)) rfl rfl rfl (by decide +kernel) ⟨Nat.le_of_ble_eq_true rfl, Nat.le_of_ble_eq_true rfl⟩) hK hP hD hS hA 42 5 rfl rfl rfl hl.1 rfl (Nat.le_of_ble_eq_true rfl) dX5_isOnBoard_64 ⟨Nat.le_of_ble_eq_true rfl, Nat.le_of_ble_eq_true rfl⟩ (fun ws_18 r_19 h_20 H locs hP hD hS => ?_)
            obtain ⟨rfl, v_21, rfl⟩ := h_20
            have hP : va_P D vwCl (WW ad cJ cI cZ bm pa p0 p1 p2 li wi mt ms ma mp mk mn ou) H := hP
            have hD : va_D A (WW ad cJ cI cZ bm pa p0 p1 p2 li wi mt ms ma mp mk mn ou) := hD
            refine lv_aload_n hx hb dX5_isOnBoard_67 rfl (lv_at hl 2 rfl) ?_
            refine va_get (D := D) (ci := 5) (v := .long ms.2.1) (C := RX5) (T := TX5) (N := 28) hx hb hts (inT inX5) hown hK hP 42 rfl rfl 2 (by decide) (hts (.fieldLink RX5 75 "BoardMovesModel" "height" "J") (by decide +kernel)) (fun _ h9 => h9) rfl dX5_isOnBoard_68 ?_
            refine bm_lc_gt (x := v_21) (y := ms.2.1) (tgt := 79) hx hb dX5_isOnBoard_71 dX5_isOnBoard_72 (by decide) (fun c_22 => ?_) (fun c_22 => ?_)
            · refine lv_iconst (v := bm_b false) hx hb dX5_isOnBoard_79 (by decide) ?_
              exact bm_zretX (v := false) hx hb hr hP hD hK hS ⟨rfl, false, rfl⟩ dX5_isOnBoard_80 hlocks
            · refine lv_iconst (v := bm_b true) hx hb dX5_isOnBoard_75 (by decide) ?_
              refine lv_goto (tgt := 80) hx hb dX5_isOnBoard_76 (by decide) ?_
              exact bm_zretX (v := true) hx hb hr hP hD hK hS ⟨rfl, true, rfl⟩ dX5_isOnBoard_80 hlocks
end
section
set_option maxHeartbeats 8000000 in
set_option maxRecDepth 100000 in
theorem y_keptOut {l : Launch} {D : va_G} {ad : Nat → Nat} {cJ cI cZ : ClassId} {bm : gBM} {pa : gPA} {p0 p1 p2 : gPL} {li : gLI} {wi : gWI} {mt : Nat} {ms : gMS} {ma : gMA} {mp : gMP} {mk : gMK} {mn : gMN} {ou : Nat → Int64} {zr : Nat} {zp : Nat} (ok_mp_turns : ∀ i, mp.2.2 i < 40) (ok_ms_outs : ms.2.2.2.1 ≤ 10) (hp0 : zr < 3) (hp1 : zp < 40)  : bm_Wx l yX5_isKeptOut wsX5_isKeptOut ({ frames := 2, cells := 0, slots := 0, locals := 44 }) D vwCl [(cJ, .long), (cI, .int), (cZ, .boolean)] (WW ad cJ cI cZ bm pa p0 p1 p2 li wi mt ms ma mp mk mn ou) [.ref (ad 42), .int (nI zr), .int (nI zp)] (fun ws9 r9 => ws9 = (WW ad cJ cI cZ bm pa p0 p1 p2 li wi mt ms ma mp mk mn ou) ∧ ∃ b9 : Bool, r9 = some (.int (bm_b b9))) := by
  intro sz
  refine Met.ofW (cc := cX5_isKeptOut) (maxL := 6) (ret := (some .boolean)) (by decide) rfl ?_
  intro p e s m args below meth c s₁ B hml hv
  obtain ⟨ha, hsz, hP, hK, hD0⟩ := hv
  have hx := B.exec
  have hb := B.bytes
  have hr := B.returns
  have hts := atoms_spec (ws := wsX5_isKeptOut) B.pre
  have hown : s.vm.findClass RX5 = some m.cls := findClass_of_methodNamed B.named
  have hlocks := B.notSynchronized
  subst hsz
  have hD := hD0.self (sz := s.heap.size)
  generalize hAe : va_A (WW ad cJ cI cZ bm pa p0 p1 p2 li wi mt ms ma mp mk mn ou) s.heap.size = A at hD ⊢
  have hA : ∀ q : Nat, s.heap.size ≤ q → A q := fun q h => by rw [← hAe]; exact Or.inr h
  have hS : va_S A s.heap s.heap [] := va_S.rf
  have hl := lv_entry ([.ref (ad 42), .int (nI zr), .int (nI zp)]) (n := 6) (Nat.le_of_ble_eq_true rfl)
  refine W.eq (g2 := entryFrame m ([.ref (ad 42), .int (nI zr), .int (nI zp)] : List Value).toArray 6) (by rw [ha]) ?_
  rw [lg_entry_eq]
  generalize (lg_sl ([.ref (ad 42), .int (nI zr), .int (nI zp)]) ++ List.replicate (6 - (lg_sl ([.ref (ad 42), .int (nI zr), .int (nI zp)])).length) Slot.unset).toArray = ls at hl ⊢
  have hl : lv_has ls 6 [(0, .ref (ad 42)), (1, .int (nI zr)), (2, .int (nI zp))] := hl
  refine lv_iconst (v := bm_b false) hx hb dX5_isKeptOut_0 (by decide) ?_
  refine lv_istore_n (lv' := [(3, .int (bm_b false)), (0, .ref (ad 42)), (1, .int (nI zr)), (2, .int (nI zp))]) hx hb dX5_isKeptOut_1 rfl hl (by decide) rfl (fun ls hl => ?_)
  refine lv_iconst (v := nI 0) hx hb dX5_isKeptOut_2 (by decide) ?_
  refine lv_istore (lv' := [(4, .int (nI 0)), (3, .int (bm_b false)), (0, .ref (ad 42)), (1, .int (nI zr)), (2, .int (nI zp))]) hx hb dX5_isKeptOut_3 hl (by decide) rfl (fun ls hl => ?_)
  have lp_1 : ∀ (k_3 : Nat) (i_2 : Nat) (v_5 : Bool), i_2 ≤ ms.2.2.2.1 → ms.2.2.2.1 < i_2 + k_3 → ∀ (H : Heap) (locs : List Loc), va_P D vwCl (WW ad cJ cI cZ bm pa p0 p1 p2 li wi mt ms ma mp mk mn ou) H → va_D A (WW ad cJ cI cZ bm pa p0 p1 p2 li wi mt ms ma mp mk mn ou) → va_S A s.heap H locs → ∀ (ls : Array Slot), lv_has ls 6 [(4, .int (nI (5 * i_2))), (3, .int (bm_b v_5)), (0, .ref (ad 42)), (1, .int (nI zr)), (2, .int (nI zp))] → W p l e (headSpec wsX5_isKeptOut ({ frames := 2, cells := 0, slots := 0, locals := 44 })).room s m args below meth c H locs 0 0 (MQ below (bm_Wxq D vwCl [(cJ, .long), (cI, .int), (cZ, .boolean)] (fun ws9 r9 => ws9 = (WW ad cJ cI cZ bm pa p0 p1 p2 li wi mt ms ma mp mk mn ou) ∧ ∃ b9 : Bool, r9 = some (.int (bm_b b9))) A) args s 0 0 A) (F0 m 5 ls []) := by
    intro k_3
    induction k_3 with
    | zero => intro i_2 v_5 hi_6 hk_7; exfalso; omega
    | succ k_3 ih_4 =>
      intro i_2 v_5 hi_6 hk_7  H locs hP hD hS ls hl
      refine lv_iload hx hb dX5_isKeptOut_5 (lv_at hl 0 rfl) ?_
      refine lv_iconst (v := nI 5) hx hb dX5_isKeptOut_7 (by decide) ?_
      refine lv_aload_n hx hb dX5_isKeptOut_8 rfl (lv_at hl 2 rfl) ?_
      refine va_get (D := D) (ci := 5) (v := .int (nI ms.2.2.2.1)) (C := RX5) (T := TX5) (N := 28) hx hb hts (inT inX5) hown hK hP 42 rfl rfl 14 (by decide) (hts (.fieldLink RX5 109 "BoardMovesModel" "outs" "I") (by decide +kernel)) (fun _ h9 => h9) rfl dX5_isKeptOut_9 ?_
      refine bm_nmul hx hb dX5_isKeptOut_12 ?_
      refine bm_ni_ge (x := (5 * i_2)) (y := (5 * ms.2.2.2.1)) (tgt := 137) hx hb (by omega) (by omega) dX5_isKeptOut_13 (by decide) (fun c_8 => ?_) (fun c_8 => ?_)
      · refine lv_iload_n hx hb dX5_isKeptOut_137 rfl (lv_at hl 1 rfl) ?_
        exact bm_zretX (v := v_5) hx hb hr hP hD hK hS ⟨rfl, v_5, rfl⟩ dX5_isKeptOut_138 hlocks
      · refine lv_aload_n hx hb dX5_isKeptOut_16 rfl (lv_at hl 2 rfl) ?_
        refine lv_iload_n hx hb dX5_isKeptOut_17 rfl (lv_at hl 3 rfl) ?_
        refine lv_iload_n hx hb dX5_isKeptOut_18 rfl (lv_at hl 4 rfl) ?_
        refine bm_xcallV (As := [.int (nI zr), .int (nI zp)]) (rest := []) ⟨hx, hb, hml, hown, hts⟩ (y_left  (zr := zr) (zp := zp)  (by omega) (by omega)) (cwV 2 hts (gdV (by decide +kernel) (by decide +kernel) (by decide +kernel) (by decide +kernel) (by decide +kernel)) rfl rfl rfl (by decide +kernel) ⟨Nat.le_of_ble_eq_true rfl, Nat.le_of_ble_eq_true rfl⟩) hK hP hD hS hA 42 5 rfl rfl rfl hl.1 rfl (Nat.le_of_ble_eq_true rfl) dX5_isKeptOut_19 ⟨Nat.le_of_ble_eq_true rfl, Nat.le_of_ble_eq_true rfl⟩ (fun ws_9 r_10 h_11 H locs hP hD hS => ?_)
        obtain ⟨rfl, v_12, rfl⟩ := h_11
        have hP : va_P D vwCl (WW ad cJ cI cZ bm pa p0 p1 p2 li wi mt ms ma mp mk mn ou) H := hP
        have hD : va_D A (WW ad cJ cI cZ bm pa p0 p1 p2 li wi mt ms ma mp mk mn ou) := hD
        refine lv_aload_n hx hb dX5_isKeptOut_22 rfl (lv_at hl 2 rfl) ?_
        refine va_get (D := D) (ci := 5) (v := .ref (ad 53)) (C := RX5) (T := TX5) (N := 28) hx hb hts (inT inX5) hown hK hP 42 rfl rfl 15 (by decide) (hts (.fieldLink RX5 42 "BoardMovesModel" "out" "[J") (by decide +kernel)) (fun _ h9 => h9) rfl dX5_isKeptOut_23 ?_
        refine lv_iload hx hb dX5_isKeptOut_26 (lv_at hl 0 rfl) ?_
        refine lv_iconst (v := nI 2) hx hb dX5_isKeptOut_28 (by decide) ?_
        refine bm_nadd hx hb dX5_isKeptOut_29 ?_
        refine bm_lald (f := mk.1) hx hb hK hP 53 0 rfl rfl (j := ((5 * i_2) + 2)) (by omega) (by decide) dX5_isKeptOut_30 ?_
        refine lv_topl (fun t_13 _ => ?_)
        refine bm_lc_ge (x := v_12) (y := t_13) (tgt := 94) hx hb dX5_isKeptOut_31 dX5_isKeptOut_32 (by decide) (fun c_14 => ?_) (fun c_14 => ?_)
        · refine lv_iconst (v := bm_b false) hx hb dX5_isKeptOut_94 (by decide) ?_
          refine lv_istore (lv' := [(5, .int (bm_b false)), (4, .int (nI (5 * i_2))), (3, .int (bm_b v_5)), (0, .ref (ad 42)), (1, .int (nI zr)), (2, .int (nI zp))]) hx hb dX5_isKeptOut_95 hl (by decide) rfl (fun ls hl => ?_)
          refine lv_iload_n hx hb dX5_isKeptOut_97 rfl (lv_at hl 2 rfl) ?_
          refine bm_zb_ne (x := v_5) (tgt := 125) hx hb dX5_isKeptOut_98 (by decide) (fun c_15 => ?_) (fun c_15 => ?_)
          · refine lv_iconst (v := bm_b true) hx hb dX5_isKeptOut_125 (by decide) ?_
            refine lv_goto (tgt := 130) hx hb dX5_isKeptOut_126 (by decide) ?_
            refine lv_istore_n (lv' := [(3, .int (bm_b true)), (5, .int (bm_b false)), (4, .int (nI (5 * i_2))), (0, .ref (ad 42)), (1, .int (nI zr)), (2, .int (nI zp))]) hx hb dX5_isKeptOut_130 rfl hl (by decide) rfl (fun ls hl => ?_)
            refine lv_iinc (v := (nI ((5 * i_2) + 5))) (lv' := [(4, .int (nI ((5 * i_2) + 5))), (3, .int (bm_b true)), (5, .int (bm_b false)), (0, .ref (ad 42)), (1, .int (nI zr)), (2, .int (nI zp))]) hx hb dX5_isKeptOut_131 hl (k := 2) rfl (nI_add (5 * i_2) 5) (by decide) rfl (fun ls hl => ?_)
            refine lv_goto (tgt := 5) hx hb dX5_isKeptOut_134 (by decide) ?_
            exact ih_4 (i_2 + 1) true (by omega) (by omega)  _ _ hP hD hS _ (lv_sub hl [0, 1, 3, 4, 5] rfl)
          · refine lv_iload hx hb dX5_isKeptOut_101 (lv_at hl 0 rfl) ?_
            refine bm_zb_eq (x := false) (tgt := 129) hx hb dX5_isKeptOut_103 (by decide) (fun c_16 => ?_) (fun c_16 => ?_)
            · refine lv_iconst (v := bm_b false) hx hb dX5_isKeptOut_129 (by decide) ?_
              refine lv_istore_n (lv' := [(3, .int (bm_b false)), (5, .int (bm_b false)), (4, .int (nI (5 * i_2))), (0, .ref (ad 42)), (1, .int (nI zr)), (2, .int (nI zp))]) hx hb dX5_isKeptOut_130 rfl hl (by decide) rfl (fun ls hl => ?_)
              refine lv_iinc (v := (nI ((5 * i_2) + 5))) (lv' := [(4, .int (nI ((5 * i_2) + 5))), (3, .int (bm_b false)), (5, .int (bm_b false)), (0, .ref (ad 42)), (1, .int (nI zr)), (2, .int (nI zp))]) hx hb dX5_isKeptOut_131 hl (k := 2) rfl (nI_add (5 * i_2) 5) (by decide) rfl (fun ls hl => ?_)
              refine lv_goto (tgt := 5) hx hb dX5_isKeptOut_134 (by decide) ?_
              exact ih_4 (i_2 + 1) false (by omega) (by omega)  _ _ hP hD hS _ (lv_sub hl [0, 1, 3, 4, 5] rfl)
            · exact absurd c_16 (by decide)
        · refine lv_aload_n hx hb dX5_isKeptOut_35 rfl (lv_at hl 2 rfl) ?_
          refine va_get (D := D) (ci := 5) (v := .ref (ad 53)) (C := RX5) (T := TX5) (N := 28) hx hb hts (inT inX5) hown hK hP 42 rfl rfl 15 (by decide) (hts (.fieldLink RX5 42 "BoardMovesModel" "out" "[J") (by decide +kernel)) (fun _ h9 => h9) rfl dX5_isKeptOut_36 ?_
          refine lv_iload hx hb dX5_isKeptOut_39 (lv_at hl 0 rfl) ?_
          refine bm_lald (f := mk.1) hx hb hK hP 53 0 rfl rfl (j := (5 * i_2)) (by omega) (by decide) dX5_isKeptOut_41 ?_
          refine lv_topl (fun t_17 _ => ?_)
          refine lv_aload_n hx hb dX5_isKeptOut_42 rfl (lv_at hl 2 rfl) ?_
          refine lv_iload_n hx hb dX5_isKeptOut_43 rfl (lv_at hl 3 rfl) ?_
          refine lv_iload_n hx hb dX5_isKeptOut_44 rfl (lv_at hl 4 rfl) ?_
          refine bm_xcallV (As := [.int (nI zr), .int (nI zp)]) (rest := [.long t_17]) ⟨hx, hb, hml, hown, hts⟩ (y_right  (zr := zr) (zp := zp) ok_mp_turns (by omega) (by omega)) (cwV 2 hts (gdV (by decide +kernel) (by decide +kernel) (by decide +kernel) (by decide +kernel) (by decide +kernel)) rfl rfl rfl (by decide +kernel) ⟨Nat.le_of_ble_eq_true rfl, Nat.le_of_ble_eq_true rfl⟩) hK hP hD hS hA 42 5 rfl rfl rfl hl.1 rfl (Nat.le_of_ble_eq_true rfl) dX5_isKeptOut_45 ⟨Nat.le_of_ble_eq_true rfl, Nat.le_of_ble_eq_true rfl⟩ (fun ws_18 r_19 h_20 H locs hP hD hS => ?_)
          obtain ⟨rfl, v_21, rfl⟩ := h_20
          have hP : va_P D vwCl (WW ad cJ cI cZ bm pa p0 p1 p2 li wi mt ms ma mp mk mn ou) H := hP
          have hD : va_D A (WW ad cJ cI cZ bm pa p0 p1 p2 li wi mt ms ma mp mk mn ou) := hD
          refine bm_lc_ge (x := t_17) (y := v_21) (tgt := 94) hx hb dX5_isKeptOut_48 dX5_isKeptOut_49 (by decide) (fun c_22 => ?_) (fun c_22 => ?_)
          · refine lv_iconst (v := bm_b false) hx hb dX5_isKeptOut_94 (by decide) ?_
            refine lv_istore (lv' := [(5, .int (bm_b false)), (4, .int (nI (5 * i_2))), (3, .int (bm_b v_5)), (0, .ref (ad 42)), (1, .int (nI zr)), (2, .int (nI zp))]) hx hb dX5_isKeptOut_95 hl (by decide) rfl (fun ls hl => ?_)
            refine lv_iload_n hx hb dX5_isKeptOut_97 rfl (lv_at hl 2 rfl) ?_
            refine bm_zb_ne (x := v_5) (tgt := 125) hx hb dX5_isKeptOut_98 (by decide) (fun c_23 => ?_) (fun c_23 => ?_)
            · refine lv_iconst (v := bm_b true) hx hb dX5_isKeptOut_125 (by decide) ?_
              refine lv_goto (tgt := 130) hx hb dX5_isKeptOut_126 (by decide) ?_
              refine lv_istore_n (lv' := [(3, .int (bm_b true)), (5, .int (bm_b false)), (4, .int (nI (5 * i_2))), (0, .ref (ad 42)), (1, .int (nI zr)), (2, .int (nI zp))]) hx hb dX5_isKeptOut_130 rfl hl (by decide) rfl (fun ls hl => ?_)
              refine lv_iinc (v := (nI ((5 * i_2) + 5))) (lv' := [(4, .int (nI ((5 * i_2) + 5))), (3, .int (bm_b true)), (5, .int (bm_b false)), (0, .ref (ad 42)), (1, .int (nI zr)), (2, .int (nI zp))]) hx hb dX5_isKeptOut_131 hl (k := 2) rfl (nI_add (5 * i_2) 5) (by decide) rfl (fun ls hl => ?_)
              refine lv_goto (tgt := 5) hx hb dX5_isKeptOut_134 (by decide) ?_
              exact ih_4 (i_2 + 1) true (by omega) (by omega)  _ _ hP hD hS _ (lv_sub hl [0, 1, 3, 4, 5] rfl)
            · refine lv_iload hx hb dX5_isKeptOut_101 (lv_at hl 0 rfl) ?_
              refine bm_zb_eq (x := false) (tgt := 129) hx hb dX5_isKeptOut_103 (by decide) (fun c_24 => ?_) (fun c_24 => ?_)
              · refine lv_iconst (v := bm_b false) hx hb dX5_isKeptOut_129 (by decide) ?_
                refine lv_istore_n (lv' := [(3, .int (bm_b false)), (5, .int (bm_b false)), (4, .int (nI (5 * i_2))), (0, .ref (ad 42)), (1, .int (nI zr)), (2, .int (nI zp))]) hx hb dX5_isKeptOut_130 rfl hl (by decide) rfl (fun ls hl => ?_)
                refine lv_iinc (v := (nI ((5 * i_2) + 5))) (lv' := [(4, .int (nI ((5 * i_2) + 5))), (3, .int (bm_b false)), (5, .int (bm_b false)), (0, .ref (ad 42)), (1, .int (nI zr)), (2, .int (nI zp))]) hx hb dX5_isKeptOut_131 hl (k := 2) rfl (nI_add (5 * i_2) 5) (by decide) rfl (fun ls hl => ?_)
                refine lv_goto (tgt := 5) hx hb dX5_isKeptOut_134 (by decide) ?_
                exact ih_4 (i_2 + 1) false (by omega) (by omega)  _ _ hP hD hS _ (lv_sub hl [0, 1, 3, 4, 5] rfl)
              · exact absurd c_24 (by decide)
          · refine lv_aload_n hx hb dX5_isKeptOut_52 rfl (lv_at hl 2 rfl) ?_
            refine lv_iload_n hx hb dX5_isKeptOut_53 rfl (lv_at hl 3 rfl) ?_
            refine lv_iload_n hx hb dX5_isKeptOut_54 rfl (lv_at hl 4 rfl) ?_
            refine bm_xcallV (As := [.int (nI zr), .int (nI zp)]) (rest := []) ⟨hx, hb, hml, hown, hts⟩ (y_low  (zr := zr) (zp := zp)  (by omega) (by omega)) (cwV 2 hts (gdV (by decide +kernel) (by decide +kernel) (by decide +kernel) (by decide +kernel) (by decide +kernel)) rfl rfl rfl (by decide +kernel) ⟨Nat.le_of_ble_eq_true rfl, Nat.le_of_ble_eq_true rfl⟩) hK hP hD hS hA 42 5 rfl rfl rfl hl.1 rfl (Nat.le_of_ble_eq_true rfl) dX5_isKeptOut_55 ⟨Nat.le_of_ble_eq_true rfl, Nat.le_of_ble_eq_true rfl⟩ (fun ws_25 r_26 h_27 H locs hP hD hS => ?_)
            obtain ⟨rfl, v_28, rfl⟩ := h_27
            have hP : va_P D vwCl (WW ad cJ cI cZ bm pa p0 p1 p2 li wi mt ms ma mp mk mn ou) H := hP
            have hD : va_D A (WW ad cJ cI cZ bm pa p0 p1 p2 li wi mt ms ma mp mk mn ou) := hD
            refine lv_aload_n hx hb dX5_isKeptOut_58 rfl (lv_at hl 2 rfl) ?_
            refine va_get (D := D) (ci := 5) (v := .ref (ad 53)) (C := RX5) (T := TX5) (N := 28) hx hb hts (inT inX5) hown hK hP 42 rfl rfl 15 (by decide) (hts (.fieldLink RX5 42 "BoardMovesModel" "out" "[J") (by decide +kernel)) (fun _ h9 => h9) rfl dX5_isKeptOut_59 ?_
            refine lv_iload hx hb dX5_isKeptOut_62 (lv_at hl 0 rfl) ?_
            refine lv_iconst (v := nI 3) hx hb dX5_isKeptOut_64 (by decide) ?_
            refine bm_nadd hx hb dX5_isKeptOut_65 ?_
            refine bm_lald (f := mk.1) hx hb hK hP 53 0 rfl rfl (j := ((5 * i_2) + 3)) (by omega) (by decide) dX5_isKeptOut_66 ?_
            refine lv_topl (fun t_29 _ => ?_)
            refine bm_lc_ge (x := v_28) (y := t_29) (tgt := 94) hx hb dX5_isKeptOut_67 dX5_isKeptOut_68 (by decide) (fun c_30 => ?_) (fun c_30 => ?_)
            · refine lv_iconst (v := bm_b false) hx hb dX5_isKeptOut_94 (by decide) ?_
              refine lv_istore (lv' := [(5, .int (bm_b false)), (4, .int (nI (5 * i_2))), (3, .int (bm_b v_5)), (0, .ref (ad 42)), (1, .int (nI zr)), (2, .int (nI zp))]) hx hb dX5_isKeptOut_95 hl (by decide) rfl (fun ls hl => ?_)
              refine lv_iload_n hx hb dX5_isKeptOut_97 rfl (lv_at hl 2 rfl) ?_
              refine bm_zb_ne (x := v_5) (tgt := 125) hx hb dX5_isKeptOut_98 (by decide) (fun c_31 => ?_) (fun c_31 => ?_)
              · refine lv_iconst (v := bm_b true) hx hb dX5_isKeptOut_125 (by decide) ?_
                refine lv_goto (tgt := 130) hx hb dX5_isKeptOut_126 (by decide) ?_
                refine lv_istore_n (lv' := [(3, .int (bm_b true)), (5, .int (bm_b false)), (4, .int (nI (5 * i_2))), (0, .ref (ad 42)), (1, .int (nI zr)), (2, .int (nI zp))]) hx hb dX5_isKeptOut_130 rfl hl (by decide) rfl (fun ls hl => ?_)
                refine lv_iinc (v := (nI ((5 * i_2) + 5))) (lv' := [(4, .int (nI ((5 * i_2) + 5))), (3, .int (bm_b true)), (5, .int (bm_b false)), (0, .ref (ad 42)), (1, .int (nI zr)), (2, .int (nI zp))]) hx hb dX5_isKeptOut_131 hl (k := 2) rfl (nI_add (5 * i_2) 5) (by decide) rfl (fun ls hl => ?_)
                refine lv_goto (tgt := 5) hx hb dX5_isKeptOut_134 (by decide) ?_
                exact ih_4 (i_2 + 1) true (by omega) (by omega)  _ _ hP hD hS _ (lv_sub hl [0, 1, 3, 4, 5] rfl)
              · refine lv_iload hx hb dX5_isKeptOut_101 (lv_at hl 0 rfl) ?_
                refine bm_zb_eq (x := false) (tgt := 129) hx hb dX5_isKeptOut_103 (by decide) (fun c_32 => ?_) (fun c_32 => ?_)
                · refine lv_iconst (v := bm_b false) hx hb dX5_isKeptOut_129 (by decide) ?_
                  refine lv_istore_n (lv' := [(3, .int (bm_b false)), (5, .int (bm_b false)), (4, .int (nI (5 * i_2))), (0, .ref (ad 42)), (1, .int (nI zr)), (2, .int (nI zp))]) hx hb dX5_isKeptOut_130 rfl hl (by decide) rfl (fun ls hl => ?_)
                  refine lv_iinc (v := (nI ((5 * i_2) + 5))) (lv' := [(4, .int (nI ((5 * i_2) + 5))), (3, .int (bm_b false)), (5, .int (bm_b false)), (0, .ref (ad 42)), (1, .int (nI zr)), (2, .int (nI zp))]) hx hb dX5_isKeptOut_131 hl (k := 2) rfl (nI_add (5 * i_2) 5) (by decide) rfl (fun ls hl => ?_)
                  refine lv_goto (tgt := 5) hx hb dX5_isKeptOut_134 (by decide) ?_
                  exact ih_4 (i_2 + 1) false (by omega) (by omega)  _ _ hP hD hS _ (lv_sub hl [0, 1, 3, 4, 5] rfl)
                · exact absurd c_32 (by decide)
            · refine lv_aload_n hx hb dX5_isKeptOut_71 rfl (lv_at hl 2 rfl) ?_
              refine va_get (D := D) (ci := 5) (v := .ref (ad 53)) (C := RX5) (T := TX5) (N := 28) hx hb hts (inT inX5) hown hK hP 42 rfl rfl 15 (by decide) (hts (.fieldLink RX5 42 "BoardMovesModel" "out" "[J") (by decide +kernel)) (fun _ h9 => h9) rfl dX5_isKeptOut_72 ?_
              refine lv_iload hx hb dX5_isKeptOut_75 (lv_at hl 0 rfl) ?_
              refine lv_iconst (v := nI 1) hx hb dX5_isKeptOut_77 (by decide) ?_
              refine bm_nadd hx hb dX5_isKeptOut_78 ?_
              refine bm_lald (f := mk.1) hx hb hK hP 53 0 rfl rfl (j := ((5 * i_2) + 1)) (by omega) (by decide) dX5_isKeptOut_79 ?_
              refine lv_topl (fun t_33 _ => ?_)
              refine lv_aload_n hx hb dX5_isKeptOut_80 rfl (lv_at hl 2 rfl) ?_
              refine lv_iload_n hx hb dX5_isKeptOut_81 rfl (lv_at hl 3 rfl) ?_
              refine lv_iload_n hx hb dX5_isKeptOut_82 rfl (lv_at hl 4 rfl) ?_
              refine bm_xcallV (As := [.int (nI zr), .int (nI zp)]) (rest := [.long t_33]) ⟨hx, hb, hml, hown, hts⟩ (y_top  (zr := zr) (zp := zp) ok_mp_turns (by omega) (by omega)) (cwV 2 hts (gdV (by decide +kernel) (by decide +kernel) (by decide +kernel) (by decide +kernel) (by decide +kernel)) rfl rfl rfl (by decide +kernel) ⟨Nat.le_of_ble_eq_true rfl, Nat.le_of_ble_eq_true rfl⟩) hK hP hD hS hA 42 5 rfl rfl rfl hl.1 rfl (Nat.le_of_ble_eq_true rfl) dX5_isKeptOut_83 ⟨Nat.le_of_ble_eq_true rfl, Nat.le_of_ble_eq_true rfl⟩ (fun ws_34 r_35 h_36 H locs hP hD hS => ?_)
              obtain ⟨rfl, v_37, rfl⟩ := h_36
              have hP : va_P D vwCl (WW ad cJ cI cZ bm pa p0 p1 p2 li wi mt ms ma mp mk mn ou) H := hP
              have hD : va_D A (WW ad cJ cI cZ bm pa p0 p1 p2 li wi mt ms ma mp mk mn ou) := hD
              refine bm_lc_ge (x := t_33) (y := v_37) (tgt := 94) hx hb dX5_isKeptOut_86 dX5_isKeptOut_87 (by decide) (fun c_38 => ?_) (fun c_38 => ?_)
              · refine lv_iconst (v := bm_b false) hx hb dX5_isKeptOut_94 (by decide) ?_
                refine lv_istore (lv' := [(5, .int (bm_b false)), (4, .int (nI (5 * i_2))), (3, .int (bm_b v_5)), (0, .ref (ad 42)), (1, .int (nI zr)), (2, .int (nI zp))]) hx hb dX5_isKeptOut_95 hl (by decide) rfl (fun ls hl => ?_)
                refine lv_iload_n hx hb dX5_isKeptOut_97 rfl (lv_at hl 2 rfl) ?_
                refine bm_zb_ne (x := v_5) (tgt := 125) hx hb dX5_isKeptOut_98 (by decide) (fun c_39 => ?_) (fun c_39 => ?_)
                · refine lv_iconst (v := bm_b true) hx hb dX5_isKeptOut_125 (by decide) ?_
                  refine lv_goto (tgt := 130) hx hb dX5_isKeptOut_126 (by decide) ?_
                  refine lv_istore_n (lv' := [(3, .int (bm_b true)), (5, .int (bm_b false)), (4, .int (nI (5 * i_2))), (0, .ref (ad 42)), (1, .int (nI zr)), (2, .int (nI zp))]) hx hb dX5_isKeptOut_130 rfl hl (by decide) rfl (fun ls hl => ?_)
                  refine lv_iinc (v := (nI ((5 * i_2) + 5))) (lv' := [(4, .int (nI ((5 * i_2) + 5))), (3, .int (bm_b true)), (5, .int (bm_b false)), (0, .ref (ad 42)), (1, .int (nI zr)), (2, .int (nI zp))]) hx hb dX5_isKeptOut_131 hl (k := 2) rfl (nI_add (5 * i_2) 5) (by decide) rfl (fun ls hl => ?_)
                  refine lv_goto (tgt := 5) hx hb dX5_isKeptOut_134 (by decide) ?_
                  exact ih_4 (i_2 + 1) true (by omega) (by omega)  _ _ hP hD hS _ (lv_sub hl [0, 1, 3, 4, 5] rfl)
                · refine lv_iload hx hb dX5_isKeptOut_101 (lv_at hl 0 rfl) ?_
                  refine bm_zb_eq (x := false) (tgt := 129) hx hb dX5_isKeptOut_103 (by decide) (fun c_40 => ?_) (fun c_40 => ?_)
                  · refine lv_iconst (v := bm_b false) hx hb dX5_isKeptOut_129 (by decide) ?_
                    refine lv_istore_n (lv' := [(3, .int (bm_b false)), (5, .int (bm_b false)), (4, .int (nI (5 * i_2))), (0, .ref (ad 42)), (1, .int (nI zr)), (2, .int (nI zp))]) hx hb dX5_isKeptOut_130 rfl hl (by decide) rfl (fun ls hl => ?_)
                    refine lv_iinc (v := (nI ((5 * i_2) + 5))) (lv' := [(4, .int (nI ((5 * i_2) + 5))), (3, .int (bm_b false)), (5, .int (bm_b false)), (0, .ref (ad 42)), (1, .int (nI zr)), (2, .int (nI zp))]) hx hb dX5_isKeptOut_131 hl (k := 2) rfl (nI_add (5 * i_2) 5) (by decide) rfl (fun ls hl => ?_)
                    refine lv_goto (tgt := 5) hx hb dX5_isKeptOut_134 (by decide) ?_
                    exact ih_4 (i_2 + 1) false (by omega) (by omega)  _ _ hP hD hS _ (lv_sub hl [0, 1, 3, 4, 5] rfl)
                  · exact absurd c_40 (by decide)
              · refine lv_iconst (v := bm_b true) hx hb dX5_isKeptOut_90 (by decide) ?_
                refine lv_goto (tgt := 95) hx hb dX5_isKeptOut_91 (by decide) ?_
                refine lv_istore (lv' := [(5, .int (bm_b true)), (4, .int (nI (5 * i_2))), (3, .int (bm_b v_5)), (0, .ref (ad 42)), (1, .int (nI zr)), (2, .int (nI zp))]) hx hb dX5_isKeptOut_95 hl (by decide) rfl (fun ls hl => ?_)
                refine lv_iload_n hx hb dX5_isKeptOut_97 rfl (lv_at hl 2 rfl) ?_
                refine bm_zb_ne (x := v_5) (tgt := 125) hx hb dX5_isKeptOut_98 (by decide) (fun c_41 => ?_) (fun c_41 => ?_)
                · refine lv_iconst (v := bm_b true) hx hb dX5_isKeptOut_125 (by decide) ?_
                  refine lv_goto (tgt := 130) hx hb dX5_isKeptOut_126 (by decide) ?_
                  refine lv_istore_n (lv' := [(3, .int (bm_b true)), (5, .int (bm_b true)), (4, .int (nI (5 * i_2))), (0, .ref (ad 42)), (1, .int (nI zr)), (2, .int (nI zp))]) hx hb dX5_isKeptOut_130 rfl hl (by decide) rfl (fun ls hl => ?_)
                  refine lv_iinc (v := (nI ((5 * i_2) + 5))) (lv' := [(4, .int (nI ((5 * i_2) + 5))), (3, .int (bm_b true)), (5, .int (bm_b true)), (0, .ref (ad 42)), (1, .int (nI zr)), (2, .int (nI zp))]) hx hb dX5_isKeptOut_131 hl (k := 2) rfl (nI_add (5 * i_2) 5) (by decide) rfl (fun ls hl => ?_)
                  refine lv_goto (tgt := 5) hx hb dX5_isKeptOut_134 (by decide) ?_
                  exact ih_4 (i_2 + 1) true (by omega) (by omega)  _ _ hP hD hS _ (lv_sub hl [0, 1, 3, 4, 5] rfl)
                · refine lv_iload hx hb dX5_isKeptOut_101 (lv_at hl 0 rfl) ?_
                  refine bm_zb_eq (x := true) (tgt := 129) hx hb dX5_isKeptOut_103 (by decide) (fun c_42 => ?_) (fun c_42 => ?_)
                  · exact absurd c_42 (by decide)
                  · refine lv_aload_n hx hb dX5_isKeptOut_106 rfl (lv_at hl 3 rfl) ?_
                    refine va_get (D := D) (ci := 5) (v := .ref (ad 46)) (C := RX5) (T := TX5) (N := 28) hx hb hts (inT inX5) hown hK hP 42 rfl rfl 7 (by decide) (hts (.fieldLink RX5 20 "BoardMovesModel" "heights" "[J") (by decide +kernel)) (fun _ h9 => h9) rfl dX5_isKeptOut_107 ?_
                    refine lv_iload_n hx hb dX5_isKeptOut_110 rfl (lv_at hl 5 rfl) ?_
                    refine bm_lald (f := ma.2.2.2.1) hx hb hK hP 46 0 rfl rfl (j := zp) (by omega) (by decide) dX5_isKeptOut_111 ?_
                    refine lv_topl (fun t_43 _ => ?_)
                    refine lv_aload_n hx hb dX5_isKeptOut_112 rfl (lv_at hl 3 rfl) ?_
                    refine va_get (D := D) (ci := 5) (v := .ref (ad 53)) (C := RX5) (T := TX5) (N := 28) hx hb hts (inT inX5) hown hK hP 42 rfl rfl 15 (by decide) (hts (.fieldLink RX5 42 "BoardMovesModel" "out" "[J") (by decide +kernel)) (fun _ h9 => h9) rfl dX5_isKeptOut_113 ?_
                    refine lv_iload hx hb dX5_isKeptOut_116 (lv_at hl 1 rfl) ?_
                    refine lv_iconst (v := nI 4) hx hb dX5_isKeptOut_118 (by decide) ?_
                    refine bm_nadd hx hb dX5_isKeptOut_119 ?_
                    refine bm_lald (f := mk.1) hx hb hK hP 53 0 rfl rfl (j := ((5 * i_2) + 4)) (by omega) (by decide) dX5_isKeptOut_120 ?_
                    refine lv_topl (fun t_44 _ => ?_)
                    refine bm_lc_le (x := t_43) (y := t_44) (tgt := 129) hx hb dX5_isKeptOut_121 dX5_isKeptOut_122 (by decide) (fun c_45 => ?_) (fun c_45 => ?_)
                    · refine lv_iconst (v := bm_b false) hx hb dX5_isKeptOut_129 (by decide) ?_
                      refine lv_istore_n (lv' := [(3, .int (bm_b false)), (5, .int (bm_b true)), (4, .int (nI (5 * i_2))), (0, .ref (ad 42)), (1, .int (nI zr)), (2, .int (nI zp))]) hx hb dX5_isKeptOut_130 rfl hl (by decide) rfl (fun ls hl => ?_)
                      refine lv_iinc (v := (nI ((5 * i_2) + 5))) (lv' := [(4, .int (nI ((5 * i_2) + 5))), (3, .int (bm_b false)), (5, .int (bm_b true)), (0, .ref (ad 42)), (1, .int (nI zr)), (2, .int (nI zp))]) hx hb dX5_isKeptOut_131 hl (k := 2) rfl (nI_add (5 * i_2) 5) (by decide) rfl (fun ls hl => ?_)
                      refine lv_goto (tgt := 5) hx hb dX5_isKeptOut_134 (by decide) ?_
                      exact ih_4 (i_2 + 1) false (by omega) (by omega)  _ _ hP hD hS _ (lv_sub hl [0, 1, 3, 4, 5] rfl)
                    · refine lv_iconst (v := bm_b true) hx hb dX5_isKeptOut_125 (by decide) ?_
                      refine lv_goto (tgt := 130) hx hb dX5_isKeptOut_126 (by decide) ?_
                      refine lv_istore_n (lv' := [(3, .int (bm_b true)), (5, .int (bm_b true)), (4, .int (nI (5 * i_2))), (0, .ref (ad 42)), (1, .int (nI zr)), (2, .int (nI zp))]) hx hb dX5_isKeptOut_130 rfl hl (by decide) rfl (fun ls hl => ?_)
                      refine lv_iinc (v := (nI ((5 * i_2) + 5))) (lv' := [(4, .int (nI ((5 * i_2) + 5))), (3, .int (bm_b true)), (5, .int (bm_b true)), (0, .ref (ad 42)), (1, .int (nI zr)), (2, .int (nI zp))]) hx hb dX5_isKeptOut_131 hl (k := 2) rfl (nI_add (5 * i_2) 5) (by decide) rfl (fun ls hl => ?_)
                      refine lv_goto (tgt := 5) hx hb dX5_isKeptOut_134 (by decide) ?_
                      exact ih_4 (i_2 + 1) true (by omega) (by omega)  _ _ hP hD hS _ (lv_sub hl [0, 1, 3, 4, 5] rfl)
  exact lp_1 (ms.2.2.2.1 + 1) 0 false (by omega) (by omega)  _ _ hP hD hS _ (lv_sub hl [0, 1, 2, 3, 4] rfl)

set_option maxHeartbeats 8000000 in
set_option maxRecDepth 100000 in
theorem y_gap {l : Launch} {D : va_G} {ad : Nat → Nat} {cJ cI cZ : ClassId} {bm : gBM} {pa : gPA} {p0 p1 p2 : gPL} {li : gLI} {wi : gWI} {mt : Nat} {ms : gMS} {ma : gMA} {mp : gMP} {mk : gMK} {mn : gMN} {ou : Nat → Int64} {z1 : Int64} {z2 : Int64} {z3 : Int64} {z4 : Int64}    : bm_Wx l yX5_gap wsX5_gap ({ frames := 0, cells := 0, slots := 0, locals := 0 }) D vwCl [(cJ, .long), (cI, .int), (cZ, .boolean)] (WW ad cJ cI cZ bm pa p0 p1 p2 li wi mt ms ma mp mk mn ou) [.long z1, .long z2, .long z3, .long z4] (fun ws9 r9 => ws9 = (WW ad cJ cI cZ bm pa p0 p1 p2 li wi mt ms ma mp mk mn ou) ∧ ∃ v9 : Int64, r9 = some (.long v9)) := by
  intro sz
  refine Met.ofW (cc := cX5_gap) (maxL := 8) (ret := (some .long)) (by decide) rfl ?_
  intro p e s m args below meth c s₁ B hml hv
  obtain ⟨ha, hsz, hP, hK, hD0⟩ := hv
  have hx := B.exec
  have hb := B.bytes
  have hr := B.returns
  have hts := atoms_spec (ws := wsX5_gap) B.pre
  have hown : s.vm.findClass RX5 = some m.cls := findClass_of_methodNamed B.named
  have hlocks := B.notSynchronized
  subst hsz
  have hD := hD0.self (sz := s.heap.size)
  generalize hAe : va_A (WW ad cJ cI cZ bm pa p0 p1 p2 li wi mt ms ma mp mk mn ou) s.heap.size = A at hD ⊢
  have hA : ∀ q : Nat, s.heap.size ≤ q → A q := fun q h => by rw [← hAe]; exact Or.inr h
  have hS : va_S A s.heap s.heap [] := va_S.rf
  have hl := lv_entry ([.long z1, .long z2, .long z3, .long z4]) (n := 8) (Nat.le_of_ble_eq_true rfl)
  refine W.eq (g2 := entryFrame m ([.long z1, .long z2, .long z3, .long z4] : List Value).toArray 8) (by rw [ha]) ?_
  rw [lg_entry_eq]
  generalize (lg_sl ([.long z1, .long z2, .long z3, .long z4]) ++ List.replicate (8 - (lg_sl ([.long z1, .long z2, .long z3, .long z4])).length) Slot.unset).toArray = ls at hl ⊢
  have hl : lv_has ls 8 [(0, .long z1), (2, .long z2), (4, .long z3), (6, .long z4)] := hl
  refine lv_lload hx hb dX5_gap_0 (lv_at hl 2 rfl) ?_
  refine lv_lload_n hx hb dX5_gap_2 rfl (lv_at hl 1 rfl) ?_
  refine bm_lc_le (x := z3) (y := z2) (tgt := 14) hx hb dX5_gap_3 dX5_gap_4 (by decide) (fun c_1 => ?_) (fun c_1 => ?_)
  · refine lv_lload_n hx hb dX5_gap_14 rfl (lv_at hl 0 rfl) ?_
    refine lv_lload hx hb dX5_gap_15 (lv_at hl 3 rfl) ?_
    refine bm_lc_le (x := z1) (y := z4) (tgt := 28) hx hb dX5_gap_17 dX5_gap_18 (by decide) (fun c_2 => ?_) (fun c_2 => ?_)
    · refine lv_lconst (v := 0) hx hb dX5_gap_28 (by decide) ?_
      exact bm_lretX (v := 0) hx hb hr hP hD hK hS ⟨rfl, 0, rfl⟩ dX5_gap_29 hlocks
    · refine lv_lload_n hx hb dX5_gap_21 rfl (lv_at hl 0 rfl) ?_
      refine lv_lload hx hb dX5_gap_22 (lv_at hl 3 rfl) ?_
      refine lv_lsub hx hb dX5_gap_24 ?_
      refine lv_topl (fun t_3 _ => ?_)
      refine lv_goto (tgt := 29) hx hb dX5_gap_25 (by decide) ?_
      exact bm_lretX (v := t_3) hx hb hr hP hD hK hS ⟨rfl, t_3, rfl⟩ dX5_gap_29 hlocks
  · refine lv_lload hx hb dX5_gap_7 (lv_at hl 2 rfl) ?_
    refine lv_lload_n hx hb dX5_gap_9 rfl (lv_at hl 1 rfl) ?_
    refine lv_lsub hx hb dX5_gap_10 ?_
    refine lv_topl (fun t_4 _ => ?_)
    refine lv_goto (tgt := 29) hx hb dX5_gap_11 (by decide) ?_
    exact bm_lretX (v := t_4) hx hb hr hP hD hK hS ⟨rfl, t_4, rfl⟩ dX5_gap_29 hlocks

set_option maxHeartbeats 8000000 in
set_option maxRecDepth 100000 in
theorem y_isNear {l : Launch} {D : va_G} {ad : Nat → Nat} {cJ cI cZ : ClassId} {bm : gBM} {pa : gPA} {p0 p1 p2 : gPL} {li : gLI} {wi : gWI} {mt : Nat} {ms : gMS} {ma : gMA} {mp : gMP} {mk : gMK} {mn : gMN} {ou : Nat → Int64} {zr : Nat} {zk : Nat} (ok_mp_turns : ∀ i, mp.2.2 i < 40) (ok_mk_nearOne : ∀ i, mk.2.1 i < 40) (ok_mk_nearTwo : ∀ i, mk.2.2.1 i < 40) (hp0 : zr < 3) (hp1 : zk < 20)  : bm_Wx l yX5_isNear wsX5_isNear ({ frames := 2, cells := 0, slots := 0, locals := 44 }) D vwCl [(cJ, .long), (cI, .int), (cZ, .boolean)] (WW ad cJ cI cZ bm pa p0 p1 p2 li wi mt ms ma mp mk mn ou) [.ref (ad 42), .int (nI zr), .int (nI zk)] (fun ws9 r9 => ws9 = (WW ad cJ cI cZ bm pa p0 p1 p2 li wi mt ms ma mp mk mn ou) ∧ ∃ b9 : Bool, r9 = some (.int (bm_b b9))) := by
  intro sz
  refine Met.ofW (cc := cX5_isNear) (maxL := 5) (ret := (some .boolean)) (by decide) rfl ?_
  intro p e s m args below meth c s₁ B hml hv
  obtain ⟨ha, hsz, hP, hK, hD0⟩ := hv
  have hx := B.exec
  have hb := B.bytes
  have hr := B.returns
  have hts := atoms_spec (ws := wsX5_isNear) B.pre
  have hown : s.vm.findClass RX5 = some m.cls := findClass_of_methodNamed B.named
  have hlocks := B.notSynchronized
  subst hsz
  have hD := hD0.self (sz := s.heap.size)
  generalize hAe : va_A (WW ad cJ cI cZ bm pa p0 p1 p2 li wi mt ms ma mp mk mn ou) s.heap.size = A at hD ⊢
  have hA : ∀ q : Nat, s.heap.size ≤ q → A q := fun q h => by rw [← hAe]; exact Or.inr h
  have hS : va_S A s.heap s.heap [] := va_S.rf
  have hl := lv_entry ([.ref (ad 42), .int (nI zr), .int (nI zk)]) (n := 5) (Nat.le_of_ble_eq_true rfl)
  refine W.eq (g2 := entryFrame m ([.ref (ad 42), .int (nI zr), .int (nI zk)] : List Value).toArray 5) (by rw [ha]) ?_
  rw [lg_entry_eq]
  generalize (lg_sl ([.ref (ad 42), .int (nI zr), .int (nI zk)]) ++ List.replicate (5 - (lg_sl ([.ref (ad 42), .int (nI zr), .int (nI zk)])).length) Slot.unset).toArray = ls at hl ⊢
  have hl : lv_has ls 5 [(0, .ref (ad 42)), (1, .int (nI zr)), (2, .int (nI zk))] := hl
  refine lv_aload_n hx hb dX5_isNear_0 rfl (lv_at hl 0 rfl) ?_
  refine va_get (D := D) (ci := 5) (v := .ref (ad 54)) (C := RX5) (T := TX5) (N := 28) hx hb hts (inT inX5) hown hK hP 42 rfl rfl 17 (by decide) (hts (.fieldLink RX5 45 "BoardMovesModel" "nearOne" "[I") (by decide +kernel)) (fun _ h9 => h9) rfl dX5_isNear_1 ?_
  refine lv_iload_n hx hb dX5_isNear_4 rfl (lv_at hl 2 rfl) ?_
  refine bm_nald (f := mk.2.1) hx hb hK hP 54 1 rfl rfl (j := zk) (by omega) (by decide) dX5_isNear_5 ?_
  refine lv_istore_n (lv' := [(3, .int (nI (mk.2.1 zk))), (0, .ref (ad 42)), (1, .int (nI zr)), (2, .int (nI zk))]) hx hb dX5_isNear_6 rfl hl (by decide) rfl (fun ls hl => ?_)
  refine lv_aload_n hx hb dX5_isNear_7 rfl (lv_at hl 1 rfl) ?_
  refine va_get (D := D) (ci := 5) (v := .ref (ad 55)) (C := RX5) (T := TX5) (N := 28) hx hb hts (inT inX5) hown hK hP 42 rfl rfl 18 (by decide) (hts (.fieldLink RX5 48 "BoardMovesModel" "nearTwo" "[I") (by decide +kernel)) (fun _ h9 => h9) rfl dX5_isNear_8 ?_
  refine lv_iload_n hx hb dX5_isNear_11 rfl (lv_at hl 3 rfl) ?_
  refine bm_nald (f := mk.2.2.1) hx hb hK hP 55 1 rfl rfl (j := zk) (by omega) (by decide) dX5_isNear_12 ?_
  refine lv_istore (lv' := [(4, .int (nI (mk.2.2.1 zk))), (3, .int (nI (mk.2.1 zk))), (0, .ref (ad 42)), (1, .int (nI zr)), (2, .int (nI zk))]) hx hb dX5_isNear_13 hl (by decide) rfl (fun ls hl => ?_)
  refine lv_aload_n hx hb dX5_isNear_15 rfl (lv_at hl 2 rfl) ?_
  refine va_get (D := D) (ci := 5) (v := .ref (ad 49)) (C := RX5) (T := TX5) (N := 28) hx hb hts (inT inX5) hown hK hP 42 rfl rfl 10 (by decide) (hts (.fieldLink RX5 30 "BoardMovesModel" "placed" "[Z") (by decide +kernel)) (fun _ h9 => h9) rfl dX5_isNear_16 ?_
  refine lv_iload_n hx hb dX5_isNear_19 rfl (lv_at hl 1 rfl) ?_
  refine bm_zald (f := ma.2.2.2.2.2.2) hx hb hK hP 49 2 rfl rfl (j := (mk.2.1 zk)) (ok_mk_nearOne _) (by decide) dX5_isNear_20 ?_
  refine bm_zb_eq (x := (ma.2.2.2.2.2.2 (mk.2.1 zk))) (tgt := 34) hx hb dX5_isNear_21 (by decide) (fun c_1 => ?_) (fun c_1 => ?_)
  · refine lv_iconst (v := bm_b true) hx hb dX5_isNear_34 (by decide) ?_
    exact bm_zretX (v := true) hx hb hr hP hD hK hS ⟨rfl, true, rfl⟩ dX5_isNear_35 hlocks
  · refine lv_aload_n hx hb dX5_isNear_24 rfl (lv_at hl 2 rfl) ?_
    refine va_get (D := D) (ci := 5) (v := .ref (ad 49)) (C := RX5) (T := TX5) (N := 28) hx hb hts (inT inX5) hown hK hP 42 rfl rfl 10 (by decide) (hts (.fieldLink RX5 30 "BoardMovesModel" "placed" "[Z") (by decide +kernel)) (fun _ h9 => h9) rfl dX5_isNear_25 ?_
    refine lv_iload hx hb dX5_isNear_28 (lv_at hl 0 rfl) ?_
    refine bm_zald (f := ma.2.2.2.2.2.2) hx hb hK hP 49 2 rfl rfl (j := (mk.2.2.1 zk)) (ok_mk_nearTwo _) (by decide) dX5_isNear_30 ?_
    refine bm_zb_ne (x := (ma.2.2.2.2.2.2 (mk.2.2.1 zk))) (tgt := 36) hx hb dX5_isNear_31 (by decide) (fun c_2 => ?_) (fun c_2 => ?_)
    · refine lv_aload_n hx hb dX5_isNear_36 rfl (lv_at hl 2 rfl) ?_
      refine lv_iload_n hx hb dX5_isNear_37 rfl (lv_at hl 3 rfl) ?_
      refine lv_iload_n hx hb dX5_isNear_38 rfl (lv_at hl 1 rfl) ?_
      refine bm_xcallV (As := [.int (nI zr), .int (nI (mk.2.1 zk))]) (rest := []) ⟨hx, hb, hml, hown, hts⟩ (y_left  (zr := zr) (zp := mk.2.1 zk)  (by omega) (ok_mk_nearOne _)) (cwV 2 hts (gdV (by decide +kernel) (by decide +kernel) (by decide +kernel) (by decide +kernel) (by decide +kernel)) rfl rfl rfl (by decide +kernel) ⟨Nat.le_of_ble_eq_true rfl, Nat.le_of_ble_eq_true rfl⟩) hK hP hD hS hA 42 5 rfl rfl rfl hl.1 rfl (Nat.le_of_ble_eq_true rfl) dX5_isNear_39 ⟨Nat.le_of_ble_eq_true rfl, Nat.le_of_ble_eq_true rfl⟩ (fun ws_3 r_4 h_5 H locs hP hD hS => ?_)
      obtain ⟨rfl, v_6, rfl⟩ := h_5
      have hP : va_P D vwCl (WW ad cJ cI cZ bm pa p0 p1 p2 li wi mt ms ma mp mk mn ou) H := hP
      have hD : va_D A (WW ad cJ cI cZ bm pa p0 p1 p2 li wi mt ms ma mp mk mn ou) := hD
      refine lv_aload_n hx hb dX5_isNear_42 rfl (lv_at hl 2 rfl) ?_
      refine lv_iload_n hx hb dX5_isNear_43 rfl (lv_at hl 3 rfl) ?_
      refine lv_iload_n hx hb dX5_isNear_44 rfl (lv_at hl 1 rfl) ?_
      refine bm_xcallV (As := [.int (nI zr), .int (nI (mk.2.1 zk))]) (rest := [.long v_6]) ⟨hx, hb, hml, hown, hts⟩ (y_right  (zr := zr) (zp := mk.2.1 zk) ok_mp_turns (by omega) (ok_mk_nearOne _)) (cwV 2 hts (gdV (by decide +kernel) (by decide +kernel) (by decide +kernel) (by decide +kernel) (by decide +kernel)) rfl rfl rfl (by decide +kernel) ⟨Nat.le_of_ble_eq_true rfl, Nat.le_of_ble_eq_true rfl⟩) hK hP hD hS hA 42 5 rfl rfl rfl hl.1 rfl (Nat.le_of_ble_eq_true rfl) dX5_isNear_45 ⟨Nat.le_of_ble_eq_true rfl, Nat.le_of_ble_eq_true rfl⟩ (fun ws_7 r_8 h_9 H locs hP hD hS => ?_)
      obtain ⟨rfl, v_10, rfl⟩ := h_9
      have hP : va_P D vwCl (WW ad cJ cI cZ bm pa p0 p1 p2 li wi mt ms ma mp mk mn ou) H := hP
      have hD : va_D A (WW ad cJ cI cZ bm pa p0 p1 p2 li wi mt ms ma mp mk mn ou) := hD
      refine lv_aload_n hx hb dX5_isNear_48 rfl (lv_at hl 2 rfl) ?_
      refine lv_iload_n hx hb dX5_isNear_49 rfl (lv_at hl 3 rfl) ?_
      refine lv_iload hx hb dX5_isNear_50 (lv_at hl 0 rfl) ?_
      refine bm_xcallV (As := [.int (nI zr), .int (nI (mk.2.2.1 zk))]) (rest := [.long v_10, .long v_6]) ⟨hx, hb, hml, hown, hts⟩ (y_left  (zr := zr) (zp := mk.2.2.1 zk)  (by omega) (ok_mk_nearTwo _)) (cwV 2 hts (gdV (by decide +kernel) (by decide +kernel) (by decide +kernel) (by decide +kernel) (by decide +kernel)) rfl rfl rfl (by decide +kernel) ⟨Nat.le_of_ble_eq_true rfl, Nat.le_of_ble_eq_true rfl⟩) hK hP hD hS hA 42 5 rfl rfl rfl hl.1 rfl (Nat.le_of_ble_eq_true rfl) dX5_isNear_52 ⟨Nat.le_of_ble_eq_true rfl, Nat.le_of_ble_eq_true rfl⟩ (fun ws_11 r_12 h_13 H locs hP hD hS => ?_)
      obtain ⟨rfl, v_14, rfl⟩ := h_13
      have hP : va_P D vwCl (WW ad cJ cI cZ bm pa p0 p1 p2 li wi mt ms ma mp mk mn ou) H := hP
      have hD : va_D A (WW ad cJ cI cZ bm pa p0 p1 p2 li wi mt ms ma mp mk mn ou) := hD
      refine lv_aload_n hx hb dX5_isNear_55 rfl (lv_at hl 2 rfl) ?_
      refine lv_iload_n hx hb dX5_isNear_56 rfl (lv_at hl 3 rfl) ?_
      refine lv_iload hx hb dX5_isNear_57 (lv_at hl 0 rfl) ?_
      refine bm_xcallV (As := [.int (nI zr), .int (nI (mk.2.2.1 zk))]) (rest := [.long v_14, .long v_10, .long v_6]) ⟨hx, hb, hml, hown, hts⟩ (y_right  (zr := zr) (zp := mk.2.2.1 zk) ok_mp_turns (by omega) (ok_mk_nearTwo _)) (cwV 2 hts (gdV (by decide +kernel) (by decide +kernel) (by decide +kernel) (by decide +kernel) (by decide +kernel)) rfl rfl rfl (by decide +kernel) ⟨Nat.le_of_ble_eq_true rfl, Nat.le_of_ble_eq_true rfl⟩) hK hP hD hS hA 42 5 rfl rfl rfl hl.1 rfl (Nat.le_of_ble_eq_true rfl) dX5_isNear_59 ⟨Nat.le_of_ble_eq_true rfl, Nat.le_of_ble_eq_true rfl⟩ (fun ws_15 r_16 h_17 H locs hP hD hS => ?_)
      obtain ⟨rfl, v_18, rfl⟩ := h_17
      have hP : va_P D vwCl (WW ad cJ cI cZ bm pa p0 p1 p2 li wi mt ms ma mp mk mn ou) H := hP
      have hD : va_D A (WW ad cJ cI cZ bm pa p0 p1 p2 li wi mt ms ma mp mk mn ou) := hD
      refine bm_xcallS (As := [.long v_6, .long v_10, .long v_14, .long v_18]) (rest := []) ⟨hx, hb, hml, hown, hts⟩ (y_gap  (z1 := v_6) (z2 := v_10) (z3 := v_14) (z4 := v_18)  ) (cwS 4 hts (gdS (by decide +kernel) (by decide +kernel) (by decide +kernel) (by decide +kernel)) rfl rfl rfl (by decide +kernel) ⟨Nat.le_of_ble_eq_true rfl, Nat.le_of_ble_eq_true rfl⟩) hK hP hD hS hA rfl hl.1 rfl (Nat.le_of_ble_eq_true rfl) dX5_isNear_62 ⟨Nat.le_of_ble_eq_true rfl, Nat.le_of_ble_eq_true rfl⟩ (fun ws_19 r_20 h_21 H locs hP hD hS => ?_)
      obtain ⟨rfl, v_22, rfl⟩ := h_21
      have hP : va_P D vwCl (WW ad cJ cI cZ bm pa p0 p1 p2 li wi mt ms ma mp mk mn ou) H := hP
      have hD : va_D A (WW ad cJ cI cZ bm pa p0 p1 p2 li wi mt ms ma mp mk mn ou) := hD
      refine lv_aload_n hx hb dX5_isNear_65 rfl (lv_at hl 2 rfl) ?_
      refine lv_iload_n hx hb dX5_isNear_66 rfl (lv_at hl 3 rfl) ?_
      refine lv_iload_n hx hb dX5_isNear_67 rfl (lv_at hl 1 rfl) ?_
      refine bm_xcallV (As := [.int (nI zr), .int (nI (mk.2.1 zk))]) (rest := [.long v_22]) ⟨hx, hb, hml, hown, hts⟩ (y_low  (zr := zr) (zp := mk.2.1 zk)  (by omega) (ok_mk_nearOne _)) (cwV 2 hts (gdV (by decide +kernel) (by decide +kernel) (by decide +kernel) (by decide +kernel) (by decide +kernel)) rfl rfl rfl (by decide +kernel) ⟨Nat.le_of_ble_eq_true rfl, Nat.le_of_ble_eq_true rfl⟩) hK hP hD hS hA 42 5 rfl rfl rfl hl.1 rfl (Nat.le_of_ble_eq_true rfl) dX5_isNear_68 ⟨Nat.le_of_ble_eq_true rfl, Nat.le_of_ble_eq_true rfl⟩ (fun ws_23 r_24 h_25 H locs hP hD hS => ?_)
      obtain ⟨rfl, v_26, rfl⟩ := h_25
      have hP : va_P D vwCl (WW ad cJ cI cZ bm pa p0 p1 p2 li wi mt ms ma mp mk mn ou) H := hP
      have hD : va_D A (WW ad cJ cI cZ bm pa p0 p1 p2 li wi mt ms ma mp mk mn ou) := hD
      refine lv_aload_n hx hb dX5_isNear_71 rfl (lv_at hl 2 rfl) ?_
      refine lv_iload_n hx hb dX5_isNear_72 rfl (lv_at hl 3 rfl) ?_
      refine lv_iload_n hx hb dX5_isNear_73 rfl (lv_at hl 1 rfl) ?_
      refine bm_xcallV (As := [.int (nI zr), .int (nI (mk.2.1 zk))]) (rest := [.long v_26, .long v_22]) ⟨hx, hb, hml, hown, hts⟩ (y_top  (zr := zr) (zp := mk.2.1 zk) ok_mp_turns (by omega) (ok_mk_nearOne _)) (cwV 2 hts (gdV (by decide +kernel) (by decide +kernel) (by decide +kernel) (by decide +kernel) (by decide +kernel)) rfl rfl rfl (by decide +kernel) ⟨Nat.le_of_ble_eq_true rfl, Nat.le_of_ble_eq_true rfl⟩) hK hP hD hS hA 42 5 rfl rfl rfl hl.1 rfl (Nat.le_of_ble_eq_true rfl) dX5_isNear_74 ⟨Nat.le_of_ble_eq_true rfl, Nat.le_of_ble_eq_true rfl⟩ (fun ws_27 r_28 h_29 H locs hP hD hS => ?_)
      obtain ⟨rfl, v_30, rfl⟩ := h_29
      have hP : va_P D vwCl (WW ad cJ cI cZ bm pa p0 p1 p2 li wi mt ms ma mp mk mn ou) H := hP
      have hD : va_D A (WW ad cJ cI cZ bm pa p0 p1 p2 li wi mt ms ma mp mk mn ou) := hD
      refine lv_aload_n hx hb dX5_isNear_77 rfl (lv_at hl 2 rfl) ?_
      refine lv_iload_n hx hb dX5_isNear_78 rfl (lv_at hl 3 rfl) ?_
      refine lv_iload hx hb dX5_isNear_79 (lv_at hl 0 rfl) ?_
      refine bm_xcallV (As := [.int (nI zr), .int (nI (mk.2.2.1 zk))]) (rest := [.long v_30, .long v_26, .long v_22]) ⟨hx, hb, hml, hown, hts⟩ (y_low  (zr := zr) (zp := mk.2.2.1 zk)  (by omega) (ok_mk_nearTwo _)) (cwV 2 hts (gdV (by decide +kernel) (by decide +kernel) (by decide +kernel) (by decide +kernel) (by decide +kernel)) rfl rfl rfl (by decide +kernel) ⟨Nat.le_of_ble_eq_true rfl, Nat.le_of_ble_eq_true rfl⟩) hK hP hD hS hA 42 5 rfl rfl rfl hl.1 rfl (Nat.le_of_ble_eq_true rfl) dX5_isNear_81 ⟨Nat.le_of_ble_eq_true rfl, Nat.le_of_ble_eq_true rfl⟩ (fun ws_31 r_32 h_33 H locs hP hD hS => ?_)
      obtain ⟨rfl, v_34, rfl⟩ := h_33
      have hP : va_P D vwCl (WW ad cJ cI cZ bm pa p0 p1 p2 li wi mt ms ma mp mk mn ou) H := hP
      have hD : va_D A (WW ad cJ cI cZ bm pa p0 p1 p2 li wi mt ms ma mp mk mn ou) := hD
      refine lv_aload_n hx hb dX5_isNear_84 rfl (lv_at hl 2 rfl) ?_
      refine lv_iload_n hx hb dX5_isNear_85 rfl (lv_at hl 3 rfl) ?_
      refine lv_iload hx hb dX5_isNear_86 (lv_at hl 0 rfl) ?_
      refine bm_xcallV (As := [.int (nI zr), .int (nI (mk.2.2.1 zk))]) (rest := [.long v_34, .long v_30, .long v_26, .long v_22]) ⟨hx, hb, hml, hown, hts⟩ (y_top  (zr := zr) (zp := mk.2.2.1 zk) ok_mp_turns (by omega) (ok_mk_nearTwo _)) (cwV 2 hts (gdV (by decide +kernel) (by decide +kernel) (by decide +kernel) (by decide +kernel) (by decide +kernel)) rfl rfl rfl (by decide +kernel) ⟨Nat.le_of_ble_eq_true rfl, Nat.le_of_ble_eq_true rfl⟩) hK hP hD hS hA 42 5 rfl rfl rfl hl.1 rfl (Nat.le_of_ble_eq_true rfl) dX5_isNear_88 ⟨Nat.le_of_ble_eq_true rfl, Nat.le_of_ble_eq_true rfl⟩ (fun ws_35 r_36 h_37 H locs hP hD hS => ?_)
      obtain ⟨rfl, v_38, rfl⟩ := h_37
      have hP : va_P D vwCl (WW ad cJ cI cZ bm pa p0 p1 p2 li wi mt ms ma mp mk mn ou) H := hP
      have hD : va_D A (WW ad cJ cI cZ bm pa p0 p1 p2 li wi mt ms ma mp mk mn ou) := hD
      refine bm_xcallS (As := [.long v_26, .long v_30, .long v_34, .long v_38]) (rest := [.long v_22]) ⟨hx, hb, hml, hown, hts⟩ (y_gap  (z1 := v_26) (z2 := v_30) (z3 := v_34) (z4 := v_38)  ) (cwS 4 hts (gdS (by decide +kernel) (by decide +kernel) (by decide +kernel) (by decide +kernel)) rfl rfl rfl (by decide +kernel) ⟨Nat.le_of_ble_eq_true rfl, Nat.le_of_ble_eq_true rfl⟩) hK hP hD hS hA rfl hl.1 rfl (Nat.le_of_ble_eq_true rfl) dX5_isNear_91 ⟨Nat.le_of_ble_eq_true rfl, Nat.le_of_ble_eq_true rfl⟩ (fun ws_39 r_40 h_41 H locs hP hD hS => ?_)
      obtain ⟨rfl, v_42, rfl⟩ := h_41
      have hP : va_P D vwCl (WW ad cJ cI cZ bm pa p0 p1 p2 li wi mt ms ma mp mk mn ou) H := hP
      have hD : va_D A (WW ad cJ cI cZ bm pa p0 p1 p2 li wi mt ms ma mp mk mn ou) := hD
      refine lv_ladd hx hb dX5_isNear_94 ?_
      refine lv_topl (fun t_43 _ => ?_)
      refine lv_aload_n hx hb dX5_isNear_95 rfl (lv_at hl 2 rfl) ?_
      refine va_get (D := D) (ci := 5) (v := .ref (ad 56)) (C := RX5) (T := TX5) (N := 28) hx hb hts (inT inX5) hown hK hP 42 rfl rfl 19 (by decide) (hts (.fieldLink RX5 51 "BoardMovesModel" "nearMost" "[J") (by decide +kernel)) (fun _ h9 => h9) rfl dX5_isNear_96 ?_
      refine lv_iload_n hx hb dX5_isNear_99 rfl (lv_at hl 4 rfl) ?_
      refine bm_lald (f := mk.2.2.2) hx hb hK hP 56 0 rfl rfl (j := zk) (by omega) (by decide) dX5_isNear_100 ?_
      refine lv_topl (fun t_44 _ => ?_)
      refine bm_lc_gt (x := t_43) (y := t_44) (tgt := 109) hx hb dX5_isNear_101 dX5_isNear_102 (by decide) (fun c_45 => ?_) (fun c_45 => ?_)
      · refine lv_iconst (v := bm_b false) hx hb dX5_isNear_109 (by decide) ?_
        exact bm_zretX (v := false) hx hb hr hP hD hK hS ⟨rfl, false, rfl⟩ dX5_isNear_110 hlocks
      · refine lv_iconst (v := bm_b true) hx hb dX5_isNear_105 (by decide) ?_
        refine lv_goto (tgt := 110) hx hb dX5_isNear_106 (by decide) ?_
        exact bm_zretX (v := true) hx hb hr hP hD hK hS ⟨rfl, true, rfl⟩ dX5_isNear_110 hlocks
    · refine lv_iconst (v := bm_b true) hx hb dX5_isNear_34 (by decide) ?_
      exact bm_zretX (v := true) hx hb hr hP hD hK hS ⟨rfl, true, rfl⟩ dX5_isNear_35 hlocks
end
section
set_option maxHeartbeats 8000000 in
set_option maxRecDepth 100000 in
theorem y_isWell {l : Launch} {D : va_G} {ad : Nat → Nat} {cJ cI cZ : ClassId} {bm : gBM} {pa : gPA} {p0 p1 p2 : gPL} {li : gLI} {wi : gWI} {mt : Nat} {ms : gMS} {ma : gMA} {mp : gMP} {mk : gMK} {mn : gMN} {ou : Nat → Int64} {zr : Nat} (ok_mp_turns : ∀ i, mp.2.2 i < 40) (ok_ms_parts : ms.2.2.1 ≤ 40) (ok_ms_outs : ms.2.2.2.1 ≤ 10) (ok_ma_sides : ∀ i, ma.2.2.1 i < 40) (ok_ms_nears : ms.2.2.2.2.1 ≤ 20) (ok_mk_nearOne : ∀ i, mk.2.1 i < 40) (ok_mk_nearTwo : ∀ i, mk.2.2.1 i < 40) (hp0 : zr < 3)  : bm_Wx l yX5_isWell wsX5_isWell ({ frames := 3, cells := 0, slots := 0, locals := 70 }) D vwCl [(cJ, .long), (cI, .int), (cZ, .boolean)] (WW ad cJ cI cZ bm pa p0 p1 p2 li wi mt ms ma mp mk mn ou) [.ref (ad 42), .int (nI zr)] (fun ws9 r9 => ws9 = (WW ad cJ cI cZ bm pa p0 p1 p2 li wi mt ms ma mp mk mn ou) ∧ ∃ b9 : Bool, r9 = some (.int (bm_b b9))) := by
  intro sz
  refine Met.ofW (cc := cX5_isWell) (maxL := 4) (ret := (some .boolean)) (by decide) rfl ?_
  intro p e s m args below meth c s₁ B hml hv
  obtain ⟨ha, hsz, hP, hK, hD0⟩ := hv
  have hx := B.exec
  have hb := B.bytes
  have hr := B.returns
  have hts := atoms_spec (ws := wsX5_isWell) B.pre
  have hown : s.vm.findClass RX5 = some m.cls := findClass_of_methodNamed B.named
  have hlocks := B.notSynchronized
  subst hsz
  have hD := hD0.self (sz := s.heap.size)
  generalize hAe : va_A (WW ad cJ cI cZ bm pa p0 p1 p2 li wi mt ms ma mp mk mn ou) s.heap.size = A at hD ⊢
  have hA : ∀ q : Nat, s.heap.size ≤ q → A q := fun q h => by rw [← hAe]; exact Or.inr h
  have hS : va_S A s.heap s.heap [] := va_S.rf
  have hl := lv_entry ([.ref (ad 42), .int (nI zr)]) (n := 4) (Nat.le_of_ble_eq_true rfl)
  refine W.eq (g2 := entryFrame m ([.ref (ad 42), .int (nI zr)] : List Value).toArray 4) (by rw [ha]) ?_
  rw [lg_entry_eq]
  generalize (lg_sl ([.ref (ad 42), .int (nI zr)]) ++ List.replicate (4 - (lg_sl ([.ref (ad 42), .int (nI zr)])).length) Slot.unset).toArray = ls at hl ⊢
  have hl : lv_has ls 4 [(0, .ref (ad 42)), (1, .int (nI zr))] := hl
  refine lv_iconst (v := nI 0) hx hb dX5_isWell_0 (by decide) ?_
  refine lv_istore_n (lv' := [(2, .int (nI 0)), (0, .ref (ad 42)), (1, .int (nI zr))]) hx hb dX5_isWell_1 rfl hl (by decide) rfl (fun ls hl => ?_)
  have lp_1 : ∀ (k_3 : Nat) (i_2 : Nat) , i_2 ≤ ms.2.2.1 → ms.2.2.1 < i_2 + k_3 → ∀ (H : Heap) (locs : List Loc), va_P D vwCl (WW ad cJ cI cZ bm pa p0 p1 p2 li wi mt ms ma mp mk mn ou) H → va_D A (WW ad cJ cI cZ bm pa p0 p1 p2 li wi mt ms ma mp mk mn ou) → va_S A s.heap H locs → ∀ (ls : Array Slot), lv_has ls 4 [(2, .int (nI i_2)), (0, .ref (ad 42)), (1, .int (nI zr))] → W p l e (headSpec wsX5_isWell ({ frames := 3, cells := 0, slots := 0, locals := 70 })).room s m args below meth c H locs 0 0 (MQ below (bm_Wxq D vwCl [(cJ, .long), (cI, .int), (cZ, .boolean)] (fun ws9 r9 => ws9 = (WW ad cJ cI cZ bm pa p0 p1 p2 li wi mt ms ma mp mk mn ou) ∧ ∃ b9 : Bool, r9 = some (.int (bm_b b9))) A) args s 0 0 A) (F0 m 2 ls []) := by
    intro k_3
    induction k_3 with
    | zero => intro i_2 hi_5 hk_6; exfalso; omega
    | succ k_3 ih_4 =>
      intro i_2 hi_5 hk_6  H locs hP hD hS ls hl
      refine lv_iload_n hx hb dX5_isWell_2 rfl (lv_at hl 0 rfl) ?_
      refine lv_aload_n hx hb dX5_isWell_3 rfl (lv_at hl 1 rfl) ?_
      refine va_get (D := D) (ci := 5) (v := .int (nI ms.2.2.1)) (C := RX5) (T := TX5) (N := 28) hx hb hts (inT inX5) hown hK hP 42 rfl rfl 3 (by decide) (hts (.fieldLink RX5 85 "BoardMovesModel" "parts" "I") (by decide +kernel)) (fun _ h9 => h9) rfl dX5_isWell_4 ?_
      refine bm_ni_ge (x := i_2) (y := ms.2.2.1) (tgt := 97) hx hb (by omega) (by omega) dX5_isWell_7 (by decide) (fun c_7 => ?_) (fun c_7 => ?_)
      · refine lv_iconst (v := bm_b true) hx hb dX5_isWell_97 (by decide) ?_
        refine lv_istore_n (lv' := [(2, .int (bm_b true)), (0, .ref (ad 42)), (1, .int (nI zr))]) hx hb dX5_isWell_98 rfl hl (by decide) rfl (fun ls hl => ?_)
        refine lv_iconst (v := nI 0) hx hb dX5_isWell_99 (by decide) ?_
        refine lv_istore_n (lv' := [(3, .int (nI 0)), (2, .int (bm_b true)), (0, .ref (ad 42)), (1, .int (nI zr))]) hx hb dX5_isWell_100 rfl hl (by decide) rfl (fun ls hl => ?_)
        have lp_8 : ∀ (k_10 : Nat) (i_9 : Nat) (v_12 : Bool), i_9 ≤ ms.2.2.2.2.1 → ms.2.2.2.2.1 < i_9 + k_10 → ∀ (H : Heap) (locs : List Loc), va_P D vwCl (WW ad cJ cI cZ bm pa p0 p1 p2 li wi mt ms ma mp mk mn ou) H → va_D A (WW ad cJ cI cZ bm pa p0 p1 p2 li wi mt ms ma mp mk mn ou) → va_S A s.heap H locs → ∀ (ls : Array Slot), lv_has ls 4 [(3, .int (nI i_9)), (2, .int (bm_b v_12)), (0, .ref (ad 42)), (1, .int (nI zr))] → W p l e (headSpec wsX5_isWell ({ frames := 3, cells := 0, slots := 0, locals := 70 })).room s m args below meth c H locs 0 0 (MQ below (bm_Wxq D vwCl [(cJ, .long), (cI, .int), (cZ, .boolean)] (fun ws9 r9 => ws9 = (WW ad cJ cI cZ bm pa p0 p1 p2 li wi mt ms ma mp mk mn ou) ∧ ∃ b9 : Bool, r9 = some (.int (bm_b b9))) A) args s 0 0 A) (F0 m 101 ls []) := by
          intro k_10
          induction k_10 with
          | zero => intro i_9 v_12 hi_13 hk_14; exfalso; omega
          | succ k_10 ih_11 =>
            intro i_9 v_12 hi_13 hk_14  H locs hP hD hS ls hl
            refine lv_iload_n hx hb dX5_isWell_101 rfl (lv_at hl 0 rfl) ?_
            refine lv_aload_n hx hb dX5_isWell_102 rfl (lv_at hl 2 rfl) ?_
            refine va_get (D := D) (ci := 5) (v := .int (nI ms.2.2.2.2.1)) (C := RX5) (T := TX5) (N := 28) hx hb hts (inT inX5) hown hK hP 42 rfl rfl 16 (by decide) (hts (.fieldLink RX5 126 "BoardMovesModel" "nears" "I") (by decide +kernel)) (fun _ h9 => h9) rfl dX5_isWell_103 ?_
            refine bm_ni_ge (x := i_9) (y := ms.2.2.2.2.1) (tgt := 134) hx hb (by omega) (by omega) dX5_isWell_106 (by decide) (fun c_15 => ?_) (fun c_15 => ?_)
            · refine lv_iload_n hx hb dX5_isWell_134 rfl (lv_at hl 1 rfl) ?_
              exact bm_zretX (v := v_12) hx hb hr hP hD hK hS ⟨rfl, v_12, rfl⟩ dX5_isWell_135 hlocks
            · refine lv_iload_n hx hb dX5_isWell_109 rfl (lv_at hl 1 rfl) ?_
              refine bm_zb_eq (x := v_12) (tgt := 126) hx hb dX5_isWell_110 (by decide) (fun c_16 => ?_) (fun c_16 => ?_)
              · refine lv_iconst (v := bm_b false) hx hb dX5_isWell_126 (by decide) ?_
                refine lv_istore_n (lv' := [(2, .int (bm_b false)), (3, .int (nI i_9)), (0, .ref (ad 42)), (1, .int (nI zr))]) hx hb dX5_isWell_127 rfl hl (by decide) rfl (fun ls hl => ?_)
                refine lv_iinc (v := (nI (i_9 + 1))) (lv' := [(3, .int (nI (i_9 + 1))), (2, .int (bm_b false)), (0, .ref (ad 42)), (1, .int (nI zr))]) hx hb dX5_isWell_128 hl (k := 1) rfl (nI_1 i_9) (by decide) rfl (fun ls hl => ?_)
                refine lv_goto (tgt := 101) hx hb dX5_isWell_131 (by decide) ?_
                exact ih_11 (i_9 + 1) false (by omega) (by omega)  _ _ hP hD hS _ (lv_sub hl [0, 1, 2, 3] rfl)
              · refine lv_aload_n hx hb dX5_isWell_113 rfl (lv_at hl 2 rfl) ?_
                refine lv_iload_n hx hb dX5_isWell_114 rfl (lv_at hl 3 rfl) ?_
                refine lv_iload_n hx hb dX5_isWell_115 rfl (lv_at hl 0 rfl) ?_
                refine bm_xcallV (As := [.int (nI zr), .int (nI i_9)]) (rest := []) ⟨hx, hb, hml, hown, hts⟩ (y_isNear  (zr := zr) (zk := i_9) ok_mp_turns ok_mk_nearOne ok_mk_nearTwo (by omega) (by omega)) (cwV 2 hts (gdV (by decide +kernel) (by decide +kernel) (by decide +kernel) (by decide +kernel) (by decide +kernel)) rfl rfl rfl (by decide +kernel) ⟨Nat.le_of_ble_eq_true rfl, Nat.le_of_ble_eq_true rfl⟩) hK hP hD hS hA 42 5 rfl rfl rfl hl.1 rfl (Nat.le_of_ble_eq_true rfl) dX5_isWell_116 ⟨Nat.le_of_ble_eq_true rfl, Nat.le_of_ble_eq_true rfl⟩ (fun ws_17 r_18 h_19 H locs hP hD hS => ?_)
                obtain ⟨rfl, v_20, rfl⟩ := h_19
                have hP : va_P D vwCl (WW ad cJ cI cZ bm pa p0 p1 p2 li wi mt ms ma mp mk mn ou) H := hP
                have hD : va_D A (WW ad cJ cI cZ bm pa p0 p1 p2 li wi mt ms ma mp mk mn ou) := hD
                refine bm_zb_eq (x := v_20) (tgt := 126) hx hb dX5_isWell_119 (by decide) (fun c_21 => ?_) (fun c_21 => ?_)
                · refine lv_iconst (v := bm_b false) hx hb dX5_isWell_126 (by decide) ?_
                  refine lv_istore_n (lv' := [(2, .int (bm_b false)), (3, .int (nI i_9)), (0, .ref (ad 42)), (1, .int (nI zr))]) hx hb dX5_isWell_127 rfl hl (by decide) rfl (fun ls hl => ?_)
                  refine lv_iinc (v := (nI (i_9 + 1))) (lv' := [(3, .int (nI (i_9 + 1))), (2, .int (bm_b false)), (0, .ref (ad 42)), (1, .int (nI zr))]) hx hb dX5_isWell_128 hl (k := 1) rfl (nI_1 i_9) (by decide) rfl (fun ls hl => ?_)
                  refine lv_goto (tgt := 101) hx hb dX5_isWell_131 (by decide) ?_
                  exact ih_11 (i_9 + 1) false (by omega) (by omega)  _ _ hP hD hS _ (lv_sub hl [0, 1, 2, 3] rfl)
                · refine lv_iconst (v := bm_b true) hx hb dX5_isWell_122 (by decide) ?_
                  refine lv_goto (tgt := 127) hx hb dX5_isWell_123 (by decide) ?_
                  refine lv_istore_n (lv' := [(2, .int (bm_b true)), (3, .int (nI i_9)), (0, .ref (ad 42)), (1, .int (nI zr))]) hx hb dX5_isWell_127 rfl hl (by decide) rfl (fun ls hl => ?_)
                  refine lv_iinc (v := (nI (i_9 + 1))) (lv' := [(3, .int (nI (i_9 + 1))), (2, .int (bm_b true)), (0, .ref (ad 42)), (1, .int (nI zr))]) hx hb dX5_isWell_128 hl (k := 1) rfl (nI_1 i_9) (by decide) rfl (fun ls hl => ?_)
                  refine lv_goto (tgt := 101) hx hb dX5_isWell_131 (by decide) ?_
                  exact ih_11 (i_9 + 1) true (by omega) (by omega)  _ _ hP hD hS _ (lv_sub hl [0, 1, 2, 3] rfl)
        exact lp_8 (ms.2.2.2.2.1 + 1) 0 true (by omega) (by omega)  _ _ hP hD hS _ (lv_sub hl [0, 1, 2, 3] rfl)
      · refine lv_aload_n hx hb dX5_isWell_10 rfl (lv_at hl 1 rfl) ?_
        refine va_get (D := D) (ci := 5) (v := .ref (ad 49)) (C := RX5) (T := TX5) (N := 28) hx hb hts (inT inX5) hown hK hP 42 rfl rfl 10 (by decide) (hts (.fieldLink RX5 30 "BoardMovesModel" "placed" "[Z") (by decide +kernel)) (fun _ h9 => h9) rfl dX5_isWell_11 ?_
        refine lv_iload_n hx hb dX5_isWell_14 rfl (lv_at hl 0 rfl) ?_
        refine bm_zald (f := ma.2.2.2.2.2.2) hx hb hK hP 49 2 rfl rfl (j := i_2) (by omega) (by decide) dX5_isWell_15 ?_
        refine bm_zb_ne (x := (ma.2.2.2.2.2.2 i_2)) (tgt := 22) hx hb dX5_isWell_16 (by decide) (fun c_22 => ?_) (fun c_22 => ?_)
        · refine lv_aload_n hx hb dX5_isWell_22 rfl (lv_at hl 1 rfl) ?_
          refine lv_iload_n hx hb dX5_isWell_23 rfl (lv_at hl 2 rfl) ?_
          refine lv_iload_n hx hb dX5_isWell_24 rfl (lv_at hl 0 rfl) ?_
          refine bm_xcallV (As := [.int (nI zr), .int (nI i_2)]) (rest := []) ⟨hx, hb, hml, hown, hts⟩ (y_onBoard  (zr := zr) (zp := i_2) ok_mp_turns (by omega) (by omega)) (cwV 2 hts (gdV (by decide +kernel) (by decide +kernel) (by decide +kernel) (by decide +kernel) (by decide +kernel)) rfl rfl rfl (by decide +kernel) ⟨Nat.le_of_ble_eq_true rfl, Nat.le_of_ble_eq_true rfl⟩) hK hP hD hS hA 42 5 rfl rfl rfl hl.1 rfl (Nat.le_of_ble_eq_true rfl) dX5_isWell_25 ⟨Nat.le_of_ble_eq_true rfl, Nat.le_of_ble_eq_true rfl⟩ (fun ws_23 r_24 h_25 H locs hP hD hS => ?_)
          obtain ⟨rfl, v_26, rfl⟩ := h_25
          have hP : va_P D vwCl (WW ad cJ cI cZ bm pa p0 p1 p2 li wi mt ms ma mp mk mn ou) H := hP
          have hD : va_D A (WW ad cJ cI cZ bm pa p0 p1 p2 li wi mt ms ma mp mk mn ou) := hD
          refine bm_zb_eq (x := v_26) (tgt := 40) hx hb dX5_isWell_28 (by decide) (fun c_27 => ?_) (fun c_27 => ?_)
          · refine lv_iconst (v := bm_b false) hx hb dX5_isWell_40 (by decide) ?_
            exact bm_zretX (v := false) hx hb hr hP hD hK hS ⟨rfl, false, rfl⟩ dX5_isWell_41 hlocks
          · refine lv_aload_n hx hb dX5_isWell_31 rfl (lv_at hl 1 rfl) ?_
            refine lv_iload_n hx hb dX5_isWell_32 rfl (lv_at hl 2 rfl) ?_
            refine lv_iload_n hx hb dX5_isWell_33 rfl (lv_at hl 0 rfl) ?_
            refine bm_xcallV (As := [.int (nI zr), .int (nI i_2)]) (rest := []) ⟨hx, hb, hml, hown, hts⟩ (y_keptOut  (zr := zr) (zp := i_2) ok_mp_turns ok_ms_outs (by omega) (by omega)) (cwV 2 hts (gdV (by decide +kernel) (by decide +kernel) (by decide +kernel) (by decide +kernel) (by decide +kernel)) rfl rfl rfl (by decide +kernel) ⟨Nat.le_of_ble_eq_true rfl, Nat.le_of_ble_eq_true rfl⟩) hK hP hD hS hA 42 5 rfl rfl rfl hl.1 rfl (Nat.le_of_ble_eq_true rfl) dX5_isWell_34 ⟨Nat.le_of_ble_eq_true rfl, Nat.le_of_ble_eq_true rfl⟩ (fun ws_28 r_29 h_30 H locs hP hD hS => ?_)
            obtain ⟨rfl, v_31, rfl⟩ := h_30
            have hP : va_P D vwCl (WW ad cJ cI cZ bm pa p0 p1 p2 li wi mt ms ma mp mk mn ou) H := hP
            have hD : va_D A (WW ad cJ cI cZ bm pa p0 p1 p2 li wi mt ms ma mp mk mn ou) := hD
            refine bm_zb_eq (x := v_31) (tgt := 42) hx hb dX5_isWell_37 (by decide) (fun c_32 => ?_) (fun c_32 => ?_)
            · refine lv_iconst (v := nI 0) hx hb dX5_isWell_42 (by decide) ?_
              refine lv_istore_n (lv' := [(3, .int (nI 0)), (2, .int (nI i_2)), (0, .ref (ad 42)), (1, .int (nI zr))]) hx hb dX5_isWell_43 rfl hl (by decide) rfl (fun ls hl => ?_)
              have lp_33 : ∀ (k_35 : Nat) (i_34 : Nat) , i_34 ≤ i_2 → i_2 < i_34 + k_35 → ∀ (H : Heap) (locs : List Loc), va_P D vwCl (WW ad cJ cI cZ bm pa p0 p1 p2 li wi mt ms ma mp mk mn ou) H → va_D A (WW ad cJ cI cZ bm pa p0 p1 p2 li wi mt ms ma mp mk mn ou) → va_S A s.heap H locs → ∀ (ls : Array Slot), lv_has ls 4 [(3, .int (nI i_34)), (2, .int (nI i_2)), (0, .ref (ad 42)), (1, .int (nI zr))] → W p l e (headSpec wsX5_isWell ({ frames := 3, cells := 0, slots := 0, locals := 70 })).room s m args below meth c H locs 0 0 (MQ below (bm_Wxq D vwCl [(cJ, .long), (cI, .int), (cZ, .boolean)] (fun ws9 r9 => ws9 = (WW ad cJ cI cZ bm pa p0 p1 p2 li wi mt ms ma mp mk mn ou) ∧ ∃ b9 : Bool, r9 = some (.int (bm_b b9))) A) args s 0 0 A) (F0 m 44 ls []) := by
                intro k_35
                induction k_35 with
                | zero => intro i_34 hi_37 hk_38; exfalso; omega
                | succ k_35 ih_36 =>
                  intro i_34 hi_37 hk_38  H locs hP hD hS ls hl
                  refine lv_iload_n hx hb dX5_isWell_44 rfl (lv_at hl 0 rfl) ?_
                  refine lv_iload_n hx hb dX5_isWell_45 rfl (lv_at hl 1 rfl) ?_
                  refine bm_ni_ge (x := i_34) (y := i_2) (tgt := 91) hx hb (by omega) (by omega) dX5_isWell_46 (by decide) (fun c_39 => ?_) (fun c_39 => ?_)
                  · refine lv_iinc (v := (nI (i_2 + 1))) (lv' := [(2, .int (nI (i_2 + 1))), (3, .int (nI i_34)), (0, .ref (ad 42)), (1, .int (nI zr))]) hx hb dX5_isWell_91 hl (k := 1) rfl (nI_1 i_2) (by decide) rfl (fun ls hl => ?_)
                    refine lv_goto (tgt := 2) hx hb dX5_isWell_94 (by decide) ?_
                    exact ih_4 (i_2 + 1) (by omega) (by omega)  _ _ hP hD hS _ (lv_sub hl [0, 2, 3] rfl)
                  · refine lv_aload_n hx hb dX5_isWell_49 rfl (lv_at hl 2 rfl) ?_
                    refine va_get (D := D) (ci := 5) (v := .ref (ad 49)) (C := RX5) (T := TX5) (N := 28) hx hb hts (inT inX5) hown hK hP 42 rfl rfl 10 (by decide) (hts (.fieldLink RX5 30 "BoardMovesModel" "placed" "[Z") (by decide +kernel)) (fun _ h9 => h9) rfl dX5_isWell_50 ?_
                    refine lv_iload_n hx hb dX5_isWell_53 rfl (lv_at hl 0 rfl) ?_
                    refine bm_zald (f := ma.2.2.2.2.2.2) hx hb hK hP 49 2 rfl rfl (j := i_34) (by omega) (by decide) dX5_isWell_54 ?_
                    refine bm_zb_eq (x := (ma.2.2.2.2.2.2 i_34)) (tgt := 85) hx hb dX5_isWell_55 (by decide) (fun c_40 => ?_) (fun c_40 => ?_)
                    · refine lv_iinc (v := (nI (i_34 + 1))) (lv' := [(3, .int (nI (i_34 + 1))), (2, .int (nI i_2)), (0, .ref (ad 42)), (1, .int (nI zr))]) hx hb dX5_isWell_85 hl (k := 0) rfl (nI_1 i_34) (by decide) rfl (fun ls hl => ?_)
                      refine lv_goto (tgt := 44) hx hb dX5_isWell_88 (by decide) ?_
                      exact ih_36 (i_34 + 1) (by omega) (by omega)  _ _ hP hD hS _ (lv_sub hl [0, 1, 2, 3] rfl)
                    · refine lv_aload_n hx hb dX5_isWell_58 rfl (lv_at hl 2 rfl) ?_
                      refine va_get (D := D) (ci := 5) (v := .ref (ad 45)) (C := RX5) (T := TX5) (N := 28) hx hb hts (inT inX5) hown hK hP 42 rfl rfl 6 (by decide) (hts (.fieldLink RX5 16 "BoardMovesModel" "sides" "[I") (by decide +kernel)) (fun _ h9 => h9) rfl dX5_isWell_59 ?_
                      refine lv_iload_n hx hb dX5_isWell_62 rfl (lv_at hl 1 rfl) ?_
                      refine bm_nald (f := ma.2.2.1) hx hb hK hP 45 1 rfl rfl (j := i_2) (by omega) (by decide) dX5_isWell_63 ?_
                      refine lv_aload_n hx hb dX5_isWell_64 rfl (lv_at hl 2 rfl) ?_
                      refine va_get (D := D) (ci := 5) (v := .ref (ad 45)) (C := RX5) (T := TX5) (N := 28) hx hb hts (inT inX5) hown hK hP 42 rfl rfl 6 (by decide) (hts (.fieldLink RX5 16 "BoardMovesModel" "sides" "[I") (by decide +kernel)) (fun _ h9 => h9) rfl dX5_isWell_65 ?_
                      refine lv_iload_n hx hb dX5_isWell_68 rfl (lv_at hl 0 rfl) ?_
                      refine bm_nald (f := ma.2.2.1) hx hb hK hP 45 1 rfl rfl (j := i_34) (by omega) (by decide) dX5_isWell_69 ?_
                      refine bm_ni_ne (x := (ma.2.2.1 i_2)) (y := (ma.2.2.1 i_34)) (tgt := 85) hx hb (bm40 (ok_ma_sides _)) (bm40 (ok_ma_sides _)) dX5_isWell_70 (by decide) (fun c_41 => ?_) (fun c_41 => ?_)
                      · refine lv_iinc (v := (nI (i_34 + 1))) (lv' := [(3, .int (nI (i_34 + 1))), (2, .int (nI i_2)), (0, .ref (ad 42)), (1, .int (nI zr))]) hx hb dX5_isWell_85 hl (k := 0) rfl (nI_1 i_34) (by decide) rfl (fun ls hl => ?_)
                        refine lv_goto (tgt := 44) hx hb dX5_isWell_88 (by decide) ?_
                        exact ih_36 (i_34 + 1) (by omega) (by omega)  _ _ hP hD hS _ (lv_sub hl [0, 1, 2, 3] rfl)
                      · refine lv_aload_n hx hb dX5_isWell_73 rfl (lv_at hl 2 rfl) ?_
                        refine lv_iload_n hx hb dX5_isWell_74 rfl (lv_at hl 3 rfl) ?_
                        refine lv_iload_n hx hb dX5_isWell_75 rfl (lv_at hl 1 rfl) ?_
                        refine lv_iload_n hx hb dX5_isWell_76 rfl (lv_at hl 0 rfl) ?_
                        refine bm_xcallV (As := [.int (nI zr), .int (nI i_2), .int (nI i_34)]) (rest := []) ⟨hx, hb, hml, hown, hts⟩ (y_overlap  (zr := zr) (zp := i_2) (zq := i_34) ok_mp_turns (by omega) (by omega) (by omega)) (cwV 3 hts (gdV (by decide +kernel) (by decide +kernel) (by decide +kernel) (by decide +kernel) (by decide +kernel)) rfl rfl rfl (by decide +kernel) ⟨Nat.le_of_ble_eq_true rfl, Nat.le_of_ble_eq_true rfl⟩) hK hP hD hS hA 42 5 rfl rfl rfl hl.1 rfl (Nat.le_of_ble_eq_true rfl) dX5_isWell_77 ⟨Nat.le_of_ble_eq_true rfl, Nat.le_of_ble_eq_true rfl⟩ (fun ws_42 r_43 h_44 H locs hP hD hS => ?_)
                        obtain ⟨rfl, v_45, rfl⟩ := h_44
                        have hP : va_P D vwCl (WW ad cJ cI cZ bm pa p0 p1 p2 li wi mt ms ma mp mk mn ou) H := hP
                        have hD : va_D A (WW ad cJ cI cZ bm pa p0 p1 p2 li wi mt ms ma mp mk mn ou) := hD
                        refine bm_zb_eq (x := v_45) (tgt := 85) hx hb dX5_isWell_80 (by decide) (fun c_46 => ?_) (fun c_46 => ?_)
                        · refine lv_iinc (v := (nI (i_34 + 1))) (lv' := [(3, .int (nI (i_34 + 1))), (2, .int (nI i_2)), (0, .ref (ad 42)), (1, .int (nI zr))]) hx hb dX5_isWell_85 hl (k := 0) rfl (nI_1 i_34) (by decide) rfl (fun ls hl => ?_)
                          refine lv_goto (tgt := 44) hx hb dX5_isWell_88 (by decide) ?_
                          exact ih_36 (i_34 + 1) (by omega) (by omega)  _ _ hP hD hS _ (lv_sub hl [0, 1, 2, 3] rfl)
                        · refine lv_iconst (v := bm_b false) hx hb dX5_isWell_83 (by decide) ?_
                          exact bm_zretX (v := false) hx hb hr hP hD hK hS ⟨rfl, false, rfl⟩ dX5_isWell_84 hlocks
              exact lp_33 (i_2 + 1) 0 (by omega) (by omega)  _ _ hP hD hS _ (lv_sub hl [0, 1, 2, 3] rfl)
            · refine lv_iconst (v := bm_b false) hx hb dX5_isWell_40 (by decide) ?_
              exact bm_zretX (v := false) hx hb hr hP hD hK hS ⟨rfl, false, rfl⟩ dX5_isWell_41 hlocks
        · refine lv_goto (tgt := 91) hx hb dX5_isWell_19 (by decide) ?_
          refine lv_iinc (v := (nI (i_2 + 1))) (lv' := [(2, .int (nI (i_2 + 1))), (0, .ref (ad 42)), (1, .int (nI zr))]) hx hb dX5_isWell_91 hl (k := 0) rfl (nI_1 i_2) (by decide) rfl (fun ls hl => ?_)
          refine lv_goto (tgt := 2) hx hb dX5_isWell_94 (by decide) ?_
          exact ih_4 (i_2 + 1) (by omega) (by omega)  _ _ hP hD hS _ (lv_sub hl [0, 1, 2] rfl)
  exact lp_1 (ms.2.2.1 + 1) 0 (by omega) (by omega)  _ _ hP hD hS _ (lv_sub hl [0, 1, 2] rfl)
end
section
set_option maxHeartbeats 8000000 in
set_option maxRecDepth 100000 in
theorem y_copy {l : Launch} {D : va_G} {ad : Nat → Nat} {cJ cI cZ : ClassId} {bm : gBM} {pa : gPA} {p0 p1 p2 : gPL} {li : gLI} {wi : gWI} {mt : Nat} {ms : gMS} {ma : gMA} {mp : gMP} {mk : gMK} {mn : gMN} {ou : Nat → Int64} {zt : Nat} {zf : Nat} (ok_mp_turns : ∀ i, mp.2.2 i < 40) (hp0 : zt < 3) (hp1 : zf < 3)  : bm_Wx l yX5_copy wsX5_copy ({ frames := 0, cells := 0, slots := 0, locals := 0 }) D vwCl [(cJ, .long), (cI, .int), (cZ, .boolean)] (WW ad cJ cI cZ bm pa p0 p1 p2 li wi mt ms ma mp mk mn ou) [.ref (ad 42), .int (nI zt), .int (nI zf)] (fun ws9 r9 => ∃ (e0 : Nat → Int64) (e1 : Nat → Int64) (e2 : Nat → Nat) , (∀ i, e2 i < 40) ∧ ws9 = (WW ad cJ cI cZ bm pa p0 p1 p2 li wi mt ms ma (e0, e1, e2) mk mn ou) ∧ r9 = none) := by
  intro sz
  refine Met.ofW (cc := cX5_copy) (maxL := 4) (ret := none) (by decide) rfl ?_
  intro p e s m args below meth c s₁ B hml hv
  obtain ⟨ha, hsz, hP, hK, hD0⟩ := hv
  have hx := B.exec
  have hb := B.bytes
  have hr := B.returns
  have hts := atoms_spec (ws := wsX5_copy) B.pre
  have hown : s.vm.findClass RX5 = some m.cls := findClass_of_methodNamed B.named
  have hlocks := B.notSynchronized
  subst hsz
  have hD := hD0.self (sz := s.heap.size)
  generalize hAe : va_A (WW ad cJ cI cZ bm pa p0 p1 p2 li wi mt ms ma mp mk mn ou) s.heap.size = A at hD ⊢
  have hA : ∀ q : Nat, s.heap.size ≤ q → A q := fun q h => by rw [← hAe]; exact Or.inr h
  have hS : va_S A s.heap s.heap [] := va_S.rf
  have hl := lv_entry ([.ref (ad 42), .int (nI zt), .int (nI zf)]) (n := 4) (Nat.le_of_ble_eq_true rfl)
  refine W.eq (g2 := entryFrame m ([.ref (ad 42), .int (nI zt), .int (nI zf)] : List Value).toArray 4) (by rw [ha]) ?_
  rw [lg_entry_eq]
  generalize (lg_sl ([.ref (ad 42), .int (nI zt), .int (nI zf)]) ++ List.replicate (4 - (lg_sl ([.ref (ad 42), .int (nI zt), .int (nI zf)])).length) Slot.unset).toArray = ls at hl ⊢
  have hl : lv_has ls 4 [(0, .ref (ad 42)), (1, .int (nI zt)), (2, .int (nI zf))] := hl
  refine lv_iconst (v := nI 0) hx hb dX5_copy_0 (by decide) ?_
  refine lv_istore_n (lv' := [(3, .int (nI 0)), (0, .ref (ad 42)), (1, .int (nI zt)), (2, .int (nI zf))]) hx hb dX5_copy_1 rfl hl (by decide) rfl (fun ls hl => ?_)
  have lp_1 : ∀ (k_3 : Nat) (i_2 : Nat) (g_5 : Nat → Int64) (g_6 : Nat → Int64) (g_7 : Nat → Nat), i_2 ≤ 40 → 40 < i_2 + k_3 → (∀ i, g_7 i < 40) → ∀ (H : Heap) (locs : List Loc), va_P D vwCl (WW ad cJ cI cZ bm pa p0 p1 p2 li wi mt ms ma (g_5, g_6, g_7) mk mn ou) H → va_D A (WW ad cJ cI cZ bm pa p0 p1 p2 li wi mt ms ma (g_5, g_6, g_7) mk mn ou) → va_S A s.heap H locs → ∀ (ls : Array Slot), lv_has ls 4 [(3, .int (nI i_2)), (0, .ref (ad 42)), (1, .int (nI zt)), (2, .int (nI zf))] → W p l e (headSpec wsX5_copy ({ frames := 0, cells := 0, slots := 0, locals := 0 })).room s m args below meth c H locs 0 0 (MQ below (bm_Wxq D vwCl [(cJ, .long), (cI, .int), (cZ, .boolean)] (fun ws9 r9 => ∃ (e0 : Nat → Int64) (e1 : Nat → Int64) (e2 : Nat → Nat) , (∀ i, e2 i < 40) ∧ ws9 = (WW ad cJ cI cZ bm pa p0 p1 p2 li wi mt ms ma (e0, e1, e2) mk mn ou) ∧ r9 = none) A) args s 0 0 A) (F0 m 2 ls []) := by
    intro k_3
    induction k_3 with
    | zero => intro i_2 g_5 g_6 g_7 hi_9 hk_10; exfalso; omega
    | succ k_3 ih_4 =>
      intro i_2 g_5 g_6 g_7 hi_9 hk_10 ok_8 H locs hP hD hS ls hl
      refine lv_iload_n hx hb dX5_copy_2 rfl (lv_at hl 0 rfl) ?_
      refine lv_bipush (v := nI 40) hx hb dX5_copy_3 (by decide) ?_
      refine bm_ni_ge (x := i_2) (y := 40) (tgt := 80) hx hb (by omega) (by omega) dX5_copy_5 (by decide) (fun c_11 => ?_) (fun c_11 => ?_)
      · exact bm_vretX hx hb hr hP hD hK hS ⟨g_5, g_6, g_7, ok_8, rfl, rfl⟩ dX5_copy_80 hlocks
      · refine lv_aload_n hx hb dX5_copy_8 rfl (lv_at hl 1 rfl) ?_
        refine va_get (D := D) (ci := 5) (v := .ref (ad 50)) (C := RX5) (T := TX5) (N := 28) hx hb hts (inT inX5) hown hK hP 42 rfl rfl 11 (by decide) (hts (.fieldLink RX5 33 "BoardMovesModel" "x" "[J") (by decide +kernel)) (fun _ h9 => h9) rfl dX5_copy_9 ?_
        refine lv_bipush (v := nI 40) hx hb dX5_copy_12 (by decide) ?_
        refine lv_iload_n hx hb dX5_copy_14 rfl (lv_at hl 2 rfl) ?_
        refine bm_nmul hx hb dX5_copy_15 ?_
        refine lv_iload_n hx hb dX5_copy_16 rfl (lv_at hl 0 rfl) ?_
        refine bm_nadd hx hb dX5_copy_17 ?_
        refine lv_aload_n hx hb dX5_copy_18 rfl (lv_at hl 1 rfl) ?_
        refine va_get (D := D) (ci := 5) (v := .ref (ad 50)) (C := RX5) (T := TX5) (N := 28) hx hb hts (inT inX5) hown hK hP 42 rfl rfl 11 (by decide) (hts (.fieldLink RX5 33 "BoardMovesModel" "x" "[J") (by decide +kernel)) (fun _ h9 => h9) rfl dX5_copy_19 ?_
        refine lv_bipush (v := nI 40) hx hb dX5_copy_22 (by decide) ?_
        refine lv_iload_n hx hb dX5_copy_24 rfl (lv_at hl 3 rfl) ?_
        refine bm_nmul hx hb dX5_copy_25 ?_
        refine lv_iload_n hx hb dX5_copy_26 rfl (lv_at hl 0 rfl) ?_
        refine bm_nadd hx hb dX5_copy_27 ?_
        refine bm_lald (f := g_5) hx hb hK hP 50 0 rfl rfl (j := ((40 * zf) + i_2)) (by omega) (by decide) dX5_copy_28 ?_
        refine lv_topl (fun t_12 _ => ?_)
        refine bm_last (f := g_5) hx hb hK hP hD hS 50 0 rfl rfl (j := ((40 * zt) + i_2)) (x := t_12) (by omega) (by decide) dX5_copy_29 (fun H locs hP hD hS => ?_)
        have hP : va_P D vwCl (WW ad cJ cI cZ bm pa p0 p1 p2 li wi mt ms ma (va_up g_5 ((40 * zt) + i_2) t_12, g_6, g_7) mk mn ou) H := hP
        have hD : va_D A (WW ad cJ cI cZ bm pa p0 p1 p2 li wi mt ms ma (va_up g_5 ((40 * zt) + i_2) t_12, g_6, g_7) mk mn ou) := hD
        refine lv_aload_n hx hb dX5_copy_30 rfl (lv_at hl 1 rfl) ?_
        refine va_get (D := D) (ci := 5) (v := .ref (ad 51)) (C := RX5) (T := TX5) (N := 28) hx hb hts (inT inX5) hown hK hP 42 rfl rfl 12 (by decide) (hts (.fieldLink RX5 36 "BoardMovesModel" "y" "[J") (by decide +kernel)) (fun _ h9 => h9) rfl dX5_copy_31 ?_
        refine lv_bipush (v := nI 40) hx hb dX5_copy_34 (by decide) ?_
        refine lv_iload_n hx hb dX5_copy_36 rfl (lv_at hl 2 rfl) ?_
        refine bm_nmul hx hb dX5_copy_37 ?_
        refine lv_iload_n hx hb dX5_copy_38 rfl (lv_at hl 0 rfl) ?_
        refine bm_nadd hx hb dX5_copy_39 ?_
        refine lv_aload_n hx hb dX5_copy_40 rfl (lv_at hl 1 rfl) ?_
        refine va_get (D := D) (ci := 5) (v := .ref (ad 51)) (C := RX5) (T := TX5) (N := 28) hx hb hts (inT inX5) hown hK hP 42 rfl rfl 12 (by decide) (hts (.fieldLink RX5 36 "BoardMovesModel" "y" "[J") (by decide +kernel)) (fun _ h9 => h9) rfl dX5_copy_41 ?_
        refine lv_bipush (v := nI 40) hx hb dX5_copy_44 (by decide) ?_
        refine lv_iload_n hx hb dX5_copy_46 rfl (lv_at hl 3 rfl) ?_
        refine bm_nmul hx hb dX5_copy_47 ?_
        refine lv_iload_n hx hb dX5_copy_48 rfl (lv_at hl 0 rfl) ?_
        refine bm_nadd hx hb dX5_copy_49 ?_
        refine bm_lald (f := g_6) hx hb hK hP 51 0 rfl rfl (j := ((40 * zf) + i_2)) (by omega) (by decide) dX5_copy_50 ?_
        refine lv_topl (fun t_13 _ => ?_)
        refine bm_last (f := g_6) hx hb hK hP hD hS 51 0 rfl rfl (j := ((40 * zt) + i_2)) (x := t_13) (by omega) (by decide) dX5_copy_51 (fun H locs hP hD hS => ?_)
        have hP : va_P D vwCl (WW ad cJ cI cZ bm pa p0 p1 p2 li wi mt ms ma (va_up g_5 ((40 * zt) + i_2) t_12, va_up g_6 ((40 * zt) + i_2) t_13, g_7) mk mn ou) H := hP
        have hD : va_D A (WW ad cJ cI cZ bm pa p0 p1 p2 li wi mt ms ma (va_up g_5 ((40 * zt) + i_2) t_12, va_up g_6 ((40 * zt) + i_2) t_13, g_7) mk mn ou) := hD
        refine lv_aload_n hx hb dX5_copy_52 rfl (lv_at hl 1 rfl) ?_
        refine va_get (D := D) (ci := 5) (v := .ref (ad 52)) (C := RX5) (T := TX5) (N := 28) hx hb hts (inT inX5) hown hK hP 42 rfl rfl 13 (by decide) (hts (.fieldLink RX5 39 "BoardMovesModel" "turns" "[I") (by decide +kernel)) (fun _ h9 => h9) rfl dX5_copy_53 ?_
        refine lv_bipush (v := nI 40) hx hb dX5_copy_56 (by decide) ?_
        refine lv_iload_n hx hb dX5_copy_58 rfl (lv_at hl 2 rfl) ?_
        refine bm_nmul hx hb dX5_copy_59 ?_
        refine lv_iload_n hx hb dX5_copy_60 rfl (lv_at hl 0 rfl) ?_
        refine bm_nadd hx hb dX5_copy_61 ?_
        refine lv_aload_n hx hb dX5_copy_62 rfl (lv_at hl 1 rfl) ?_
        refine va_get (D := D) (ci := 5) (v := .ref (ad 52)) (C := RX5) (T := TX5) (N := 28) hx hb hts (inT inX5) hown hK hP 42 rfl rfl 13 (by decide) (hts (.fieldLink RX5 39 "BoardMovesModel" "turns" "[I") (by decide +kernel)) (fun _ h9 => h9) rfl dX5_copy_63 ?_
        refine lv_bipush (v := nI 40) hx hb dX5_copy_66 (by decide) ?_
        refine lv_iload_n hx hb dX5_copy_68 rfl (lv_at hl 3 rfl) ?_
        refine bm_nmul hx hb dX5_copy_69 ?_
        refine lv_iload_n hx hb dX5_copy_70 rfl (lv_at hl 0 rfl) ?_
        refine bm_nadd hx hb dX5_copy_71 ?_
        refine bm_nald (f := g_7) hx hb hK hP 52 1 rfl rfl (j := ((40 * zf) + i_2)) (by omega) (by decide) dX5_copy_72 ?_
        refine bm_nast (f := g_7) hx hb hK hP hD hS 52 1 rfl rfl (j := ((40 * zt) + i_2)) (x := (g_7 ((40 * zf) + i_2))) (by omega) (by decide) dX5_copy_73 (fun H locs hP hD hS => ?_)
        have hP : va_P D vwCl (WW ad cJ cI cZ bm pa p0 p1 p2 li wi mt ms ma (va_up g_5 ((40 * zt) + i_2) t_12, va_up g_6 ((40 * zt) + i_2) t_13, va_up g_7 ((40 * zt) + i_2) (g_7 ((40 * zf) + i_2))) mk mn ou) H := hP
        have hD : va_D A (WW ad cJ cI cZ bm pa p0 p1 p2 li wi mt ms ma (va_up g_5 ((40 * zt) + i_2) t_12, va_up g_6 ((40 * zt) + i_2) t_13, va_up g_7 ((40 * zt) + i_2) (g_7 ((40 * zf) + i_2))) mk mn ou) := hD
        refine lv_iinc (v := (nI (i_2 + 1))) (lv' := [(3, .int (nI (i_2 + 1))), (0, .ref (ad 42)), (1, .int (nI zt)), (2, .int (nI zf))]) hx hb dX5_copy_74 hl (k := 0) rfl (nI_1 i_2) (by decide) rfl (fun ls hl => ?_)
        refine lv_goto (tgt := 2) hx hb dX5_copy_77 (by decide) ?_
        exact ih_4 (i_2 + 1) (va_up g_5 ((40 * zt) + i_2) t_12) (va_up g_6 ((40 * zt) + i_2) t_13) (va_up g_7 ((40 * zt) + i_2) (g_7 ((40 * zf) + i_2))) (by omega) (by omega) (bx_uplt ok_8 (ok_8 _)) _ _ hP hD hS _ (lv_sub hl [0, 1, 2, 3] rfl)
  exact lp_1 (40 + 1) 0 mp.1 mp.2.1 mp.2.2 (by omega) (by omega) ok_mp_turns _ _ hP hD hS _ (lv_sub hl [0, 1, 2, 3] rfl)

set_option maxHeartbeats 8000000 in
set_option maxRecDepth 100000 in
theorem y_same {l : Launch} {D : va_G} {ad : Nat → Nat} {cJ cI cZ : ClassId} {bm : gBM} {pa : gPA} {p0 p1 p2 : gPL} {li : gLI} {wi : gWI} {mt : Nat} {ms : gMS} {ma : gMA} {mp : gMP} {mk : gMK} {mn : gMN} {ou : Nat → Int64} {zr : Nat} {zp : Nat} (ok_mp_turns : ∀ i, mp.2.2 i < 40) (hp0 : zr < 3) (hp1 : zp < 40)  : bm_Wx l yX5_isSame wsX5_isSame ({ frames := 1, cells := 0, slots := 0, locals := 22 }) D vwCl [(cJ, .long), (cI, .int), (cZ, .boolean)] (WW ad cJ cI cZ bm pa p0 p1 p2 li wi mt ms ma mp mk mn ou) [.ref (ad 42), .int (nI zr), .int (nI zp)] (fun ws9 r9 => ws9 = (WW ad cJ cI cZ bm pa p0 p1 p2 li wi mt ms ma mp mk mn ou) ∧ ∃ b9 : Bool, r9 = some (.int (bm_b b9))) := by
  intro sz
  refine Met.ofW (cc := cX5_isSame) (maxL := 3) (ret := (some .boolean)) (by decide) rfl ?_
  intro p e s m args below meth c s₁ B hml hv
  obtain ⟨ha, hsz, hP, hK, hD0⟩ := hv
  have hx := B.exec
  have hb := B.bytes
  have hr := B.returns
  have hts := atoms_spec (ws := wsX5_isSame) B.pre
  have hown : s.vm.findClass RX5 = some m.cls := findClass_of_methodNamed B.named
  have hlocks := B.notSynchronized
  subst hsz
  have hD := hD0.self (sz := s.heap.size)
  generalize hAe : va_A (WW ad cJ cI cZ bm pa p0 p1 p2 li wi mt ms ma mp mk mn ou) s.heap.size = A at hD ⊢
  have hA : ∀ q : Nat, s.heap.size ≤ q → A q := fun q h => by rw [← hAe]; exact Or.inr h
  have hS : va_S A s.heap s.heap [] := va_S.rf
  have hl := lv_entry ([.ref (ad 42), .int (nI zr), .int (nI zp)]) (n := 3) (Nat.le_of_ble_eq_true rfl)
  refine W.eq (g2 := entryFrame m ([.ref (ad 42), .int (nI zr), .int (nI zp)] : List Value).toArray 3) (by rw [ha]) ?_
  rw [lg_entry_eq]
  generalize (lg_sl ([.ref (ad 42), .int (nI zr), .int (nI zp)]) ++ List.replicate (3 - (lg_sl ([.ref (ad 42), .int (nI zr), .int (nI zp)])).length) Slot.unset).toArray = ls at hl ⊢
  have hl : lv_has ls 3 [(0, .ref (ad 42)), (1, .int (nI zr)), (2, .int (nI zp))] := hl
  refine lv_aload_n hx hb dX5_isSame_0 rfl (lv_at hl 0 rfl) ?_
  refine lv_iload_n hx hb dX5_isSame_1 rfl (lv_at hl 1 rfl) ?_
  refine lv_iload_n hx hb dX5_isSame_2 rfl (lv_at hl 2 rfl) ?_
  refine bm_xcallV (As := [.int (nI zr), .int (nI zp)]) (rest := []) ⟨hx, hb, hml, hown, hts⟩ (y_left  (zr := zr) (zp := zp)  (by omega) (by omega)) (cwV 2 hts (gdV (by decide +kernel) (by decide +kernel) (by decide +kernel) (by decide +kernel) (by decide +kernel)) rfl rfl rfl (by decide +kernel) ⟨Nat.le_of_ble_eq_true rfl, Nat.le_of_ble_eq_true rfl⟩) hK hP hD hS hA 42 5 rfl rfl rfl hl.1 rfl (Nat.le_of_ble_eq_true rfl) dX5_isSame_3 ⟨Nat.le_of_ble_eq_true rfl, Nat.le_of_ble_eq_true rfl⟩ (fun ws_1 r_2 h_3 H locs hP hD hS => ?_)
  obtain ⟨rfl, v_4, rfl⟩ := h_3
  have hP : va_P D vwCl (WW ad cJ cI cZ bm pa p0 p1 p2 li wi mt ms ma mp mk mn ou) H := hP
  have hD : va_D A (WW ad cJ cI cZ bm pa p0 p1 p2 li wi mt ms ma mp mk mn ou) := hD
  refine lv_aload_n hx hb dX5_isSame_6 rfl (lv_at hl 0 rfl) ?_
  refine lv_iconst (v := nI 0) hx hb dX5_isSame_7 (by decide) ?_
  refine lv_iload_n hx hb dX5_isSame_8 rfl (lv_at hl 2 rfl) ?_
  refine bm_xcallV (As := [.int (nI 0), .int (nI zp)]) (rest := [.long v_4]) ⟨hx, hb, hml, hown, hts⟩ (y_left  (zr := 0) (zp := zp)  (by omega) (by omega)) (cwV 2 hts (gdV (by decide +kernel) (by decide +kernel) (by decide +kernel) (by decide +kernel) (by decide +kernel)) rfl rfl rfl (by decide +kernel) ⟨Nat.le_of_ble_eq_true rfl, Nat.le_of_ble_eq_true rfl⟩) hK hP hD hS hA 42 5 rfl rfl rfl hl.1 rfl (Nat.le_of_ble_eq_true rfl) dX5_isSame_9 ⟨Nat.le_of_ble_eq_true rfl, Nat.le_of_ble_eq_true rfl⟩ (fun ws_5 r_6 h_7 H locs hP hD hS => ?_)
  obtain ⟨rfl, v_8, rfl⟩ := h_7
  have hP : va_P D vwCl (WW ad cJ cI cZ bm pa p0 p1 p2 li wi mt ms ma mp mk mn ou) H := hP
  have hD : va_D A (WW ad cJ cI cZ bm pa p0 p1 p2 li wi mt ms ma mp mk mn ou) := hD
  refine bm_lc_ne (x := v_4) (y := v_8) (tgt := 56) hx hb dX5_isSame_12 dX5_isSame_13 (by decide) (fun c_9 => ?_) (fun c_9 => ?_)
  · refine lv_iconst (v := bm_b false) hx hb dX5_isSame_56 (by decide) ?_
    exact bm_zretX (v := false) hx hb hr hP hD hK hS ⟨rfl, false, rfl⟩ dX5_isSame_57 hlocks
  · refine lv_aload_n hx hb dX5_isSame_16 rfl (lv_at hl 0 rfl) ?_
    refine lv_iload_n hx hb dX5_isSame_17 rfl (lv_at hl 1 rfl) ?_
    refine lv_iload_n hx hb dX5_isSame_18 rfl (lv_at hl 2 rfl) ?_
    refine bm_xcallV (As := [.int (nI zr), .int (nI zp)]) (rest := []) ⟨hx, hb, hml, hown, hts⟩ (y_low  (zr := zr) (zp := zp)  (by omega) (by omega)) (cwV 2 hts (gdV (by decide +kernel) (by decide +kernel) (by decide +kernel) (by decide +kernel) (by decide +kernel)) rfl rfl rfl (by decide +kernel) ⟨Nat.le_of_ble_eq_true rfl, Nat.le_of_ble_eq_true rfl⟩) hK hP hD hS hA 42 5 rfl rfl rfl hl.1 rfl (Nat.le_of_ble_eq_true rfl) dX5_isSame_19 ⟨Nat.le_of_ble_eq_true rfl, Nat.le_of_ble_eq_true rfl⟩ (fun ws_10 r_11 h_12 H locs hP hD hS => ?_)
    obtain ⟨rfl, v_13, rfl⟩ := h_12
    have hP : va_P D vwCl (WW ad cJ cI cZ bm pa p0 p1 p2 li wi mt ms ma mp mk mn ou) H := hP
    have hD : va_D A (WW ad cJ cI cZ bm pa p0 p1 p2 li wi mt ms ma mp mk mn ou) := hD
    refine lv_aload_n hx hb dX5_isSame_22 rfl (lv_at hl 0 rfl) ?_
    refine lv_iconst (v := nI 0) hx hb dX5_isSame_23 (by decide) ?_
    refine lv_iload_n hx hb dX5_isSame_24 rfl (lv_at hl 2 rfl) ?_
    refine bm_xcallV (As := [.int (nI 0), .int (nI zp)]) (rest := [.long v_13]) ⟨hx, hb, hml, hown, hts⟩ (y_low  (zr := 0) (zp := zp)  (by omega) (by omega)) (cwV 2 hts (gdV (by decide +kernel) (by decide +kernel) (by decide +kernel) (by decide +kernel) (by decide +kernel)) rfl rfl rfl (by decide +kernel) ⟨Nat.le_of_ble_eq_true rfl, Nat.le_of_ble_eq_true rfl⟩) hK hP hD hS hA 42 5 rfl rfl rfl hl.1 rfl (Nat.le_of_ble_eq_true rfl) dX5_isSame_25 ⟨Nat.le_of_ble_eq_true rfl, Nat.le_of_ble_eq_true rfl⟩ (fun ws_14 r_15 h_16 H locs hP hD hS => ?_)
    obtain ⟨rfl, v_17, rfl⟩ := h_16
    have hP : va_P D vwCl (WW ad cJ cI cZ bm pa p0 p1 p2 li wi mt ms ma mp mk mn ou) H := hP
    have hD : va_D A (WW ad cJ cI cZ bm pa p0 p1 p2 li wi mt ms ma mp mk mn ou) := hD
    refine bm_lc_ne (x := v_13) (y := v_17) (tgt := 56) hx hb dX5_isSame_28 dX5_isSame_29 (by decide) (fun c_18 => ?_) (fun c_18 => ?_)
    · refine lv_iconst (v := bm_b false) hx hb dX5_isSame_56 (by decide) ?_
      exact bm_zretX (v := false) hx hb hr hP hD hK hS ⟨rfl, false, rfl⟩ dX5_isSame_57 hlocks
    · refine lv_aload_n hx hb dX5_isSame_32 rfl (lv_at hl 0 rfl) ?_
      refine va_get (D := D) (ci := 5) (v := .ref (ad 52)) (C := RX5) (T := TX5) (N := 28) hx hb hts (inT inX5) hown hK hP 42 rfl rfl 13 (by decide) (hts (.fieldLink RX5 39 "BoardMovesModel" "turns" "[I") (by decide +kernel)) (fun _ h9 => h9) rfl dX5_isSame_33 ?_
      refine lv_bipush (v := nI 40) hx hb dX5_isSame_36 (by decide) ?_
      refine lv_iload_n hx hb dX5_isSame_38 rfl (lv_at hl 1 rfl) ?_
      refine bm_nmul hx hb dX5_isSame_39 ?_
      refine lv_iload_n hx hb dX5_isSame_40 rfl (lv_at hl 2 rfl) ?_
      refine bm_nadd hx hb dX5_isSame_41 ?_
      refine bm_nald (f := mp.2.2) hx hb hK hP 52 1 rfl rfl (j := ((40 * zr) + zp)) (by omega) (by decide) dX5_isSame_42 ?_
      refine lv_aload_n hx hb dX5_isSame_43 rfl (lv_at hl 0 rfl) ?_
      refine va_get (D := D) (ci := 5) (v := .ref (ad 52)) (C := RX5) (T := TX5) (N := 28) hx hb hts (inT inX5) hown hK hP 42 rfl rfl 13 (by decide) (hts (.fieldLink RX5 39 "BoardMovesModel" "turns" "[I") (by decide +kernel)) (fun _ h9 => h9) rfl dX5_isSame_44 ?_
      refine lv_iload_n hx hb dX5_isSame_47 rfl (lv_at hl 2 rfl) ?_
      refine bm_nald (f := mp.2.2) hx hb hK hP 52 1 rfl rfl (j := zp) (by omega) (by decide) dX5_isSame_48 ?_
      refine bm_ni_ne (x := (mp.2.2 ((40 * zr) + zp))) (y := (mp.2.2 zp)) (tgt := 56) hx hb (bm40 (ok_mp_turns _)) (bm40 (ok_mp_turns _)) dX5_isSame_49 (by decide) (fun c_19 => ?_) (fun c_19 => ?_)
      · refine lv_iconst (v := bm_b false) hx hb dX5_isSame_56 (by decide) ?_
        exact bm_zretX (v := false) hx hb hr hP hD hK hS ⟨rfl, false, rfl⟩ dX5_isSame_57 hlocks
      · refine lv_iconst (v := bm_b true) hx hb dX5_isSame_52 (by decide) ?_
        refine lv_goto (tgt := 57) hx hb dX5_isSame_53 (by decide) ?_
        exact bm_zretX (v := true) hx hb hr hP hD hK hS ⟨rfl, true, rfl⟩ dX5_isSame_57 hlocks

set_option maxHeartbeats 8000000 in
set_option maxRecDepth 100000 in
theorem y_go {l : Launch} {D : va_G} {ad : Nat → Nat} {cJ cI cZ : ClassId} {bm : gBM} {pa : gPA} {p0 p1 p2 : gPL} {li : gLI} {wi : gWI} {mt : Nat} {ms : gMS} {ma : gMA} {mp : gMP} {mk : gMK} {mn : gMN} {ou : Nat → Int64} {zp : Nat} {z1 : Int64} {z2 : Int64} (ok_ms_parts : ms.2.2.1 ≤ 40) (ok_ma_groups : ∀ i, ma.2.2.2.2.2.1 i < 40) (hp0 : zp < 40)  : bm_Wx l yX5_go wsX5_go ({ frames := 0, cells := 0, slots := 0, locals := 0 }) D vwCl [(cJ, .long), (cI, .int), (cZ, .boolean)] (WW ad cJ cI cZ bm pa p0 p1 p2 li wi mt ms ma mp mk mn ou) [.ref (ad 42), .int (nI zp), .long z1, .long z2] (fun ws9 r9 => ∃ (e0 : Nat → Int64) (e1 : Nat → Int64) (e2 : Nat → Bool) , ws9 = (WW ad cJ cI cZ bm pa p0 p1 p2 li wi mt ms ma (e0, e1, mp.2.2) mk (mn.1, mn.2.1, mn.2.2.1, mn.2.2.2.1, e2) ou) ∧ r9 = none) := by
  intro sz
  refine Met.ofW (cc := cX5_go) (maxL := 7) (ret := none) (by decide) rfl ?_
  intro p e s m args below meth c s₁ B hml hv
  obtain ⟨ha, hsz, hP, hK, hD0⟩ := hv
  have hx := B.exec
  have hb := B.bytes
  have hr := B.returns
  have hts := atoms_spec (ws := wsX5_go) B.pre
  have hown : s.vm.findClass RX5 = some m.cls := findClass_of_methodNamed B.named
  have hlocks := B.notSynchronized
  subst hsz
  have hD := hD0.self (sz := s.heap.size)
  generalize hAe : va_A (WW ad cJ cI cZ bm pa p0 p1 p2 li wi mt ms ma mp mk mn ou) s.heap.size = A at hD ⊢
  have hA : ∀ q : Nat, s.heap.size ≤ q → A q := fun q h => by rw [← hAe]; exact Or.inr h
  have hS : va_S A s.heap s.heap [] := va_S.rf
  have hl := lv_entry ([.ref (ad 42), .int (nI zp), .long z1, .long z2]) (n := 7) (Nat.le_of_ble_eq_true rfl)
  refine W.eq (g2 := entryFrame m ([.ref (ad 42), .int (nI zp), .long z1, .long z2] : List Value).toArray 7) (by rw [ha]) ?_
  rw [lg_entry_eq]
  generalize (lg_sl ([.ref (ad 42), .int (nI zp), .long z1, .long z2]) ++ List.replicate (7 - (lg_sl ([.ref (ad 42), .int (nI zp), .long z1, .long z2])).length) Slot.unset).toArray = ls at hl ⊢
  have hl : lv_has ls 7 [(0, .ref (ad 42)), (1, .int (nI zp)), (2, .long z1), (4, .long z2)] := hl
  refine lv_iconst (v := nI 0) hx hb dX5_go_0 (by decide) ?_
  refine lv_istore (lv' := [(6, .int (nI 0)), (0, .ref (ad 42)), (1, .int (nI zp)), (2, .long z1), (4, .long z2)]) hx hb dX5_go_1 hl (by decide) rfl (fun ls hl => ?_)
  have lp_1 : ∀ (k_3 : Nat) (i_2 : Nat) (g_5 : Nat → Int64) (g_6 : Nat → Int64) (g_7 : Nat → Bool), i_2 ≤ ms.2.2.1 → ms.2.2.1 < i_2 + k_3 → ∀ (H : Heap) (locs : List Loc), va_P D vwCl (WW ad cJ cI cZ bm pa p0 p1 p2 li wi mt ms ma (g_5, g_6, mp.2.2) mk (mn.1, mn.2.1, mn.2.2.1, mn.2.2.2.1, g_7) ou) H → va_D A (WW ad cJ cI cZ bm pa p0 p1 p2 li wi mt ms ma (g_5, g_6, mp.2.2) mk (mn.1, mn.2.1, mn.2.2.1, mn.2.2.2.1, g_7) ou) → va_S A s.heap H locs → ∀ (ls : Array Slot), lv_has ls 7 [(6, .int (nI i_2)), (0, .ref (ad 42)), (1, .int (nI zp)), (2, .long z1), (4, .long z2)] → W p l e (headSpec wsX5_go ({ frames := 0, cells := 0, slots := 0, locals := 0 })).room s m args below meth c H locs 0 0 (MQ below (bm_Wxq D vwCl [(cJ, .long), (cI, .int), (cZ, .boolean)] (fun ws9 r9 => ∃ (e0 : Nat → Int64) (e1 : Nat → Int64) (e2 : Nat → Bool) , ws9 = (WW ad cJ cI cZ bm pa p0 p1 p2 li wi mt ms ma (e0, e1, mp.2.2) mk (mn.1, mn.2.1, mn.2.2.1, mn.2.2.2.1, e2) ou) ∧ r9 = none) A) args s 0 0 A) (F0 m 3 ls []) := by
    intro k_3
    induction k_3 with
    | zero => intro i_2 g_5 g_6 g_7 hi_8 hk_9; exfalso; omega
    | succ k_3 ih_4 =>
      intro i_2 g_5 g_6 g_7 hi_8 hk_9  H locs hP hD hS ls hl
      refine lv_iload hx hb dX5_go_3 (lv_at hl 0 rfl) ?_
      refine lv_aload_n hx hb dX5_go_5 rfl (lv_at hl 1 rfl) ?_
      refine va_get (D := D) (ci := 5) (v := .int (nI ms.2.2.1)) (C := RX5) (T := TX5) (N := 28) hx hb hts (inT inX5) hown hK hP 42 rfl rfl 3 (by decide) (hts (.fieldLink RX5 85 "BoardMovesModel" "parts" "I") (by decide +kernel)) (fun _ h9 => h9) rfl dX5_go_6 ?_
      refine bm_ni_ge (x := i_2) (y := ms.2.2.1) (tgt := 111) hx hb (by omega) (by omega) dX5_go_9 (by decide) (fun c_10 => ?_) (fun c_10 => ?_)
      · exact bm_vretX hx hb hr hP hD hK hS ⟨g_5, g_6, g_7, rfl, rfl⟩ dX5_go_111 hlocks
      · refine lv_aload_n hx hb dX5_go_12 rfl (lv_at hl 1 rfl) ?_
        refine va_get (D := D) (ci := 5) (v := .ref (ad 48)) (C := RX5) (T := TX5) (N := 28) hx hb hts (inT inX5) hown hK hP 42 rfl rfl 9 (by decide) (hts (.fieldLink RX5 27 "BoardMovesModel" "groups" "[I") (by decide +kernel)) (fun _ h9 => h9) rfl dX5_go_13 ?_
        refine lv_iload hx hb dX5_go_16 (lv_at hl 0 rfl) ?_
        refine bm_nald (f := ma.2.2.2.2.2.1) hx hb hK hP 48 1 rfl rfl (j := i_2) (by omega) (by decide) dX5_go_18 ?_
        refine lv_aload_n hx hb dX5_go_19 rfl (lv_at hl 1 rfl) ?_
        refine va_get (D := D) (ci := 5) (v := .ref (ad 48)) (C := RX5) (T := TX5) (N := 28) hx hb hts (inT inX5) hown hK hP 42 rfl rfl 9 (by decide) (hts (.fieldLink RX5 27 "BoardMovesModel" "groups" "[I") (by decide +kernel)) (fun _ h9 => h9) rfl dX5_go_20 ?_
        refine lv_iload_n hx hb dX5_go_23 rfl (lv_at hl 2 rfl) ?_
        refine bm_nald (f := ma.2.2.2.2.2.1) hx hb hK hP 48 1 rfl rfl (j := zp) (by omega) (by decide) dX5_go_24 ?_
        refine bm_ni_ne (x := (ma.2.2.2.2.2.1 i_2)) (y := (ma.2.2.2.2.2.1 zp)) (tgt := 105) hx hb (bm40 (ok_ma_groups _)) (bm40 (ok_ma_groups _)) dX5_go_25 (by decide) (fun c_11 => ?_) (fun c_11 => ?_)
        · refine lv_iinc (v := (nI (i_2 + 1))) (lv' := [(6, .int (nI (i_2 + 1))), (0, .ref (ad 42)), (1, .int (nI zp)), (2, .long z1), (4, .long z2)]) hx hb dX5_go_105 hl (k := 0) rfl (nI_1 i_2) (by decide) rfl (fun ls hl => ?_)
          refine lv_goto (tgt := 3) hx hb dX5_go_108 (by decide) ?_
          exact ih_4 (i_2 + 1) g_5 g_6 g_7 (by omega) (by omega)  _ _ hP hD hS _ (lv_sub hl [0, 1, 2, 3, 4] rfl)
        · refine lv_aload_n hx hb dX5_go_28 rfl (lv_at hl 1 rfl) ?_
          refine va_get (D := D) (ci := 5) (v := .ref (ad 49)) (C := RX5) (T := TX5) (N := 28) hx hb hts (inT inX5) hown hK hP 42 rfl rfl 10 (by decide) (hts (.fieldLink RX5 30 "BoardMovesModel" "placed" "[Z") (by decide +kernel)) (fun _ h9 => h9) rfl dX5_go_29 ?_
          refine lv_iload hx hb dX5_go_32 (lv_at hl 0 rfl) ?_
          refine bm_zald (f := ma.2.2.2.2.2.2) hx hb hK hP 49 2 rfl rfl (j := i_2) (by omega) (by decide) dX5_go_34 ?_
          refine bm_zb_ne (x := (ma.2.2.2.2.2.2 i_2)) (tgt := 41) hx hb dX5_go_35 (by decide) (fun c_12 => ?_) (fun c_12 => ?_)
          · refine lv_aload_n hx hb dX5_go_41 rfl (lv_at hl 1 rfl) ?_
            refine va_get (D := D) (ci := 5) (v := .ref (ad 50)) (C := RX5) (T := TX5) (N := 28) hx hb hts (inT inX5) hown hK hP 42 rfl rfl 11 (by decide) (hts (.fieldLink RX5 33 "BoardMovesModel" "x" "[J") (by decide +kernel)) (fun _ h9 => h9) rfl dX5_go_42 ?_
            refine lv_bipush (v := nI 40) hx hb dX5_go_45 (by decide) ?_
            refine lv_iload hx hb dX5_go_47 (lv_at hl 0 rfl) ?_
            refine bm_nadd hx hb dX5_go_49 ?_
            refine lv_dup2_11 hx hb dX5_go_50 rfl rfl ?_
            refine bm_lald (f := g_5) hx hb hK hP 50 0 rfl rfl (j := (40 + i_2)) (by omega) (by decide) dX5_go_51 ?_
            refine lv_topl (fun t_13 _ => ?_)
            refine lv_lload_n hx hb dX5_go_52 rfl (lv_at hl 3 rfl) ?_
            refine lv_ladd hx hb dX5_go_53 ?_
            refine lv_topl (fun t_14 _ => ?_)
            refine bm_last (f := g_5) hx hb hK hP hD hS 50 0 rfl rfl (j := (40 + i_2)) (x := t_14) (by omega) (by decide) dX5_go_54 (fun H locs hP hD hS => ?_)
            have hP : va_P D vwCl (WW ad cJ cI cZ bm pa p0 p1 p2 li wi mt ms ma (va_up g_5 (40 + i_2) t_14, g_6, mp.2.2) mk (mn.1, mn.2.1, mn.2.2.1, mn.2.2.2.1, g_7) ou) H := hP
            have hD : va_D A (WW ad cJ cI cZ bm pa p0 p1 p2 li wi mt ms ma (va_up g_5 (40 + i_2) t_14, g_6, mp.2.2) mk (mn.1, mn.2.1, mn.2.2.1, mn.2.2.2.1, g_7) ou) := hD
            refine lv_aload_n hx hb dX5_go_55 rfl (lv_at hl 1 rfl) ?_
            refine va_get (D := D) (ci := 5) (v := .ref (ad 51)) (C := RX5) (T := TX5) (N := 28) hx hb hts (inT inX5) hown hK hP 42 rfl rfl 12 (by decide) (hts (.fieldLink RX5 36 "BoardMovesModel" "y" "[J") (by decide +kernel)) (fun _ h9 => h9) rfl dX5_go_56 ?_
            refine lv_bipush (v := nI 40) hx hb dX5_go_59 (by decide) ?_
            refine lv_iload hx hb dX5_go_61 (lv_at hl 0 rfl) ?_
            refine bm_nadd hx hb dX5_go_63 ?_
            refine lv_dup2_11 hx hb dX5_go_64 rfl rfl ?_
            refine bm_lald (f := g_6) hx hb hK hP 51 0 rfl rfl (j := (40 + i_2)) (by omega) (by decide) dX5_go_65 ?_
            refine lv_topl (fun t_15 _ => ?_)
            refine lv_lload hx hb dX5_go_66 (lv_at hl 4 rfl) ?_
            refine lv_ladd hx hb dX5_go_68 ?_
            refine lv_topl (fun t_16 _ => ?_)
            refine bm_last (f := g_6) hx hb hK hP hD hS 51 0 rfl rfl (j := (40 + i_2)) (x := t_16) (by omega) (by decide) dX5_go_69 (fun H locs hP hD hS => ?_)
            have hP : va_P D vwCl (WW ad cJ cI cZ bm pa p0 p1 p2 li wi mt ms ma (va_up g_5 (40 + i_2) t_14, va_up g_6 (40 + i_2) t_16, mp.2.2) mk (mn.1, mn.2.1, mn.2.2.1, mn.2.2.2.1, g_7) ou) H := hP
            have hD : va_D A (WW ad cJ cI cZ bm pa p0 p1 p2 li wi mt ms ma (va_up g_5 (40 + i_2) t_14, va_up g_6 (40 + i_2) t_16, mp.2.2) mk (mn.1, mn.2.1, mn.2.2.1, mn.2.2.2.1, g_7) ou) := hD
            refine lv_aload_n hx hb dX5_go_70 rfl (lv_at hl 1 rfl) ?_
            refine va_get (D := D) (ci := 5) (v := .ref (ad 61)) (C := RX5) (T := TX5) (N := 28) hx hb hts (inT inX5) hown hK hP 42 rfl rfl 26 (by decide) (hts (.fieldLink RX5 66 "BoardMovesModel" "moved" "[Z") (by decide +kernel)) (fun _ h9 => h9) rfl dX5_go_71 ?_
            refine lv_iload hx hb dX5_go_74 (lv_at hl 0 rfl) ?_
            refine lv_aload_n hx hb dX5_go_76 rfl (lv_at hl 1 rfl) ?_
            refine va_get (D := D) (ci := 5) (v := .ref (ad 61)) (C := RX5) (T := TX5) (N := 28) hx hb hts (inT inX5) hown hK hP 42 rfl rfl 26 (by decide) (hts (.fieldLink RX5 66 "BoardMovesModel" "moved" "[Z") (by decide +kernel)) (fun _ h9 => h9) rfl dX5_go_77 ?_
            refine lv_iload hx hb dX5_go_80 (lv_at hl 0 rfl) ?_
            refine bm_zald (f := g_7) hx hb hK hP 61 2 rfl rfl (j := i_2) (by omega) (by decide) dX5_go_82 ?_
            refine bm_zb_ne (x := (g_7 i_2)) (tgt := 99) hx hb dX5_go_83 (by decide) (fun c_17 => ?_) (fun c_17 => ?_)
            · refine lv_iconst (v := bm_b true) hx hb dX5_go_99 (by decide) ?_
              refine lv_goto (tgt := 104) hx hb dX5_go_100 (by decide) ?_
              refine bm_zast (f := g_7) hx hb hK hP hD hS 61 2 rfl rfl (j := i_2) (x := true) (by omega) (by decide) dX5_go_104 (fun H locs hP hD hS => ?_)
              have hP : va_P D vwCl (WW ad cJ cI cZ bm pa p0 p1 p2 li wi mt ms ma (va_up g_5 (40 + i_2) t_14, va_up g_6 (40 + i_2) t_16, mp.2.2) mk (mn.1, mn.2.1, mn.2.2.1, mn.2.2.2.1, va_up g_7 i_2 true) ou) H := hP
              have hD : va_D A (WW ad cJ cI cZ bm pa p0 p1 p2 li wi mt ms ma (va_up g_5 (40 + i_2) t_14, va_up g_6 (40 + i_2) t_16, mp.2.2) mk (mn.1, mn.2.1, mn.2.2.1, mn.2.2.2.1, va_up g_7 i_2 true) ou) := hD
              refine lv_iinc (v := (nI (i_2 + 1))) (lv' := [(6, .int (nI (i_2 + 1))), (0, .ref (ad 42)), (1, .int (nI zp)), (2, .long z1), (4, .long z2)]) hx hb dX5_go_105 hl (k := 0) rfl (nI_1 i_2) (by decide) rfl (fun ls hl => ?_)
              refine lv_goto (tgt := 3) hx hb dX5_go_108 (by decide) ?_
              exact ih_4 (i_2 + 1) (va_up g_5 (40 + i_2) t_14) (va_up g_6 (40 + i_2) t_16) (va_up g_7 i_2 true) (by omega) (by omega)  _ _ hP hD hS _ (lv_sub hl [0, 1, 2, 3, 4] rfl)
            · refine lv_lload_n hx hb dX5_go_86 rfl (lv_at hl 3 rfl) ?_
              refine lv_lconst (v := 0) hx hb dX5_go_87 (by decide) ?_
              refine bm_lc_ne (x := z1) (y := 0) (tgt := 99) hx hb dX5_go_88 dX5_go_89 (by decide) (fun c_18 => ?_) (fun c_18 => ?_)
              · refine lv_iconst (v := bm_b true) hx hb dX5_go_99 (by decide) ?_
                refine lv_goto (tgt := 104) hx hb dX5_go_100 (by decide) ?_
                refine bm_zast (f := g_7) hx hb hK hP hD hS 61 2 rfl rfl (j := i_2) (x := true) (by omega) (by decide) dX5_go_104 (fun H locs hP hD hS => ?_)
                have hP : va_P D vwCl (WW ad cJ cI cZ bm pa p0 p1 p2 li wi mt ms ma (va_up g_5 (40 + i_2) t_14, va_up g_6 (40 + i_2) t_16, mp.2.2) mk (mn.1, mn.2.1, mn.2.2.1, mn.2.2.2.1, va_up g_7 i_2 true) ou) H := hP
                have hD : va_D A (WW ad cJ cI cZ bm pa p0 p1 p2 li wi mt ms ma (va_up g_5 (40 + i_2) t_14, va_up g_6 (40 + i_2) t_16, mp.2.2) mk (mn.1, mn.2.1, mn.2.2.1, mn.2.2.2.1, va_up g_7 i_2 true) ou) := hD
                refine lv_iinc (v := (nI (i_2 + 1))) (lv' := [(6, .int (nI (i_2 + 1))), (0, .ref (ad 42)), (1, .int (nI zp)), (2, .long z1), (4, .long z2)]) hx hb dX5_go_105 hl (k := 0) rfl (nI_1 i_2) (by decide) rfl (fun ls hl => ?_)
                refine lv_goto (tgt := 3) hx hb dX5_go_108 (by decide) ?_
                exact ih_4 (i_2 + 1) (va_up g_5 (40 + i_2) t_14) (va_up g_6 (40 + i_2) t_16) (va_up g_7 i_2 true) (by omega) (by omega)  _ _ hP hD hS _ (lv_sub hl [0, 1, 2, 3, 4] rfl)
              · refine lv_lload hx hb dX5_go_92 (lv_at hl 4 rfl) ?_
                refine lv_lconst (v := 0) hx hb dX5_go_94 (by decide) ?_
                refine bm_lc_eq (x := z2) (y := 0) (tgt := 103) hx hb dX5_go_95 dX5_go_96 (by decide) (fun c_19 => ?_) (fun c_19 => ?_)
                · refine lv_iconst (v := bm_b false) hx hb dX5_go_103 (by decide) ?_
                  refine bm_zast (f := g_7) hx hb hK hP hD hS 61 2 rfl rfl (j := i_2) (x := false) (by omega) (by decide) dX5_go_104 (fun H locs hP hD hS => ?_)
                  have hP : va_P D vwCl (WW ad cJ cI cZ bm pa p0 p1 p2 li wi mt ms ma (va_up g_5 (40 + i_2) t_14, va_up g_6 (40 + i_2) t_16, mp.2.2) mk (mn.1, mn.2.1, mn.2.2.1, mn.2.2.2.1, va_up g_7 i_2 false) ou) H := hP
                  have hD : va_D A (WW ad cJ cI cZ bm pa p0 p1 p2 li wi mt ms ma (va_up g_5 (40 + i_2) t_14, va_up g_6 (40 + i_2) t_16, mp.2.2) mk (mn.1, mn.2.1, mn.2.2.1, mn.2.2.2.1, va_up g_7 i_2 false) ou) := hD
                  refine lv_iinc (v := (nI (i_2 + 1))) (lv' := [(6, .int (nI (i_2 + 1))), (0, .ref (ad 42)), (1, .int (nI zp)), (2, .long z1), (4, .long z2)]) hx hb dX5_go_105 hl (k := 0) rfl (nI_1 i_2) (by decide) rfl (fun ls hl => ?_)
                  refine lv_goto (tgt := 3) hx hb dX5_go_108 (by decide) ?_
                  exact ih_4 (i_2 + 1) (va_up g_5 (40 + i_2) t_14) (va_up g_6 (40 + i_2) t_16) (va_up g_7 i_2 false) (by omega) (by omega)  _ _ hP hD hS _ (lv_sub hl [0, 1, 2, 3, 4] rfl)
                · refine lv_iconst (v := bm_b true) hx hb dX5_go_99 (by decide) ?_
                  refine lv_goto (tgt := 104) hx hb dX5_go_100 (by decide) ?_
                  refine bm_zast (f := g_7) hx hb hK hP hD hS 61 2 rfl rfl (j := i_2) (x := true) (by omega) (by decide) dX5_go_104 (fun H locs hP hD hS => ?_)
                  have hP : va_P D vwCl (WW ad cJ cI cZ bm pa p0 p1 p2 li wi mt ms ma (va_up g_5 (40 + i_2) t_14, va_up g_6 (40 + i_2) t_16, mp.2.2) mk (mn.1, mn.2.1, mn.2.2.1, mn.2.2.2.1, va_up g_7 i_2 true) ou) H := hP
                  have hD : va_D A (WW ad cJ cI cZ bm pa p0 p1 p2 li wi mt ms ma (va_up g_5 (40 + i_2) t_14, va_up g_6 (40 + i_2) t_16, mp.2.2) mk (mn.1, mn.2.1, mn.2.2.1, mn.2.2.2.1, va_up g_7 i_2 true) ou) := hD
                  refine lv_iinc (v := (nI (i_2 + 1))) (lv' := [(6, .int (nI (i_2 + 1))), (0, .ref (ad 42)), (1, .int (nI zp)), (2, .long z1), (4, .long z2)]) hx hb dX5_go_105 hl (k := 0) rfl (nI_1 i_2) (by decide) rfl (fun ls hl => ?_)
                  refine lv_goto (tgt := 3) hx hb dX5_go_108 (by decide) ?_
                  exact ih_4 (i_2 + 1) (va_up g_5 (40 + i_2) t_14) (va_up g_6 (40 + i_2) t_16) (va_up g_7 i_2 true) (by omega) (by omega)  _ _ hP hD hS _ (lv_sub hl [0, 1, 2, 3, 4] rfl)
          · refine lv_goto (tgt := 105) hx hb dX5_go_38 (by decide) ?_
            refine lv_iinc (v := (nI (i_2 + 1))) (lv' := [(6, .int (nI (i_2 + 1))), (0, .ref (ad 42)), (1, .int (nI zp)), (2, .long z1), (4, .long z2)]) hx hb dX5_go_105 hl (k := 0) rfl (nI_1 i_2) (by decide) rfl (fun ls hl => ?_)
            refine lv_goto (tgt := 3) hx hb dX5_go_108 (by decide) ?_
            exact ih_4 (i_2 + 1) g_5 g_6 g_7 (by omega) (by omega)  _ _ hP hD hS _ (lv_sub hl [0, 1, 2, 3, 4] rfl)
  exact lp_1 (ms.2.2.1 + 1) 0 mp.1 mp.2.1 mn.2.2.2.2 (by omega) (by omega)  _ _ hP hD hS _ (lv_sub hl [0, 1, 2, 3, 4] rfl)

set_option maxHeartbeats 8000000 in
set_option maxRecDepth 100000 in
theorem y_begin {l : Launch} {D : va_G} {ad : Nat → Nat} {cJ cI cZ : ClassId} {bm : gBM} {pa : gPA} {p0 p1 p2 : gPL} {li : gLI} {wi : gWI} {mt : Nat} {ms : gMS} {ma : gMA} {mp : gMP} {mk : gMK} {mn : gMN} {ou : Nat → Int64}  (ok_mp_turns : ∀ i, mp.2.2 i < 40)   : bm_Wx l yX5_begin wsX5_begin ({ frames := 1, cells := 0, slots := 0, locals := 23 }) D vwCl [(cJ, .long), (cI, .int), (cZ, .boolean)] (WW ad cJ cI cZ bm pa p0 p1 p2 li wi mt ms ma mp mk mn ou) [.ref (ad 42)] (fun ws9 r9 => ∃ (e0 : Nat → Int64) (e1 : Nat → Int64) (e2 : Nat → Nat) (e3 : Nat → Bool) , (∀ i, e2 i < 40) ∧ ws9 = (WW ad cJ cI cZ bm pa p0 p1 p2 li wi mt ms ma (e0, e1, e2) mk (mn.1, mn.2.1, mn.2.2.1, mn.2.2.2.1, e3) ou) ∧ r9 = none) := by
  intro sz
  refine Met.ofW (cc := cX5_begin) (maxL := 2) (ret := none) (by decide) rfl ?_
  intro p e s m args below meth c s₁ B hml hv
  obtain ⟨ha, hsz, hP, hK, hD0⟩ := hv
  have hx := B.exec
  have hb := B.bytes
  have hr := B.returns
  have hts := atoms_spec (ws := wsX5_begin) B.pre
  have hown : s.vm.findClass RX5 = some m.cls := findClass_of_methodNamed B.named
  have hlocks := B.notSynchronized
  subst hsz
  have hD := hD0.self (sz := s.heap.size)
  generalize hAe : va_A (WW ad cJ cI cZ bm pa p0 p1 p2 li wi mt ms ma mp mk mn ou) s.heap.size = A at hD ⊢
  have hA : ∀ q : Nat, s.heap.size ≤ q → A q := fun q h => by rw [← hAe]; exact Or.inr h
  have hS : va_S A s.heap s.heap [] := va_S.rf
  have hl := lv_entry ([.ref (ad 42)]) (n := 2) (Nat.le_of_ble_eq_true rfl)
  refine W.eq (g2 := entryFrame m ([.ref (ad 42)] : List Value).toArray 2) (by rw [ha]) ?_
  rw [lg_entry_eq]
  generalize (lg_sl ([.ref (ad 42)]) ++ List.replicate (2 - (lg_sl ([.ref (ad 42)])).length) Slot.unset).toArray = ls at hl ⊢
  have hl : lv_has ls 2 [(0, .ref (ad 42))] := hl
  refine lv_aload_n hx hb dX5_begin_0 rfl (lv_at hl 0 rfl) ?_
  refine lv_iconst (v := nI 1) hx hb dX5_begin_1 (by decide) ?_
  refine lv_iconst (v := nI 0) hx hb dX5_begin_2 (by decide) ?_
  refine bm_xcallV (As := [.int (nI 1), .int (nI 0)]) (rest := []) ⟨hx, hb, hml, hown, hts⟩ (y_copy  (zt := 1) (zf := 0) ok_mp_turns (by omega) (by omega)) (cwV 2 hts (gdV (by decide +kernel) (by decide +kernel) (by decide +kernel) (by decide +kernel) (by decide +kernel)) rfl rfl rfl (by decide +kernel) ⟨Nat.le_of_ble_eq_true rfl, Nat.le_of_ble_eq_true rfl⟩) hK hP hD hS hA 42 5 rfl rfl rfl hl.1 rfl (Nat.le_of_ble_eq_true rfl) dX5_begin_3 ⟨Nat.le_of_ble_eq_true rfl, Nat.le_of_ble_eq_true rfl⟩ (fun ws_1 r_2 h_3 H locs hP hD hS => ?_)
  obtain ⟨g_4, g_5, g_6, ok_7, rfl, rfl⟩ := h_3
  have hP : va_P D vwCl (WW ad cJ cI cZ bm pa p0 p1 p2 li wi mt ms ma (g_4, g_5, g_6) mk mn ou) H := hP
  have hD : va_D A (WW ad cJ cI cZ bm pa p0 p1 p2 li wi mt ms ma (g_4, g_5, g_6) mk mn ou) := hD
  refine lv_iconst (v := nI 0) hx hb dX5_begin_6 (by decide) ?_
  refine lv_istore_n (lv' := [(1, .int (nI 0)), (0, .ref (ad 42))]) hx hb dX5_begin_7 rfl hl (by decide) rfl (fun ls hl => ?_)
  have lp_8 : ∀ (k_10 : Nat) (i_9 : Nat) (g_12 : Nat → Bool), i_9 ≤ 40 → 40 < i_9 + k_10 → ∀ (H : Heap) (locs : List Loc), va_P D vwCl (WW ad cJ cI cZ bm pa p0 p1 p2 li wi mt ms ma (g_4, g_5, g_6) mk (mn.1, mn.2.1, mn.2.2.1, mn.2.2.2.1, g_12) ou) H → va_D A (WW ad cJ cI cZ bm pa p0 p1 p2 li wi mt ms ma (g_4, g_5, g_6) mk (mn.1, mn.2.1, mn.2.2.1, mn.2.2.2.1, g_12) ou) → va_S A s.heap H locs → ∀ (ls : Array Slot), lv_has ls 2 [(1, .int (nI i_9)), (0, .ref (ad 42))] → W p l e (headSpec wsX5_begin ({ frames := 1, cells := 0, slots := 0, locals := 23 })).room s m args below meth c H locs 0 0 (MQ below (bm_Wxq D vwCl [(cJ, .long), (cI, .int), (cZ, .boolean)] (fun ws9 r9 => ∃ (e0 : Nat → Int64) (e1 : Nat → Int64) (e2 : Nat → Nat) (e3 : Nat → Bool) , (∀ i, e2 i < 40) ∧ ws9 = (WW ad cJ cI cZ bm pa p0 p1 p2 li wi mt ms ma (e0, e1, e2) mk (mn.1, mn.2.1, mn.2.2.1, mn.2.2.2.1, e3) ou) ∧ r9 = none) A) args s 0 0 A) (F0 m 8 ls []) := by
    intro k_10
    induction k_10 with
    | zero => intro i_9 g_12 hi_13 hk_14; exfalso; omega
    | succ k_10 ih_11 =>
      intro i_9 g_12 hi_13 hk_14  H locs hP hD hS ls hl
      refine lv_iload_n hx hb dX5_begin_8 rfl (lv_at hl 0 rfl) ?_
      refine lv_bipush (v := nI 40) hx hb dX5_begin_9 (by decide) ?_
      refine bm_ni_ge (x := i_9) (y := 40) (tgt := 27) hx hb (by omega) (by omega) dX5_begin_11 (by decide) (fun c_15 => ?_) (fun c_15 => ?_)
      · exact bm_vretX hx hb hr hP hD hK hS ⟨g_4, g_5, g_6, g_12, ok_7, rfl, rfl⟩ dX5_begin_27 hlocks
      · refine lv_aload_n hx hb dX5_begin_14 rfl (lv_at hl 1 rfl) ?_
        refine va_get (D := D) (ci := 5) (v := .ref (ad 61)) (C := RX5) (T := TX5) (N := 28) hx hb hts (inT inX5) hown hK hP 42 rfl rfl 26 (by decide) (hts (.fieldLink RX5 66 "BoardMovesModel" "moved" "[Z") (by decide +kernel)) (fun _ h9 => h9) rfl dX5_begin_15 ?_
        refine lv_iload_n hx hb dX5_begin_18 rfl (lv_at hl 0 rfl) ?_
        refine lv_iconst (v := bm_b false) hx hb dX5_begin_19 (by decide) ?_
        refine bm_zast (f := g_12) hx hb hK hP hD hS 61 2 rfl rfl (j := i_9) (x := false) (by omega) (by decide) dX5_begin_20 (fun H locs hP hD hS => ?_)
        have hP : va_P D vwCl (WW ad cJ cI cZ bm pa p0 p1 p2 li wi mt ms ma (g_4, g_5, g_6) mk (mn.1, mn.2.1, mn.2.2.1, mn.2.2.2.1, va_up g_12 i_9 false) ou) H := hP
        have hD : va_D A (WW ad cJ cI cZ bm pa p0 p1 p2 li wi mt ms ma (g_4, g_5, g_6) mk (mn.1, mn.2.1, mn.2.2.1, mn.2.2.2.1, va_up g_12 i_9 false) ou) := hD
        refine lv_iinc (v := (nI (i_9 + 1))) (lv' := [(1, .int (nI (i_9 + 1))), (0, .ref (ad 42))]) hx hb dX5_begin_21 hl (k := 0) rfl (nI_1 i_9) (by decide) rfl (fun ls hl => ?_)
        refine lv_goto (tgt := 8) hx hb dX5_begin_24 (by decide) ?_
        exact ih_11 (i_9 + 1) (va_up g_12 i_9 false) (by omega) (by omega)  _ _ hP hD hS _ (lv_sub hl [0, 1] rfl)
  exact lp_8 (40 + 1) 0 mn.2.2.2.2 (by omega) (by omega)  _ _ hP hD hS _ (lv_sub hl [0, 1] rfl)

set_option maxHeartbeats 8000000 in
set_option maxRecDepth 100000 in
theorem y_locked {l : Launch} {D : va_G} {ad : Nat → Nat} {cJ cI cZ : ClassId} {bm : gBM} {pa : gPA} {p0 p1 p2 : gPL} {li : gLI} {wi : gWI} {mt : Nat} {ms : gMS} {ma : gMA} {mp : gMP} {mk : gMK} {mn : gMN} {ou : Nat → Int64}  (ok_ms_parts : ms.2.2.1 ≤ 40) (ok_mp_turns : ∀ i, mp.2.2 i < 40)   : bm_Wx l yX5_movesLocked wsX5_movesLocked ({ frames := 2, cells := 0, slots := 0, locals := 44 }) D vwCl [(cJ, .long), (cI, .int), (cZ, .boolean)] (WW ad cJ cI cZ bm pa p0 p1 p2 li wi mt ms ma mp mk mn ou) [.ref (ad 42)] (fun ws9 r9 => ws9 = (WW ad cJ cI cZ bm pa p0 p1 p2 li wi mt ms ma mp mk mn ou) ∧ ∃ b9 : Bool, r9 = some (.int (bm_b b9))) := by
  intro sz
  refine Met.ofW (cc := cX5_movesLocked) (maxL := 3) (ret := (some .boolean)) (by decide) rfl ?_
  intro p e s m args below meth c s₁ B hml hv
  obtain ⟨ha, hsz, hP, hK, hD0⟩ := hv
  have hx := B.exec
  have hb := B.bytes
  have hr := B.returns
  have hts := atoms_spec (ws := wsX5_movesLocked) B.pre
  have hown : s.vm.findClass RX5 = some m.cls := findClass_of_methodNamed B.named
  have hlocks := B.notSynchronized
  subst hsz
  have hD := hD0.self (sz := s.heap.size)
  generalize hAe : va_A (WW ad cJ cI cZ bm pa p0 p1 p2 li wi mt ms ma mp mk mn ou) s.heap.size = A at hD ⊢
  have hA : ∀ q : Nat, s.heap.size ≤ q → A q := fun q h => by rw [← hAe]; exact Or.inr h
  have hS : va_S A s.heap s.heap [] := va_S.rf
  have hl := lv_entry ([.ref (ad 42)]) (n := 3) (Nat.le_of_ble_eq_true rfl)
  refine W.eq (g2 := entryFrame m ([.ref (ad 42)] : List Value).toArray 3) (by rw [ha]) ?_
  rw [lg_entry_eq]
  generalize (lg_sl ([.ref (ad 42)]) ++ List.replicate (3 - (lg_sl ([.ref (ad 42)])).length) Slot.unset).toArray = ls at hl ⊢
  have hl : lv_has ls 3 [(0, .ref (ad 42))] := hl
  refine lv_iconst (v := bm_b false) hx hb dX5_movesLocked_0 (by decide) ?_
  refine lv_istore_n (lv' := [(1, .int (bm_b false)), (0, .ref (ad 42))]) hx hb dX5_movesLocked_1 rfl hl (by decide) rfl (fun ls hl => ?_)
  refine lv_iconst (v := nI 0) hx hb dX5_movesLocked_2 (by decide) ?_
  refine lv_istore_n (lv' := [(2, .int (nI 0)), (1, .int (bm_b false)), (0, .ref (ad 42))]) hx hb dX5_movesLocked_3 rfl hl (by decide) rfl (fun ls hl => ?_)
  have lp_1 : ∀ (k_3 : Nat) (i_2 : Nat) (v_5 : Bool), i_2 ≤ ms.2.2.1 → ms.2.2.1 < i_2 + k_3 → ∀ (H : Heap) (locs : List Loc), va_P D vwCl (WW ad cJ cI cZ bm pa p0 p1 p2 li wi mt ms ma mp mk mn ou) H → va_D A (WW ad cJ cI cZ bm pa p0 p1 p2 li wi mt ms ma mp mk mn ou) → va_S A s.heap H locs → ∀ (ls : Array Slot), lv_has ls 3 [(2, .int (nI i_2)), (1, .int (bm_b v_5)), (0, .ref (ad 42))] → W p l e (headSpec wsX5_movesLocked ({ frames := 2, cells := 0, slots := 0, locals := 44 })).room s m args below meth c H locs 0 0 (MQ below (bm_Wxq D vwCl [(cJ, .long), (cI, .int), (cZ, .boolean)] (fun ws9 r9 => ws9 = (WW ad cJ cI cZ bm pa p0 p1 p2 li wi mt ms ma mp mk mn ou) ∧ ∃ b9 : Bool, r9 = some (.int (bm_b b9))) A) args s 0 0 A) (F0 m 4 ls []) := by
    intro k_3
    induction k_3 with
    | zero => intro i_2 v_5 hi_6 hk_7; exfalso; omega
    | succ k_3 ih_4 =>
      intro i_2 v_5 hi_6 hk_7  H locs hP hD hS ls hl
      refine lv_iload_n hx hb dX5_movesLocked_4 rfl (lv_at hl 0 rfl) ?_
      refine lv_aload_n hx hb dX5_movesLocked_5 rfl (lv_at hl 2 rfl) ?_
      refine va_get (D := D) (ci := 5) (v := .int (nI ms.2.2.1)) (C := RX5) (T := TX5) (N := 28) hx hb hts (inT inX5) hown hK hP 42 rfl rfl 3 (by decide) (hts (.fieldLink RX5 85 "BoardMovesModel" "parts" "I") (by decide +kernel)) (fun _ h9 => h9) rfl dX5_movesLocked_6 ?_
      refine bm_ni_ge (x := i_2) (y := ms.2.2.1) (tgt := 55) hx hb (by omega) (by omega) dX5_movesLocked_9 (by decide) (fun c_8 => ?_) (fun c_8 => ?_)
      · refine lv_iload_n hx hb dX5_movesLocked_55 rfl (lv_at hl 1 rfl) ?_
        exact bm_zretX (v := v_5) hx hb hr hP hD hK hS ⟨rfl, v_5, rfl⟩ dX5_movesLocked_56 hlocks
      · refine lv_iload_n hx hb dX5_movesLocked_12 rfl (lv_at hl 1 rfl) ?_
        refine bm_zb_ne (x := v_5) (tgt := 43) hx hb dX5_movesLocked_13 (by decide) (fun c_9 => ?_) (fun c_9 => ?_)
        · refine lv_iconst (v := bm_b true) hx hb dX5_movesLocked_43 (by decide) ?_
          refine lv_goto (tgt := 48) hx hb dX5_movesLocked_44 (by decide) ?_
          refine lv_istore_n (lv' := [(1, .int (bm_b true)), (2, .int (nI i_2)), (0, .ref (ad 42))]) hx hb dX5_movesLocked_48 rfl hl (by decide) rfl (fun ls hl => ?_)
          refine lv_iinc (v := (nI (i_2 + 1))) (lv' := [(2, .int (nI (i_2 + 1))), (1, .int (bm_b true)), (0, .ref (ad 42))]) hx hb dX5_movesLocked_49 hl (k := 1) rfl (nI_1 i_2) (by decide) rfl (fun ls hl => ?_)
          refine lv_goto (tgt := 4) hx hb dX5_movesLocked_52 (by decide) ?_
          exact ih_4 (i_2 + 1) true (by omega) (by omega)  _ _ hP hD hS _ (lv_sub hl [0, 1, 2] rfl)
        · refine lv_aload_n hx hb dX5_movesLocked_16 rfl (lv_at hl 2 rfl) ?_
          refine va_get (D := D) (ci := 5) (v := .ref (ad 49)) (C := RX5) (T := TX5) (N := 28) hx hb hts (inT inX5) hown hK hP 42 rfl rfl 10 (by decide) (hts (.fieldLink RX5 30 "BoardMovesModel" "placed" "[Z") (by decide +kernel)) (fun _ h9 => h9) rfl dX5_movesLocked_17 ?_
          refine lv_iload_n hx hb dX5_movesLocked_20 rfl (lv_at hl 0 rfl) ?_
          refine bm_zald (f := ma.2.2.2.2.2.2) hx hb hK hP 49 2 rfl rfl (j := i_2) (by omega) (by decide) dX5_movesLocked_21 ?_
          refine bm_zb_eq (x := (ma.2.2.2.2.2.2 i_2)) (tgt := 47) hx hb dX5_movesLocked_22 (by decide) (fun c_10 => ?_) (fun c_10 => ?_)
          · refine lv_iconst (v := bm_b false) hx hb dX5_movesLocked_47 (by decide) ?_
            refine lv_istore_n (lv' := [(1, .int (bm_b false)), (2, .int (nI i_2)), (0, .ref (ad 42))]) hx hb dX5_movesLocked_48 rfl hl (by decide) rfl (fun ls hl => ?_)
            refine lv_iinc (v := (nI (i_2 + 1))) (lv' := [(2, .int (nI (i_2 + 1))), (1, .int (bm_b false)), (0, .ref (ad 42))]) hx hb dX5_movesLocked_49 hl (k := 1) rfl (nI_1 i_2) (by decide) rfl (fun ls hl => ?_)
            refine lv_goto (tgt := 4) hx hb dX5_movesLocked_52 (by decide) ?_
            exact ih_4 (i_2 + 1) false (by omega) (by omega)  _ _ hP hD hS _ (lv_sub hl [0, 1, 2] rfl)
          · refine lv_aload_n hx hb dX5_movesLocked_25 rfl (lv_at hl 2 rfl) ?_
            refine va_get (D := D) (ci := 5) (v := .ref (ad 47)) (C := RX5) (T := TX5) (N := 28) hx hb hts (inT inX5) hown hK hP 42 rfl rfl 8 (by decide) (hts (.fieldLink RX5 23 "BoardMovesModel" "locked" "[Z") (by decide +kernel)) (fun _ h9 => h9) rfl dX5_movesLocked_26 ?_
            refine lv_iload_n hx hb dX5_movesLocked_29 rfl (lv_at hl 0 rfl) ?_
            refine bm_zald (f := ma.2.2.2.2.1) hx hb hK hP 47 2 rfl rfl (j := i_2) (by omega) (by decide) dX5_movesLocked_30 ?_
            refine bm_zb_eq (x := (ma.2.2.2.2.1 i_2)) (tgt := 47) hx hb dX5_movesLocked_31 (by decide) (fun c_11 => ?_) (fun c_11 => ?_)
            · refine lv_iconst (v := bm_b false) hx hb dX5_movesLocked_47 (by decide) ?_
              refine lv_istore_n (lv' := [(1, .int (bm_b false)), (2, .int (nI i_2)), (0, .ref (ad 42))]) hx hb dX5_movesLocked_48 rfl hl (by decide) rfl (fun ls hl => ?_)
              refine lv_iinc (v := (nI (i_2 + 1))) (lv' := [(2, .int (nI (i_2 + 1))), (1, .int (bm_b false)), (0, .ref (ad 42))]) hx hb dX5_movesLocked_49 hl (k := 1) rfl (nI_1 i_2) (by decide) rfl (fun ls hl => ?_)
              refine lv_goto (tgt := 4) hx hb dX5_movesLocked_52 (by decide) ?_
              exact ih_4 (i_2 + 1) false (by omega) (by omega)  _ _ hP hD hS _ (lv_sub hl [0, 1, 2] rfl)
            · refine lv_aload_n hx hb dX5_movesLocked_34 rfl (lv_at hl 2 rfl) ?_
              refine lv_iconst (v := nI 1) hx hb dX5_movesLocked_35 (by decide) ?_
              refine lv_iload_n hx hb dX5_movesLocked_36 rfl (lv_at hl 0 rfl) ?_
              refine bm_xcallV (As := [.int (nI 1), .int (nI i_2)]) (rest := []) ⟨hx, hb, hml, hown, hts⟩ (y_same  (zr := 1) (zp := i_2) ok_mp_turns (by omega) (by omega)) (cwV 2 hts (gdV (by decide +kernel) (by decide +kernel) (by decide +kernel) (by decide +kernel) (by decide +kernel)) rfl rfl rfl (by decide +kernel) ⟨Nat.le_of_ble_eq_true rfl, Nat.le_of_ble_eq_true rfl⟩) hK hP hD hS hA 42 5 rfl rfl rfl hl.1 rfl (Nat.le_of_ble_eq_true rfl) dX5_movesLocked_37 ⟨Nat.le_of_ble_eq_true rfl, Nat.le_of_ble_eq_true rfl⟩ (fun ws_12 r_13 h_14 H locs hP hD hS => ?_)
              obtain ⟨rfl, v_15, rfl⟩ := h_14
              have hP : va_P D vwCl (WW ad cJ cI cZ bm pa p0 p1 p2 li wi mt ms ma mp mk mn ou) H := hP
              have hD : va_D A (WW ad cJ cI cZ bm pa p0 p1 p2 li wi mt ms ma mp mk mn ou) := hD
              refine bm_zb_ne (x := v_15) (tgt := 47) hx hb dX5_movesLocked_40 (by decide) (fun c_16 => ?_) (fun c_16 => ?_)
              · refine lv_iconst (v := bm_b false) hx hb dX5_movesLocked_47 (by decide) ?_
                refine lv_istore_n (lv' := [(1, .int (bm_b false)), (2, .int (nI i_2)), (0, .ref (ad 42))]) hx hb dX5_movesLocked_48 rfl hl (by decide) rfl (fun ls hl => ?_)
                refine lv_iinc (v := (nI (i_2 + 1))) (lv' := [(2, .int (nI (i_2 + 1))), (1, .int (bm_b false)), (0, .ref (ad 42))]) hx hb dX5_movesLocked_49 hl (k := 1) rfl (nI_1 i_2) (by decide) rfl (fun ls hl => ?_)
                refine lv_goto (tgt := 4) hx hb dX5_movesLocked_52 (by decide) ?_
                exact ih_4 (i_2 + 1) false (by omega) (by omega)  _ _ hP hD hS _ (lv_sub hl [0, 1, 2] rfl)
              · refine lv_iconst (v := bm_b true) hx hb dX5_movesLocked_43 (by decide) ?_
                refine lv_goto (tgt := 48) hx hb dX5_movesLocked_44 (by decide) ?_
                refine lv_istore_n (lv' := [(1, .int (bm_b true)), (2, .int (nI i_2)), (0, .ref (ad 42))]) hx hb dX5_movesLocked_48 rfl hl (by decide) rfl (fun ls hl => ?_)
                refine lv_iinc (v := (nI (i_2 + 1))) (lv' := [(2, .int (nI (i_2 + 1))), (1, .int (bm_b true)), (0, .ref (ad 42))]) hx hb dX5_movesLocked_49 hl (k := 1) rfl (nI_1 i_2) (by decide) rfl (fun ls hl => ?_)
                refine lv_goto (tgt := 4) hx hb dX5_movesLocked_52 (by decide) ?_
                exact ih_4 (i_2 + 1) true (by omega) (by omega)  _ _ hP hD hS _ (lv_sub hl [0, 1, 2] rfl)
  exact lp_1 (ms.2.2.1 + 1) 0 false (by omega) (by omega)  _ _ hP hD hS _ (lv_sub hl [0, 1, 2] rfl)

set_option maxHeartbeats 8000000 in
set_option maxRecDepth 100000 in
theorem y_mate {l : Launch} {D : va_G} {ad : Nat → Nat} {cJ cI cZ : ClassId} {bm : gBM} {pa : gPA} {p0 p1 p2 : gPL} {li : gLI} {wi : gWI} {mt : Nat} {ms : gMS} {ma : gMA} {mp : gMP} {mk : gMK} {mn : gMN} {ou : Nat → Int64} {zp : Nat} (ok_ms_parts : ms.2.2.1 ≤ 40) (ok_ma_groups : ∀ i, ma.2.2.2.2.2.1 i < 40) (hp0 : zp < 40)  : bm_Wx l yX5_hasMate wsX5_hasMate ({ frames := 0, cells := 0, slots := 0, locals := 0 }) D vwCl [(cJ, .long), (cI, .int), (cZ, .boolean)] (WW ad cJ cI cZ bm pa p0 p1 p2 li wi mt ms ma mp mk mn ou) [.ref (ad 42), .int (nI zp)] (fun ws9 r9 => ws9 = (WW ad cJ cI cZ bm pa p0 p1 p2 li wi mt ms ma mp mk mn ou) ∧ ∃ b9 : Bool, r9 = some (.int (bm_b b9))) := by
  intro sz
  refine Met.ofW (cc := cX5_hasMate) (maxL := 4) (ret := (some .boolean)) (by decide) rfl ?_
  intro p e s m args below meth c s₁ B hml hv
  obtain ⟨ha, hsz, hP, hK, hD0⟩ := hv
  have hx := B.exec
  have hb := B.bytes
  have hr := B.returns
  have hts := atoms_spec (ws := wsX5_hasMate) B.pre
  have hown : s.vm.findClass RX5 = some m.cls := findClass_of_methodNamed B.named
  have hlocks := B.notSynchronized
  subst hsz
  have hD := hD0.self (sz := s.heap.size)
  generalize hAe : va_A (WW ad cJ cI cZ bm pa p0 p1 p2 li wi mt ms ma mp mk mn ou) s.heap.size = A at hD ⊢
  have hA : ∀ q : Nat, s.heap.size ≤ q → A q := fun q h => by rw [← hAe]; exact Or.inr h
  have hS : va_S A s.heap s.heap [] := va_S.rf
  have hl := lv_entry ([.ref (ad 42), .int (nI zp)]) (n := 4) (Nat.le_of_ble_eq_true rfl)
  refine W.eq (g2 := entryFrame m ([.ref (ad 42), .int (nI zp)] : List Value).toArray 4) (by rw [ha]) ?_
  rw [lg_entry_eq]
  generalize (lg_sl ([.ref (ad 42), .int (nI zp)]) ++ List.replicate (4 - (lg_sl ([.ref (ad 42), .int (nI zp)])).length) Slot.unset).toArray = ls at hl ⊢
  have hl : lv_has ls 4 [(0, .ref (ad 42)), (1, .int (nI zp))] := hl
  refine lv_iconst (v := bm_b false) hx hb dX5_hasMate_0 (by decide) ?_
  refine lv_istore_n (lv' := [(2, .int (bm_b false)), (0, .ref (ad 42)), (1, .int (nI zp))]) hx hb dX5_hasMate_1 rfl hl (by decide) rfl (fun ls hl => ?_)
  refine lv_iconst (v := nI 0) hx hb dX5_hasMate_2 (by decide) ?_
  refine lv_istore_n (lv' := [(3, .int (nI 0)), (2, .int (bm_b false)), (0, .ref (ad 42)), (1, .int (nI zp))]) hx hb dX5_hasMate_3 rfl hl (by decide) rfl (fun ls hl => ?_)
  have lp_1 : ∀ (k_3 : Nat) (i_2 : Nat) (v_5 : Bool), i_2 ≤ ms.2.2.1 → ms.2.2.1 < i_2 + k_3 → ∀ (H : Heap) (locs : List Loc), va_P D vwCl (WW ad cJ cI cZ bm pa p0 p1 p2 li wi mt ms ma mp mk mn ou) H → va_D A (WW ad cJ cI cZ bm pa p0 p1 p2 li wi mt ms ma mp mk mn ou) → va_S A s.heap H locs → ∀ (ls : Array Slot), lv_has ls 4 [(3, .int (nI i_2)), (2, .int (bm_b v_5)), (0, .ref (ad 42)), (1, .int (nI zp))] → W p l e (headSpec wsX5_hasMate ({ frames := 0, cells := 0, slots := 0, locals := 0 })).room s m args below meth c H locs 0 0 (MQ below (bm_Wxq D vwCl [(cJ, .long), (cI, .int), (cZ, .boolean)] (fun ws9 r9 => ws9 = (WW ad cJ cI cZ bm pa p0 p1 p2 li wi mt ms ma mp mk mn ou) ∧ ∃ b9 : Bool, r9 = some (.int (bm_b b9))) A) args s 0 0 A) (F0 m 4 ls []) := by
    intro k_3
    induction k_3 with
    | zero => intro i_2 v_5 hi_6 hk_7; exfalso; omega
    | succ k_3 ih_4 =>
      intro i_2 v_5 hi_6 hk_7  H locs hP hD hS ls hl
      refine lv_iload_n hx hb dX5_hasMate_4 rfl (lv_at hl 0 rfl) ?_
      refine lv_aload_n hx hb dX5_hasMate_5 rfl (lv_at hl 2 rfl) ?_
      refine va_get (D := D) (ci := 5) (v := .int (nI ms.2.2.1)) (C := RX5) (T := TX5) (N := 28) hx hb hts (inT inX5) hown hK hP 42 rfl rfl 3 (by decide) (hts (.fieldLink RX5 85 "BoardMovesModel" "parts" "I") (by decide +kernel)) (fun _ h9 => h9) rfl dX5_hasMate_6 ?_
      refine bm_ni_ge (x := i_2) (y := ms.2.2.1) (tgt := 57) hx hb (by omega) (by omega) dX5_hasMate_9 (by decide) (fun c_8 => ?_) (fun c_8 => ?_)
      · refine lv_iload_n hx hb dX5_hasMate_57 rfl (lv_at hl 1 rfl) ?_
        exact bm_zretX (v := v_5) hx hb hr hP hD hK hS ⟨rfl, v_5, rfl⟩ dX5_hasMate_58 hlocks
      · refine lv_iload_n hx hb dX5_hasMate_12 rfl (lv_at hl 1 rfl) ?_
        refine bm_zb_ne (x := v_5) (tgt := 45) hx hb dX5_hasMate_13 (by decide) (fun c_9 => ?_) (fun c_9 => ?_)
        · refine lv_iconst (v := bm_b true) hx hb dX5_hasMate_45 (by decide) ?_
          refine lv_goto (tgt := 50) hx hb dX5_hasMate_46 (by decide) ?_
          refine lv_istore_n (lv' := [(2, .int (bm_b true)), (3, .int (nI i_2)), (0, .ref (ad 42)), (1, .int (nI zp))]) hx hb dX5_hasMate_50 rfl hl (by decide) rfl (fun ls hl => ?_)
          refine lv_iinc (v := (nI (i_2 + 1))) (lv' := [(3, .int (nI (i_2 + 1))), (2, .int (bm_b true)), (0, .ref (ad 42)), (1, .int (nI zp))]) hx hb dX5_hasMate_51 hl (k := 1) rfl (nI_1 i_2) (by decide) rfl (fun ls hl => ?_)
          refine lv_goto (tgt := 4) hx hb dX5_hasMate_54 (by decide) ?_
          exact ih_4 (i_2 + 1) true (by omega) (by omega)  _ _ hP hD hS _ (lv_sub hl [0, 1, 2, 3] rfl)
        · refine lv_iload_n hx hb dX5_hasMate_16 rfl (lv_at hl 0 rfl) ?_
          refine lv_iload_n hx hb dX5_hasMate_17 rfl (lv_at hl 3 rfl) ?_
          refine bm_ni_eq (x := i_2) (y := zp) (tgt := 49) hx hb (by omega) (by omega) dX5_hasMate_18 (by decide) (fun c_10 => ?_) (fun c_10 => ?_)
          · refine lv_iconst (v := bm_b false) hx hb dX5_hasMate_49 (by decide) ?_
            refine lv_istore_n (lv' := [(2, .int (bm_b false)), (3, .int (nI i_2)), (0, .ref (ad 42)), (1, .int (nI zp))]) hx hb dX5_hasMate_50 rfl hl (by decide) rfl (fun ls hl => ?_)
            refine lv_iinc (v := (nI (i_2 + 1))) (lv' := [(3, .int (nI (i_2 + 1))), (2, .int (bm_b false)), (0, .ref (ad 42)), (1, .int (nI zp))]) hx hb dX5_hasMate_51 hl (k := 1) rfl (nI_1 i_2) (by decide) rfl (fun ls hl => ?_)
            refine lv_goto (tgt := 4) hx hb dX5_hasMate_54 (by decide) ?_
            exact ih_4 (i_2 + 1) false (by omega) (by omega)  _ _ hP hD hS _ (lv_sub hl [0, 1, 2, 3] rfl)
          · refine lv_aload_n hx hb dX5_hasMate_21 rfl (lv_at hl 2 rfl) ?_
            refine va_get (D := D) (ci := 5) (v := .ref (ad 49)) (C := RX5) (T := TX5) (N := 28) hx hb hts (inT inX5) hown hK hP 42 rfl rfl 10 (by decide) (hts (.fieldLink RX5 30 "BoardMovesModel" "placed" "[Z") (by decide +kernel)) (fun _ h9 => h9) rfl dX5_hasMate_22 ?_
            refine lv_iload_n hx hb dX5_hasMate_25 rfl (lv_at hl 0 rfl) ?_
            refine bm_zald (f := ma.2.2.2.2.2.2) hx hb hK hP 49 2 rfl rfl (j := i_2) (by omega) (by decide) dX5_hasMate_26 ?_
            refine bm_zb_eq (x := (ma.2.2.2.2.2.2 i_2)) (tgt := 49) hx hb dX5_hasMate_27 (by decide) (fun c_11 => ?_) (fun c_11 => ?_)
            · refine lv_iconst (v := bm_b false) hx hb dX5_hasMate_49 (by decide) ?_
              refine lv_istore_n (lv' := [(2, .int (bm_b false)), (3, .int (nI i_2)), (0, .ref (ad 42)), (1, .int (nI zp))]) hx hb dX5_hasMate_50 rfl hl (by decide) rfl (fun ls hl => ?_)
              refine lv_iinc (v := (nI (i_2 + 1))) (lv' := [(3, .int (nI (i_2 + 1))), (2, .int (bm_b false)), (0, .ref (ad 42)), (1, .int (nI zp))]) hx hb dX5_hasMate_51 hl (k := 1) rfl (nI_1 i_2) (by decide) rfl (fun ls hl => ?_)
              refine lv_goto (tgt := 4) hx hb dX5_hasMate_54 (by decide) ?_
              exact ih_4 (i_2 + 1) false (by omega) (by omega)  _ _ hP hD hS _ (lv_sub hl [0, 1, 2, 3] rfl)
            · refine lv_aload_n hx hb dX5_hasMate_30 rfl (lv_at hl 2 rfl) ?_
              refine va_get (D := D) (ci := 5) (v := .ref (ad 48)) (C := RX5) (T := TX5) (N := 28) hx hb hts (inT inX5) hown hK hP 42 rfl rfl 9 (by decide) (hts (.fieldLink RX5 27 "BoardMovesModel" "groups" "[I") (by decide +kernel)) (fun _ h9 => h9) rfl dX5_hasMate_31 ?_
              refine lv_iload_n hx hb dX5_hasMate_34 rfl (lv_at hl 0 rfl) ?_
              refine bm_nald (f := ma.2.2.2.2.2.1) hx hb hK hP 48 1 rfl rfl (j := i_2) (by omega) (by decide) dX5_hasMate_35 ?_
              refine lv_aload_n hx hb dX5_hasMate_36 rfl (lv_at hl 2 rfl) ?_
              refine va_get (D := D) (ci := 5) (v := .ref (ad 48)) (C := RX5) (T := TX5) (N := 28) hx hb hts (inT inX5) hown hK hP 42 rfl rfl 9 (by decide) (hts (.fieldLink RX5 27 "BoardMovesModel" "groups" "[I") (by decide +kernel)) (fun _ h9 => h9) rfl dX5_hasMate_37 ?_
              refine lv_iload_n hx hb dX5_hasMate_40 rfl (lv_at hl 3 rfl) ?_
              refine bm_nald (f := ma.2.2.2.2.2.1) hx hb hK hP 48 1 rfl rfl (j := zp) (by omega) (by decide) dX5_hasMate_41 ?_
              refine bm_ni_ne (x := (ma.2.2.2.2.2.1 i_2)) (y := (ma.2.2.2.2.2.1 zp)) (tgt := 49) hx hb (bm40 (ok_ma_groups _)) (bm40 (ok_ma_groups _)) dX5_hasMate_42 (by decide) (fun c_12 => ?_) (fun c_12 => ?_)
              · refine lv_iconst (v := bm_b false) hx hb dX5_hasMate_49 (by decide) ?_
                refine lv_istore_n (lv' := [(2, .int (bm_b false)), (3, .int (nI i_2)), (0, .ref (ad 42)), (1, .int (nI zp))]) hx hb dX5_hasMate_50 rfl hl (by decide) rfl (fun ls hl => ?_)
                refine lv_iinc (v := (nI (i_2 + 1))) (lv' := [(3, .int (nI (i_2 + 1))), (2, .int (bm_b false)), (0, .ref (ad 42)), (1, .int (nI zp))]) hx hb dX5_hasMate_51 hl (k := 1) rfl (nI_1 i_2) (by decide) rfl (fun ls hl => ?_)
                refine lv_goto (tgt := 4) hx hb dX5_hasMate_54 (by decide) ?_
                exact ih_4 (i_2 + 1) false (by omega) (by omega)  _ _ hP hD hS _ (lv_sub hl [0, 1, 2, 3] rfl)
              · refine lv_iconst (v := bm_b true) hx hb dX5_hasMate_45 (by decide) ?_
                refine lv_goto (tgt := 50) hx hb dX5_hasMate_46 (by decide) ?_
                refine lv_istore_n (lv' := [(2, .int (bm_b true)), (3, .int (nI i_2)), (0, .ref (ad 42)), (1, .int (nI zp))]) hx hb dX5_hasMate_50 rfl hl (by decide) rfl (fun ls hl => ?_)
                refine lv_iinc (v := (nI (i_2 + 1))) (lv' := [(3, .int (nI (i_2 + 1))), (2, .int (bm_b true)), (0, .ref (ad 42)), (1, .int (nI zp))]) hx hb dX5_hasMate_51 hl (k := 1) rfl (nI_1 i_2) (by decide) rfl (fun ls hl => ?_)
                refine lv_goto (tgt := 4) hx hb dX5_hasMate_54 (by decide) ?_
                exact ih_4 (i_2 + 1) true (by omega) (by omega)  _ _ hP hD hS _ (lv_sub hl [0, 1, 2, 3] rfl)
  exact lp_1 (ms.2.2.1 + 1) 0 false (by omega) (by omega)  _ _ hP hD hS _ (lv_sub hl [0, 1, 2, 3] rfl)
end
section
set_option maxHeartbeats 8000000 in
set_option maxRecDepth 100000 in
theorem y_pinAt {l : Launch} {D : va_G} {ad : Nat → Nat} {cJ cI cZ : ClassId} {bm : gBM} {pa : gPA} {p0 p1 p2 : gPL} {li : gLI} {wi : gWI} {mt : Nat} {ms : gMS} {ma : gMA} {mp : gMP} {mk : gMK} {mn : gMN} {ou : Nat → Int64} {zr : Nat} {zk : Nat} {zb : Bool} (ok_mn_pinPart : ∀ i, mn.2.1 i < 40) (ok_mp_turns : ∀ i, mp.2.2 i < 40) (hp0 : zr < 3) (hp1 : zk < 120)  : bm_Wx l yX5_pinAt wsX5_pinAt ({ frames := 1, cells := 0, slots := 0, locals := 22 }) D vwCl [(cJ, .long), (cI, .int), (cZ, .boolean)] (WW ad cJ cI cZ bm pa p0 p1 p2 li wi mt ms ma mp mk mn ou) [.ref (ad 42), .int (nI zr), .int (nI zk), .int (bm_b zb)] (fun ws9 r9 => ws9 = (WW ad cJ cI cZ bm pa p0 p1 p2 li wi mt ms ma mp mk mn ou) ∧ ∃ v9 : Int64, r9 = some (.long v9)) := by
  intro sz
  refine Met.ofW (cc := cX5_pinAt) (maxL := 9) (ret := (some .long)) (by decide) rfl ?_
  intro p e s m args below meth c s₁ B hml hv
  obtain ⟨ha, hsz, hP, hK, hD0⟩ := hv
  have hx := B.exec
  have hb := B.bytes
  have hr := B.returns
  have hts := atoms_spec (ws := wsX5_pinAt) B.pre
  have hown : s.vm.findClass RX5 = some m.cls := findClass_of_methodNamed B.named
  have hlocks := B.notSynchronized
  subst hsz
  have hD := hD0.self (sz := s.heap.size)
  generalize hAe : va_A (WW ad cJ cI cZ bm pa p0 p1 p2 li wi mt ms ma mp mk mn ou) s.heap.size = A at hD ⊢
  have hA : ∀ q : Nat, s.heap.size ≤ q → A q := fun q h => by rw [← hAe]; exact Or.inr h
  have hS : va_S A s.heap s.heap [] := va_S.rf
  have hl := lv_entry ([.ref (ad 42), .int (nI zr), .int (nI zk), .int (bm_b zb)]) (n := 9) (Nat.le_of_ble_eq_true rfl)
  refine W.eq (g2 := entryFrame m ([.ref (ad 42), .int (nI zr), .int (nI zk), .int (bm_b zb)] : List Value).toArray 9) (by rw [ha]) ?_
  rw [lg_entry_eq]
  generalize (lg_sl ([.ref (ad 42), .int (nI zr), .int (nI zk), .int (bm_b zb)]) ++ List.replicate (9 - (lg_sl ([.ref (ad 42), .int (nI zr), .int (nI zk), .int (bm_b zb)])).length) Slot.unset).toArray = ls at hl ⊢
  have hl : lv_has ls 9 [(0, .ref (ad 42)), (1, .int (nI zr)), (2, .int (nI zk)), (3, .int (bm_b zb))] := hl
  refine lv_aload_n hx hb dX5_pinAt_0 rfl (lv_at hl 0 rfl) ?_
  refine va_get (D := D) (ci := 5) (v := .ref (ad 58)) (C := RX5) (T := TX5) (N := 28) hx hb hts (inT inX5) hown hK hP 42 rfl rfl 23 (by decide) (hts (.fieldLink RX5 57 "BoardMovesModel" "pinPart" "[I") (by decide +kernel)) (fun _ h9 => h9) rfl dX5_pinAt_1 ?_
  refine lv_iload_n hx hb dX5_pinAt_4 rfl (lv_at hl 2 rfl) ?_
  refine bm_nald (f := mn.2.1) hx hb hK hP 58 1 rfl rfl (j := zk) (by omega) (by decide) dX5_pinAt_5 ?_
  refine lv_istore (lv' := [(4, .int (nI (mn.2.1 zk))), (0, .ref (ad 42)), (1, .int (nI zr)), (2, .int (nI zk)), (3, .int (bm_b zb))]) hx hb dX5_pinAt_6 hl (by decide) rfl (fun ls hl => ?_)
  refine lv_aload_n hx hb dX5_pinAt_8 rfl (lv_at hl 1 rfl) ?_
  refine va_get (D := D) (ci := 5) (v := .ref (ad 59)) (C := RX5) (T := TX5) (N := 28) hx hb hts (inT inX5) hown hK hP 42 rfl rfl 24 (by decide) (hts (.fieldLink RX5 60 "BoardMovesModel" "pinX" "[J") (by decide +kernel)) (fun _ h9 => h9) rfl dX5_pinAt_9 ?_
  refine lv_iload_n hx hb dX5_pinAt_12 rfl (lv_at hl 3 rfl) ?_
  refine bm_lald (f := mn.2.2.1) hx hb hK hP 59 0 rfl rfl (j := zk) (by omega) (by decide) dX5_pinAt_13 ?_
  refine lv_topl (fun t_1 _ => ?_)
  refine lv_lstore (lv' := [(5, .long t_1), (4, .int (nI (mn.2.1 zk))), (0, .ref (ad 42)), (1, .int (nI zr)), (2, .int (nI zk)), (3, .int (bm_b zb))]) hx hb dX5_pinAt_14 hl (by decide) rfl (fun ls hl => ?_)
  refine lv_aload_n hx hb dX5_pinAt_16 rfl (lv_at hl 2 rfl) ?_
  refine va_get (D := D) (ci := 5) (v := .ref (ad 60)) (C := RX5) (T := TX5) (N := 28) hx hb hts (inT inX5) hown hK hP 42 rfl rfl 25 (by decide) (hts (.fieldLink RX5 63 "BoardMovesModel" "pinY" "[J") (by decide +kernel)) (fun _ h9 => h9) rfl dX5_pinAt_17 ?_
  refine lv_iload_n hx hb dX5_pinAt_20 rfl (lv_at hl 4 rfl) ?_
  refine bm_lald (f := mn.2.2.2.1) hx hb hK hP 60 0 rfl rfl (j := zk) (by omega) (by decide) dX5_pinAt_21 ?_
  refine lv_topl (fun t_2 _ => ?_)
  refine lv_lstore (lv' := [(7, .long t_2), (5, .long t_1), (4, .int (nI (mn.2.1 zk))), (0, .ref (ad 42)), (1, .int (nI zr)), (2, .int (nI zk)), (3, .int (bm_b zb))]) hx hb dX5_pinAt_22 hl (by decide) rfl (fun ls hl => ?_)
  refine lv_aload_n hx hb dX5_pinAt_24 rfl (lv_at hl 3 rfl) ?_
  refine va_get (D := D) (ci := 5) (v := .ref (ad 52)) (C := RX5) (T := TX5) (N := 28) hx hb hts (inT inX5) hown hK hP 42 rfl rfl 13 (by decide) (hts (.fieldLink RX5 39 "BoardMovesModel" "turns" "[I") (by decide +kernel)) (fun _ h9 => h9) rfl dX5_pinAt_25 ?_
  refine lv_bipush (v := nI 40) hx hb dX5_pinAt_28 (by decide) ?_
  refine lv_iload_n hx hb dX5_pinAt_30 rfl (lv_at hl 4 rfl) ?_
  refine bm_nmul hx hb dX5_pinAt_31 ?_
  refine lv_iload hx hb dX5_pinAt_32 (lv_at hl 2 rfl) ?_
  refine bm_nadd hx hb dX5_pinAt_34 ?_
  refine bm_nald (f := mp.2.2) hx hb hK hP 52 1 rfl rfl (j := ((40 * zr) + (mn.2.1 zk))) (by have h := ok_mn_pinPart zk; omega) (by decide) dX5_pinAt_35 ?_
  by_cases ht_3 : mp.2.2 ((40 * zr) + (mn.2.1 zk)) = 0
  · rw [ht_3]
    refine lv_tableIn (off := 28) (tgt := 64) hx hb dX5_pinAt_36 (by decide) (by decide) (by decide) (by decide) ?_
    refine lv_iload_n hx hb dX5_pinAt_64 rfl (lv_at hl 6 rfl) ?_
    refine bm_zb_eq (x := zb) (tgt := 81) hx hb dX5_pinAt_65 (by decide) (fun c_6 => ?_) (fun c_6 => ?_)
    · refine lv_aload_n hx hb dX5_pinAt_81 rfl (lv_at hl 3 rfl) ?_
      refine lv_iload_n hx hb dX5_pinAt_82 rfl (lv_at hl 4 rfl) ?_
      refine lv_iload hx hb dX5_pinAt_83 (lv_at hl 2 rfl) ?_
      refine bm_xcallV (As := [.int (nI zr), .int (nI (mn.2.1 zk))]) (rest := []) ⟨hx, hb, hml, hown, hts⟩ (y_low  (zr := zr) (zp := mn.2.1 zk)  (by omega) (ok_mn_pinPart _)) (cwV 2 hts (gdV (by decide +kernel) (by decide +kernel) (by decide +kernel) (by decide +kernel) (by decide +kernel)) rfl rfl rfl (by decide +kernel) ⟨Nat.le_of_ble_eq_true rfl, Nat.le_of_ble_eq_true rfl⟩) hK hP hD hS hA 42 5 rfl rfl rfl hl.1 rfl (Nat.le_of_ble_eq_true rfl) dX5_pinAt_85 ⟨Nat.le_of_ble_eq_true rfl, Nat.le_of_ble_eq_true rfl⟩ (fun ws_7 r_8 h_9 H locs hP hD hS => ?_)
      obtain ⟨rfl, v_10, rfl⟩ := h_9
      have hP : va_P D vwCl (WW ad cJ cI cZ bm pa p0 p1 p2 li wi mt ms ma mp mk mn ou) H := hP
      have hD : va_D A (WW ad cJ cI cZ bm pa p0 p1 p2 li wi mt ms ma mp mk mn ou) := hD
      refine lv_lload hx hb dX5_pinAt_88 (lv_at hl 0 rfl) ?_
      refine lv_ladd hx hb dX5_pinAt_90 ?_
      refine lv_topl (fun t_11 _ => ?_)
      exact bm_lretX (v := t_11) hx hb hr hP hD hK hS ⟨rfl, t_11, rfl⟩ dX5_pinAt_91 hlocks
    · refine lv_aload_n hx hb dX5_pinAt_68 rfl (lv_at hl 3 rfl) ?_
      refine lv_iload_n hx hb dX5_pinAt_69 rfl (lv_at hl 4 rfl) ?_
      refine lv_iload hx hb dX5_pinAt_70 (lv_at hl 2 rfl) ?_
      refine bm_xcallV (As := [.int (nI zr), .int (nI (mn.2.1 zk))]) (rest := []) ⟨hx, hb, hml, hown, hts⟩ (y_left  (zr := zr) (zp := mn.2.1 zk)  (by omega) (ok_mn_pinPart _)) (cwV 2 hts (gdV (by decide +kernel) (by decide +kernel) (by decide +kernel) (by decide +kernel) (by decide +kernel)) rfl rfl rfl (by decide +kernel) ⟨Nat.le_of_ble_eq_true rfl, Nat.le_of_ble_eq_true rfl⟩) hK hP hD hS hA 42 5 rfl rfl rfl hl.1 rfl (Nat.le_of_ble_eq_true rfl) dX5_pinAt_72 ⟨Nat.le_of_ble_eq_true rfl, Nat.le_of_ble_eq_true rfl⟩ (fun ws_12 r_13 h_14 H locs hP hD hS => ?_)
      obtain ⟨rfl, v_15, rfl⟩ := h_14
      have hP : va_P D vwCl (WW ad cJ cI cZ bm pa p0 p1 p2 li wi mt ms ma mp mk mn ou) H := hP
      have hD : va_D A (WW ad cJ cI cZ bm pa p0 p1 p2 li wi mt ms ma mp mk mn ou) := hD
      refine lv_lload hx hb dX5_pinAt_75 (lv_at hl 1 rfl) ?_
      refine lv_ladd hx hb dX5_pinAt_77 ?_
      refine lv_topl (fun t_16 _ => ?_)
      refine lv_goto (tgt := 91) hx hb dX5_pinAt_78 (by decide) ?_
      exact bm_lretX (v := t_16) hx hb hr hP hD hK hS ⟨rfl, t_16, rfl⟩ dX5_pinAt_91 hlocks
  · by_cases ht_4 : mp.2.2 ((40 * zr) + (mn.2.1 zk)) = 1
    · rw [ht_4]
      refine lv_tableIn (off := 56) (tgt := 92) hx hb dX5_pinAt_36 (by decide) (by decide) (by decide) (by decide) ?_
      refine lv_iload_n hx hb dX5_pinAt_92 rfl (lv_at hl 6 rfl) ?_
      refine bm_zb_eq (x := zb) (tgt := 117) hx hb dX5_pinAt_93 (by decide) (fun c_17 => ?_) (fun c_17 => ?_)
      · refine lv_aload_n hx hb dX5_pinAt_117 rfl (lv_at hl 3 rfl) ?_
        refine lv_iload_n hx hb dX5_pinAt_118 rfl (lv_at hl 4 rfl) ?_
        refine lv_iload hx hb dX5_pinAt_119 (lv_at hl 2 rfl) ?_
        refine bm_xcallV (As := [.int (nI zr), .int (nI (mn.2.1 zk))]) (rest := []) ⟨hx, hb, hml, hown, hts⟩ (y_low  (zr := zr) (zp := mn.2.1 zk)  (by omega) (ok_mn_pinPart _)) (cwV 2 hts (gdV (by decide +kernel) (by decide +kernel) (by decide +kernel) (by decide +kernel) (by decide +kernel)) rfl rfl rfl (by decide +kernel) ⟨Nat.le_of_ble_eq_true rfl, Nat.le_of_ble_eq_true rfl⟩) hK hP hD hS hA 42 5 rfl rfl rfl hl.1 rfl (Nat.le_of_ble_eq_true rfl) dX5_pinAt_121 ⟨Nat.le_of_ble_eq_true rfl, Nat.le_of_ble_eq_true rfl⟩ (fun ws_18 r_19 h_20 H locs hP hD hS => ?_)
        obtain ⟨rfl, v_21, rfl⟩ := h_20
        have hP : va_P D vwCl (WW ad cJ cI cZ bm pa p0 p1 p2 li wi mt ms ma mp mk mn ou) H := hP
        have hD : va_D A (WW ad cJ cI cZ bm pa p0 p1 p2 li wi mt ms ma mp mk mn ou) := hD
        refine lv_lload hx hb dX5_pinAt_124 (lv_at hl 1 rfl) ?_
        refine lv_ladd hx hb dX5_pinAt_126 ?_
        refine lv_topl (fun t_22 _ => ?_)
        exact bm_lretX (v := t_22) hx hb hr hP hD hK hS ⟨rfl, t_22, rfl⟩ dX5_pinAt_127 hlocks
      · refine lv_aload_n hx hb dX5_pinAt_96 rfl (lv_at hl 3 rfl) ?_
        refine lv_iload_n hx hb dX5_pinAt_97 rfl (lv_at hl 4 rfl) ?_
        refine lv_iload hx hb dX5_pinAt_98 (lv_at hl 2 rfl) ?_
        refine bm_xcallV (As := [.int (nI zr), .int (nI (mn.2.1 zk))]) (rest := []) ⟨hx, hb, hml, hown, hts⟩ (y_left  (zr := zr) (zp := mn.2.1 zk)  (by omega) (ok_mn_pinPart _)) (cwV 2 hts (gdV (by decide +kernel) (by decide +kernel) (by decide +kernel) (by decide +kernel) (by decide +kernel)) rfl rfl rfl (by decide +kernel) ⟨Nat.le_of_ble_eq_true rfl, Nat.le_of_ble_eq_true rfl⟩) hK hP hD hS hA 42 5 rfl rfl rfl hl.1 rfl (Nat.le_of_ble_eq_true rfl) dX5_pinAt_100 ⟨Nat.le_of_ble_eq_true rfl, Nat.le_of_ble_eq_true rfl⟩ (fun ws_23 r_24 h_25 H locs hP hD hS => ?_)
        obtain ⟨rfl, v_26, rfl⟩ := h_25
        have hP : va_P D vwCl (WW ad cJ cI cZ bm pa p0 p1 p2 li wi mt ms ma mp mk mn ou) H := hP
        have hD : va_D A (WW ad cJ cI cZ bm pa p0 p1 p2 li wi mt ms ma mp mk mn ou) := hD
        refine lv_aload_n hx hb dX5_pinAt_103 rfl (lv_at hl 3 rfl) ?_
        refine va_get (D := D) (ci := 5) (v := .ref (ad 44)) (C := RX5) (T := TX5) (N := 28) hx hb hts (inT inX5) hown hK hP 42 rfl rfl 5 (by decide) (hts (.fieldLink RX5 13 "BoardMovesModel" "high" "[J") (by decide +kernel)) (fun _ h9 => h9) rfl dX5_pinAt_104 ?_
        refine lv_iload hx hb dX5_pinAt_107 (lv_at hl 2 rfl) ?_
        refine bm_lald (f := ma.2.1) hx hb hK hP 44 0 rfl rfl (j := (mn.2.1 zk)) (ok_mn_pinPart _) (by decide) dX5_pinAt_109 ?_
        refine lv_topl (fun t_27 _ => ?_)
        refine lv_ladd hx hb dX5_pinAt_110 ?_
        refine lv_topl (fun t_28 _ => ?_)
        refine lv_lload hx hb dX5_pinAt_111 (lv_at hl 0 rfl) ?_
        refine lv_lsub hx hb dX5_pinAt_113 ?_
        refine lv_topl (fun t_29 _ => ?_)
        refine lv_goto (tgt := 127) hx hb dX5_pinAt_114 (by decide) ?_
        exact bm_lretX (v := t_29) hx hb hr hP hD hK hS ⟨rfl, t_29, rfl⟩ dX5_pinAt_127 hlocks
    · by_cases ht_5 : mp.2.2 ((40 * zr) + (mn.2.1 zk)) = 2
      · rw [ht_5]
        refine lv_tableIn (off := 92) (tgt := 128) hx hb dX5_pinAt_36 (by decide) (by decide) (by decide) (by decide) ?_
        refine lv_iload_n hx hb dX5_pinAt_128 rfl (lv_at hl 6 rfl) ?_
        refine bm_zb_eq (x := zb) (tgt := 153) hx hb dX5_pinAt_129 (by decide) (fun c_30 => ?_) (fun c_30 => ?_)
        · refine lv_aload_n hx hb dX5_pinAt_153 rfl (lv_at hl 3 rfl) ?_
          refine lv_iload_n hx hb dX5_pinAt_154 rfl (lv_at hl 4 rfl) ?_
          refine lv_iload hx hb dX5_pinAt_155 (lv_at hl 2 rfl) ?_
          refine bm_xcallV (As := [.int (nI zr), .int (nI (mn.2.1 zk))]) (rest := []) ⟨hx, hb, hml, hown, hts⟩ (y_low  (zr := zr) (zp := mn.2.1 zk)  (by omega) (ok_mn_pinPart _)) (cwV 2 hts (gdV (by decide +kernel) (by decide +kernel) (by decide +kernel) (by decide +kernel) (by decide +kernel)) rfl rfl rfl (by decide +kernel) ⟨Nat.le_of_ble_eq_true rfl, Nat.le_of_ble_eq_true rfl⟩) hK hP hD hS hA 42 5 rfl rfl rfl hl.1 rfl (Nat.le_of_ble_eq_true rfl) dX5_pinAt_157 ⟨Nat.le_of_ble_eq_true rfl, Nat.le_of_ble_eq_true rfl⟩ (fun ws_31 r_32 h_33 H locs hP hD hS => ?_)
          obtain ⟨rfl, v_34, rfl⟩ := h_33
          have hP : va_P D vwCl (WW ad cJ cI cZ bm pa p0 p1 p2 li wi mt ms ma mp mk mn ou) H := hP
          have hD : va_D A (WW ad cJ cI cZ bm pa p0 p1 p2 li wi mt ms ma mp mk mn ou) := hD
          refine lv_aload_n hx hb dX5_pinAt_160 rfl (lv_at hl 3 rfl) ?_
          refine va_get (D := D) (ci := 5) (v := .ref (ad 44)) (C := RX5) (T := TX5) (N := 28) hx hb hts (inT inX5) hown hK hP 42 rfl rfl 5 (by decide) (hts (.fieldLink RX5 13 "BoardMovesModel" "high" "[J") (by decide +kernel)) (fun _ h9 => h9) rfl dX5_pinAt_161 ?_
          refine lv_iload hx hb dX5_pinAt_164 (lv_at hl 2 rfl) ?_
          refine bm_lald (f := ma.2.1) hx hb hK hP 44 0 rfl rfl (j := (mn.2.1 zk)) (ok_mn_pinPart _) (by decide) dX5_pinAt_166 ?_
          refine lv_topl (fun t_35 _ => ?_)
          refine lv_ladd hx hb dX5_pinAt_167 ?_
          refine lv_topl (fun t_36 _ => ?_)
          refine lv_lload hx hb dX5_pinAt_168 (lv_at hl 0 rfl) ?_
          refine lv_lsub hx hb dX5_pinAt_170 ?_
          refine lv_topl (fun t_37 _ => ?_)
          exact bm_lretX (v := t_37) hx hb hr hP hD hK hS ⟨rfl, t_37, rfl⟩ dX5_pinAt_171 hlocks
        · refine lv_aload_n hx hb dX5_pinAt_132 rfl (lv_at hl 3 rfl) ?_
          refine lv_iload_n hx hb dX5_pinAt_133 rfl (lv_at hl 4 rfl) ?_
          refine lv_iload hx hb dX5_pinAt_134 (lv_at hl 2 rfl) ?_
          refine bm_xcallV (As := [.int (nI zr), .int (nI (mn.2.1 zk))]) (rest := []) ⟨hx, hb, hml, hown, hts⟩ (y_left  (zr := zr) (zp := mn.2.1 zk)  (by omega) (ok_mn_pinPart _)) (cwV 2 hts (gdV (by decide +kernel) (by decide +kernel) (by decide +kernel) (by decide +kernel) (by decide +kernel)) rfl rfl rfl (by decide +kernel) ⟨Nat.le_of_ble_eq_true rfl, Nat.le_of_ble_eq_true rfl⟩) hK hP hD hS hA 42 5 rfl rfl rfl hl.1 rfl (Nat.le_of_ble_eq_true rfl) dX5_pinAt_136 ⟨Nat.le_of_ble_eq_true rfl, Nat.le_of_ble_eq_true rfl⟩ (fun ws_38 r_39 h_40 H locs hP hD hS => ?_)
          obtain ⟨rfl, v_41, rfl⟩ := h_40
          have hP : va_P D vwCl (WW ad cJ cI cZ bm pa p0 p1 p2 li wi mt ms ma mp mk mn ou) H := hP
          have hD : va_D A (WW ad cJ cI cZ bm pa p0 p1 p2 li wi mt ms ma mp mk mn ou) := hD
          refine lv_aload_n hx hb dX5_pinAt_139 rfl (lv_at hl 3 rfl) ?_
          refine va_get (D := D) (ci := 5) (v := .ref (ad 43)) (C := RX5) (T := TX5) (N := 28) hx hb hts (inT inX5) hown hK hP 42 rfl rfl 4 (by decide) (hts (.fieldLink RX5 7 "BoardMovesModel" "wide" "[J") (by decide +kernel)) (fun _ h9 => h9) rfl dX5_pinAt_140 ?_
          refine lv_iload hx hb dX5_pinAt_143 (lv_at hl 2 rfl) ?_
          refine bm_lald (f := ma.1) hx hb hK hP 43 0 rfl rfl (j := (mn.2.1 zk)) (ok_mn_pinPart _) (by decide) dX5_pinAt_145 ?_
          refine lv_topl (fun t_42 _ => ?_)
          refine lv_ladd hx hb dX5_pinAt_146 ?_
          refine lv_topl (fun t_43 _ => ?_)
          refine lv_lload hx hb dX5_pinAt_147 (lv_at hl 1 rfl) ?_
          refine lv_lsub hx hb dX5_pinAt_149 ?_
          refine lv_topl (fun t_44 _ => ?_)
          refine lv_goto (tgt := 171) hx hb dX5_pinAt_150 (by decide) ?_
          exact bm_lretX (v := t_44) hx hb hr hP hD hK hS ⟨rfl, t_44, rfl⟩ dX5_pinAt_171 hlocks
      · refine lv_tableOut (tgt := 172) hx hb dX5_pinAt_36 (by rw [nI_toInt (bm40 (ok_mp_turns _))]; omega) (by decide) ?_
        refine lv_iload_n hx hb dX5_pinAt_172 rfl (lv_at hl 6 rfl) ?_
        refine bm_zb_eq (x := zb) (tgt := 189) hx hb dX5_pinAt_173 (by decide) (fun c_45 => ?_) (fun c_45 => ?_)
        · refine lv_aload_n hx hb dX5_pinAt_189 rfl (lv_at hl 3 rfl) ?_
          refine lv_iload_n hx hb dX5_pinAt_190 rfl (lv_at hl 4 rfl) ?_
          refine lv_iload hx hb dX5_pinAt_191 (lv_at hl 2 rfl) ?_
          refine bm_xcallV (As := [.int (nI zr), .int (nI (mn.2.1 zk))]) (rest := []) ⟨hx, hb, hml, hown, hts⟩ (y_low  (zr := zr) (zp := mn.2.1 zk)  (by omega) (ok_mn_pinPart _)) (cwV 2 hts (gdV (by decide +kernel) (by decide +kernel) (by decide +kernel) (by decide +kernel) (by decide +kernel)) rfl rfl rfl (by decide +kernel) ⟨Nat.le_of_ble_eq_true rfl, Nat.le_of_ble_eq_true rfl⟩) hK hP hD hS hA 42 5 rfl rfl rfl hl.1 rfl (Nat.le_of_ble_eq_true rfl) dX5_pinAt_193 ⟨Nat.le_of_ble_eq_true rfl, Nat.le_of_ble_eq_true rfl⟩ (fun ws_46 r_47 h_48 H locs hP hD hS => ?_)
          obtain ⟨rfl, v_49, rfl⟩ := h_48
          have hP : va_P D vwCl (WW ad cJ cI cZ bm pa p0 p1 p2 li wi mt ms ma mp mk mn ou) H := hP
          have hD : va_D A (WW ad cJ cI cZ bm pa p0 p1 p2 li wi mt ms ma mp mk mn ou) := hD
          refine lv_aload_n hx hb dX5_pinAt_196 rfl (lv_at hl 3 rfl) ?_
          refine va_get (D := D) (ci := 5) (v := .ref (ad 43)) (C := RX5) (T := TX5) (N := 28) hx hb hts (inT inX5) hown hK hP 42 rfl rfl 4 (by decide) (hts (.fieldLink RX5 7 "BoardMovesModel" "wide" "[J") (by decide +kernel)) (fun _ h9 => h9) rfl dX5_pinAt_197 ?_
          refine lv_iload hx hb dX5_pinAt_200 (lv_at hl 2 rfl) ?_
          refine bm_lald (f := ma.1) hx hb hK hP 43 0 rfl rfl (j := (mn.2.1 zk)) (ok_mn_pinPart _) (by decide) dX5_pinAt_202 ?_
          refine lv_topl (fun t_50 _ => ?_)
          refine lv_ladd hx hb dX5_pinAt_203 ?_
          refine lv_topl (fun t_51 _ => ?_)
          refine lv_lload hx hb dX5_pinAt_204 (lv_at hl 1 rfl) ?_
          refine lv_lsub hx hb dX5_pinAt_206 ?_
          refine lv_topl (fun t_52 _ => ?_)
          exact bm_lretX (v := t_52) hx hb hr hP hD hK hS ⟨rfl, t_52, rfl⟩ dX5_pinAt_207 hlocks
        · refine lv_aload_n hx hb dX5_pinAt_176 rfl (lv_at hl 3 rfl) ?_
          refine lv_iload_n hx hb dX5_pinAt_177 rfl (lv_at hl 4 rfl) ?_
          refine lv_iload hx hb dX5_pinAt_178 (lv_at hl 2 rfl) ?_
          refine bm_xcallV (As := [.int (nI zr), .int (nI (mn.2.1 zk))]) (rest := []) ⟨hx, hb, hml, hown, hts⟩ (y_left  (zr := zr) (zp := mn.2.1 zk)  (by omega) (ok_mn_pinPart _)) (cwV 2 hts (gdV (by decide +kernel) (by decide +kernel) (by decide +kernel) (by decide +kernel) (by decide +kernel)) rfl rfl rfl (by decide +kernel) ⟨Nat.le_of_ble_eq_true rfl, Nat.le_of_ble_eq_true rfl⟩) hK hP hD hS hA 42 5 rfl rfl rfl hl.1 rfl (Nat.le_of_ble_eq_true rfl) dX5_pinAt_180 ⟨Nat.le_of_ble_eq_true rfl, Nat.le_of_ble_eq_true rfl⟩ (fun ws_53 r_54 h_55 H locs hP hD hS => ?_)
          obtain ⟨rfl, v_56, rfl⟩ := h_55
          have hP : va_P D vwCl (WW ad cJ cI cZ bm pa p0 p1 p2 li wi mt ms ma mp mk mn ou) H := hP
          have hD : va_D A (WW ad cJ cI cZ bm pa p0 p1 p2 li wi mt ms ma mp mk mn ou) := hD
          refine lv_lload hx hb dX5_pinAt_183 (lv_at hl 0 rfl) ?_
          refine lv_ladd hx hb dX5_pinAt_185 ?_
          refine lv_topl (fun t_57 _ => ?_)
          refine lv_goto (tgt := 207) hx hb dX5_pinAt_186 (by decide) ?_
          exact bm_lretX (v := t_57) hx hb hr hP hD hK hS ⟨rfl, t_57, rfl⟩ dX5_pinAt_207 hlocks

set_option maxHeartbeats 8000000 in
set_option maxRecDepth 100000 in
theorem y_reach {l : Launch} {D : va_G} {ad : Nat → Nat} {cJ cI cZ : ClassId} {bm : gBM} {pa : gPA} {p0 p1 p2 : gPL} {li : gLI} {wi : gWI} {mt : Nat} {ms : gMS} {ma : gMA} {mp : gMP} {mk : gMK} {mn : gMN} {ou : Nat → Int64} {zr : Nat} {zn : Nat} {zb : Bool} (ok_ms_pins : ms.2.2.2.2.2.2.1 ≤ 120) (ok_mn_pinNet : ∀ i, mn.1 i < 40) (ok_mn_pinPart : ∀ i, mn.2.1 i < 40) (ok_mp_turns : ∀ i, mp.2.2 i < 40) (hp0 : zr < 3) (hp1 : zn < 40)  : bm_Wx l yX5_reach wsX5_reach ({ frames := 2, cells := 0, slots := 0, locals := 50 }) D vwCl [(cJ, .long), (cI, .int), (cZ, .boolean)] (WW ad cJ cI cZ bm pa p0 p1 p2 li wi mt ms ma mp mk mn ou) [.ref (ad 42), .int (nI zr), .int (nI zn), .int (bm_b zb)] (fun ws9 r9 => ws9 = (WW ad cJ cI cZ bm pa p0 p1 p2 li wi mt ms ma mp mk mn ou) ∧ ∃ v9 : Int64, r9 = some (.long v9)) := by
  intro sz
  refine Met.ofW (cc := cX5_reach) (maxL := 12) (ret := (some .long)) (by decide) rfl ?_
  intro p e s m args below meth c s₁ B hml hv
  obtain ⟨ha, hsz, hP, hK, hD0⟩ := hv
  have hx := B.exec
  have hb := B.bytes
  have hr := B.returns
  have hts := atoms_spec (ws := wsX5_reach) B.pre
  have hown : s.vm.findClass RX5 = some m.cls := findClass_of_methodNamed B.named
  have hlocks := B.notSynchronized
  subst hsz
  have hD := hD0.self (sz := s.heap.size)
  generalize hAe : va_A (WW ad cJ cI cZ bm pa p0 p1 p2 li wi mt ms ma mp mk mn ou) s.heap.size = A at hD ⊢
  have hA : ∀ q : Nat, s.heap.size ≤ q → A q := fun q h => by rw [← hAe]; exact Or.inr h
  have hS : va_S A s.heap s.heap [] := va_S.rf
  have hl := lv_entry ([.ref (ad 42), .int (nI zr), .int (nI zn), .int (bm_b zb)]) (n := 12) (Nat.le_of_ble_eq_true rfl)
  refine W.eq (g2 := entryFrame m ([.ref (ad 42), .int (nI zr), .int (nI zn), .int (bm_b zb)] : List Value).toArray 12) (by rw [ha]) ?_
  rw [lg_entry_eq]
  generalize (lg_sl ([.ref (ad 42), .int (nI zr), .int (nI zn), .int (bm_b zb)]) ++ List.replicate (12 - (lg_sl ([.ref (ad 42), .int (nI zr), .int (nI zn), .int (bm_b zb)])).length) Slot.unset).toArray = ls at hl ⊢
  have hl : lv_has ls 12 [(0, .ref (ad 42)), (1, .int (nI zr)), (2, .int (nI zn)), (3, .int (bm_b zb))] := hl
  refine lv_iconst (v := bm_b false) hx hb dX5_reach_0 (by decide) ?_
  refine lv_istore (lv' := [(4, .int (bm_b false)), (0, .ref (ad 42)), (1, .int (nI zr)), (2, .int (nI zn)), (3, .int (bm_b zb))]) hx hb dX5_reach_1 hl (by decide) rfl (fun ls hl => ?_)
  refine lv_lconst (v := 0) hx hb dX5_reach_3 (by decide) ?_
  refine lv_lstore (lv' := [(5, .long 0), (4, .int (bm_b false)), (0, .ref (ad 42)), (1, .int (nI zr)), (2, .int (nI zn)), (3, .int (bm_b zb))]) hx hb dX5_reach_4 hl (by decide) rfl (fun ls hl => ?_)
  refine lv_lconst (v := 0) hx hb dX5_reach_6 (by decide) ?_
  refine lv_lstore (lv' := [(7, .long 0), (5, .long 0), (4, .int (bm_b false)), (0, .ref (ad 42)), (1, .int (nI zr)), (2, .int (nI zn)), (3, .int (bm_b zb))]) hx hb dX5_reach_7 hl (by decide) rfl (fun ls hl => ?_)
  refine lv_iconst (v := nI 0) hx hb dX5_reach_9 (by decide) ?_
  refine lv_istore (lv' := [(9, .int (nI 0)), (7, .long 0), (5, .long 0), (4, .int (bm_b false)), (0, .ref (ad 42)), (1, .int (nI zr)), (2, .int (nI zn)), (3, .int (bm_b zb))]) hx hb dX5_reach_10 hl (by decide) rfl (fun ls hl => ?_)
  have lp_1 : ∀ (k_3 : Nat) (i_2 : Nat) (v_5 : Bool) (v_6 : Int64) (v_7 : Int64), i_2 ≤ ms.2.2.2.2.2.2.1 → ms.2.2.2.2.2.2.1 < i_2 + k_3 → ∀ (H : Heap) (locs : List Loc), va_P D vwCl (WW ad cJ cI cZ bm pa p0 p1 p2 li wi mt ms ma mp mk mn ou) H → va_D A (WW ad cJ cI cZ bm pa p0 p1 p2 li wi mt ms ma mp mk mn ou) → va_S A s.heap H locs → ∀ (ls : Array Slot), lv_has ls 12 [(9, .int (nI i_2)), (7, .long v_7), (5, .long v_6), (4, .int (bm_b v_5)), (0, .ref (ad 42)), (1, .int (nI zr)), (2, .int (nI zn)), (3, .int (bm_b zb))] → W p l e (headSpec wsX5_reach ({ frames := 2, cells := 0, slots := 0, locals := 50 })).room s m args below meth c H locs 0 0 (MQ below (bm_Wxq D vwCl [(cJ, .long), (cI, .int), (cZ, .boolean)] (fun ws9 r9 => ws9 = (WW ad cJ cI cZ bm pa p0 p1 p2 li wi mt ms ma mp mk mn ou) ∧ ∃ v9 : Int64, r9 = some (.long v9)) A) args s 0 0 A) (F0 m 12 ls []) := by
    intro k_3
    induction k_3 with
    | zero => intro i_2 v_5 v_6 v_7 hi_8 hk_9; exfalso; omega
    | succ k_3 ih_4 =>
      intro i_2 v_5 v_6 v_7 hi_8 hk_9  H locs hP hD hS ls hl
      refine lv_iload hx hb dX5_reach_12 (lv_at hl 0 rfl) ?_
      refine lv_aload_n hx hb dX5_reach_14 rfl (lv_at hl 4 rfl) ?_
      refine va_get (D := D) (ci := 5) (v := .int (nI ms.2.2.2.2.2.2.1)) (C := RX5) (T := TX5) (N := 28) hx hb hts (inT inX5) hown hK hP 42 rfl rfl 21 (by decide) (hts (.fieldLink RX5 163 "BoardMovesModel" "pins" "I") (by decide +kernel)) (fun _ h9 => h9) rfl dX5_reach_15 ?_
      refine bm_ni_ge (x := i_2) (y := ms.2.2.2.2.2.2.1) (tgt := 113) hx hb (by omega) (by omega) dX5_reach_18 (by decide) (fun c_10 => ?_) (fun c_10 => ?_)
      · refine lv_lload hx hb dX5_reach_113 (lv_at hl 1 rfl) ?_
        refine lv_lload hx hb dX5_reach_115 (lv_at hl 2 rfl) ?_
        refine lv_lsub hx hb dX5_reach_117 ?_
        refine lv_topl (fun t_11 _ => ?_)
        exact bm_lretX (v := t_11) hx hb hr hP hD hK hS ⟨rfl, t_11, rfl⟩ dX5_reach_118 hlocks
      · refine lv_aload_n hx hb dX5_reach_21 rfl (lv_at hl 4 rfl) ?_
        refine va_get (D := D) (ci := 5) (v := .ref (ad 57)) (C := RX5) (T := TX5) (N := 28) hx hb hts (inT inX5) hown hK hP 42 rfl rfl 22 (by decide) (hts (.fieldLink RX5 54 "BoardMovesModel" "pinNet" "[I") (by decide +kernel)) (fun _ h9 => h9) rfl dX5_reach_22 ?_
        refine lv_iload hx hb dX5_reach_25 (lv_at hl 0 rfl) ?_
        refine bm_nald (f := mn.1) hx hb hK hP 57 1 rfl rfl (j := i_2) (by omega) (by decide) dX5_reach_27 ?_
        refine lv_iload_n hx hb dX5_reach_28 rfl (lv_at hl 6 rfl) ?_
        refine bm_ni_ne (x := (mn.1 i_2)) (y := zn) (tgt := 107) hx hb (bm40 (ok_mn_pinNet _)) (by omega) dX5_reach_29 (by decide) (fun c_12 => ?_) (fun c_12 => ?_)
        · refine lv_iinc (v := (nI (i_2 + 1))) (lv' := [(9, .int (nI (i_2 + 1))), (7, .long v_7), (5, .long v_6), (4, .int (bm_b v_5)), (0, .ref (ad 42)), (1, .int (nI zr)), (2, .int (nI zn)), (3, .int (bm_b zb))]) hx hb dX5_reach_107 hl (k := 0) rfl (nI_1 i_2) (by decide) rfl (fun ls hl => ?_)
          refine lv_goto (tgt := 12) hx hb dX5_reach_110 (by decide) ?_
          exact ih_4 (i_2 + 1) v_5 v_6 v_7 (by omega) (by omega)  _ _ hP hD hS _ (lv_sub hl [0, 1, 2, 3, 4, 5, 6, 7] rfl)
        · refine lv_aload_n hx hb dX5_reach_32 rfl (lv_at hl 4 rfl) ?_
          refine va_get (D := D) (ci := 5) (v := .ref (ad 49)) (C := RX5) (T := TX5) (N := 28) hx hb hts (inT inX5) hown hK hP 42 rfl rfl 10 (by decide) (hts (.fieldLink RX5 30 "BoardMovesModel" "placed" "[Z") (by decide +kernel)) (fun _ h9 => h9) rfl dX5_reach_33 ?_
          refine lv_aload_n hx hb dX5_reach_36 rfl (lv_at hl 4 rfl) ?_
          refine va_get (D := D) (ci := 5) (v := .ref (ad 58)) (C := RX5) (T := TX5) (N := 28) hx hb hts (inT inX5) hown hK hP 42 rfl rfl 23 (by decide) (hts (.fieldLink RX5 57 "BoardMovesModel" "pinPart" "[I") (by decide +kernel)) (fun _ h9 => h9) rfl dX5_reach_37 ?_
          refine lv_iload hx hb dX5_reach_40 (lv_at hl 0 rfl) ?_
          refine bm_nald (f := mn.2.1) hx hb hK hP 58 1 rfl rfl (j := i_2) (by omega) (by decide) dX5_reach_42 ?_
          refine bm_zald (f := ma.2.2.2.2.2.2) hx hb hK hP 49 2 rfl rfl (j := (mn.2.1 i_2)) (ok_mn_pinPart _) (by decide) dX5_reach_43 ?_
          refine bm_zb_ne (x := (ma.2.2.2.2.2.2 (mn.2.1 i_2))) (tgt := 50) hx hb dX5_reach_44 (by decide) (fun c_13 => ?_) (fun c_13 => ?_)
          · refine lv_aload_n hx hb dX5_reach_50 rfl (lv_at hl 4 rfl) ?_
            refine lv_iload_n hx hb dX5_reach_51 rfl (lv_at hl 5 rfl) ?_
            refine lv_iload hx hb dX5_reach_52 (lv_at hl 0 rfl) ?_
            refine lv_iload_n hx hb dX5_reach_54 rfl (lv_at hl 7 rfl) ?_
            refine bm_xcallV (As := [.int (nI zr), .int (nI i_2), .int (bm_b zb)]) (rest := []) ⟨hx, hb, hml, hown, hts⟩ (y_pinAt  (zr := zr) (zk := i_2) (zb := zb) ok_mn_pinPart ok_mp_turns (by omega) (by omega)) (cwV 3 hts (gdV (by decide +kernel) (by decide +kernel) (by decide +kernel) (by decide +kernel) (by decide +kernel)) rfl rfl rfl (by decide +kernel) ⟨Nat.le_of_ble_eq_true rfl, Nat.le_of_ble_eq_true rfl⟩) hK hP hD hS hA 42 5 rfl rfl rfl hl.1 rfl (Nat.le_of_ble_eq_true rfl) dX5_reach_55 ⟨Nat.le_of_ble_eq_true rfl, Nat.le_of_ble_eq_true rfl⟩ (fun ws_14 r_15 h_16 H locs hP hD hS => ?_)
            obtain ⟨rfl, v_17, rfl⟩ := h_16
            have hP : va_P D vwCl (WW ad cJ cI cZ bm pa p0 p1 p2 li wi mt ms ma mp mk mn ou) H := hP
            have hD : va_D A (WW ad cJ cI cZ bm pa p0 p1 p2 li wi mt ms ma mp mk mn ou) := hD
            refine lv_lstore (lv' := [(10, .long v_17), (9, .int (nI i_2)), (7, .long v_7), (5, .long v_6), (4, .int (bm_b v_5)), (0, .ref (ad 42)), (1, .int (nI zr)), (2, .int (nI zn)), (3, .int (bm_b zb))]) hx hb dX5_reach_58 hl (by decide) rfl (fun ls hl => ?_)
            refine lv_iload hx hb dX5_reach_60 (lv_at hl 4 rfl) ?_
            refine bm_zb_eq (x := v_5) (tgt := 73) hx hb dX5_reach_62 (by decide) (fun c_18 => ?_) (fun c_18 => ?_)
            · refine lv_lload hx hb dX5_reach_73 (lv_at hl 0 rfl) ?_
              refine lv_goto (tgt := 80) hx hb dX5_reach_75 (by decide) ?_
              refine lv_lstore (lv' := [(5, .long v_17), (10, .long v_17), (9, .int (nI i_2)), (7, .long v_7), (4, .int (bm_b v_5)), (0, .ref (ad 42)), (1, .int (nI zr)), (2, .int (nI zn)), (3, .int (bm_b zb))]) hx hb dX5_reach_80 hl (by decide) rfl (fun ls hl => ?_)
              refine lv_iload hx hb dX5_reach_82 (lv_at hl 4 rfl) ?_
              refine bm_zb_eq (x := v_5) (tgt := 95) hx hb dX5_reach_84 (by decide) (fun c_19 => ?_) (fun c_19 => ?_)
              · refine lv_lload hx hb dX5_reach_95 (lv_at hl 1 rfl) ?_
                refine lv_goto (tgt := 102) hx hb dX5_reach_97 (by decide) ?_
                refine lv_lstore (lv' := [(7, .long v_17), (5, .long v_17), (10, .long v_17), (9, .int (nI i_2)), (4, .int (bm_b v_5)), (0, .ref (ad 42)), (1, .int (nI zr)), (2, .int (nI zn)), (3, .int (bm_b zb))]) hx hb dX5_reach_102 hl (by decide) rfl (fun ls hl => ?_)
                refine lv_iconst (v := bm_b true) hx hb dX5_reach_104 (by decide) ?_
                refine lv_istore (lv' := [(4, .int (bm_b true)), (7, .long v_17), (5, .long v_17), (10, .long v_17), (9, .int (nI i_2)), (0, .ref (ad 42)), (1, .int (nI zr)), (2, .int (nI zn)), (3, .int (bm_b zb))]) hx hb dX5_reach_105 hl (by decide) rfl (fun ls hl => ?_)
                refine lv_iinc (v := (nI (i_2 + 1))) (lv' := [(9, .int (nI (i_2 + 1))), (4, .int (bm_b true)), (7, .long v_17), (5, .long v_17), (10, .long v_17), (0, .ref (ad 42)), (1, .int (nI zr)), (2, .int (nI zn)), (3, .int (bm_b zb))]) hx hb dX5_reach_107 hl (k := 4) rfl (nI_1 i_2) (by decide) rfl (fun ls hl => ?_)
                refine lv_goto (tgt := 12) hx hb dX5_reach_110 (by decide) ?_
                exact ih_4 (i_2 + 1) true v_17 v_17 (by omega) (by omega)  _ _ hP hD hS _ (lv_sub hl [0, 2, 3, 1, 5, 6, 7, 8] rfl)
              · refine lv_lload hx hb dX5_reach_87 (lv_at hl 1 rfl) ?_
                refine lv_lload hx hb dX5_reach_89 (lv_at hl 3 rfl) ?_
                refine bm_lc_le (x := v_17) (y := v_7) (tgt := 100) hx hb dX5_reach_91 dX5_reach_92 (by decide) (fun c_20 => ?_) (fun c_20 => ?_)
                · refine lv_lload hx hb dX5_reach_100 (lv_at hl 3 rfl) ?_
                  refine lv_lstore (lv' := [(7, .long v_7), (5, .long v_17), (10, .long v_17), (9, .int (nI i_2)), (4, .int (bm_b v_5)), (0, .ref (ad 42)), (1, .int (nI zr)), (2, .int (nI zn)), (3, .int (bm_b zb))]) hx hb dX5_reach_102 hl (by decide) rfl (fun ls hl => ?_)
                  refine lv_iconst (v := bm_b true) hx hb dX5_reach_104 (by decide) ?_
                  refine lv_istore (lv' := [(4, .int (bm_b true)), (7, .long v_7), (5, .long v_17), (10, .long v_17), (9, .int (nI i_2)), (0, .ref (ad 42)), (1, .int (nI zr)), (2, .int (nI zn)), (3, .int (bm_b zb))]) hx hb dX5_reach_105 hl (by decide) rfl (fun ls hl => ?_)
                  refine lv_iinc (v := (nI (i_2 + 1))) (lv' := [(9, .int (nI (i_2 + 1))), (4, .int (bm_b true)), (7, .long v_7), (5, .long v_17), (10, .long v_17), (0, .ref (ad 42)), (1, .int (nI zr)), (2, .int (nI zn)), (3, .int (bm_b zb))]) hx hb dX5_reach_107 hl (k := 4) rfl (nI_1 i_2) (by decide) rfl (fun ls hl => ?_)
                  refine lv_goto (tgt := 12) hx hb dX5_reach_110 (by decide) ?_
                  exact ih_4 (i_2 + 1) true v_17 v_7 (by omega) (by omega)  _ _ hP hD hS _ (lv_sub hl [0, 2, 3, 1, 5, 6, 7, 8] rfl)
                · refine lv_lload hx hb dX5_reach_95 (lv_at hl 1 rfl) ?_
                  refine lv_goto (tgt := 102) hx hb dX5_reach_97 (by decide) ?_
                  refine lv_lstore (lv' := [(7, .long v_17), (5, .long v_17), (10, .long v_17), (9, .int (nI i_2)), (4, .int (bm_b v_5)), (0, .ref (ad 42)), (1, .int (nI zr)), (2, .int (nI zn)), (3, .int (bm_b zb))]) hx hb dX5_reach_102 hl (by decide) rfl (fun ls hl => ?_)
                  refine lv_iconst (v := bm_b true) hx hb dX5_reach_104 (by decide) ?_
                  refine lv_istore (lv' := [(4, .int (bm_b true)), (7, .long v_17), (5, .long v_17), (10, .long v_17), (9, .int (nI i_2)), (0, .ref (ad 42)), (1, .int (nI zr)), (2, .int (nI zn)), (3, .int (bm_b zb))]) hx hb dX5_reach_105 hl (by decide) rfl (fun ls hl => ?_)
                  refine lv_iinc (v := (nI (i_2 + 1))) (lv' := [(9, .int (nI (i_2 + 1))), (4, .int (bm_b true)), (7, .long v_17), (5, .long v_17), (10, .long v_17), (0, .ref (ad 42)), (1, .int (nI zr)), (2, .int (nI zn)), (3, .int (bm_b zb))]) hx hb dX5_reach_107 hl (k := 4) rfl (nI_1 i_2) (by decide) rfl (fun ls hl => ?_)
                  refine lv_goto (tgt := 12) hx hb dX5_reach_110 (by decide) ?_
                  exact ih_4 (i_2 + 1) true v_17 v_17 (by omega) (by omega)  _ _ hP hD hS _ (lv_sub hl [0, 2, 3, 1, 5, 6, 7, 8] rfl)
            · refine lv_lload hx hb dX5_reach_65 (lv_at hl 0 rfl) ?_
              refine lv_lload hx hb dX5_reach_67 (lv_at hl 3 rfl) ?_
              refine bm_lc_ge (x := v_17) (y := v_6) (tgt := 78) hx hb dX5_reach_69 dX5_reach_70 (by decide) (fun c_21 => ?_) (fun c_21 => ?_)
              · refine lv_lload hx hb dX5_reach_78 (lv_at hl 3 rfl) ?_
                refine lv_lstore (lv' := [(5, .long v_6), (10, .long v_17), (9, .int (nI i_2)), (7, .long v_7), (4, .int (bm_b v_5)), (0, .ref (ad 42)), (1, .int (nI zr)), (2, .int (nI zn)), (3, .int (bm_b zb))]) hx hb dX5_reach_80 hl (by decide) rfl (fun ls hl => ?_)
                refine lv_iload hx hb dX5_reach_82 (lv_at hl 4 rfl) ?_
                refine bm_zb_eq (x := v_5) (tgt := 95) hx hb dX5_reach_84 (by decide) (fun c_22 => ?_) (fun c_22 => ?_)
                · refine lv_lload hx hb dX5_reach_95 (lv_at hl 1 rfl) ?_
                  refine lv_goto (tgt := 102) hx hb dX5_reach_97 (by decide) ?_
                  refine lv_lstore (lv' := [(7, .long v_17), (5, .long v_6), (10, .long v_17), (9, .int (nI i_2)), (4, .int (bm_b v_5)), (0, .ref (ad 42)), (1, .int (nI zr)), (2, .int (nI zn)), (3, .int (bm_b zb))]) hx hb dX5_reach_102 hl (by decide) rfl (fun ls hl => ?_)
                  refine lv_iconst (v := bm_b true) hx hb dX5_reach_104 (by decide) ?_
                  refine lv_istore (lv' := [(4, .int (bm_b true)), (7, .long v_17), (5, .long v_6), (10, .long v_17), (9, .int (nI i_2)), (0, .ref (ad 42)), (1, .int (nI zr)), (2, .int (nI zn)), (3, .int (bm_b zb))]) hx hb dX5_reach_105 hl (by decide) rfl (fun ls hl => ?_)
                  refine lv_iinc (v := (nI (i_2 + 1))) (lv' := [(9, .int (nI (i_2 + 1))), (4, .int (bm_b true)), (7, .long v_17), (5, .long v_6), (10, .long v_17), (0, .ref (ad 42)), (1, .int (nI zr)), (2, .int (nI zn)), (3, .int (bm_b zb))]) hx hb dX5_reach_107 hl (k := 4) rfl (nI_1 i_2) (by decide) rfl (fun ls hl => ?_)
                  refine lv_goto (tgt := 12) hx hb dX5_reach_110 (by decide) ?_
                  exact ih_4 (i_2 + 1) true v_6 v_17 (by omega) (by omega)  _ _ hP hD hS _ (lv_sub hl [0, 2, 3, 1, 5, 6, 7, 8] rfl)
                · refine lv_lload hx hb dX5_reach_87 (lv_at hl 1 rfl) ?_
                  refine lv_lload hx hb dX5_reach_89 (lv_at hl 3 rfl) ?_
                  refine bm_lc_le (x := v_17) (y := v_7) (tgt := 100) hx hb dX5_reach_91 dX5_reach_92 (by decide) (fun c_23 => ?_) (fun c_23 => ?_)
                  · refine lv_lload hx hb dX5_reach_100 (lv_at hl 3 rfl) ?_
                    refine lv_lstore (lv' := [(7, .long v_7), (5, .long v_6), (10, .long v_17), (9, .int (nI i_2)), (4, .int (bm_b v_5)), (0, .ref (ad 42)), (1, .int (nI zr)), (2, .int (nI zn)), (3, .int (bm_b zb))]) hx hb dX5_reach_102 hl (by decide) rfl (fun ls hl => ?_)
                    refine lv_iconst (v := bm_b true) hx hb dX5_reach_104 (by decide) ?_
                    refine lv_istore (lv' := [(4, .int (bm_b true)), (7, .long v_7), (5, .long v_6), (10, .long v_17), (9, .int (nI i_2)), (0, .ref (ad 42)), (1, .int (nI zr)), (2, .int (nI zn)), (3, .int (bm_b zb))]) hx hb dX5_reach_105 hl (by decide) rfl (fun ls hl => ?_)
                    refine lv_iinc (v := (nI (i_2 + 1))) (lv' := [(9, .int (nI (i_2 + 1))), (4, .int (bm_b true)), (7, .long v_7), (5, .long v_6), (10, .long v_17), (0, .ref (ad 42)), (1, .int (nI zr)), (2, .int (nI zn)), (3, .int (bm_b zb))]) hx hb dX5_reach_107 hl (k := 4) rfl (nI_1 i_2) (by decide) rfl (fun ls hl => ?_)
                    refine lv_goto (tgt := 12) hx hb dX5_reach_110 (by decide) ?_
                    exact ih_4 (i_2 + 1) true v_6 v_7 (by omega) (by omega)  _ _ hP hD hS _ (lv_sub hl [0, 2, 3, 1, 5, 6, 7, 8] rfl)
                  · refine lv_lload hx hb dX5_reach_95 (lv_at hl 1 rfl) ?_
                    refine lv_goto (tgt := 102) hx hb dX5_reach_97 (by decide) ?_
                    refine lv_lstore (lv' := [(7, .long v_17), (5, .long v_6), (10, .long v_17), (9, .int (nI i_2)), (4, .int (bm_b v_5)), (0, .ref (ad 42)), (1, .int (nI zr)), (2, .int (nI zn)), (3, .int (bm_b zb))]) hx hb dX5_reach_102 hl (by decide) rfl (fun ls hl => ?_)
                    refine lv_iconst (v := bm_b true) hx hb dX5_reach_104 (by decide) ?_
                    refine lv_istore (lv' := [(4, .int (bm_b true)), (7, .long v_17), (5, .long v_6), (10, .long v_17), (9, .int (nI i_2)), (0, .ref (ad 42)), (1, .int (nI zr)), (2, .int (nI zn)), (3, .int (bm_b zb))]) hx hb dX5_reach_105 hl (by decide) rfl (fun ls hl => ?_)
                    refine lv_iinc (v := (nI (i_2 + 1))) (lv' := [(9, .int (nI (i_2 + 1))), (4, .int (bm_b true)), (7, .long v_17), (5, .long v_6), (10, .long v_17), (0, .ref (ad 42)), (1, .int (nI zr)), (2, .int (nI zn)), (3, .int (bm_b zb))]) hx hb dX5_reach_107 hl (k := 4) rfl (nI_1 i_2) (by decide) rfl (fun ls hl => ?_)
                    refine lv_goto (tgt := 12) hx hb dX5_reach_110 (by decide) ?_
                    exact ih_4 (i_2 + 1) true v_6 v_17 (by omega) (by omega)  _ _ hP hD hS _ (lv_sub hl [0, 2, 3, 1, 5, 6, 7, 8] rfl)
              · refine lv_lload hx hb dX5_reach_73 (lv_at hl 0 rfl) ?_
                refine lv_goto (tgt := 80) hx hb dX5_reach_75 (by decide) ?_
                refine lv_lstore (lv' := [(5, .long v_17), (10, .long v_17), (9, .int (nI i_2)), (7, .long v_7), (4, .int (bm_b v_5)), (0, .ref (ad 42)), (1, .int (nI zr)), (2, .int (nI zn)), (3, .int (bm_b zb))]) hx hb dX5_reach_80 hl (by decide) rfl (fun ls hl => ?_)
                refine lv_iload hx hb dX5_reach_82 (lv_at hl 4 rfl) ?_
                refine bm_zb_eq (x := v_5) (tgt := 95) hx hb dX5_reach_84 (by decide) (fun c_24 => ?_) (fun c_24 => ?_)
                · refine lv_lload hx hb dX5_reach_95 (lv_at hl 1 rfl) ?_
                  refine lv_goto (tgt := 102) hx hb dX5_reach_97 (by decide) ?_
                  refine lv_lstore (lv' := [(7, .long v_17), (5, .long v_17), (10, .long v_17), (9, .int (nI i_2)), (4, .int (bm_b v_5)), (0, .ref (ad 42)), (1, .int (nI zr)), (2, .int (nI zn)), (3, .int (bm_b zb))]) hx hb dX5_reach_102 hl (by decide) rfl (fun ls hl => ?_)
                  refine lv_iconst (v := bm_b true) hx hb dX5_reach_104 (by decide) ?_
                  refine lv_istore (lv' := [(4, .int (bm_b true)), (7, .long v_17), (5, .long v_17), (10, .long v_17), (9, .int (nI i_2)), (0, .ref (ad 42)), (1, .int (nI zr)), (2, .int (nI zn)), (3, .int (bm_b zb))]) hx hb dX5_reach_105 hl (by decide) rfl (fun ls hl => ?_)
                  refine lv_iinc (v := (nI (i_2 + 1))) (lv' := [(9, .int (nI (i_2 + 1))), (4, .int (bm_b true)), (7, .long v_17), (5, .long v_17), (10, .long v_17), (0, .ref (ad 42)), (1, .int (nI zr)), (2, .int (nI zn)), (3, .int (bm_b zb))]) hx hb dX5_reach_107 hl (k := 4) rfl (nI_1 i_2) (by decide) rfl (fun ls hl => ?_)
                  refine lv_goto (tgt := 12) hx hb dX5_reach_110 (by decide) ?_
                  exact ih_4 (i_2 + 1) true v_17 v_17 (by omega) (by omega)  _ _ hP hD hS _ (lv_sub hl [0, 2, 3, 1, 5, 6, 7, 8] rfl)
                · refine lv_lload hx hb dX5_reach_87 (lv_at hl 1 rfl) ?_
                  refine lv_lload hx hb dX5_reach_89 (lv_at hl 3 rfl) ?_
                  refine bm_lc_le (x := v_17) (y := v_7) (tgt := 100) hx hb dX5_reach_91 dX5_reach_92 (by decide) (fun c_25 => ?_) (fun c_25 => ?_)
                  · refine lv_lload hx hb dX5_reach_100 (lv_at hl 3 rfl) ?_
                    refine lv_lstore (lv' := [(7, .long v_7), (5, .long v_17), (10, .long v_17), (9, .int (nI i_2)), (4, .int (bm_b v_5)), (0, .ref (ad 42)), (1, .int (nI zr)), (2, .int (nI zn)), (3, .int (bm_b zb))]) hx hb dX5_reach_102 hl (by decide) rfl (fun ls hl => ?_)
                    refine lv_iconst (v := bm_b true) hx hb dX5_reach_104 (by decide) ?_
                    refine lv_istore (lv' := [(4, .int (bm_b true)), (7, .long v_7), (5, .long v_17), (10, .long v_17), (9, .int (nI i_2)), (0, .ref (ad 42)), (1, .int (nI zr)), (2, .int (nI zn)), (3, .int (bm_b zb))]) hx hb dX5_reach_105 hl (by decide) rfl (fun ls hl => ?_)
                    refine lv_iinc (v := (nI (i_2 + 1))) (lv' := [(9, .int (nI (i_2 + 1))), (4, .int (bm_b true)), (7, .long v_7), (5, .long v_17), (10, .long v_17), (0, .ref (ad 42)), (1, .int (nI zr)), (2, .int (nI zn)), (3, .int (bm_b zb))]) hx hb dX5_reach_107 hl (k := 4) rfl (nI_1 i_2) (by decide) rfl (fun ls hl => ?_)
                    refine lv_goto (tgt := 12) hx hb dX5_reach_110 (by decide) ?_
                    exact ih_4 (i_2 + 1) true v_17 v_7 (by omega) (by omega)  _ _ hP hD hS _ (lv_sub hl [0, 2, 3, 1, 5, 6, 7, 8] rfl)
                  · refine lv_lload hx hb dX5_reach_95 (lv_at hl 1 rfl) ?_
                    refine lv_goto (tgt := 102) hx hb dX5_reach_97 (by decide) ?_
                    refine lv_lstore (lv' := [(7, .long v_17), (5, .long v_17), (10, .long v_17), (9, .int (nI i_2)), (4, .int (bm_b v_5)), (0, .ref (ad 42)), (1, .int (nI zr)), (2, .int (nI zn)), (3, .int (bm_b zb))]) hx hb dX5_reach_102 hl (by decide) rfl (fun ls hl => ?_)
                    refine lv_iconst (v := bm_b true) hx hb dX5_reach_104 (by decide) ?_
                    refine lv_istore (lv' := [(4, .int (bm_b true)), (7, .long v_17), (5, .long v_17), (10, .long v_17), (9, .int (nI i_2)), (0, .ref (ad 42)), (1, .int (nI zr)), (2, .int (nI zn)), (3, .int (bm_b zb))]) hx hb dX5_reach_105 hl (by decide) rfl (fun ls hl => ?_)
                    refine lv_iinc (v := (nI (i_2 + 1))) (lv' := [(9, .int (nI (i_2 + 1))), (4, .int (bm_b true)), (7, .long v_17), (5, .long v_17), (10, .long v_17), (0, .ref (ad 42)), (1, .int (nI zr)), (2, .int (nI zn)), (3, .int (bm_b zb))]) hx hb dX5_reach_107 hl (k := 4) rfl (nI_1 i_2) (by decide) rfl (fun ls hl => ?_)
                    refine lv_goto (tgt := 12) hx hb dX5_reach_110 (by decide) ?_
                    exact ih_4 (i_2 + 1) true v_17 v_17 (by omega) (by omega)  _ _ hP hD hS _ (lv_sub hl [0, 2, 3, 1, 5, 6, 7, 8] rfl)
          · refine lv_goto (tgt := 107) hx hb dX5_reach_47 (by decide) ?_
            refine lv_iinc (v := (nI (i_2 + 1))) (lv' := [(9, .int (nI (i_2 + 1))), (7, .long v_7), (5, .long v_6), (4, .int (bm_b v_5)), (0, .ref (ad 42)), (1, .int (nI zr)), (2, .int (nI zn)), (3, .int (bm_b zb))]) hx hb dX5_reach_107 hl (k := 0) rfl (nI_1 i_2) (by decide) rfl (fun ls hl => ?_)
            refine lv_goto (tgt := 12) hx hb dX5_reach_110 (by decide) ?_
            exact ih_4 (i_2 + 1) v_5 v_6 v_7 (by omega) (by omega)  _ _ hP hD hS _ (lv_sub hl [0, 1, 2, 3, 4, 5, 6, 7] rfl)
  exact lp_1 (ms.2.2.2.2.2.2.1 + 1) 0 false 0 0 (by omega) (by omega)  _ _ hP hD hS _ (lv_sub hl [0, 1, 2, 3, 4, 5, 6, 7] rfl)

set_option maxHeartbeats 8000000 in
set_option maxRecDepth 100000 in
theorem y_wireOf {l : Launch} {D : va_G} {ad : Nat → Nat} {cJ cI cZ : ClassId} {bm : gBM} {pa : gPA} {p0 p1 p2 : gPL} {li : gLI} {wi : gWI} {mt : Nat} {ms : gMS} {ma : gMA} {mp : gMP} {mk : gMK} {mn : gMN} {ou : Nat → Int64} {zr : Nat} (ok_ms_nets : ms.2.2.2.2.2.1 ≤ 40) (ok_ms_pins : ms.2.2.2.2.2.2.1 ≤ 120) (ok_mn_pinNet : ∀ i, mn.1 i < 40) (ok_mn_pinPart : ∀ i, mn.2.1 i < 40) (ok_mp_turns : ∀ i, mp.2.2 i < 40) (hp0 : zr < 3)  : bm_Wx l yX5_wireOf wsX5_wireOf ({ frames := 3, cells := 0, slots := 0, locals := 81 }) D vwCl [(cJ, .long), (cI, .int), (cZ, .boolean)] (WW ad cJ cI cZ bm pa p0 p1 p2 li wi mt ms ma mp mk mn ou) [.ref (ad 42), .int (nI zr)] (fun ws9 r9 => ws9 = (WW ad cJ cI cZ bm pa p0 p1 p2 li wi mt ms ma mp mk mn ou) ∧ ∃ v9 : Int64, r9 = some (.long v9)) := by
  intro sz
  refine Met.ofW (cc := cX5_wireOf) (maxL := 5) (ret := (some .long)) (by decide) rfl ?_
  intro p e s m args below meth c s₁ B hml hv
  obtain ⟨ha, hsz, hP, hK, hD0⟩ := hv
  have hx := B.exec
  have hb := B.bytes
  have hr := B.returns
  have hts := atoms_spec (ws := wsX5_wireOf) B.pre
  have hown : s.vm.findClass RX5 = some m.cls := findClass_of_methodNamed B.named
  have hlocks := B.notSynchronized
  subst hsz
  have hD := hD0.self (sz := s.heap.size)
  generalize hAe : va_A (WW ad cJ cI cZ bm pa p0 p1 p2 li wi mt ms ma mp mk mn ou) s.heap.size = A at hD ⊢
  have hA : ∀ q : Nat, s.heap.size ≤ q → A q := fun q h => by rw [← hAe]; exact Or.inr h
  have hS : va_S A s.heap s.heap [] := va_S.rf
  have hl := lv_entry ([.ref (ad 42), .int (nI zr)]) (n := 5) (Nat.le_of_ble_eq_true rfl)
  refine W.eq (g2 := entryFrame m ([.ref (ad 42), .int (nI zr)] : List Value).toArray 5) (by rw [ha]) ?_
  rw [lg_entry_eq]
  generalize (lg_sl ([.ref (ad 42), .int (nI zr)]) ++ List.replicate (5 - (lg_sl ([.ref (ad 42), .int (nI zr)])).length) Slot.unset).toArray = ls at hl ⊢
  have hl : lv_has ls 5 [(0, .ref (ad 42)), (1, .int (nI zr))] := hl
  refine lv_lconst (v := 0) hx hb dX5_wireOf_0 (by decide) ?_
  refine lv_lstore_n (lv' := [(2, .long 0), (0, .ref (ad 42)), (1, .int (nI zr))]) hx hb dX5_wireOf_1 rfl hl (by decide) rfl (fun ls hl => ?_)
  refine lv_iconst (v := nI 0) hx hb dX5_wireOf_2 (by decide) ?_
  refine lv_istore (lv' := [(4, .int (nI 0)), (2, .long 0), (0, .ref (ad 42)), (1, .int (nI zr))]) hx hb dX5_wireOf_3 hl (by decide) rfl (fun ls hl => ?_)
  have lp_1 : ∀ (k_3 : Nat) (i_2 : Nat) (v_5 : Int64), i_2 ≤ ms.2.2.2.2.2.1 → ms.2.2.2.2.2.1 < i_2 + k_3 → ∀ (H : Heap) (locs : List Loc), va_P D vwCl (WW ad cJ cI cZ bm pa p0 p1 p2 li wi mt ms ma mp mk mn ou) H → va_D A (WW ad cJ cI cZ bm pa p0 p1 p2 li wi mt ms ma mp mk mn ou) → va_S A s.heap H locs → ∀ (ls : Array Slot), lv_has ls 5 [(4, .int (nI i_2)), (2, .long v_5), (0, .ref (ad 42)), (1, .int (nI zr))] → W p l e (headSpec wsX5_wireOf ({ frames := 3, cells := 0, slots := 0, locals := 81 })).room s m args below meth c H locs 0 0 (MQ below (bm_Wxq D vwCl [(cJ, .long), (cI, .int), (cZ, .boolean)] (fun ws9 r9 => ws9 = (WW ad cJ cI cZ bm pa p0 p1 p2 li wi mt ms ma mp mk mn ou) ∧ ∃ v9 : Int64, r9 = some (.long v9)) A) args s 0 0 A) (F0 m 5 ls []) := by
    intro k_3
    induction k_3 with
    | zero => intro i_2 v_5 hi_6 hk_7; exfalso; omega
    | succ k_3 ih_4 =>
      intro i_2 v_5 hi_6 hk_7  H locs hP hD hS ls hl
      refine lv_iload hx hb dX5_wireOf_5 (lv_at hl 0 rfl) ?_
      refine lv_aload_n hx hb dX5_wireOf_7 rfl (lv_at hl 2 rfl) ?_
      refine va_get (D := D) (ci := 5) (v := .int (nI ms.2.2.2.2.2.1)) (C := RX5) (T := TX5) (N := 28) hx hb hts (inT inX5) hown hK hP 42 rfl rfl 20 (by decide) (hts (.fieldLink RX5 160 "BoardMovesModel" "nets" "I") (by decide +kernel)) (fun _ h9 => h9) rfl dX5_wireOf_8 ?_
      refine bm_ni_ge (x := i_2) (y := ms.2.2.2.2.2.1) (tgt := 40) hx hb (by omega) (by omega) dX5_wireOf_11 (by decide) (fun c_8 => ?_) (fun c_8 => ?_)
      · refine lv_lload_n hx hb dX5_wireOf_40 rfl (lv_at hl 1 rfl) ?_
        exact bm_lretX (v := v_5) hx hb hr hP hD hK hS ⟨rfl, v_5, rfl⟩ dX5_wireOf_41 hlocks
      · refine lv_lload_n hx hb dX5_wireOf_14 rfl (lv_at hl 1 rfl) ?_
        refine lv_aload_n hx hb dX5_wireOf_15 rfl (lv_at hl 2 rfl) ?_
        refine lv_iload_n hx hb dX5_wireOf_16 rfl (lv_at hl 3 rfl) ?_
        refine lv_iload hx hb dX5_wireOf_17 (lv_at hl 0 rfl) ?_
        refine lv_iconst (v := bm_b true) hx hb dX5_wireOf_19 (by decide) ?_
        refine bm_xcallV (As := [.int (nI zr), .int (nI i_2), .int (bm_b true)]) (rest := [.long v_5]) ⟨hx, hb, hml, hown, hts⟩ (y_reach  (zr := zr) (zn := i_2) (zb := true) ok_ms_pins ok_mn_pinNet ok_mn_pinPart ok_mp_turns (by omega) (by omega)) (cwV 3 hts (gdV (by decide +kernel) (by decide +kernel) (by decide +kernel) (by decide +kernel) (by decide +kernel)) rfl rfl rfl (by decide +kernel) ⟨Nat.le_of_ble_eq_true rfl, Nat.le_of_ble_eq_true rfl⟩) hK hP hD hS hA 42 5 rfl rfl rfl hl.1 rfl (Nat.le_of_ble_eq_true rfl) dX5_wireOf_20 ⟨Nat.le_of_ble_eq_true rfl, Nat.le_of_ble_eq_true rfl⟩ (fun ws_9 r_10 h_11 H locs hP hD hS => ?_)
        obtain ⟨rfl, v_12, rfl⟩ := h_11
        have hP : va_P D vwCl (WW ad cJ cI cZ bm pa p0 p1 p2 li wi mt ms ma mp mk mn ou) H := hP
        have hD : va_D A (WW ad cJ cI cZ bm pa p0 p1 p2 li wi mt ms ma mp mk mn ou) := hD
        refine lv_aload_n hx hb dX5_wireOf_23 rfl (lv_at hl 2 rfl) ?_
        refine lv_iload_n hx hb dX5_wireOf_24 rfl (lv_at hl 3 rfl) ?_
        refine lv_iload hx hb dX5_wireOf_25 (lv_at hl 0 rfl) ?_
        refine lv_iconst (v := bm_b false) hx hb dX5_wireOf_27 (by decide) ?_
        refine bm_xcallV (As := [.int (nI zr), .int (nI i_2), .int (bm_b false)]) (rest := [.long v_12, .long v_5]) ⟨hx, hb, hml, hown, hts⟩ (y_reach  (zr := zr) (zn := i_2) (zb := false) ok_ms_pins ok_mn_pinNet ok_mn_pinPart ok_mp_turns (by omega) (by omega)) (cwV 3 hts (gdV (by decide +kernel) (by decide +kernel) (by decide +kernel) (by decide +kernel) (by decide +kernel)) rfl rfl rfl (by decide +kernel) ⟨Nat.le_of_ble_eq_true rfl, Nat.le_of_ble_eq_true rfl⟩) hK hP hD hS hA 42 5 rfl rfl rfl hl.1 rfl (Nat.le_of_ble_eq_true rfl) dX5_wireOf_28 ⟨Nat.le_of_ble_eq_true rfl, Nat.le_of_ble_eq_true rfl⟩ (fun ws_13 r_14 h_15 H locs hP hD hS => ?_)
        obtain ⟨rfl, v_16, rfl⟩ := h_15
        have hP : va_P D vwCl (WW ad cJ cI cZ bm pa p0 p1 p2 li wi mt ms ma mp mk mn ou) H := hP
        have hD : va_D A (WW ad cJ cI cZ bm pa p0 p1 p2 li wi mt ms ma mp mk mn ou) := hD
        refine lv_ladd hx hb dX5_wireOf_31 ?_
        refine lv_topl (fun t_17 _ => ?_)
        refine lv_ladd hx hb dX5_wireOf_32 ?_
        refine lv_topl (fun t_18 _ => ?_)
        refine lv_lstore_n (lv' := [(2, .long t_18), (4, .int (nI i_2)), (0, .ref (ad 42)), (1, .int (nI zr))]) hx hb dX5_wireOf_33 rfl hl (by decide) rfl (fun ls hl => ?_)
        refine lv_iinc (v := (nI (i_2 + 1))) (lv' := [(4, .int (nI (i_2 + 1))), (2, .long t_18), (0, .ref (ad 42)), (1, .int (nI zr))]) hx hb dX5_wireOf_34 hl (k := 1) rfl (nI_1 i_2) (by decide) rfl (fun ls hl => ?_)
        refine lv_goto (tgt := 5) hx hb dX5_wireOf_37 (by decide) ?_
        exact ih_4 (i_2 + 1) t_18 (by omega) (by omega)  _ _ hP hD hS _ (lv_sub hl [0, 1, 2, 3] rfl)
  exact lp_1 (ms.2.2.2.2.2.1 + 1) 0 0 (by omega) (by omega)  _ _ hP hD hS _ (lv_sub hl [0, 1, 2, 3] rfl)
end
section
set_option maxHeartbeats 8000000 in
set_option maxRecDepth 100000 in
theorem y_beginOn {l : Launch} {D : va_G} {ad : Nat → Nat} {cJ cI cZ : ClassId} {bm : gBM} {pa : gPA} {p0 p1 p2 : gPL} {li : gLI} {wi : gWI} {mt : Nat} {ms : gMS} {ma : gMA} {mp : gMP} {mk : gMK} {mn : gMN} {ou : Nat → Int64} {zp : Nat} {zw : Nat} (ok_mp_turns : ∀ i, mp.2.2 i < 40) (hp0 : zp < 40) (hp1 : zw < 4)  : bm_Wx l yX5_beginOn wsX5_beginOn ({ frames := 2, cells := 0, slots := 0, locals := 44 }) D vwCl [(cJ, .long), (cI, .int), (cZ, .boolean)] (WW ad cJ cI cZ bm pa p0 p1 p2 li wi mt ms ma mp mk mn ou) [.ref (ad 42), .int (nI zp), .int (nI zw)] (fun ws9 r9 => ws9 = (WW ad cJ cI cZ bm pa p0 p1 p2 li wi mt ms ma mp mk mn ou) ∧ ∃ v9 : Int64, r9 = some (.long v9)) := by
  intro sz
  refine Met.ofW (cc := cX5_beginOn) (maxL := 3) (ret := (some .long)) (by decide) rfl ?_
  intro p e s m args below meth c s₁ B hml hv
  obtain ⟨ha, hsz, hP, hK, hD0⟩ := hv
  have hx := B.exec
  have hb := B.bytes
  have hr := B.returns
  have hts := atoms_spec (ws := wsX5_beginOn) B.pre
  have hown : s.vm.findClass RX5 = some m.cls := findClass_of_methodNamed B.named
  have hlocks := B.notSynchronized
  subst hsz
  have hD := hD0.self (sz := s.heap.size)
  generalize hAe : va_A (WW ad cJ cI cZ bm pa p0 p1 p2 li wi mt ms ma mp mk mn ou) s.heap.size = A at hD ⊢
  have hA : ∀ q : Nat, s.heap.size ≤ q → A q := fun q h => by rw [← hAe]; exact Or.inr h
  have hS : va_S A s.heap s.heap [] := va_S.rf
  have hl := lv_entry ([.ref (ad 42), .int (nI zp), .int (nI zw)]) (n := 3) (Nat.le_of_ble_eq_true rfl)
  refine W.eq (g2 := entryFrame m ([.ref (ad 42), .int (nI zp), .int (nI zw)] : List Value).toArray 3) (by rw [ha]) ?_
  rw [lg_entry_eq]
  generalize (lg_sl ([.ref (ad 42), .int (nI zp), .int (nI zw)]) ++ List.replicate (3 - (lg_sl ([.ref (ad 42), .int (nI zp), .int (nI zw)])).length) Slot.unset).toArray = ls at hl ⊢
  have hl : lv_has ls 3 [(0, .ref (ad 42)), (1, .int (nI zp)), (2, .int (nI zw))] := hl
  refine lv_iload_n hx hb dX5_beginOn_0 rfl (lv_at hl 2 rfl) ?_
  by_cases ht_1 : zw = 0
  · rw [ht_1]
    refine lv_tableIn (off := 27) (tgt := 28) hx hb dX5_beginOn_1 (by decide) (by decide) (by decide) (by decide) ?_
    refine lv_aload_n hx hb dX5_beginOn_28 rfl (lv_at hl 0 rfl) ?_
    refine lv_iconst (v := nI 1) hx hb dX5_beginOn_29 (by decide) ?_
    refine lv_iload_n hx hb dX5_beginOn_30 rfl (lv_at hl 1 rfl) ?_
    refine bm_xcallV (As := [.int (nI 1), .int (nI zp)]) (rest := []) ⟨hx, hb, hml, hown, hts⟩ (y_left  (zr := 1) (zp := zp)  (by omega) (by omega)) (cwV 2 hts (gdV (by decide +kernel) (by decide +kernel) (by decide +kernel) (by decide +kernel) (by decide +kernel)) rfl rfl rfl (by decide +kernel) ⟨Nat.le_of_ble_eq_true rfl, Nat.le_of_ble_eq_true rfl⟩) hK hP hD hS hA 42 5 rfl rfl rfl hl.1 rfl (Nat.le_of_ble_eq_true rfl) dX5_beginOn_31 ⟨Nat.le_of_ble_eq_true rfl, Nat.le_of_ble_eq_true rfl⟩ (fun ws_4 r_5 h_6 H locs hP hD hS => ?_)
    obtain ⟨rfl, v_7, rfl⟩ := h_6
    have hP : va_P D vwCl (WW ad cJ cI cZ bm pa p0 p1 p2 li wi mt ms ma mp mk mn ou) H := hP
    have hD : va_D A (WW ad cJ cI cZ bm pa p0 p1 p2 li wi mt ms ma mp mk mn ou) := hD
    exact bm_lretX (v := v_7) hx hb hr hP hD hK hS ⟨rfl, v_7, rfl⟩ dX5_beginOn_34 hlocks
  · by_cases ht_2 : zw = 1
    · rw [ht_2]
      refine lv_tableIn (off := 34) (tgt := 35) hx hb dX5_beginOn_1 (by decide) (by decide) (by decide) (by decide) ?_
      refine lv_lconst (v := 0) hx hb dX5_beginOn_35 (by decide) ?_
      refine lv_aload_n hx hb dX5_beginOn_36 rfl (lv_at hl 0 rfl) ?_
      refine lv_iconst (v := nI 1) hx hb dX5_beginOn_37 (by decide) ?_
      refine lv_iload_n hx hb dX5_beginOn_38 rfl (lv_at hl 1 rfl) ?_
      refine bm_xcallV (As := [.int (nI 1), .int (nI zp)]) (rest := [.long 0]) ⟨hx, hb, hml, hown, hts⟩ (y_right  (zr := 1) (zp := zp) ok_mp_turns (by omega) (by omega)) (cwV 2 hts (gdV (by decide +kernel) (by decide +kernel) (by decide +kernel) (by decide +kernel) (by decide +kernel)) rfl rfl rfl (by decide +kernel) ⟨Nat.le_of_ble_eq_true rfl, Nat.le_of_ble_eq_true rfl⟩) hK hP hD hS hA 42 5 rfl rfl rfl hl.1 rfl (Nat.le_of_ble_eq_true rfl) dX5_beginOn_39 ⟨Nat.le_of_ble_eq_true rfl, Nat.le_of_ble_eq_true rfl⟩ (fun ws_8 r_9 h_10 H locs hP hD hS => ?_)
      obtain ⟨rfl, v_11, rfl⟩ := h_10
      have hP : va_P D vwCl (WW ad cJ cI cZ bm pa p0 p1 p2 li wi mt ms ma mp mk mn ou) H := hP
      have hD : va_D A (WW ad cJ cI cZ bm pa p0 p1 p2 li wi mt ms ma mp mk mn ou) := hD
      refine lv_lsub hx hb dX5_beginOn_42 ?_
      refine lv_topl (fun t_12 _ => ?_)
      exact bm_lretX (v := t_12) hx hb hr hP hD hK hS ⟨rfl, t_12, rfl⟩ dX5_beginOn_43 hlocks
    · by_cases ht_3 : zw = 2
      · rw [ht_3]
        refine lv_tableIn (off := 43) (tgt := 44) hx hb dX5_beginOn_1 (by decide) (by decide) (by decide) (by decide) ?_
        refine lv_aload_n hx hb dX5_beginOn_44 rfl (lv_at hl 0 rfl) ?_
        refine lv_iconst (v := nI 1) hx hb dX5_beginOn_45 (by decide) ?_
        refine lv_iload_n hx hb dX5_beginOn_46 rfl (lv_at hl 1 rfl) ?_
        refine bm_xcallV (As := [.int (nI 1), .int (nI zp)]) (rest := []) ⟨hx, hb, hml, hown, hts⟩ (y_low  (zr := 1) (zp := zp)  (by omega) (by omega)) (cwV 2 hts (gdV (by decide +kernel) (by decide +kernel) (by decide +kernel) (by decide +kernel) (by decide +kernel)) rfl rfl rfl (by decide +kernel) ⟨Nat.le_of_ble_eq_true rfl, Nat.le_of_ble_eq_true rfl⟩) hK hP hD hS hA 42 5 rfl rfl rfl hl.1 rfl (Nat.le_of_ble_eq_true rfl) dX5_beginOn_47 ⟨Nat.le_of_ble_eq_true rfl, Nat.le_of_ble_eq_true rfl⟩ (fun ws_13 r_14 h_15 H locs hP hD hS => ?_)
        obtain ⟨rfl, v_16, rfl⟩ := h_15
        have hP : va_P D vwCl (WW ad cJ cI cZ bm pa p0 p1 p2 li wi mt ms ma mp mk mn ou) H := hP
        have hD : va_D A (WW ad cJ cI cZ bm pa p0 p1 p2 li wi mt ms ma mp mk mn ou) := hD
        exact bm_lretX (v := v_16) hx hb hr hP hD hK hS ⟨rfl, v_16, rfl⟩ dX5_beginOn_50 hlocks
      · refine lv_tableOut (tgt := 51) hx hb dX5_beginOn_1 (by rw [nI_toInt (by omega)]; omega) (by decide) ?_
        refine lv_lconst (v := 0) hx hb dX5_beginOn_51 (by decide) ?_
        refine lv_aload_n hx hb dX5_beginOn_52 rfl (lv_at hl 0 rfl) ?_
        refine lv_iconst (v := nI 1) hx hb dX5_beginOn_53 (by decide) ?_
        refine lv_iload_n hx hb dX5_beginOn_54 rfl (lv_at hl 1 rfl) ?_
        refine bm_xcallV (As := [.int (nI 1), .int (nI zp)]) (rest := [.long 0]) ⟨hx, hb, hml, hown, hts⟩ (y_top  (zr := 1) (zp := zp) ok_mp_turns (by omega) (by omega)) (cwV 2 hts (gdV (by decide +kernel) (by decide +kernel) (by decide +kernel) (by decide +kernel) (by decide +kernel)) rfl rfl rfl (by decide +kernel) ⟨Nat.le_of_ble_eq_true rfl, Nat.le_of_ble_eq_true rfl⟩) hK hP hD hS hA 42 5 rfl rfl rfl hl.1 rfl (Nat.le_of_ble_eq_true rfl) dX5_beginOn_55 ⟨Nat.le_of_ble_eq_true rfl, Nat.le_of_ble_eq_true rfl⟩ (fun ws_17 r_18 h_19 H locs hP hD hS => ?_)
        obtain ⟨rfl, v_20, rfl⟩ := h_19
        have hP : va_P D vwCl (WW ad cJ cI cZ bm pa p0 p1 p2 li wi mt ms ma mp mk mn ou) H := hP
        have hD : va_D A (WW ad cJ cI cZ bm pa p0 p1 p2 li wi mt ms ma mp mk mn ou) := hD
        refine lv_lsub hx hb dX5_beginOn_58 ?_
        refine lv_topl (fun t_21 _ => ?_)
        exact bm_lretX (v := t_21) hx hb hr hP hD hK hS ⟨rfl, t_21, rfl⟩ dX5_beginOn_59 hlocks

set_option maxHeartbeats 8000000 in
set_option maxRecDepth 100000 in
theorem y_first {l : Launch} {D : va_G} {ad : Nat → Nat} {cJ cI cZ : ClassId} {bm : gBM} {pa : gPA} {p0 p1 p2 : gPL} {li : gLI} {wi : gWI} {mt : Nat} {ms : gMS} {ma : gMA} {mp : gMP} {mk : gMK} {mn : gMN} {ou : Nat → Int64}  (ok_ms_parts : ms.2.2.1 ≤ 40) (ok_mp_turns : ∀ i, mp.2.2 i < 40) (ok_ma_sides : ∀ i, ma.2.2.1 i < 40)   : bm_Wx l yX5_firstOverlap wsX5_firstOverlap ({ frames := 3, cells := 0, slots := 0, locals := 67 }) D vwCl [(cJ, .long), (cI, .int), (cZ, .boolean)] (WW ad cJ cI cZ bm pa p0 p1 p2 li wi mt ms ma mp mk mn ou) [.ref (ad 42)] (fun ws9 r9 => ws9 = (WW ad cJ cI cZ bm pa p0 p1 p2 li wi mt ms ma mp mk mn ou) ∧ (r9 = some (.int (-1)) ∨ ∃ k9 : Nat, k9 < 1600 ∧ r9 = some (.int (nI k9)))) := by
  intro sz
  refine Met.ofW (cc := cX5_firstOverlap) (maxL := 4) (ret := (some .int)) (by decide) rfl ?_
  intro p e s m args below meth c s₁ B hml hv
  obtain ⟨ha, hsz, hP, hK, hD0⟩ := hv
  have hx := B.exec
  have hb := B.bytes
  have hr := B.returns
  have hts := atoms_spec (ws := wsX5_firstOverlap) B.pre
  have hown : s.vm.findClass RX5 = some m.cls := findClass_of_methodNamed B.named
  have hlocks := B.notSynchronized
  subst hsz
  have hD := hD0.self (sz := s.heap.size)
  generalize hAe : va_A (WW ad cJ cI cZ bm pa p0 p1 p2 li wi mt ms ma mp mk mn ou) s.heap.size = A at hD ⊢
  have hA : ∀ q : Nat, s.heap.size ≤ q → A q := fun q h => by rw [← hAe]; exact Or.inr h
  have hS : va_S A s.heap s.heap [] := va_S.rf
  have hl := lv_entry ([.ref (ad 42)]) (n := 4) (Nat.le_of_ble_eq_true rfl)
  refine W.eq (g2 := entryFrame m ([.ref (ad 42)] : List Value).toArray 4) (by rw [ha]) ?_
  rw [lg_entry_eq]
  generalize (lg_sl ([.ref (ad 42)]) ++ List.replicate (4 - (lg_sl ([.ref (ad 42)])).length) Slot.unset).toArray = ls at hl ⊢
  have hl : lv_has ls 4 [(0, .ref (ad 42))] := hl
  refine lv_iconst (v := nI 0) hx hb dX5_firstOverlap_0 (by decide) ?_
  refine lv_istore_n (lv' := [(1, .int (nI 0)), (0, .ref (ad 42))]) hx hb dX5_firstOverlap_1 rfl hl (by decide) rfl (fun ls hl => ?_)
  have lp_1 : ∀ (k_3 : Nat) (i_2 : Nat) , i_2 ≤ ms.2.2.1 → ms.2.2.1 < i_2 + k_3 → ∀ (H : Heap) (locs : List Loc), va_P D vwCl (WW ad cJ cI cZ bm pa p0 p1 p2 li wi mt ms ma mp mk mn ou) H → va_D A (WW ad cJ cI cZ bm pa p0 p1 p2 li wi mt ms ma mp mk mn ou) → va_S A s.heap H locs → ∀ (ls : Array Slot), lv_has ls 4 [(1, .int (nI i_2)), (0, .ref (ad 42))] → W p l e (headSpec wsX5_firstOverlap ({ frames := 3, cells := 0, slots := 0, locals := 67 })).room s m args below meth c H locs 0 0 (MQ below (bm_Wxq D vwCl [(cJ, .long), (cI, .int), (cZ, .boolean)] (fun ws9 r9 => ws9 = (WW ad cJ cI cZ bm pa p0 p1 p2 li wi mt ms ma mp mk mn ou) ∧ (r9 = some (.int (-1)) ∨ ∃ k9 : Nat, k9 < 1600 ∧ r9 = some (.int (nI k9)))) A) args s 0 0 A) (F0 m 2 ls []) := by
    intro k_3
    induction k_3 with
    | zero => intro i_2 hi_5 hk_6; exfalso; omega
    | succ k_3 ih_4 =>
      intro i_2 hi_5 hk_6  H locs hP hD hS ls hl
      refine lv_iload_n hx hb dX5_firstOverlap_2 rfl (lv_at hl 0 rfl) ?_
      refine lv_aload_n hx hb dX5_firstOverlap_3 rfl (lv_at hl 1 rfl) ?_
      refine va_get (D := D) (ci := 5) (v := .int (nI ms.2.2.1)) (C := RX5) (T := TX5) (N := 28) hx hb hts (inT inX5) hown hK hP 42 rfl rfl 3 (by decide) (hts (.fieldLink RX5 85 "BoardMovesModel" "parts" "I") (by decide +kernel)) (fun _ h9 => h9) rfl dX5_firstOverlap_4 ?_
      refine bm_ni_ge (x := i_2) (y := ms.2.2.1) (tgt := 112) hx hb (by omega) (by omega) dX5_firstOverlap_7 (by decide) (fun c_7 => ?_) (fun c_7 => ?_)
      · refine lv_iconst (v := -1) hx hb dX5_firstOverlap_112 (by decide) ?_
        exact bm_iretX (v := (-1)) hx hb hr hP hD hK hS ⟨rfl, Or.inl rfl⟩ dX5_firstOverlap_113 hlocks
      · refine lv_iload_n hx hb dX5_firstOverlap_10 rfl (lv_at hl 0 rfl) ?_
        refine lv_iconst (v := nI 1) hx hb dX5_firstOverlap_11 (by decide) ?_
        refine bm_nadd hx hb dX5_firstOverlap_12 ?_
        refine lv_istore_n (lv' := [(2, .int (nI (i_2 + 1))), (1, .int (nI i_2)), (0, .ref (ad 42))]) hx hb dX5_firstOverlap_13 rfl hl (by decide) rfl (fun ls hl => ?_)
        have lp_8 : ∀ (k_10 : Nat) (i_9 : Nat) , i_9 ≤ ms.2.2.1 → ms.2.2.1 < i_9 + k_10 → ∀ (H : Heap) (locs : List Loc), va_P D vwCl (WW ad cJ cI cZ bm pa p0 p1 p2 li wi mt ms ma mp mk mn ou) H → va_D A (WW ad cJ cI cZ bm pa p0 p1 p2 li wi mt ms ma mp mk mn ou) → va_S A s.heap H locs → ∀ (ls : Array Slot), lv_has ls 4 [(2, .int (nI i_9)), (1, .int (nI i_2)), (0, .ref (ad 42))] → W p l e (headSpec wsX5_firstOverlap ({ frames := 3, cells := 0, slots := 0, locals := 67 })).room s m args below meth c H locs 0 0 (MQ below (bm_Wxq D vwCl [(cJ, .long), (cI, .int), (cZ, .boolean)] (fun ws9 r9 => ws9 = (WW ad cJ cI cZ bm pa p0 p1 p2 li wi mt ms ma mp mk mn ou) ∧ (r9 = some (.int (-1)) ∨ ∃ k9 : Nat, k9 < 1600 ∧ r9 = some (.int (nI k9)))) A) args s 0 0 A) (F0 m 14 ls []) := by
          intro k_10
          induction k_10 with
          | zero => intro i_9 hi_12 hk_13; exfalso; omega
          | succ k_10 ih_11 =>
            intro i_9 hi_12 hk_13  H locs hP hD hS ls hl
            refine lv_iload_n hx hb dX5_firstOverlap_14 rfl (lv_at hl 0 rfl) ?_
            refine lv_aload_n hx hb dX5_firstOverlap_15 rfl (lv_at hl 2 rfl) ?_
            refine va_get (D := D) (ci := 5) (v := .int (nI ms.2.2.1)) (C := RX5) (T := TX5) (N := 28) hx hb hts (inT inX5) hown hK hP 42 rfl rfl 3 (by decide) (hts (.fieldLink RX5 85 "BoardMovesModel" "parts" "I") (by decide +kernel)) (fun _ h9 => h9) rfl dX5_firstOverlap_16 ?_
            refine bm_ni_ge (x := i_9) (y := ms.2.2.1) (tgt := 106) hx hb (by omega) (by omega) dX5_firstOverlap_19 (by decide) (fun c_14 => ?_) (fun c_14 => ?_)
            · refine lv_iinc (v := (nI (i_2 + 1))) (lv' := [(1, .int (nI (i_2 + 1))), (2, .int (nI i_9)), (0, .ref (ad 42))]) hx hb dX5_firstOverlap_106 hl (k := 1) rfl (nI_1 i_2) (by decide) rfl (fun ls hl => ?_)
              refine lv_goto (tgt := 2) hx hb dX5_firstOverlap_109 (by decide) ?_
              exact ih_4 (i_2 + 1) (by omega) (by omega)  _ _ hP hD hS _ (lv_sub hl [0, 2] rfl)
            · refine lv_aload_n hx hb dX5_firstOverlap_22 rfl (lv_at hl 2 rfl) ?_
              refine va_get (D := D) (ci := 5) (v := .ref (ad 49)) (C := RX5) (T := TX5) (N := 28) hx hb hts (inT inX5) hown hK hP 42 rfl rfl 10 (by decide) (hts (.fieldLink RX5 30 "BoardMovesModel" "placed" "[Z") (by decide +kernel)) (fun _ h9 => h9) rfl dX5_firstOverlap_23 ?_
              refine lv_iload_n hx hb dX5_firstOverlap_26 rfl (lv_at hl 1 rfl) ?_
              refine bm_zald (f := ma.2.2.2.2.2.2) hx hb hK hP 49 2 rfl rfl (j := i_2) (by omega) (by decide) dX5_firstOverlap_27 ?_
              refine bm_zb_eq (x := (ma.2.2.2.2.2.2 i_2)) (tgt := 59) hx hb dX5_firstOverlap_28 (by decide) (fun c_15 => ?_) (fun c_15 => ?_)
              · refine lv_iconst (v := bm_b false) hx hb dX5_firstOverlap_59 (by decide) ?_
                refine lv_istore_n (lv' := [(3, .int (bm_b false)), (2, .int (nI i_9)), (1, .int (nI i_2)), (0, .ref (ad 42))]) hx hb dX5_firstOverlap_60 rfl hl (by decide) rfl (fun ls hl => ?_)
                refine lv_iload_n hx hb dX5_firstOverlap_61 rfl (lv_at hl 0 rfl) ?_
                refine bm_zb_eq (x := false) (tgt := 100) hx hb dX5_firstOverlap_62 (by decide) (fun c_16 => ?_) (fun c_16 => ?_)
                · refine lv_iinc (v := (nI (i_9 + 1))) (lv' := [(2, .int (nI (i_9 + 1))), (3, .int (bm_b false)), (1, .int (nI i_2)), (0, .ref (ad 42))]) hx hb dX5_firstOverlap_100 hl (k := 1) rfl (nI_1 i_9) (by decide) rfl (fun ls hl => ?_)
                  refine lv_goto (tgt := 14) hx hb dX5_firstOverlap_103 (by decide) ?_
                  exact ih_11 (i_9 + 1) (by omega) (by omega)  _ _ hP hD hS _ (lv_sub hl [0, 2, 3] rfl)
                · exact absurd c_16 (by decide)
              · refine lv_aload_n hx hb dX5_firstOverlap_31 rfl (lv_at hl 2 rfl) ?_
                refine va_get (D := D) (ci := 5) (v := .ref (ad 49)) (C := RX5) (T := TX5) (N := 28) hx hb hts (inT inX5) hown hK hP 42 rfl rfl 10 (by decide) (hts (.fieldLink RX5 30 "BoardMovesModel" "placed" "[Z") (by decide +kernel)) (fun _ h9 => h9) rfl dX5_firstOverlap_32 ?_
                refine lv_iload_n hx hb dX5_firstOverlap_35 rfl (lv_at hl 0 rfl) ?_
                refine bm_zald (f := ma.2.2.2.2.2.2) hx hb hK hP 49 2 rfl rfl (j := i_9) (by omega) (by decide) dX5_firstOverlap_36 ?_
                refine bm_zb_eq (x := (ma.2.2.2.2.2.2 i_9)) (tgt := 59) hx hb dX5_firstOverlap_37 (by decide) (fun c_17 => ?_) (fun c_17 => ?_)
                · refine lv_iconst (v := bm_b false) hx hb dX5_firstOverlap_59 (by decide) ?_
                  refine lv_istore_n (lv' := [(3, .int (bm_b false)), (2, .int (nI i_9)), (1, .int (nI i_2)), (0, .ref (ad 42))]) hx hb dX5_firstOverlap_60 rfl hl (by decide) rfl (fun ls hl => ?_)
                  refine lv_iload_n hx hb dX5_firstOverlap_61 rfl (lv_at hl 0 rfl) ?_
                  refine bm_zb_eq (x := false) (tgt := 100) hx hb dX5_firstOverlap_62 (by decide) (fun c_18 => ?_) (fun c_18 => ?_)
                  · refine lv_iinc (v := (nI (i_9 + 1))) (lv' := [(2, .int (nI (i_9 + 1))), (3, .int (bm_b false)), (1, .int (nI i_2)), (0, .ref (ad 42))]) hx hb dX5_firstOverlap_100 hl (k := 1) rfl (nI_1 i_9) (by decide) rfl (fun ls hl => ?_)
                    refine lv_goto (tgt := 14) hx hb dX5_firstOverlap_103 (by decide) ?_
                    exact ih_11 (i_9 + 1) (by omega) (by omega)  _ _ hP hD hS _ (lv_sub hl [0, 2, 3] rfl)
                  · exact absurd c_18 (by decide)
                · refine lv_aload_n hx hb dX5_firstOverlap_40 rfl (lv_at hl 2 rfl) ?_
                  refine va_get (D := D) (ci := 5) (v := .ref (ad 45)) (C := RX5) (T := TX5) (N := 28) hx hb hts (inT inX5) hown hK hP 42 rfl rfl 6 (by decide) (hts (.fieldLink RX5 16 "BoardMovesModel" "sides" "[I") (by decide +kernel)) (fun _ h9 => h9) rfl dX5_firstOverlap_41 ?_
                  refine lv_iload_n hx hb dX5_firstOverlap_44 rfl (lv_at hl 1 rfl) ?_
                  refine bm_nald (f := ma.2.2.1) hx hb hK hP 45 1 rfl rfl (j := i_2) (by omega) (by decide) dX5_firstOverlap_45 ?_
                  refine lv_aload_n hx hb dX5_firstOverlap_46 rfl (lv_at hl 2 rfl) ?_
                  refine va_get (D := D) (ci := 5) (v := .ref (ad 45)) (C := RX5) (T := TX5) (N := 28) hx hb hts (inT inX5) hown hK hP 42 rfl rfl 6 (by decide) (hts (.fieldLink RX5 16 "BoardMovesModel" "sides" "[I") (by decide +kernel)) (fun _ h9 => h9) rfl dX5_firstOverlap_47 ?_
                  refine lv_iload_n hx hb dX5_firstOverlap_50 rfl (lv_at hl 0 rfl) ?_
                  refine bm_nald (f := ma.2.2.1) hx hb hK hP 45 1 rfl rfl (j := i_9) (by omega) (by decide) dX5_firstOverlap_51 ?_
                  refine bm_ni_ne (x := (ma.2.2.1 i_2)) (y := (ma.2.2.1 i_9)) (tgt := 59) hx hb (bm40 (ok_ma_sides _)) (bm40 (ok_ma_sides _)) dX5_firstOverlap_52 (by decide) (fun c_19 => ?_) (fun c_19 => ?_)
                  · refine lv_iconst (v := bm_b false) hx hb dX5_firstOverlap_59 (by decide) ?_
                    refine lv_istore_n (lv' := [(3, .int (bm_b false)), (2, .int (nI i_9)), (1, .int (nI i_2)), (0, .ref (ad 42))]) hx hb dX5_firstOverlap_60 rfl hl (by decide) rfl (fun ls hl => ?_)
                    refine lv_iload_n hx hb dX5_firstOverlap_61 rfl (lv_at hl 0 rfl) ?_
                    refine bm_zb_eq (x := false) (tgt := 100) hx hb dX5_firstOverlap_62 (by decide) (fun c_20 => ?_) (fun c_20 => ?_)
                    · refine lv_iinc (v := (nI (i_9 + 1))) (lv' := [(2, .int (nI (i_9 + 1))), (3, .int (bm_b false)), (1, .int (nI i_2)), (0, .ref (ad 42))]) hx hb dX5_firstOverlap_100 hl (k := 1) rfl (nI_1 i_9) (by decide) rfl (fun ls hl => ?_)
                      refine lv_goto (tgt := 14) hx hb dX5_firstOverlap_103 (by decide) ?_
                      exact ih_11 (i_9 + 1) (by omega) (by omega)  _ _ hP hD hS _ (lv_sub hl [0, 2, 3] rfl)
                    · exact absurd c_20 (by decide)
                  · refine lv_iconst (v := bm_b true) hx hb dX5_firstOverlap_55 (by decide) ?_
                    refine lv_goto (tgt := 60) hx hb dX5_firstOverlap_56 (by decide) ?_
                    refine lv_istore_n (lv' := [(3, .int (bm_b true)), (2, .int (nI i_9)), (1, .int (nI i_2)), (0, .ref (ad 42))]) hx hb dX5_firstOverlap_60 rfl hl (by decide) rfl (fun ls hl => ?_)
                    refine lv_iload_n hx hb dX5_firstOverlap_61 rfl (lv_at hl 0 rfl) ?_
                    refine bm_zb_eq (x := true) (tgt := 100) hx hb dX5_firstOverlap_62 (by decide) (fun c_21 => ?_) (fun c_21 => ?_)
                    · exact absurd c_21 (by decide)
                    · refine lv_aload_n hx hb dX5_firstOverlap_65 rfl (lv_at hl 3 rfl) ?_
                      refine va_get (D := D) (ci := 5) (v := .ref (ad 61)) (C := RX5) (T := TX5) (N := 28) hx hb hts (inT inX5) hown hK hP 42 rfl rfl 26 (by decide) (hts (.fieldLink RX5 66 "BoardMovesModel" "moved" "[Z") (by decide +kernel)) (fun _ h9 => h9) rfl dX5_firstOverlap_66 ?_
                      refine lv_iload_n hx hb dX5_firstOverlap_69 rfl (lv_at hl 2 rfl) ?_
                      refine bm_zald (f := mn.2.2.2.2) hx hb hK hP 61 2 rfl rfl (j := i_2) (by omega) (by decide) dX5_firstOverlap_70 ?_
                      refine bm_zb_ne (x := (mn.2.2.2.2 i_2)) (tgt := 83) hx hb dX5_firstOverlap_71 (by decide) (fun c_22 => ?_) (fun c_22 => ?_)
                      · refine lv_aload_n hx hb dX5_firstOverlap_83 rfl (lv_at hl 3 rfl) ?_
                        refine lv_iconst (v := nI 1) hx hb dX5_firstOverlap_84 (by decide) ?_
                        refine lv_iload_n hx hb dX5_firstOverlap_85 rfl (lv_at hl 2 rfl) ?_
                        refine lv_iload_n hx hb dX5_firstOverlap_86 rfl (lv_at hl 1 rfl) ?_
                        refine bm_xcallV (As := [.int (nI 1), .int (nI i_2), .int (nI i_9)]) (rest := []) ⟨hx, hb, hml, hown, hts⟩ (y_overlap  (zr := 1) (zp := i_2) (zq := i_9) ok_mp_turns (by omega) (by omega) (by omega)) (cwV 3 hts (gdV (by decide +kernel) (by decide +kernel) (by decide +kernel) (by decide +kernel) (by decide +kernel)) rfl rfl rfl (by decide +kernel) ⟨Nat.le_of_ble_eq_true rfl, Nat.le_of_ble_eq_true rfl⟩) hK hP hD hS hA 42 5 rfl rfl rfl hl.1 rfl (Nat.le_of_ble_eq_true rfl) dX5_firstOverlap_87 ⟨Nat.le_of_ble_eq_true rfl, Nat.le_of_ble_eq_true rfl⟩ (fun ws_23 r_24 h_25 H locs hP hD hS => ?_)
                        obtain ⟨rfl, v_26, rfl⟩ := h_25
                        have hP : va_P D vwCl (WW ad cJ cI cZ bm pa p0 p1 p2 li wi mt ms ma mp mk mn ou) H := hP
                        have hD : va_D A (WW ad cJ cI cZ bm pa p0 p1 p2 li wi mt ms ma mp mk mn ou) := hD
                        refine bm_zb_eq (x := v_26) (tgt := 100) hx hb dX5_firstOverlap_90 (by decide) (fun c_27 => ?_) (fun c_27 => ?_)
                        · refine lv_iinc (v := (nI (i_9 + 1))) (lv' := [(2, .int (nI (i_9 + 1))), (3, .int (bm_b true)), (1, .int (nI i_2)), (0, .ref (ad 42))]) hx hb dX5_firstOverlap_100 hl (k := 1) rfl (nI_1 i_9) (by decide) rfl (fun ls hl => ?_)
                          refine lv_goto (tgt := 14) hx hb dX5_firstOverlap_103 (by decide) ?_
                          exact ih_11 (i_9 + 1) (by omega) (by omega)  _ _ hP hD hS _ (lv_sub hl [0, 2, 3] rfl)
                        · refine lv_bipush (v := nI 40) hx hb dX5_firstOverlap_93 (by decide) ?_
                          refine lv_iload_n hx hb dX5_firstOverlap_95 rfl (lv_at hl 2 rfl) ?_
                          refine bm_nmul hx hb dX5_firstOverlap_96 ?_
                          refine lv_iload_n hx hb dX5_firstOverlap_97 rfl (lv_at hl 1 rfl) ?_
                          refine bm_nadd hx hb dX5_firstOverlap_98 ?_
                          exact bm_iretX (v := (nI ((40 * i_2) + i_9))) hx hb hr hP hD hK hS ⟨rfl, Or.inr ⟨(40 * i_2) + i_9, (by omega), rfl⟩⟩ dX5_firstOverlap_99 hlocks
                      · refine lv_aload_n hx hb dX5_firstOverlap_74 rfl (lv_at hl 3 rfl) ?_
                        refine va_get (D := D) (ci := 5) (v := .ref (ad 61)) (C := RX5) (T := TX5) (N := 28) hx hb hts (inT inX5) hown hK hP 42 rfl rfl 26 (by decide) (hts (.fieldLink RX5 66 "BoardMovesModel" "moved" "[Z") (by decide +kernel)) (fun _ h9 => h9) rfl dX5_firstOverlap_75 ?_
                        refine lv_iload_n hx hb dX5_firstOverlap_78 rfl (lv_at hl 1 rfl) ?_
                        refine bm_zald (f := mn.2.2.2.2) hx hb hK hP 61 2 rfl rfl (j := i_9) (by omega) (by decide) dX5_firstOverlap_79 ?_
                        refine bm_zb_eq (x := (mn.2.2.2.2 i_9)) (tgt := 100) hx hb dX5_firstOverlap_80 (by decide) (fun c_28 => ?_) (fun c_28 => ?_)
                        · refine lv_iinc (v := (nI (i_9 + 1))) (lv' := [(2, .int (nI (i_9 + 1))), (3, .int (bm_b true)), (1, .int (nI i_2)), (0, .ref (ad 42))]) hx hb dX5_firstOverlap_100 hl (k := 1) rfl (nI_1 i_9) (by decide) rfl (fun ls hl => ?_)
                          refine lv_goto (tgt := 14) hx hb dX5_firstOverlap_103 (by decide) ?_
                          exact ih_11 (i_9 + 1) (by omega) (by omega)  _ _ hP hD hS _ (lv_sub hl [0, 2, 3] rfl)
                        · refine lv_aload_n hx hb dX5_firstOverlap_83 rfl (lv_at hl 3 rfl) ?_
                          refine lv_iconst (v := nI 1) hx hb dX5_firstOverlap_84 (by decide) ?_
                          refine lv_iload_n hx hb dX5_firstOverlap_85 rfl (lv_at hl 2 rfl) ?_
                          refine lv_iload_n hx hb dX5_firstOverlap_86 rfl (lv_at hl 1 rfl) ?_
                          refine bm_xcallV (As := [.int (nI 1), .int (nI i_2), .int (nI i_9)]) (rest := []) ⟨hx, hb, hml, hown, hts⟩ (y_overlap  (zr := 1) (zp := i_2) (zq := i_9) ok_mp_turns (by omega) (by omega) (by omega)) (cwV 3 hts (gdV (by decide +kernel) (by decide +kernel) (by decide +kernel) (by decide +kernel) (by decide +kernel)) rfl rfl rfl (by decide +kernel) ⟨Nat.le_of_ble_eq_true rfl, Nat.le_of_ble_eq_true rfl⟩) hK hP hD hS hA 42 5 rfl rfl rfl hl.1 rfl (Nat.le_of_ble_eq_true rfl) dX5_firstOverlap_87 ⟨Nat.le_of_ble_eq_true rfl, Nat.le_of_ble_eq_true rfl⟩ (fun ws_29 r_30 h_31 H locs hP hD hS => ?_)
                          obtain ⟨rfl, v_32, rfl⟩ := h_31
                          have hP : va_P D vwCl (WW ad cJ cI cZ bm pa p0 p1 p2 li wi mt ms ma mp mk mn ou) H := hP
                          have hD : va_D A (WW ad cJ cI cZ bm pa p0 p1 p2 li wi mt ms ma mp mk mn ou) := hD
                          refine bm_zb_eq (x := v_32) (tgt := 100) hx hb dX5_firstOverlap_90 (by decide) (fun c_33 => ?_) (fun c_33 => ?_)
                          · refine lv_iinc (v := (nI (i_9 + 1))) (lv' := [(2, .int (nI (i_9 + 1))), (3, .int (bm_b true)), (1, .int (nI i_2)), (0, .ref (ad 42))]) hx hb dX5_firstOverlap_100 hl (k := 1) rfl (nI_1 i_9) (by decide) rfl (fun ls hl => ?_)
                            refine lv_goto (tgt := 14) hx hb dX5_firstOverlap_103 (by decide) ?_
                            exact ih_11 (i_9 + 1) (by omega) (by omega)  _ _ hP hD hS _ (lv_sub hl [0, 2, 3] rfl)
                          · refine lv_bipush (v := nI 40) hx hb dX5_firstOverlap_93 (by decide) ?_
                            refine lv_iload_n hx hb dX5_firstOverlap_95 rfl (lv_at hl 2 rfl) ?_
                            refine bm_nmul hx hb dX5_firstOverlap_96 ?_
                            refine lv_iload_n hx hb dX5_firstOverlap_97 rfl (lv_at hl 1 rfl) ?_
                            refine bm_nadd hx hb dX5_firstOverlap_98 ?_
                            exact bm_iretX (v := (nI ((40 * i_2) + i_9))) hx hb hr hP hD hK hS ⟨rfl, Or.inr ⟨(40 * i_2) + i_9, (by omega), rfl⟩⟩ dX5_firstOverlap_99 hlocks
        exact lp_8 (ms.2.2.1 + 1) (i_2 + 1) (by omega) (by omega)  _ _ hP hD hS _ (lv_sub hl [0, 1, 2] rfl)
  exact lp_1 (ms.2.2.1 + 1) 0 (by omega) (by omega)  _ _ hP hD hS _ (lv_sub hl [0, 1] rfl)

set_option maxHeartbeats 8000000 in
set_option maxRecDepth 100000 in
theorem y_goOn {l : Launch} {D : va_G} {ad : Nat → Nat} {cJ cI cZ : ClassId} {bm : gBM} {pa : gPA} {p0 p1 p2 : gPL} {li : gLI} {wi : gWI} {mt : Nat} {ms : gMS} {ma : gMA} {mp : gMP} {mk : gMK} {mn : gMN} {ou : Nat → Int64} {zp : Nat} {zq : Nat} {zw : Nat} (ok_ms_parts : ms.2.2.1 ≤ 40) (ok_ma_groups : ∀ i, ma.2.2.2.2.2.1 i < 40) (ok_mp_turns : ∀ i, mp.2.2 i < 40) (hp0 : zp < 40) (hp1 : zq < 40) (hp2 : zw < 4)  : bm_Wx l yX5_goOn wsX5_goOn ({ frames := 2, cells := 0, slots := 0, locals := 44 }) D vwCl [(cJ, .long), (cI, .int), (cZ, .boolean)] (WW ad cJ cI cZ bm pa p0 p1 p2 li wi mt ms ma mp mk mn ou) [.ref (ad 42), .int (nI zp), .int (nI zq), .int (nI zw)] (fun ws9 r9 => ∃ (e0 : Nat → Int64) (e1 : Nat → Int64) (e2 : Nat → Bool) , ws9 = (WW ad cJ cI cZ bm pa p0 p1 p2 li wi mt ms ma (e0, e1, mp.2.2) mk (mn.1, mn.2.1, mn.2.2.1, mn.2.2.2.1, e2) ou) ∧ r9 = none) := by
  intro sz
  refine Met.ofW (cc := cX5_goOn) (maxL := 4) (ret := none) (by decide) rfl ?_
  intro p e s m args below meth c s₁ B hml hv
  obtain ⟨ha, hsz, hP, hK, hD0⟩ := hv
  have hx := B.exec
  have hb := B.bytes
  have hr := B.returns
  have hts := atoms_spec (ws := wsX5_goOn) B.pre
  have hown : s.vm.findClass RX5 = some m.cls := findClass_of_methodNamed B.named
  have hlocks := B.notSynchronized
  subst hsz
  have hD := hD0.self (sz := s.heap.size)
  generalize hAe : va_A (WW ad cJ cI cZ bm pa p0 p1 p2 li wi mt ms ma mp mk mn ou) s.heap.size = A at hD ⊢
  have hA : ∀ q : Nat, s.heap.size ≤ q → A q := fun q h => by rw [← hAe]; exact Or.inr h
  have hS : va_S A s.heap s.heap [] := va_S.rf
  have hl := lv_entry ([.ref (ad 42), .int (nI zp), .int (nI zq), .int (nI zw)]) (n := 4) (Nat.le_of_ble_eq_true rfl)
  refine W.eq (g2 := entryFrame m ([.ref (ad 42), .int (nI zp), .int (nI zq), .int (nI zw)] : List Value).toArray 4) (by rw [ha]) ?_
  rw [lg_entry_eq]
  generalize (lg_sl ([.ref (ad 42), .int (nI zp), .int (nI zq), .int (nI zw)]) ++ List.replicate (4 - (lg_sl ([.ref (ad 42), .int (nI zp), .int (nI zq), .int (nI zw)])).length) Slot.unset).toArray = ls at hl ⊢
  have hl : lv_has ls 4 [(0, .ref (ad 42)), (1, .int (nI zp)), (2, .int (nI zq)), (3, .int (nI zw))] := hl
  refine lv_iload_n hx hb dX5_goOn_0 rfl (lv_at hl 3 rfl) ?_
  refine bm_nz_ne (x := zw) (tgt := 26) hx hb (by omega) dX5_goOn_1 (by decide) (fun c_1 => ?_) (fun c_1 => ?_)
  · refine lv_iload_n hx hb dX5_goOn_26 rfl (lv_at hl 3 rfl) ?_
    refine lv_iconst (v := nI 1) hx hb dX5_goOn_27 (by decide) ?_
    refine bm_ni_ne (x := zw) (y := 1) (tgt := 53) hx hb (by omega) (by omega) dX5_goOn_28 (by decide) (fun c_2 => ?_) (fun c_2 => ?_)
    · refine lv_iload_n hx hb dX5_goOn_53 rfl (lv_at hl 3 rfl) ?_
      refine lv_iconst (v := nI 2) hx hb dX5_goOn_54 (by decide) ?_
      refine bm_ni_ne (x := zw) (y := 2) (tgt := 80) hx hb (by omega) (by omega) dX5_goOn_55 (by decide) (fun c_3 => ?_) (fun c_3 => ?_)
      · refine lv_aload_n hx hb dX5_goOn_80 rfl (lv_at hl 0 rfl) ?_
        refine lv_iload_n hx hb dX5_goOn_81 rfl (lv_at hl 1 rfl) ?_
        refine lv_lconst (v := 0) hx hb dX5_goOn_82 (by decide) ?_
        refine lv_aload_n hx hb dX5_goOn_83 rfl (lv_at hl 0 rfl) ?_
        refine lv_iconst (v := nI 1) hx hb dX5_goOn_84 (by decide) ?_
        refine lv_iload_n hx hb dX5_goOn_85 rfl (lv_at hl 2 rfl) ?_
        refine bm_xcallV (As := [.int (nI 1), .int (nI zq)]) (rest := [.long 0, .int (nI zp), .ref (ad 42)]) ⟨hx, hb, hml, hown, hts⟩ (y_low  (zr := 1) (zp := zq)  (by omega) (by omega)) (cwV 2 hts (gdV (by decide +kernel) (by decide +kernel) (by decide +kernel) (by decide +kernel) (by decide +kernel)) rfl rfl rfl (by decide +kernel) ⟨Nat.le_of_ble_eq_true rfl, Nat.le_of_ble_eq_true rfl⟩) hK hP hD hS hA 42 5 rfl rfl rfl hl.1 rfl (Nat.le_of_ble_eq_true rfl) dX5_goOn_86 ⟨Nat.le_of_ble_eq_true rfl, Nat.le_of_ble_eq_true rfl⟩ (fun ws_4 r_5 h_6 H locs hP hD hS => ?_)
        obtain ⟨rfl, v_7, rfl⟩ := h_6
        have hP : va_P D vwCl (WW ad cJ cI cZ bm pa p0 p1 p2 li wi mt ms ma mp mk mn ou) H := hP
        have hD : va_D A (WW ad cJ cI cZ bm pa p0 p1 p2 li wi mt ms ma mp mk mn ou) := hD
        refine lv_aload_n hx hb dX5_goOn_89 rfl (lv_at hl 0 rfl) ?_
        refine lv_iconst (v := nI 1) hx hb dX5_goOn_90 (by decide) ?_
        refine lv_iload_n hx hb dX5_goOn_91 rfl (lv_at hl 1 rfl) ?_
        refine bm_xcallV (As := [.int (nI 1), .int (nI zp)]) (rest := [.long v_7, .long 0, .int (nI zp), .ref (ad 42)]) ⟨hx, hb, hml, hown, hts⟩ (y_top  (zr := 1) (zp := zp) ok_mp_turns (by omega) (by omega)) (cwV 2 hts (gdV (by decide +kernel) (by decide +kernel) (by decide +kernel) (by decide +kernel) (by decide +kernel)) rfl rfl rfl (by decide +kernel) ⟨Nat.le_of_ble_eq_true rfl, Nat.le_of_ble_eq_true rfl⟩) hK hP hD hS hA 42 5 rfl rfl rfl hl.1 rfl (Nat.le_of_ble_eq_true rfl) dX5_goOn_92 ⟨Nat.le_of_ble_eq_true rfl, Nat.le_of_ble_eq_true rfl⟩ (fun ws_8 r_9 h_10 H locs hP hD hS => ?_)
        obtain ⟨rfl, v_11, rfl⟩ := h_10
        have hP : va_P D vwCl (WW ad cJ cI cZ bm pa p0 p1 p2 li wi mt ms ma mp mk mn ou) H := hP
        have hD : va_D A (WW ad cJ cI cZ bm pa p0 p1 p2 li wi mt ms ma mp mk mn ou) := hD
        refine lv_lsub hx hb dX5_goOn_95 ?_
        refine lv_topl (fun t_12 _ => ?_)
        refine bm_xcallV (As := [.int (nI zp), .long 0, .long t_12]) (rest := []) ⟨hx, hb, hml, hown, hts⟩ (y_go  (zp := zp) (z1 := 0) (z2 := t_12) ok_ms_parts ok_ma_groups (by omega)) (cwV 3 hts (gdV (by decide +kernel) (by decide +kernel) (by decide +kernel) (by decide +kernel) (by decide +kernel)) rfl rfl rfl (by decide +kernel) ⟨Nat.le_of_ble_eq_true rfl, Nat.le_of_ble_eq_true rfl⟩) hK hP hD hS hA 42 5 rfl rfl rfl hl.1 rfl (Nat.le_of_ble_eq_true rfl) dX5_goOn_96 ⟨Nat.le_of_ble_eq_true rfl, Nat.le_of_ble_eq_true rfl⟩ (fun ws_13 r_14 h_15 H locs hP hD hS => ?_)
        obtain ⟨g_16, g_17, g_18, rfl, rfl⟩ := h_15
        have hP : va_P D vwCl (WW ad cJ cI cZ bm pa p0 p1 p2 li wi mt ms ma (g_16, g_17, mp.2.2) mk (mn.1, mn.2.1, mn.2.2.1, mn.2.2.2.1, g_18) ou) H := hP
        have hD : va_D A (WW ad cJ cI cZ bm pa p0 p1 p2 li wi mt ms ma (g_16, g_17, mp.2.2) mk (mn.1, mn.2.1, mn.2.2.1, mn.2.2.2.1, g_18) ou) := hD
        exact bm_vretX hx hb hr hP hD hK hS ⟨g_16, g_17, g_18, rfl, rfl⟩ dX5_goOn_99 hlocks
      · refine lv_aload_n hx hb dX5_goOn_58 rfl (lv_at hl 0 rfl) ?_
        refine lv_iload_n hx hb dX5_goOn_59 rfl (lv_at hl 1 rfl) ?_
        refine lv_lconst (v := 0) hx hb dX5_goOn_60 (by decide) ?_
        refine lv_aload_n hx hb dX5_goOn_61 rfl (lv_at hl 0 rfl) ?_
        refine lv_iconst (v := nI 1) hx hb dX5_goOn_62 (by decide) ?_
        refine lv_iload_n hx hb dX5_goOn_63 rfl (lv_at hl 2 rfl) ?_
        refine bm_xcallV (As := [.int (nI 1), .int (nI zq)]) (rest := [.long 0, .int (nI zp), .ref (ad 42)]) ⟨hx, hb, hml, hown, hts⟩ (y_top  (zr := 1) (zp := zq) ok_mp_turns (by omega) (by omega)) (cwV 2 hts (gdV (by decide +kernel) (by decide +kernel) (by decide +kernel) (by decide +kernel) (by decide +kernel)) rfl rfl rfl (by decide +kernel) ⟨Nat.le_of_ble_eq_true rfl, Nat.le_of_ble_eq_true rfl⟩) hK hP hD hS hA 42 5 rfl rfl rfl hl.1 rfl (Nat.le_of_ble_eq_true rfl) dX5_goOn_64 ⟨Nat.le_of_ble_eq_true rfl, Nat.le_of_ble_eq_true rfl⟩ (fun ws_19 r_20 h_21 H locs hP hD hS => ?_)
        obtain ⟨rfl, v_22, rfl⟩ := h_21
        have hP : va_P D vwCl (WW ad cJ cI cZ bm pa p0 p1 p2 li wi mt ms ma mp mk mn ou) H := hP
        have hD : va_D A (WW ad cJ cI cZ bm pa p0 p1 p2 li wi mt ms ma mp mk mn ou) := hD
        refine lv_aload_n hx hb dX5_goOn_67 rfl (lv_at hl 0 rfl) ?_
        refine lv_iconst (v := nI 1) hx hb dX5_goOn_68 (by decide) ?_
        refine lv_iload_n hx hb dX5_goOn_69 rfl (lv_at hl 1 rfl) ?_
        refine bm_xcallV (As := [.int (nI 1), .int (nI zp)]) (rest := [.long v_22, .long 0, .int (nI zp), .ref (ad 42)]) ⟨hx, hb, hml, hown, hts⟩ (y_low  (zr := 1) (zp := zp)  (by omega) (by omega)) (cwV 2 hts (gdV (by decide +kernel) (by decide +kernel) (by decide +kernel) (by decide +kernel) (by decide +kernel)) rfl rfl rfl (by decide +kernel) ⟨Nat.le_of_ble_eq_true rfl, Nat.le_of_ble_eq_true rfl⟩) hK hP hD hS hA 42 5 rfl rfl rfl hl.1 rfl (Nat.le_of_ble_eq_true rfl) dX5_goOn_70 ⟨Nat.le_of_ble_eq_true rfl, Nat.le_of_ble_eq_true rfl⟩ (fun ws_23 r_24 h_25 H locs hP hD hS => ?_)
        obtain ⟨rfl, v_26, rfl⟩ := h_25
        have hP : va_P D vwCl (WW ad cJ cI cZ bm pa p0 p1 p2 li wi mt ms ma mp mk mn ou) H := hP
        have hD : va_D A (WW ad cJ cI cZ bm pa p0 p1 p2 li wi mt ms ma mp mk mn ou) := hD
        refine lv_lsub hx hb dX5_goOn_73 ?_
        refine lv_topl (fun t_27 _ => ?_)
        refine bm_xcallV (As := [.int (nI zp), .long 0, .long t_27]) (rest := []) ⟨hx, hb, hml, hown, hts⟩ (y_go  (zp := zp) (z1 := 0) (z2 := t_27) ok_ms_parts ok_ma_groups (by omega)) (cwV 3 hts (gdV (by decide +kernel) (by decide +kernel) (by decide +kernel) (by decide +kernel) (by decide +kernel)) rfl rfl rfl (by decide +kernel) ⟨Nat.le_of_ble_eq_true rfl, Nat.le_of_ble_eq_true rfl⟩) hK hP hD hS hA 42 5 rfl rfl rfl hl.1 rfl (Nat.le_of_ble_eq_true rfl) dX5_goOn_74 ⟨Nat.le_of_ble_eq_true rfl, Nat.le_of_ble_eq_true rfl⟩ (fun ws_28 r_29 h_30 H locs hP hD hS => ?_)
        obtain ⟨g_31, g_32, g_33, rfl, rfl⟩ := h_30
        have hP : va_P D vwCl (WW ad cJ cI cZ bm pa p0 p1 p2 li wi mt ms ma (g_31, g_32, mp.2.2) mk (mn.1, mn.2.1, mn.2.2.1, mn.2.2.2.1, g_33) ou) H := hP
        have hD : va_D A (WW ad cJ cI cZ bm pa p0 p1 p2 li wi mt ms ma (g_31, g_32, mp.2.2) mk (mn.1, mn.2.1, mn.2.2.1, mn.2.2.2.1, g_33) ou) := hD
        refine lv_goto (tgt := 99) hx hb dX5_goOn_77 (by decide) ?_
        exact bm_vretX hx hb hr hP hD hK hS ⟨g_31, g_32, g_33, rfl, rfl⟩ dX5_goOn_99 hlocks
    · refine lv_aload_n hx hb dX5_goOn_31 rfl (lv_at hl 0 rfl) ?_
      refine lv_iload_n hx hb dX5_goOn_32 rfl (lv_at hl 1 rfl) ?_
      refine lv_aload_n hx hb dX5_goOn_33 rfl (lv_at hl 0 rfl) ?_
      refine lv_iconst (v := nI 1) hx hb dX5_goOn_34 (by decide) ?_
      refine lv_iload_n hx hb dX5_goOn_35 rfl (lv_at hl 2 rfl) ?_
      refine bm_xcallV (As := [.int (nI 1), .int (nI zq)]) (rest := [.int (nI zp), .ref (ad 42)]) ⟨hx, hb, hml, hown, hts⟩ (y_left  (zr := 1) (zp := zq)  (by omega) (by omega)) (cwV 2 hts (gdV (by decide +kernel) (by decide +kernel) (by decide +kernel) (by decide +kernel) (by decide +kernel)) rfl rfl rfl (by decide +kernel) ⟨Nat.le_of_ble_eq_true rfl, Nat.le_of_ble_eq_true rfl⟩) hK hP hD hS hA 42 5 rfl rfl rfl hl.1 rfl (Nat.le_of_ble_eq_true rfl) dX5_goOn_36 ⟨Nat.le_of_ble_eq_true rfl, Nat.le_of_ble_eq_true rfl⟩ (fun ws_34 r_35 h_36 H locs hP hD hS => ?_)
      obtain ⟨rfl, v_37, rfl⟩ := h_36
      have hP : va_P D vwCl (WW ad cJ cI cZ bm pa p0 p1 p2 li wi mt ms ma mp mk mn ou) H := hP
      have hD : va_D A (WW ad cJ cI cZ bm pa p0 p1 p2 li wi mt ms ma mp mk mn ou) := hD
      refine lv_aload_n hx hb dX5_goOn_39 rfl (lv_at hl 0 rfl) ?_
      refine lv_iconst (v := nI 1) hx hb dX5_goOn_40 (by decide) ?_
      refine lv_iload_n hx hb dX5_goOn_41 rfl (lv_at hl 1 rfl) ?_
      refine bm_xcallV (As := [.int (nI 1), .int (nI zp)]) (rest := [.long v_37, .int (nI zp), .ref (ad 42)]) ⟨hx, hb, hml, hown, hts⟩ (y_right  (zr := 1) (zp := zp) ok_mp_turns (by omega) (by omega)) (cwV 2 hts (gdV (by decide +kernel) (by decide +kernel) (by decide +kernel) (by decide +kernel) (by decide +kernel)) rfl rfl rfl (by decide +kernel) ⟨Nat.le_of_ble_eq_true rfl, Nat.le_of_ble_eq_true rfl⟩) hK hP hD hS hA 42 5 rfl rfl rfl hl.1 rfl (Nat.le_of_ble_eq_true rfl) dX5_goOn_42 ⟨Nat.le_of_ble_eq_true rfl, Nat.le_of_ble_eq_true rfl⟩ (fun ws_38 r_39 h_40 H locs hP hD hS => ?_)
      obtain ⟨rfl, v_41, rfl⟩ := h_40
      have hP : va_P D vwCl (WW ad cJ cI cZ bm pa p0 p1 p2 li wi mt ms ma mp mk mn ou) H := hP
      have hD : va_D A (WW ad cJ cI cZ bm pa p0 p1 p2 li wi mt ms ma mp mk mn ou) := hD
      refine lv_lsub hx hb dX5_goOn_45 ?_
      refine lv_topl (fun t_42 _ => ?_)
      refine lv_lconst (v := 0) hx hb dX5_goOn_46 (by decide) ?_
      refine bm_xcallV (As := [.int (nI zp), .long t_42, .long 0]) (rest := []) ⟨hx, hb, hml, hown, hts⟩ (y_go  (zp := zp) (z1 := t_42) (z2 := 0) ok_ms_parts ok_ma_groups (by omega)) (cwV 3 hts (gdV (by decide +kernel) (by decide +kernel) (by decide +kernel) (by decide +kernel) (by decide +kernel)) rfl rfl rfl (by decide +kernel) ⟨Nat.le_of_ble_eq_true rfl, Nat.le_of_ble_eq_true rfl⟩) hK hP hD hS hA 42 5 rfl rfl rfl hl.1 rfl (Nat.le_of_ble_eq_true rfl) dX5_goOn_47 ⟨Nat.le_of_ble_eq_true rfl, Nat.le_of_ble_eq_true rfl⟩ (fun ws_43 r_44 h_45 H locs hP hD hS => ?_)
      obtain ⟨g_46, g_47, g_48, rfl, rfl⟩ := h_45
      have hP : va_P D vwCl (WW ad cJ cI cZ bm pa p0 p1 p2 li wi mt ms ma (g_46, g_47, mp.2.2) mk (mn.1, mn.2.1, mn.2.2.1, mn.2.2.2.1, g_48) ou) H := hP
      have hD : va_D A (WW ad cJ cI cZ bm pa p0 p1 p2 li wi mt ms ma (g_46, g_47, mp.2.2) mk (mn.1, mn.2.1, mn.2.2.1, mn.2.2.2.1, g_48) ou) := hD
      refine lv_goto (tgt := 99) hx hb dX5_goOn_50 (by decide) ?_
      exact bm_vretX hx hb hr hP hD hK hS ⟨g_46, g_47, g_48, rfl, rfl⟩ dX5_goOn_99 hlocks
  · refine lv_aload_n hx hb dX5_goOn_4 rfl (lv_at hl 0 rfl) ?_
    refine lv_iload_n hx hb dX5_goOn_5 rfl (lv_at hl 1 rfl) ?_
    refine lv_aload_n hx hb dX5_goOn_6 rfl (lv_at hl 0 rfl) ?_
    refine lv_iconst (v := nI 1) hx hb dX5_goOn_7 (by decide) ?_
    refine lv_iload_n hx hb dX5_goOn_8 rfl (lv_at hl 2 rfl) ?_
    refine bm_xcallV (As := [.int (nI 1), .int (nI zq)]) (rest := [.int (nI zp), .ref (ad 42)]) ⟨hx, hb, hml, hown, hts⟩ (y_right  (zr := 1) (zp := zq) ok_mp_turns (by omega) (by omega)) (cwV 2 hts (gdV (by decide +kernel) (by decide +kernel) (by decide +kernel) (by decide +kernel) (by decide +kernel)) rfl rfl rfl (by decide +kernel) ⟨Nat.le_of_ble_eq_true rfl, Nat.le_of_ble_eq_true rfl⟩) hK hP hD hS hA 42 5 rfl rfl rfl hl.1 rfl (Nat.le_of_ble_eq_true rfl) dX5_goOn_9 ⟨Nat.le_of_ble_eq_true rfl, Nat.le_of_ble_eq_true rfl⟩ (fun ws_49 r_50 h_51 H locs hP hD hS => ?_)
    obtain ⟨rfl, v_52, rfl⟩ := h_51
    have hP : va_P D vwCl (WW ad cJ cI cZ bm pa p0 p1 p2 li wi mt ms ma mp mk mn ou) H := hP
    have hD : va_D A (WW ad cJ cI cZ bm pa p0 p1 p2 li wi mt ms ma mp mk mn ou) := hD
    refine lv_aload_n hx hb dX5_goOn_12 rfl (lv_at hl 0 rfl) ?_
    refine lv_iconst (v := nI 1) hx hb dX5_goOn_13 (by decide) ?_
    refine lv_iload_n hx hb dX5_goOn_14 rfl (lv_at hl 1 rfl) ?_
    refine bm_xcallV (As := [.int (nI 1), .int (nI zp)]) (rest := [.long v_52, .int (nI zp), .ref (ad 42)]) ⟨hx, hb, hml, hown, hts⟩ (y_left  (zr := 1) (zp := zp)  (by omega) (by omega)) (cwV 2 hts (gdV (by decide +kernel) (by decide +kernel) (by decide +kernel) (by decide +kernel) (by decide +kernel)) rfl rfl rfl (by decide +kernel) ⟨Nat.le_of_ble_eq_true rfl, Nat.le_of_ble_eq_true rfl⟩) hK hP hD hS hA 42 5 rfl rfl rfl hl.1 rfl (Nat.le_of_ble_eq_true rfl) dX5_goOn_15 ⟨Nat.le_of_ble_eq_true rfl, Nat.le_of_ble_eq_true rfl⟩ (fun ws_53 r_54 h_55 H locs hP hD hS => ?_)
    obtain ⟨rfl, v_56, rfl⟩ := h_55
    have hP : va_P D vwCl (WW ad cJ cI cZ bm pa p0 p1 p2 li wi mt ms ma mp mk mn ou) H := hP
    have hD : va_D A (WW ad cJ cI cZ bm pa p0 p1 p2 li wi mt ms ma mp mk mn ou) := hD
    refine lv_lsub hx hb dX5_goOn_18 ?_
    refine lv_topl (fun t_57 _ => ?_)
    refine lv_lconst (v := 0) hx hb dX5_goOn_19 (by decide) ?_
    refine bm_xcallV (As := [.int (nI zp), .long t_57, .long 0]) (rest := []) ⟨hx, hb, hml, hown, hts⟩ (y_go  (zp := zp) (z1 := t_57) (z2 := 0) ok_ms_parts ok_ma_groups (by omega)) (cwV 3 hts (gdV (by decide +kernel) (by decide +kernel) (by decide +kernel) (by decide +kernel) (by decide +kernel)) rfl rfl rfl (by decide +kernel) ⟨Nat.le_of_ble_eq_true rfl, Nat.le_of_ble_eq_true rfl⟩) hK hP hD hS hA 42 5 rfl rfl rfl hl.1 rfl (Nat.le_of_ble_eq_true rfl) dX5_goOn_20 ⟨Nat.le_of_ble_eq_true rfl, Nat.le_of_ble_eq_true rfl⟩ (fun ws_58 r_59 h_60 H locs hP hD hS => ?_)
    obtain ⟨g_61, g_62, g_63, rfl, rfl⟩ := h_60
    have hP : va_P D vwCl (WW ad cJ cI cZ bm pa p0 p1 p2 li wi mt ms ma (g_61, g_62, mp.2.2) mk (mn.1, mn.2.1, mn.2.2.1, mn.2.2.2.1, g_63) ou) H := hP
    have hD : va_D A (WW ad cJ cI cZ bm pa p0 p1 p2 li wi mt ms ma (g_61, g_62, mp.2.2) mk (mn.1, mn.2.1, mn.2.2.1, mn.2.2.2.1, g_63) ou) := hD
    refine lv_goto (tgt := 99) hx hb dX5_goOn_23 (by decide) ?_
    exact bm_vretX hx hb hr hP hD hK hS ⟨g_61, g_62, g_63, rfl, rfl⟩ dX5_goOn_99 hlocks
end
section
set_option maxHeartbeats 8000000 in
set_option maxRecDepth 100000 in
theorem y_shove {l : Launch} {D : va_G} {ad : Nat → Nat} {cJ cI cZ : ClassId} {bm : gBM} {pa : gPA} {p0 p1 p2 : gPL} {li : gLI} {wi : gWI} {mt : Nat} {ms : gMS} {ma : gMA} {mp : gMP} {mk : gMK} {mn : gMN} {ou : Nat → Int64} {zp : Nat} {zw : Nat} (ok_ms_parts : ms.2.2.1 ≤ 40) (ok_ma_groups : ∀ i, ma.2.2.2.2.2.1 i < 40) (ok_mp_turns : ∀ i, mp.2.2 i < 40) (ok_ma_sides : ∀ i, ma.2.2.1 i < 40) (hp0 : zp < 40) (hp1 : zw < 4)  : bm_Wx l yX5_shove wsX5_shove ({ frames := 4, cells := 0, slots := 0, locals := 90 }) D vwCl [(cJ, .long), (cI, .int), (cZ, .boolean)] (WW ad cJ cI cZ bm pa p0 p1 p2 li wi mt ms ma mp mk mn ou) [.ref (ad 42), .int (nI zp), .int (nI zw)] (fun ws9 r9 => ∃ (e0 : Nat → Int64) (e1 : Nat → Int64) (e2 : Nat → Bool) , ws9 = (WW ad cJ cI cZ bm pa p0 p1 p2 li wi mt ms ma (e0, e1, mp.2.2) mk (mn.1, mn.2.1, mn.2.2.1, mn.2.2.2.1, e2) ou) ∧ ∃ b9 : Bool, r9 = some (.int (bm_b b9))) := by
  intro sz
  refine Met.ofW (cc := cX5_shove) (maxL := 8) (ret := (some .boolean)) (by decide) rfl ?_
  intro p e s m args below meth c s₁ B hml hv
  obtain ⟨ha, hsz, hP, hK, hD0⟩ := hv
  have hx := B.exec
  have hb := B.bytes
  have hr := B.returns
  have hts := atoms_spec (ws := wsX5_shove) B.pre
  have hown : s.vm.findClass RX5 = some m.cls := findClass_of_methodNamed B.named
  have hlocks := B.notSynchronized
  subst hsz
  have hD := hD0.self (sz := s.heap.size)
  generalize hAe : va_A (WW ad cJ cI cZ bm pa p0 p1 p2 li wi mt ms ma mp mk mn ou) s.heap.size = A at hD ⊢
  have hA : ∀ q : Nat, s.heap.size ≤ q → A q := fun q h => by rw [← hAe]; exact Or.inr h
  have hS : va_S A s.heap s.heap [] := va_S.rf
  have hl := lv_entry ([.ref (ad 42), .int (nI zp), .int (nI zw)]) (n := 8) (Nat.le_of_ble_eq_true rfl)
  refine W.eq (g2 := entryFrame m ([.ref (ad 42), .int (nI zp), .int (nI zw)] : List Value).toArray 8) (by rw [ha]) ?_
  rw [lg_entry_eq]
  generalize (lg_sl ([.ref (ad 42), .int (nI zp), .int (nI zw)]) ++ List.replicate (8 - (lg_sl ([.ref (ad 42), .int (nI zp), .int (nI zw)])).length) Slot.unset).toArray = ls at hl ⊢
  have hl : lv_has ls 8 [(0, .ref (ad 42)), (1, .int (nI zp)), (2, .int (nI zw))] := hl
  refine lv_aload_n hx hb dX5_shove_0 rfl (lv_at hl 0 rfl) ?_
  refine bm_xcallV (As := []) (rest := []) ⟨hx, hb, hml, hown, hts⟩ (y_first   ok_ms_parts ok_mp_turns ok_ma_sides ) (cwV 0 hts (gdV (by decide +kernel) (by decide +kernel) (by decide +kernel) (by decide +kernel) (by decide +kernel)) rfl rfl rfl (by decide +kernel) ⟨Nat.le_of_ble_eq_true rfl, Nat.le_of_ble_eq_true rfl⟩) hK hP hD hS hA 42 5 rfl rfl rfl hl.1 rfl (Nat.le_of_ble_eq_true rfl) dX5_shove_1 ⟨Nat.le_of_ble_eq_true rfl, Nat.le_of_ble_eq_true rfl⟩ (fun ws_1 r_2 h_3 H locs hP hD hS => ?_)
  obtain ⟨rfl, ho_6⟩ := h_3
  have hP : va_P D vwCl (WW ad cJ cI cZ bm pa p0 p1 p2 li wi mt ms ma mp mk mn ou) H := hP
  have hD : va_D A (WW ad cJ cI cZ bm pa p0 p1 p2 li wi mt ms ma mp mk mn ou) := hD
  rcases ho_6 with rfl | ⟨k_4, hk_5, rfl⟩
  · refine lv_istore_n (lv' := [(3, .int (-1)), (0, .ref (ad 42)), (1, .int (nI zp)), (2, .int (nI zw))]) hx hb dX5_shove_4 rfl hl (by decide) rfl (fun ls hl => ?_)
    refine lv_iconst (v := nI 0) hx hb dX5_shove_5 (by decide) ?_
    refine lv_istore (lv' := [(4, .int (nI 0)), (3, .int (-1)), (0, .ref (ad 42)), (1, .int (nI zp)), (2, .int (nI zw))]) hx hb dX5_shove_6 hl (by decide) rfl (fun ls hl => ?_)
    refine lv_iload_n hx hb dX5_shove_8 rfl (lv_at hl 1 rfl) ?_
    refine lv_iconst (v := -1) hx hb dX5_shove_9 (by decide) ?_
    refine lv_icmp_eq (x := (-1)) (y := -1) (tgt := 146) hx hb dX5_shove_10 (by decide) (fun c_7 => ?_) (fun c_7 => ?_)
    · refine lv_iconst (v := bm_b true) hx hb dX5_shove_146 (by decide) ?_
      exact bm_zretX (v := true) hx hb hr hP hD hK hS ⟨mp.1, mp.2.1, mn.2.2.2.2, rfl, true, rfl⟩ dX5_shove_147 hlocks
    · exact absurd rfl c_7
  · refine lv_istore_n (lv' := [(3, .int (nI k_4)), (0, .ref (ad 42)), (1, .int (nI zp)), (2, .int (nI zw))]) hx hb dX5_shove_4 rfl hl (by decide) rfl (fun ls hl => ?_)
    refine lv_iconst (v := nI 0) hx hb dX5_shove_5 (by decide) ?_
    refine lv_istore (lv' := [(4, .int (nI 0)), (3, .int (nI k_4)), (0, .ref (ad 42)), (1, .int (nI zp)), (2, .int (nI zw))]) hx hb dX5_shove_6 hl (by decide) rfl (fun ls hl => ?_)
    have lp_8 : ∀ (k_10 : Nat) (i_9 f_12 : Nat) (g_13 : Nat → Int64) (g_14 : Nat → Int64) (g_15 : Nat → Bool), i_9 ≤ 200 → 200 < i_9 + k_10 → f_12 < 1600 → ∀ (H : Heap) (locs : List Loc), va_P D vwCl (WW ad cJ cI cZ bm pa p0 p1 p2 li wi mt ms ma (g_13, g_14, mp.2.2) mk (mn.1, mn.2.1, mn.2.2.1, mn.2.2.2.1, g_15) ou) H → va_D A (WW ad cJ cI cZ bm pa p0 p1 p2 li wi mt ms ma (g_13, g_14, mp.2.2) mk (mn.1, mn.2.1, mn.2.2.1, mn.2.2.2.1, g_15) ou) → va_S A s.heap H locs → ∀ (ls : Array Slot), lv_has ls 8 [(4, .int (nI i_9)), (3, .int (nI f_12)), (0, .ref (ad 42)), (1, .int (nI zp)), (2, .int (nI zw))] → W p l e (headSpec wsX5_shove ({ frames := 4, cells := 0, slots := 0, locals := 90 })).room s m args below meth c H locs 0 0 (MQ below (bm_Wxq D vwCl [(cJ, .long), (cI, .int), (cZ, .boolean)] (fun ws9 r9 => ∃ (e0 : Nat → Int64) (e1 : Nat → Int64) (e2 : Nat → Bool) , ws9 = (WW ad cJ cI cZ bm pa p0 p1 p2 li wi mt ms ma (e0, e1, mp.2.2) mk (mn.1, mn.2.1, mn.2.2.1, mn.2.2.2.1, e2) ou) ∧ ∃ b9 : Bool, r9 = some (.int (bm_b b9))) A) args s 0 0 A) (F0 m 8 ls []) := by
      intro k_10
      induction k_10 with
      | zero => intro i_9 f_12 g_13 g_14 g_15 hi_16 hk_17; exfalso; omega
      | succ k_10 ih_11 =>
        intro i_9 f_12 g_13 g_14 g_15 hi_16 hk_17 hf_18 H locs hP hD hS ls hl
        refine lv_iload_n hx hb dX5_shove_8 rfl (lv_at hl 1 rfl) ?_
        refine lv_iconst (v := -1) hx hb dX5_shove_9 (by decide) ?_
        refine lv_icmp_eq (x := (nI f_12)) (y := -1) (tgt := 146) hx hb dX5_shove_10 (by decide) (fun c_19 => ?_) (fun c_19 => ?_)
        · exact absurd c_19 (bm_nm1 (by omega))
        · refine lv_iload_n hx hb dX5_shove_13 rfl (lv_at hl 1 rfl) ?_
          refine lv_bipush (v := nI 40) hx hb dX5_shove_14 (by decide) ?_
          refine bm_ndiv hx hb (by omega) (by decide) (by decide) dX5_shove_16 ?_
          refine lv_istore (lv' := [(5, .int (nI (f_12 / 40))), (4, .int (nI i_9)), (3, .int (nI f_12)), (0, .ref (ad 42)), (1, .int (nI zp)), (2, .int (nI zw))]) hx hb dX5_shove_17 hl (by decide) rfl (fun ls hl => ?_)
          refine lv_iload_n hx hb dX5_shove_19 rfl (lv_at hl 2 rfl) ?_
          refine lv_bipush (v := nI 40) hx hb dX5_shove_20 (by decide) ?_
          refine bm_nrem hx hb (by omega) (by decide) (by decide) dX5_shove_22 ?_
          refine lv_istore (lv' := [(6, .int (nI (f_12 % 40))), (5, .int (nI (f_12 / 40))), (4, .int (nI i_9)), (3, .int (nI f_12)), (0, .ref (ad 42)), (1, .int (nI zp)), (2, .int (nI zw))]) hx hb dX5_shove_23 hl (by decide) rfl (fun ls hl => ?_)
          refine lv_iload hx hb dX5_shove_25 (lv_at hl 2 rfl) ?_
          refine lv_sipush (v := nI 200) hx hb dX5_shove_27 (by decide) ?_
          refine bm_ni_eq (x := i_9) (y := 200) (tgt := 50) hx hb (by omega) (by omega) dX5_shove_30 (by decide) (fun c_20 => ?_) (fun c_20 => ?_)
          · refine lv_iconst (v := bm_b false) hx hb dX5_shove_50 (by decide) ?_
            exact bm_zretX (v := false) hx hb hr hP hD hK hS ⟨g_13, g_14, g_15, rfl, false, rfl⟩ dX5_shove_51 hlocks
          · refine lv_aload_n hx hb dX5_shove_33 rfl (lv_at hl 4 rfl) ?_
            refine va_get (D := D) (ci := 5) (v := .ref (ad 48)) (C := RX5) (T := TX5) (N := 28) hx hb hts (inT inX5) hown hK hP 42 rfl rfl 9 (by decide) (hts (.fieldLink RX5 27 "BoardMovesModel" "groups" "[I") (by decide +kernel)) (fun _ h9 => h9) rfl dX5_shove_34 ?_
            refine lv_iload hx hb dX5_shove_37 (lv_at hl 1 rfl) ?_
            refine bm_nald (f := ma.2.2.2.2.2.1) hx hb hK hP 48 1 rfl rfl (j := (f_12 / 40)) (by omega) (by decide) dX5_shove_39 ?_
            refine lv_aload_n hx hb dX5_shove_40 rfl (lv_at hl 4 rfl) ?_
            refine va_get (D := D) (ci := 5) (v := .ref (ad 48)) (C := RX5) (T := TX5) (N := 28) hx hb hts (inT inX5) hown hK hP 42 rfl rfl 9 (by decide) (hts (.fieldLink RX5 27 "BoardMovesModel" "groups" "[I") (by decide +kernel)) (fun _ h9 => h9) rfl dX5_shove_41 ?_
            refine lv_iload hx hb dX5_shove_44 (lv_at hl 0 rfl) ?_
            refine bm_nald (f := ma.2.2.2.2.2.1) hx hb hK hP 48 1 rfl rfl (j := (f_12 % 40)) (by omega) (by decide) dX5_shove_46 ?_
            refine bm_ni_ne (x := (ma.2.2.2.2.2.1 (f_12 / 40))) (y := (ma.2.2.2.2.2.1 (f_12 % 40))) (tgt := 52) hx hb (bm40 (ok_ma_groups _)) (bm40 (ok_ma_groups _)) dX5_shove_47 (by decide) (fun c_21 => ?_) (fun c_21 => ?_)
            · refine lv_aload_n hx hb dX5_shove_52 rfl (lv_at hl 4 rfl) ?_
              refine va_get (D := D) (ci := 5) (v := .ref (ad 48)) (C := RX5) (T := TX5) (N := 28) hx hb hts (inT inX5) hown hK hP 42 rfl rfl 9 (by decide) (hts (.fieldLink RX5 27 "BoardMovesModel" "groups" "[I") (by decide +kernel)) (fun _ h9 => h9) rfl dX5_shove_53 ?_
              refine lv_iload hx hb dX5_shove_56 (lv_at hl 1 rfl) ?_
              refine bm_nald (f := ma.2.2.2.2.2.1) hx hb hK hP 48 1 rfl rfl (j := (f_12 / 40)) (by omega) (by decide) dX5_shove_58 ?_
              refine lv_aload_n hx hb dX5_shove_59 rfl (lv_at hl 4 rfl) ?_
              refine va_get (D := D) (ci := 5) (v := .ref (ad 48)) (C := RX5) (T := TX5) (N := 28) hx hb hts (inT inX5) hown hK hP 42 rfl rfl 9 (by decide) (hts (.fieldLink RX5 27 "BoardMovesModel" "groups" "[I") (by decide +kernel)) (fun _ h9 => h9) rfl dX5_shove_60 ?_
              refine lv_iload_n hx hb dX5_shove_63 rfl (lv_at hl 5 rfl) ?_
              refine bm_nald (f := ma.2.2.2.2.2.1) hx hb hK hP 48 1 rfl rfl (j := zp) (by omega) (by decide) dX5_shove_64 ?_
              refine bm_ni_eq (x := (ma.2.2.2.2.2.1 (f_12 / 40))) (y := (ma.2.2.2.2.2.1 zp)) (tgt := 102) hx hb (bm40 (ok_ma_groups _)) (bm40 (ok_ma_groups _)) dX5_shove_65 (by decide) (fun c_22 => ?_) (fun c_22 => ?_)
              · refine lv_iconst (v := bm_b true) hx hb dX5_shove_102 (by decide) ?_
                refine lv_goto (tgt := 107) hx hb dX5_shove_103 (by decide) ?_
                refine lv_istore (lv' := [(7, .int (bm_b true)), (6, .int (nI (f_12 % 40))), (5, .int (nI (f_12 / 40))), (4, .int (nI i_9)), (3, .int (nI f_12)), (0, .ref (ad 42)), (1, .int (nI zp)), (2, .int (nI zw))]) hx hb dX5_shove_107 hl (by decide) rfl (fun ls hl => ?_)
                refine lv_iload hx hb dX5_shove_109 (lv_at hl 0 rfl) ?_
                refine bm_zb_eq (x := true) (tgt := 126) hx hb dX5_shove_111 (by decide) (fun c_23 => ?_) (fun c_23 => ?_)
                · exact absurd c_23 (by decide)
                · refine lv_aload_n hx hb dX5_shove_114 rfl (lv_at hl 5 rfl) ?_
                  refine lv_iload hx hb dX5_shove_115 (lv_at hl 1 rfl) ?_
                  refine lv_iload hx hb dX5_shove_117 (lv_at hl 2 rfl) ?_
                  refine lv_iload_n hx hb dX5_shove_119 rfl (lv_at hl 7 rfl) ?_
                  refine bm_xcallV (As := [.int (nI (f_12 % 40)), .int (nI (f_12 / 40)), .int (nI zw)]) (rest := []) ⟨hx, hb, hml, hown, hts⟩ (y_goOn (mp := (g_13, g_14, mp.2.2)) (mn := (mn.1, mn.2.1, mn.2.2.1, mn.2.2.2.1, g_15)) (zp := f_12 % 40) (zq := f_12 / 40) (zw := zw) ok_ms_parts ok_ma_groups ok_mp_turns (by omega) (by omega) (by omega)) (cwV 3 hts (gdV (by decide +kernel) (by decide +kernel) (by decide +kernel) (by decide +kernel) (by decide +kernel)) rfl rfl rfl (by decide +kernel) ⟨Nat.le_of_ble_eq_true rfl, Nat.le_of_ble_eq_true rfl⟩) hK hP hD hS hA 42 5 rfl rfl rfl hl.1 rfl (Nat.le_of_ble_eq_true rfl) dX5_shove_120 ⟨Nat.le_of_ble_eq_true rfl, Nat.le_of_ble_eq_true rfl⟩ (fun ws_24 r_25 h_26 H locs hP hD hS => ?_)
                  obtain ⟨g_27, g_28, g_29, rfl, rfl⟩ := h_26
                  have hP : va_P D vwCl (WW ad cJ cI cZ bm pa p0 p1 p2 li wi mt ms ma (g_27, g_28, mp.2.2) mk (mn.1, mn.2.1, mn.2.2.1, mn.2.2.2.1, g_29) ou) H := hP
                  have hD : va_D A (WW ad cJ cI cZ bm pa p0 p1 p2 li wi mt ms ma (g_27, g_28, mp.2.2) mk (mn.1, mn.2.1, mn.2.2.1, mn.2.2.2.1, g_29) ou) := hD
                  refine lv_goto (tgt := 135) hx hb dX5_shove_123 (by decide) ?_
                  refine lv_aload_n hx hb dX5_shove_135 rfl (lv_at hl 5 rfl) ?_
                  refine bm_xcallV (As := []) (rest := []) ⟨hx, hb, hml, hown, hts⟩ (y_first (mp := (g_27, g_28, mp.2.2)) (mn := (mn.1, mn.2.1, mn.2.2.1, mn.2.2.2.1, g_29))  ok_ms_parts ok_mp_turns ok_ma_sides ) (cwV 0 hts (gdV (by decide +kernel) (by decide +kernel) (by decide +kernel) (by decide +kernel) (by decide +kernel)) rfl rfl rfl (by decide +kernel) ⟨Nat.le_of_ble_eq_true rfl, Nat.le_of_ble_eq_true rfl⟩) hK hP hD hS hA 42 5 rfl rfl rfl hl.1 rfl (Nat.le_of_ble_eq_true rfl) dX5_shove_136 ⟨Nat.le_of_ble_eq_true rfl, Nat.le_of_ble_eq_true rfl⟩ (fun ws_30 r_31 h_32 H locs hP hD hS => ?_)
                  obtain ⟨rfl, ho_35⟩ := h_32
                  have hP : va_P D vwCl (WW ad cJ cI cZ bm pa p0 p1 p2 li wi mt ms ma (g_27, g_28, mp.2.2) mk (mn.1, mn.2.1, mn.2.2.1, mn.2.2.2.1, g_29) ou) H := hP
                  have hD : va_D A (WW ad cJ cI cZ bm pa p0 p1 p2 li wi mt ms ma (g_27, g_28, mp.2.2) mk (mn.1, mn.2.1, mn.2.2.1, mn.2.2.2.1, g_29) ou) := hD
                  rcases ho_35 with rfl | ⟨k_33, hk_34, rfl⟩
                  · refine lv_istore_n (lv' := [(3, .int (-1)), (7, .int (bm_b true)), (6, .int (nI (f_12 % 40))), (5, .int (nI (f_12 / 40))), (4, .int (nI i_9)), (0, .ref (ad 42)), (1, .int (nI zp)), (2, .int (nI zw))]) hx hb dX5_shove_139 rfl hl (by decide) rfl (fun ls hl => ?_)
                    refine lv_iinc (v := (nI (i_9 + 1))) (lv' := [(4, .int (nI (i_9 + 1))), (3, .int (-1)), (7, .int (bm_b true)), (6, .int (nI (f_12 % 40))), (5, .int (nI (f_12 / 40))), (0, .ref (ad 42)), (1, .int (nI zp)), (2, .int (nI zw))]) hx hb dX5_shove_140 hl (k := 4) rfl (nI_1 i_9) (by decide) rfl (fun ls hl => ?_)
                    refine lv_goto (tgt := 8) hx hb dX5_shove_143 (by decide) ?_
                    refine lv_iload_n hx hb dX5_shove_8 rfl (lv_at hl 1 rfl) ?_
                    refine lv_iconst (v := -1) hx hb dX5_shove_9 (by decide) ?_
                    refine lv_icmp_eq (x := (-1)) (y := -1) (tgt := 146) hx hb dX5_shove_10 (by decide) (fun c_36 => ?_) (fun c_36 => ?_)
                    · refine lv_iconst (v := bm_b true) hx hb dX5_shove_146 (by decide) ?_
                      exact bm_zretX (v := true) hx hb hr hP hD hK hS ⟨g_27, g_28, g_29, rfl, true, rfl⟩ dX5_shove_147 hlocks
                    · exact absurd rfl c_36
                  · refine lv_istore_n (lv' := [(3, .int (nI k_33)), (7, .int (bm_b true)), (6, .int (nI (f_12 % 40))), (5, .int (nI (f_12 / 40))), (4, .int (nI i_9)), (0, .ref (ad 42)), (1, .int (nI zp)), (2, .int (nI zw))]) hx hb dX5_shove_139 rfl hl (by decide) rfl (fun ls hl => ?_)
                    refine lv_iinc (v := (nI (i_9 + 1))) (lv' := [(4, .int (nI (i_9 + 1))), (3, .int (nI k_33)), (7, .int (bm_b true)), (6, .int (nI (f_12 % 40))), (5, .int (nI (f_12 / 40))), (0, .ref (ad 42)), (1, .int (nI zp)), (2, .int (nI zw))]) hx hb dX5_shove_140 hl (k := 4) rfl (nI_1 i_9) (by decide) rfl (fun ls hl => ?_)
                    refine lv_goto (tgt := 8) hx hb dX5_shove_143 (by decide) ?_
                    exact ih_11 (i_9 + 1) k_33 g_27 g_28 g_29 (by omega) (by omega) (by omega) _ _ hP hD hS _ (lv_sub hl [0, 1, 5, 6, 7] rfl)
              · refine lv_aload_n hx hb dX5_shove_68 rfl (lv_at hl 4 rfl) ?_
                refine va_get (D := D) (ci := 5) (v := .ref (ad 48)) (C := RX5) (T := TX5) (N := 28) hx hb hts (inT inX5) hown hK hP 42 rfl rfl 9 (by decide) (hts (.fieldLink RX5 27 "BoardMovesModel" "groups" "[I") (by decide +kernel)) (fun _ h9 => h9) rfl dX5_shove_69 ?_
                refine lv_iload hx hb dX5_shove_72 (lv_at hl 0 rfl) ?_
                refine bm_nald (f := ma.2.2.2.2.2.1) hx hb hK hP 48 1 rfl rfl (j := (f_12 % 40)) (by omega) (by decide) dX5_shove_74 ?_
                refine lv_aload_n hx hb dX5_shove_75 rfl (lv_at hl 4 rfl) ?_
                refine va_get (D := D) (ci := 5) (v := .ref (ad 48)) (C := RX5) (T := TX5) (N := 28) hx hb hts (inT inX5) hown hK hP 42 rfl rfl 9 (by decide) (hts (.fieldLink RX5 27 "BoardMovesModel" "groups" "[I") (by decide +kernel)) (fun _ h9 => h9) rfl dX5_shove_76 ?_
                refine lv_iload_n hx hb dX5_shove_79 rfl (lv_at hl 5 rfl) ?_
                refine bm_nald (f := ma.2.2.2.2.2.1) hx hb hK hP 48 1 rfl rfl (j := zp) (by omega) (by decide) dX5_shove_80 ?_
                refine bm_ni_eq (x := (ma.2.2.2.2.2.1 (f_12 % 40))) (y := (ma.2.2.2.2.2.1 zp)) (tgt := 106) hx hb (bm40 (ok_ma_groups _)) (bm40 (ok_ma_groups _)) dX5_shove_81 (by decide) (fun c_37 => ?_) (fun c_37 => ?_)
                · refine lv_iconst (v := bm_b false) hx hb dX5_shove_106 (by decide) ?_
                  refine lv_istore (lv' := [(7, .int (bm_b false)), (6, .int (nI (f_12 % 40))), (5, .int (nI (f_12 / 40))), (4, .int (nI i_9)), (3, .int (nI f_12)), (0, .ref (ad 42)), (1, .int (nI zp)), (2, .int (nI zw))]) hx hb dX5_shove_107 hl (by decide) rfl (fun ls hl => ?_)
                  refine lv_iload hx hb dX5_shove_109 (lv_at hl 0 rfl) ?_
                  refine bm_zb_eq (x := false) (tgt := 126) hx hb dX5_shove_111 (by decide) (fun c_38 => ?_) (fun c_38 => ?_)
                  · refine lv_aload_n hx hb dX5_shove_126 rfl (lv_at hl 5 rfl) ?_
                    refine lv_iload hx hb dX5_shove_127 (lv_at hl 2 rfl) ?_
                    refine lv_iload hx hb dX5_shove_129 (lv_at hl 1 rfl) ?_
                    refine lv_iload_n hx hb dX5_shove_131 rfl (lv_at hl 7 rfl) ?_
                    refine bm_xcallV (As := [.int (nI (f_12 / 40)), .int (nI (f_12 % 40)), .int (nI zw)]) (rest := []) ⟨hx, hb, hml, hown, hts⟩ (y_goOn (mp := (g_13, g_14, mp.2.2)) (mn := (mn.1, mn.2.1, mn.2.2.1, mn.2.2.2.1, g_15)) (zp := f_12 / 40) (zq := f_12 % 40) (zw := zw) ok_ms_parts ok_ma_groups ok_mp_turns (by omega) (by omega) (by omega)) (cwV 3 hts (gdV (by decide +kernel) (by decide +kernel) (by decide +kernel) (by decide +kernel) (by decide +kernel)) rfl rfl rfl (by decide +kernel) ⟨Nat.le_of_ble_eq_true rfl, Nat.le_of_ble_eq_true rfl⟩) hK hP hD hS hA 42 5 rfl rfl rfl hl.1 rfl (Nat.le_of_ble_eq_true rfl) dX5_shove_132 ⟨Nat.le_of_ble_eq_true rfl, Nat.le_of_ble_eq_true rfl⟩ (fun ws_39 r_40 h_41 H locs hP hD hS => ?_)
                    obtain ⟨g_42, g_43, g_44, rfl, rfl⟩ := h_41
                    have hP : va_P D vwCl (WW ad cJ cI cZ bm pa p0 p1 p2 li wi mt ms ma (g_42, g_43, mp.2.2) mk (mn.1, mn.2.1, mn.2.2.1, mn.2.2.2.1, g_44) ou) H := hP
                    have hD : va_D A (WW ad cJ cI cZ bm pa p0 p1 p2 li wi mt ms ma (g_42, g_43, mp.2.2) mk (mn.1, mn.2.1, mn.2.2.1, mn.2.2.2.1, g_44) ou) := hD
                    refine lv_aload_n hx hb dX5_shove_135 rfl (lv_at hl 5 rfl) ?_
                    refine bm_xcallV (As := []) (rest := []) ⟨hx, hb, hml, hown, hts⟩ (y_first (mp := (g_42, g_43, mp.2.2)) (mn := (mn.1, mn.2.1, mn.2.2.1, mn.2.2.2.1, g_44))  ok_ms_parts ok_mp_turns ok_ma_sides ) (cwV 0 hts (gdV (by decide +kernel) (by decide +kernel) (by decide +kernel) (by decide +kernel) (by decide +kernel)) rfl rfl rfl (by decide +kernel) ⟨Nat.le_of_ble_eq_true rfl, Nat.le_of_ble_eq_true rfl⟩) hK hP hD hS hA 42 5 rfl rfl rfl hl.1 rfl (Nat.le_of_ble_eq_true rfl) dX5_shove_136 ⟨Nat.le_of_ble_eq_true rfl, Nat.le_of_ble_eq_true rfl⟩ (fun ws_45 r_46 h_47 H locs hP hD hS => ?_)
                    obtain ⟨rfl, ho_50⟩ := h_47
                    have hP : va_P D vwCl (WW ad cJ cI cZ bm pa p0 p1 p2 li wi mt ms ma (g_42, g_43, mp.2.2) mk (mn.1, mn.2.1, mn.2.2.1, mn.2.2.2.1, g_44) ou) H := hP
                    have hD : va_D A (WW ad cJ cI cZ bm pa p0 p1 p2 li wi mt ms ma (g_42, g_43, mp.2.2) mk (mn.1, mn.2.1, mn.2.2.1, mn.2.2.2.1, g_44) ou) := hD
                    rcases ho_50 with rfl | ⟨k_48, hk_49, rfl⟩
                    · refine lv_istore_n (lv' := [(3, .int (-1)), (7, .int (bm_b false)), (6, .int (nI (f_12 % 40))), (5, .int (nI (f_12 / 40))), (4, .int (nI i_9)), (0, .ref (ad 42)), (1, .int (nI zp)), (2, .int (nI zw))]) hx hb dX5_shove_139 rfl hl (by decide) rfl (fun ls hl => ?_)
                      refine lv_iinc (v := (nI (i_9 + 1))) (lv' := [(4, .int (nI (i_9 + 1))), (3, .int (-1)), (7, .int (bm_b false)), (6, .int (nI (f_12 % 40))), (5, .int (nI (f_12 / 40))), (0, .ref (ad 42)), (1, .int (nI zp)), (2, .int (nI zw))]) hx hb dX5_shove_140 hl (k := 4) rfl (nI_1 i_9) (by decide) rfl (fun ls hl => ?_)
                      refine lv_goto (tgt := 8) hx hb dX5_shove_143 (by decide) ?_
                      refine lv_iload_n hx hb dX5_shove_8 rfl (lv_at hl 1 rfl) ?_
                      refine lv_iconst (v := -1) hx hb dX5_shove_9 (by decide) ?_
                      refine lv_icmp_eq (x := (-1)) (y := -1) (tgt := 146) hx hb dX5_shove_10 (by decide) (fun c_51 => ?_) (fun c_51 => ?_)
                      · refine lv_iconst (v := bm_b true) hx hb dX5_shove_146 (by decide) ?_
                        exact bm_zretX (v := true) hx hb hr hP hD hK hS ⟨g_42, g_43, g_44, rfl, true, rfl⟩ dX5_shove_147 hlocks
                      · exact absurd rfl c_51
                    · refine lv_istore_n (lv' := [(3, .int (nI k_48)), (7, .int (bm_b false)), (6, .int (nI (f_12 % 40))), (5, .int (nI (f_12 / 40))), (4, .int (nI i_9)), (0, .ref (ad 42)), (1, .int (nI zp)), (2, .int (nI zw))]) hx hb dX5_shove_139 rfl hl (by decide) rfl (fun ls hl => ?_)
                      refine lv_iinc (v := (nI (i_9 + 1))) (lv' := [(4, .int (nI (i_9 + 1))), (3, .int (nI k_48)), (7, .int (bm_b false)), (6, .int (nI (f_12 % 40))), (5, .int (nI (f_12 / 40))), (0, .ref (ad 42)), (1, .int (nI zp)), (2, .int (nI zw))]) hx hb dX5_shove_140 hl (k := 4) rfl (nI_1 i_9) (by decide) rfl (fun ls hl => ?_)
                      refine lv_goto (tgt := 8) hx hb dX5_shove_143 (by decide) ?_
                      exact ih_11 (i_9 + 1) k_48 g_42 g_43 g_44 (by omega) (by omega) (by omega) _ _ hP hD hS _ (lv_sub hl [0, 1, 5, 6, 7] rfl)
                  · exact absurd c_38 (by decide)
                · refine lv_aload_n hx hb dX5_shove_84 rfl (lv_at hl 4 rfl) ?_
                  refine lv_iload hx hb dX5_shove_85 (lv_at hl 0 rfl) ?_
                  refine lv_iload_n hx hb dX5_shove_87 rfl (lv_at hl 6 rfl) ?_
                  refine bm_xcallV (As := [.int (nI (f_12 % 40)), .int (nI zw)]) (rest := []) ⟨hx, hb, hml, hown, hts⟩ (y_beginOn (mp := (g_13, g_14, mp.2.2)) (mn := (mn.1, mn.2.1, mn.2.2.1, mn.2.2.2.1, g_15)) (zp := f_12 % 40) (zw := zw) ok_mp_turns (by omega) (by omega)) (cwV 2 hts (gdV (by decide +kernel) (by decide +kernel) (by decide +kernel) (by decide +kernel) (by decide +kernel)) rfl rfl rfl (by decide +kernel) ⟨Nat.le_of_ble_eq_true rfl, Nat.le_of_ble_eq_true rfl⟩) hK hP hD hS hA 42 5 rfl rfl rfl hl.1 rfl (Nat.le_of_ble_eq_true rfl) dX5_shove_88 ⟨Nat.le_of_ble_eq_true rfl, Nat.le_of_ble_eq_true rfl⟩ (fun ws_52 r_53 h_54 H locs hP hD hS => ?_)
                  obtain ⟨rfl, v_55, rfl⟩ := h_54
                  have hP : va_P D vwCl (WW ad cJ cI cZ bm pa p0 p1 p2 li wi mt ms ma (g_13, g_14, mp.2.2) mk (mn.1, mn.2.1, mn.2.2.1, mn.2.2.2.1, g_15) ou) H := hP
                  have hD : va_D A (WW ad cJ cI cZ bm pa p0 p1 p2 li wi mt ms ma (g_13, g_14, mp.2.2) mk (mn.1, mn.2.1, mn.2.2.1, mn.2.2.2.1, g_15) ou) := hD
                  refine lv_aload_n hx hb dX5_shove_91 rfl (lv_at hl 4 rfl) ?_
                  refine lv_iload hx hb dX5_shove_92 (lv_at hl 1 rfl) ?_
                  refine lv_iload_n hx hb dX5_shove_94 rfl (lv_at hl 6 rfl) ?_
                  refine bm_xcallV (As := [.int (nI (f_12 / 40)), .int (nI zw)]) (rest := [.long v_55]) ⟨hx, hb, hml, hown, hts⟩ (y_beginOn (mp := (g_13, g_14, mp.2.2)) (mn := (mn.1, mn.2.1, mn.2.2.1, mn.2.2.2.1, g_15)) (zp := f_12 / 40) (zw := zw) ok_mp_turns (by omega) (by omega)) (cwV 2 hts (gdV (by decide +kernel) (by decide +kernel) (by decide +kernel) (by decide +kernel) (by decide +kernel)) rfl rfl rfl (by decide +kernel) ⟨Nat.le_of_ble_eq_true rfl, Nat.le_of_ble_eq_true rfl⟩) hK hP hD hS hA 42 5 rfl rfl rfl hl.1 rfl (Nat.le_of_ble_eq_true rfl) dX5_shove_95 ⟨Nat.le_of_ble_eq_true rfl, Nat.le_of_ble_eq_true rfl⟩ (fun ws_56 r_57 h_58 H locs hP hD hS => ?_)
                  obtain ⟨rfl, v_59, rfl⟩ := h_58
                  have hP : va_P D vwCl (WW ad cJ cI cZ bm pa p0 p1 p2 li wi mt ms ma (g_13, g_14, mp.2.2) mk (mn.1, mn.2.1, mn.2.2.1, mn.2.2.2.1, g_15) ou) H := hP
                  have hD : va_D A (WW ad cJ cI cZ bm pa p0 p1 p2 li wi mt ms ma (g_13, g_14, mp.2.2) mk (mn.1, mn.2.1, mn.2.2.1, mn.2.2.2.1, g_15) ou) := hD
                  refine bm_lc_lt (x := v_55) (y := v_59) (tgt := 106) hx hb dX5_shove_98 dX5_shove_99 (by decide) (fun c_60 => ?_) (fun c_60 => ?_)
                  · refine lv_iconst (v := bm_b false) hx hb dX5_shove_106 (by decide) ?_
                    refine lv_istore (lv' := [(7, .int (bm_b false)), (6, .int (nI (f_12 % 40))), (5, .int (nI (f_12 / 40))), (4, .int (nI i_9)), (3, .int (nI f_12)), (0, .ref (ad 42)), (1, .int (nI zp)), (2, .int (nI zw))]) hx hb dX5_shove_107 hl (by decide) rfl (fun ls hl => ?_)
                    refine lv_iload hx hb dX5_shove_109 (lv_at hl 0 rfl) ?_
                    refine bm_zb_eq (x := false) (tgt := 126) hx hb dX5_shove_111 (by decide) (fun c_61 => ?_) (fun c_61 => ?_)
                    · refine lv_aload_n hx hb dX5_shove_126 rfl (lv_at hl 5 rfl) ?_
                      refine lv_iload hx hb dX5_shove_127 (lv_at hl 2 rfl) ?_
                      refine lv_iload hx hb dX5_shove_129 (lv_at hl 1 rfl) ?_
                      refine lv_iload_n hx hb dX5_shove_131 rfl (lv_at hl 7 rfl) ?_
                      refine bm_xcallV (As := [.int (nI (f_12 / 40)), .int (nI (f_12 % 40)), .int (nI zw)]) (rest := []) ⟨hx, hb, hml, hown, hts⟩ (y_goOn (mp := (g_13, g_14, mp.2.2)) (mn := (mn.1, mn.2.1, mn.2.2.1, mn.2.2.2.1, g_15)) (zp := f_12 / 40) (zq := f_12 % 40) (zw := zw) ok_ms_parts ok_ma_groups ok_mp_turns (by omega) (by omega) (by omega)) (cwV 3 hts (gdV (by decide +kernel) (by decide +kernel) (by decide +kernel) (by decide +kernel) (by decide +kernel)) rfl rfl rfl (by decide +kernel) ⟨Nat.le_of_ble_eq_true rfl, Nat.le_of_ble_eq_true rfl⟩) hK hP hD hS hA 42 5 rfl rfl rfl hl.1 rfl (Nat.le_of_ble_eq_true rfl) dX5_shove_132 ⟨Nat.le_of_ble_eq_true rfl, Nat.le_of_ble_eq_true rfl⟩ (fun ws_62 r_63 h_64 H locs hP hD hS => ?_)
                      obtain ⟨g_65, g_66, g_67, rfl, rfl⟩ := h_64
                      have hP : va_P D vwCl (WW ad cJ cI cZ bm pa p0 p1 p2 li wi mt ms ma (g_65, g_66, mp.2.2) mk (mn.1, mn.2.1, mn.2.2.1, mn.2.2.2.1, g_67) ou) H := hP
                      have hD : va_D A (WW ad cJ cI cZ bm pa p0 p1 p2 li wi mt ms ma (g_65, g_66, mp.2.2) mk (mn.1, mn.2.1, mn.2.2.1, mn.2.2.2.1, g_67) ou) := hD
                      refine lv_aload_n hx hb dX5_shove_135 rfl (lv_at hl 5 rfl) ?_
                      refine bm_xcallV (As := []) (rest := []) ⟨hx, hb, hml, hown, hts⟩ (y_first (mp := (g_65, g_66, mp.2.2)) (mn := (mn.1, mn.2.1, mn.2.2.1, mn.2.2.2.1, g_67))  ok_ms_parts ok_mp_turns ok_ma_sides ) (cwV 0 hts (gdV (by decide +kernel) (by decide +kernel) (by decide +kernel) (by decide +kernel) (by decide +kernel)) rfl rfl rfl (by decide +kernel) ⟨Nat.le_of_ble_eq_true rfl, Nat.le_of_ble_eq_true rfl⟩) hK hP hD hS hA 42 5 rfl rfl rfl hl.1 rfl (Nat.le_of_ble_eq_true rfl) dX5_shove_136 ⟨Nat.le_of_ble_eq_true rfl, Nat.le_of_ble_eq_true rfl⟩ (fun ws_68 r_69 h_70 H locs hP hD hS => ?_)
                      obtain ⟨rfl, ho_73⟩ := h_70
                      have hP : va_P D vwCl (WW ad cJ cI cZ bm pa p0 p1 p2 li wi mt ms ma (g_65, g_66, mp.2.2) mk (mn.1, mn.2.1, mn.2.2.1, mn.2.2.2.1, g_67) ou) H := hP
                      have hD : va_D A (WW ad cJ cI cZ bm pa p0 p1 p2 li wi mt ms ma (g_65, g_66, mp.2.2) mk (mn.1, mn.2.1, mn.2.2.1, mn.2.2.2.1, g_67) ou) := hD
                      rcases ho_73 with rfl | ⟨k_71, hk_72, rfl⟩
                      · refine lv_istore_n (lv' := [(3, .int (-1)), (7, .int (bm_b false)), (6, .int (nI (f_12 % 40))), (5, .int (nI (f_12 / 40))), (4, .int (nI i_9)), (0, .ref (ad 42)), (1, .int (nI zp)), (2, .int (nI zw))]) hx hb dX5_shove_139 rfl hl (by decide) rfl (fun ls hl => ?_)
                        refine lv_iinc (v := (nI (i_9 + 1))) (lv' := [(4, .int (nI (i_9 + 1))), (3, .int (-1)), (7, .int (bm_b false)), (6, .int (nI (f_12 % 40))), (5, .int (nI (f_12 / 40))), (0, .ref (ad 42)), (1, .int (nI zp)), (2, .int (nI zw))]) hx hb dX5_shove_140 hl (k := 4) rfl (nI_1 i_9) (by decide) rfl (fun ls hl => ?_)
                        refine lv_goto (tgt := 8) hx hb dX5_shove_143 (by decide) ?_
                        refine lv_iload_n hx hb dX5_shove_8 rfl (lv_at hl 1 rfl) ?_
                        refine lv_iconst (v := -1) hx hb dX5_shove_9 (by decide) ?_
                        refine lv_icmp_eq (x := (-1)) (y := -1) (tgt := 146) hx hb dX5_shove_10 (by decide) (fun c_74 => ?_) (fun c_74 => ?_)
                        · refine lv_iconst (v := bm_b true) hx hb dX5_shove_146 (by decide) ?_
                          exact bm_zretX (v := true) hx hb hr hP hD hK hS ⟨g_65, g_66, g_67, rfl, true, rfl⟩ dX5_shove_147 hlocks
                        · exact absurd rfl c_74
                      · refine lv_istore_n (lv' := [(3, .int (nI k_71)), (7, .int (bm_b false)), (6, .int (nI (f_12 % 40))), (5, .int (nI (f_12 / 40))), (4, .int (nI i_9)), (0, .ref (ad 42)), (1, .int (nI zp)), (2, .int (nI zw))]) hx hb dX5_shove_139 rfl hl (by decide) rfl (fun ls hl => ?_)
                        refine lv_iinc (v := (nI (i_9 + 1))) (lv' := [(4, .int (nI (i_9 + 1))), (3, .int (nI k_71)), (7, .int (bm_b false)), (6, .int (nI (f_12 % 40))), (5, .int (nI (f_12 / 40))), (0, .ref (ad 42)), (1, .int (nI zp)), (2, .int (nI zw))]) hx hb dX5_shove_140 hl (k := 4) rfl (nI_1 i_9) (by decide) rfl (fun ls hl => ?_)
                        refine lv_goto (tgt := 8) hx hb dX5_shove_143 (by decide) ?_
                        exact ih_11 (i_9 + 1) k_71 g_65 g_66 g_67 (by omega) (by omega) (by omega) _ _ hP hD hS _ (lv_sub hl [0, 1, 5, 6, 7] rfl)
                    · exact absurd c_61 (by decide)
                  · refine lv_iconst (v := bm_b true) hx hb dX5_shove_102 (by decide) ?_
                    refine lv_goto (tgt := 107) hx hb dX5_shove_103 (by decide) ?_
                    refine lv_istore (lv' := [(7, .int (bm_b true)), (6, .int (nI (f_12 % 40))), (5, .int (nI (f_12 / 40))), (4, .int (nI i_9)), (3, .int (nI f_12)), (0, .ref (ad 42)), (1, .int (nI zp)), (2, .int (nI zw))]) hx hb dX5_shove_107 hl (by decide) rfl (fun ls hl => ?_)
                    refine lv_iload hx hb dX5_shove_109 (lv_at hl 0 rfl) ?_
                    refine bm_zb_eq (x := true) (tgt := 126) hx hb dX5_shove_111 (by decide) (fun c_75 => ?_) (fun c_75 => ?_)
                    · exact absurd c_75 (by decide)
                    · refine lv_aload_n hx hb dX5_shove_114 rfl (lv_at hl 5 rfl) ?_
                      refine lv_iload hx hb dX5_shove_115 (lv_at hl 1 rfl) ?_
                      refine lv_iload hx hb dX5_shove_117 (lv_at hl 2 rfl) ?_
                      refine lv_iload_n hx hb dX5_shove_119 rfl (lv_at hl 7 rfl) ?_
                      refine bm_xcallV (As := [.int (nI (f_12 % 40)), .int (nI (f_12 / 40)), .int (nI zw)]) (rest := []) ⟨hx, hb, hml, hown, hts⟩ (y_goOn (mp := (g_13, g_14, mp.2.2)) (mn := (mn.1, mn.2.1, mn.2.2.1, mn.2.2.2.1, g_15)) (zp := f_12 % 40) (zq := f_12 / 40) (zw := zw) ok_ms_parts ok_ma_groups ok_mp_turns (by omega) (by omega) (by omega)) (cwV 3 hts (gdV (by decide +kernel) (by decide +kernel) (by decide +kernel) (by decide +kernel) (by decide +kernel)) rfl rfl rfl (by decide +kernel) ⟨Nat.le_of_ble_eq_true rfl, Nat.le_of_ble_eq_true rfl⟩) hK hP hD hS hA 42 5 rfl rfl rfl hl.1 rfl (Nat.le_of_ble_eq_true rfl) dX5_shove_120 ⟨Nat.le_of_ble_eq_true rfl, Nat.le_of_ble_eq_true rfl⟩ (fun ws_76 r_77 h_78 H locs hP hD hS => ?_)
                      obtain ⟨g_79, g_80, g_81, rfl, rfl⟩ := h_78
                      have hP : va_P D vwCl (WW ad cJ cI cZ bm pa p0 p1 p2 li wi mt ms ma (g_79, g_80, mp.2.2) mk (mn.1, mn.2.1, mn.2.2.1, mn.2.2.2.1, g_81) ou) H := hP
                      have hD : va_D A (WW ad cJ cI cZ bm pa p0 p1 p2 li wi mt ms ma (g_79, g_80, mp.2.2) mk (mn.1, mn.2.1, mn.2.2.1, mn.2.2.2.1, g_81) ou) := hD
                      refine lv_goto (tgt := 135) hx hb dX5_shove_123 (by decide) ?_
                      refine lv_aload_n hx hb dX5_shove_135 rfl (lv_at hl 5 rfl) ?_
                      refine bm_xcallV (As := []) (rest := []) ⟨hx, hb, hml, hown, hts⟩ (y_first (mp := (g_79, g_80, mp.2.2)) (mn := (mn.1, mn.2.1, mn.2.2.1, mn.2.2.2.1, g_81))  ok_ms_parts ok_mp_turns ok_ma_sides ) (cwV 0 hts (gdV (by decide +kernel) (by decide +kernel) (by decide +kernel) (by decide +kernel) (by decide +kernel)) rfl rfl rfl (by decide +kernel) ⟨Nat.le_of_ble_eq_true rfl, Nat.le_of_ble_eq_true rfl⟩) hK hP hD hS hA 42 5 rfl rfl rfl hl.1 rfl (Nat.le_of_ble_eq_true rfl) dX5_shove_136 ⟨Nat.le_of_ble_eq_true rfl, Nat.le_of_ble_eq_true rfl⟩ (fun ws_82 r_83 h_84 H locs hP hD hS => ?_)
                      obtain ⟨rfl, ho_87⟩ := h_84
                      have hP : va_P D vwCl (WW ad cJ cI cZ bm pa p0 p1 p2 li wi mt ms ma (g_79, g_80, mp.2.2) mk (mn.1, mn.2.1, mn.2.2.1, mn.2.2.2.1, g_81) ou) H := hP
                      have hD : va_D A (WW ad cJ cI cZ bm pa p0 p1 p2 li wi mt ms ma (g_79, g_80, mp.2.2) mk (mn.1, mn.2.1, mn.2.2.1, mn.2.2.2.1, g_81) ou) := hD
                      rcases ho_87 with rfl | ⟨k_85, hk_86, rfl⟩
                      · refine lv_istore_n (lv' := [(3, .int (-1)), (7, .int (bm_b true)), (6, .int (nI (f_12 % 40))), (5, .int (nI (f_12 / 40))), (4, .int (nI i_9)), (0, .ref (ad 42)), (1, .int (nI zp)), (2, .int (nI zw))]) hx hb dX5_shove_139 rfl hl (by decide) rfl (fun ls hl => ?_)
                        refine lv_iinc (v := (nI (i_9 + 1))) (lv' := [(4, .int (nI (i_9 + 1))), (3, .int (-1)), (7, .int (bm_b true)), (6, .int (nI (f_12 % 40))), (5, .int (nI (f_12 / 40))), (0, .ref (ad 42)), (1, .int (nI zp)), (2, .int (nI zw))]) hx hb dX5_shove_140 hl (k := 4) rfl (nI_1 i_9) (by decide) rfl (fun ls hl => ?_)
                        refine lv_goto (tgt := 8) hx hb dX5_shove_143 (by decide) ?_
                        refine lv_iload_n hx hb dX5_shove_8 rfl (lv_at hl 1 rfl) ?_
                        refine lv_iconst (v := -1) hx hb dX5_shove_9 (by decide) ?_
                        refine lv_icmp_eq (x := (-1)) (y := -1) (tgt := 146) hx hb dX5_shove_10 (by decide) (fun c_88 => ?_) (fun c_88 => ?_)
                        · refine lv_iconst (v := bm_b true) hx hb dX5_shove_146 (by decide) ?_
                          exact bm_zretX (v := true) hx hb hr hP hD hK hS ⟨g_79, g_80, g_81, rfl, true, rfl⟩ dX5_shove_147 hlocks
                        · exact absurd rfl c_88
                      · refine lv_istore_n (lv' := [(3, .int (nI k_85)), (7, .int (bm_b true)), (6, .int (nI (f_12 % 40))), (5, .int (nI (f_12 / 40))), (4, .int (nI i_9)), (0, .ref (ad 42)), (1, .int (nI zp)), (2, .int (nI zw))]) hx hb dX5_shove_139 rfl hl (by decide) rfl (fun ls hl => ?_)
                        refine lv_iinc (v := (nI (i_9 + 1))) (lv' := [(4, .int (nI (i_9 + 1))), (3, .int (nI k_85)), (7, .int (bm_b true)), (6, .int (nI (f_12 % 40))), (5, .int (nI (f_12 / 40))), (0, .ref (ad 42)), (1, .int (nI zp)), (2, .int (nI zw))]) hx hb dX5_shove_140 hl (k := 4) rfl (nI_1 i_9) (by decide) rfl (fun ls hl => ?_)
                        refine lv_goto (tgt := 8) hx hb dX5_shove_143 (by decide) ?_
                        exact ih_11 (i_9 + 1) k_85 g_79 g_80 g_81 (by omega) (by omega) (by omega) _ _ hP hD hS _ (lv_sub hl [0, 1, 5, 6, 7] rfl)
            · refine lv_iconst (v := bm_b false) hx hb dX5_shove_50 (by decide) ?_
              exact bm_zretX (v := false) hx hb hr hP hD hK hS ⟨g_13, g_14, g_15, rfl, false, rfl⟩ dX5_shove_51 hlocks
    exact lp_8 201 0 k_4 mp.1 mp.2.1 mn.2.2.2.2 (by omega) (by omega) (by omega) _ _ hP hD hS _ (lv_sub hl [0, 1, 2, 3, 4] rfl)
end
section
set_option maxHeartbeats 8000000 in
set_option maxRecDepth 100000 in
theorem y_draw {l : Launch} {D : va_G} {ad : Nat → Nat} {cJ cI cZ : ClassId} {bm : gBM} {pa : gPA} {p0 p1 p2 : gPL} {li : gLI} {wi : gWI} {mt : Nat} {ms : gMS} {ma : gMA} {mp : gMP} {mk : gMK} {mn : gMN} {ou : Nat → Int64}     : bm_Wx l yX5_draw wsX5_draw ({ frames := 0, cells := 0, slots := 0, locals := 0 }) D vwCl [(cJ, .long), (cI, .int), (cZ, .boolean)] (WW ad cJ cI cZ bm pa p0 p1 p2 li wi mt ms ma mp mk mn ou) [.ref (ad 42)] (fun ws9 r9 => ∃ (e0 : Int64) , ws9 = (WW ad cJ cI cZ bm pa p0 p1 p2 li wi mt (ms.1, ms.2.1, ms.2.2.1, ms.2.2.2.1, ms.2.2.2.2.1, ms.2.2.2.2.2.1, ms.2.2.2.2.2.2.1, e0) ma mp mk mn ou) ∧ ∃ z9 : Nat, z9 < 2 ^ 31 ∧ r9 = some (.long (lN z9))) := by
  intro sz
  refine Met.ofW (cc := cX5_draw) (maxL := 1) (ret := (some .long)) (by decide) rfl ?_
  intro p e s m args below meth c s₁ B hml hv
  obtain ⟨ha, hsz, hP, hK, hD0⟩ := hv
  have hx := B.exec
  have hb := B.bytes
  have hr := B.returns
  have hts := atoms_spec (ws := wsX5_draw) B.pre
  have hown : s.vm.findClass RX5 = some m.cls := findClass_of_methodNamed B.named
  have hlocks := B.notSynchronized
  subst hsz
  have hD := hD0.self (sz := s.heap.size)
  generalize hAe : va_A (WW ad cJ cI cZ bm pa p0 p1 p2 li wi mt ms ma mp mk mn ou) s.heap.size = A at hD ⊢
  have hA : ∀ q : Nat, s.heap.size ≤ q → A q := fun q h => by rw [← hAe]; exact Or.inr h
  have hS : va_S A s.heap s.heap [] := va_S.rf
  have hl := lv_entry ([.ref (ad 42)]) (n := 1) (Nat.le_of_ble_eq_true rfl)
  refine W.eq (g2 := entryFrame m ([.ref (ad 42)] : List Value).toArray 1) (by rw [ha]) ?_
  rw [lg_entry_eq]
  generalize (lg_sl ([.ref (ad 42)]) ++ List.replicate (1 - (lg_sl ([.ref (ad 42)])).length) Slot.unset).toArray = ls at hl ⊢
  have hl : lv_has ls 1 [(0, .ref (ad 42))] := hl
  refine lv_aload_n hx hb dX5_draw_0 rfl (lv_at hl 0 rfl) ?_
  refine lv_aload_n hx hb dX5_draw_1 rfl (lv_at hl 0 rfl) ?_
  refine va_get (D := D) (ci := 5) (v := .long ms.2.2.2.2.2.2.2) (C := RX5) (T := TX5) (N := 28) hx hb hts (inT inX5) hown hK hP 42 rfl rfl 27 (by decide) (hts (.fieldLink RX5 78 "BoardMovesModel" "s" "J") (by decide +kernel)) (fun _ h9 => h9) rfl dX5_draw_2 ?_
  refine lv_ldc2 (v := 6364136223846793005) hx hb hown (hts (.constantLong RX5 195 6364136223846793005) (by decide +kernel)) dX5_draw_5 ?_
  refine lv_topl (fun t_1 _ => ?_)
  refine lv_lmul hx hb dX5_draw_8 ?_
  refine lv_topl (fun t_2 _ => ?_)
  refine lv_ldc2 (v := 1442695040888963407) hx hb hown (hts (.constantLong RX5 197 1442695040888963407) (by decide +kernel)) dX5_draw_9 ?_
  refine lv_topl (fun t_3 _ => ?_)
  refine lv_ladd hx hb dX5_draw_12 ?_
  refine lv_topl (fun t_4 _ => ?_)
  refine va_put (D := D) (ci := 5) (v := .long t_4) (ty := .long) (C := RX5) (T := TX5) (N := 28) hx hb hts (inT inX5) tyX5 tyX5_ok nmX5 hown hK hP hD hS 42 rfl rfl 27 (by decide) (hts (.fieldLink RX5 78 "BoardMovesModel" "s" "J") (by decide +kernel)) (fun _ h9 => h9) rfl (by decide +kernel) rfl rfl (Nat.le_of_ble_eq_true rfl) dX5_draw_13 (fun H locs hP hD hS => ?_)
  have hP : va_P D vwCl (WW ad cJ cI cZ bm pa p0 p1 p2 li wi mt (ms.1, ms.2.1, ms.2.2.1, ms.2.2.2.1, ms.2.2.2.2.1, ms.2.2.2.2.2.1, ms.2.2.2.2.2.2.1, t_4) ma mp mk mn ou) H := hP
  have hD : va_D A (WW ad cJ cI cZ bm pa p0 p1 p2 li wi mt (ms.1, ms.2.1, ms.2.2.1, ms.2.2.2.1, ms.2.2.2.2.1, ms.2.2.2.2.2.1, ms.2.2.2.2.2.2.1, t_4) ma mp mk mn ou) := hD
  refine lv_aload_n hx hb dX5_draw_16 rfl (lv_at hl 0 rfl) ?_
  refine va_get (D := D) (ci := 5) (v := .long t_4) (C := RX5) (T := TX5) (N := 28) hx hb hts (inT inX5) hown hK hP 42 rfl rfl 27 (by decide) (hts (.fieldLink RX5 78 "BoardMovesModel" "s" "J") (by decide +kernel)) (fun _ h9 => h9) rfl dX5_draw_17 ?_
  refine lv_bipush (v := nI 33) hx hb dX5_draw_20 (by decide) ?_
  refine bm_ushr33 hx hb dX5_draw_22 (fun z_5 hz_5 => ?_)
  exact bm_lretX (v := (lN z_5)) hx hb hr hP hD hK hS ⟨t_4, rfl, z_5, (by omega), rfl⟩ dX5_draw_23 hlocks

set_option maxHeartbeats 8000000 in
set_option maxRecDepth 100000 in
theorem y_step {l : Launch} {D : va_G} {ad : Nat → Nat} {cJ cI cZ : ClassId} {bm : gBM} {pa : gPA} {p0 p1 p2 : gPL} {li : gLI} {wi : gWI} {mt : Nat} {ms : gMS} {ma : gMA} {mp : gMP} {mk : gMK} {mn : gMN} {ou : Nat → Int64} {z1 : Nat} {z2 : Nat} {z3 : Nat} {z4 : Nat} (ok_ms_parts : ms.2.2.1 ≤ 40) (ok_ma_groups : ∀ i, ma.2.2.2.2.2.1 i < 40) (ok_mp_turns : ∀ i, mp.2.2 i < 40) (hp0 : z1 < 2 ^ 31) (hp1 : z2 < 2 ^ 31) (hp2 : z3 < 2 ^ 31) (hp3 : z4 < 2 ^ 31) (hpos : 0 < ms.2.2.1) (hw : ms.1 ≠ 0) (hh : ms.2.1 ≠ 0) : bm_Wx l yX5_step wsX5_step ({ frames := 1, cells := 0, slots := 0, locals := 26 }) D vwCl [(cJ, .long), (cI, .int), (cZ, .boolean)] (WW ad cJ cI cZ bm pa p0 p1 p2 li wi mt ms ma mp mk mn ou) [.ref (ad 42), .long (lN z1), .long (lN z2), .long (lN z3), .long (lN z4)] (fun ws9 r9 => ∃ (e0 : Nat → Int64) (e1 : Nat → Int64) (e2 : Nat → Nat) (e3 : Nat → Bool) , (∀ i, e2 i < 40) ∧ ws9 = (WW ad cJ cI cZ bm pa p0 p1 p2 li wi mt ms ma (e0, e1, e2) mk (mn.1, mn.2.1, mn.2.2.1, mn.2.2.2.1, e3) ou) ∧ r9 = none) := by
  intro sz
  refine Met.ofW (cc := cX5_step) (maxL := 15) (ret := none) (by decide) rfl ?_
  intro p e s m args below meth c s₁ B hml hv
  obtain ⟨ha, hsz, hP, hK, hD0⟩ := hv
  have hx := B.exec
  have hb := B.bytes
  have hr := B.returns
  have hts := atoms_spec (ws := wsX5_step) B.pre
  have hown : s.vm.findClass RX5 = some m.cls := findClass_of_methodNamed B.named
  have hlocks := B.notSynchronized
  subst hsz
  have hD := hD0.self (sz := s.heap.size)
  generalize hAe : va_A (WW ad cJ cI cZ bm pa p0 p1 p2 li wi mt ms ma mp mk mn ou) s.heap.size = A at hD ⊢
  have hA : ∀ q : Nat, s.heap.size ≤ q → A q := fun q h => by rw [← hAe]; exact Or.inr h
  have hS : va_S A s.heap s.heap [] := va_S.rf
  have hl := lv_entry ([.ref (ad 42), .long (lN z1), .long (lN z2), .long (lN z3), .long (lN z4)]) (n := 15) (Nat.le_of_ble_eq_true rfl)
  refine W.eq (g2 := entryFrame m ([.ref (ad 42), .long (lN z1), .long (lN z2), .long (lN z3), .long (lN z4)] : List Value).toArray 15) (by rw [ha]) ?_
  rw [lg_entry_eq]
  generalize (lg_sl ([.ref (ad 42), .long (lN z1), .long (lN z2), .long (lN z3), .long (lN z4)]) ++ List.replicate (15 - (lg_sl ([.ref (ad 42), .long (lN z1), .long (lN z2), .long (lN z3), .long (lN z4)])).length) Slot.unset).toArray = ls at hl ⊢
  have hl : lv_has ls 15 [(0, .ref (ad 42)), (1, .long (lN z1)), (3, .long (lN z2)), (5, .long (lN z3)), (7, .long (lN z4))] := hl
  refine lv_lload_n hx hb dX5_step_0 rfl (lv_at hl 1 rfl) ?_
  refine lv_aload_n hx hb dX5_step_1 rfl (lv_at hl 0 rfl) ?_
  refine va_get (D := D) (ci := 5) (v := .int (nI ms.2.2.1)) (C := RX5) (T := TX5) (N := 28) hx hb hts (inT inX5) hown hK hP 42 rfl rfl 3 (by decide) (hts (.fieldLink RX5 85 "BoardMovesModel" "parts" "I") (by decide +kernel)) (fun _ h9 => h9) rfl dX5_step_2 ?_
  refine bm_i2lN (x := ms.2.2.1) hx hb (by omega) dX5_step_5 ?_
  refine bm_lrN (x := z1) (y := ms.2.2.1) hx hb (by omega) (by omega) (by omega) dX5_step_6 ?_
  refine bm_l2iN (x := z1 % ms.2.2.1) hx hb dX5_step_7 ?_
  refine lv_istore (lv' := [(9, .int (nI (z1 % ms.2.2.1))), (0, .ref (ad 42)), (1, .long (lN z1)), (3, .long (lN z2)), (5, .long (lN z3)), (7, .long (lN z4))]) hx hb dX5_step_8 hl (by decide) rfl (fun ls hl => ?_)
  refine lv_lload hx hb dX5_step_10 (lv_at hl 4 rfl) ?_
  refine lv_aload_n hx hb dX5_step_12 rfl (lv_at hl 1 rfl) ?_
  refine va_get (D := D) (ci := 5) (v := .int (nI ms.2.2.1)) (C := RX5) (T := TX5) (N := 28) hx hb hts (inT inX5) hown hK hP 42 rfl rfl 3 (by decide) (hts (.fieldLink RX5 85 "BoardMovesModel" "parts" "I") (by decide +kernel)) (fun _ h9 => h9) rfl dX5_step_13 ?_
  refine bm_i2lN (x := ms.2.2.1) hx hb (by omega) dX5_step_16 ?_
  refine bm_lrN (x := z3) (y := ms.2.2.1) hx hb (by omega) (by omega) (by omega) dX5_step_17 ?_
  refine bm_l2iN (x := z3 % ms.2.2.1) hx hb dX5_step_18 ?_
  refine lv_istore (lv' := [(10, .int (nI (z3 % ms.2.2.1))), (9, .int (nI (z1 % ms.2.2.1))), (0, .ref (ad 42)), (1, .long (lN z1)), (3, .long (lN z2)), (5, .long (lN z3)), (7, .long (lN z4))]) hx hb dX5_step_19 hl (by decide) rfl (fun ls hl => ?_)
  refine lv_aload_n hx hb dX5_step_21 rfl (lv_at hl 2 rfl) ?_
  refine va_get (D := D) (ci := 5) (v := .ref (ad 49)) (C := RX5) (T := TX5) (N := 28) hx hb hts (inT inX5) hown hK hP 42 rfl rfl 10 (by decide) (hts (.fieldLink RX5 30 "BoardMovesModel" "placed" "[Z") (by decide +kernel)) (fun _ h9 => h9) rfl dX5_step_22 ?_
  refine lv_iload hx hb dX5_step_25 (lv_at hl 1 rfl) ?_
  refine bm_zald (f := ma.2.2.2.2.2.2) hx hb hK hP 49 2 rfl rfl (j := (z1 % ms.2.2.1)) (Nat.lt_of_lt_of_le (Nat.mod_lt _ hpos) ok_ms_parts) (by decide) dX5_step_27 ?_
  refine bm_zb_eq (x := (ma.2.2.2.2.2.2 (z1 % ms.2.2.1))) (tgt := 41) hx hb dX5_step_28 (by decide) (fun c_1 => ?_) (fun c_1 => ?_)
  · exact bm_vretX hx hb hr hP hD hK hS ⟨mp.1, mp.2.1, mp.2.2, mn.2.2.2.2, ok_mp_turns, rfl, rfl⟩ dX5_step_41 hlocks
  · refine lv_aload_n hx hb dX5_step_31 rfl (lv_at hl 2 rfl) ?_
    refine va_get (D := D) (ci := 5) (v := .ref (ad 47)) (C := RX5) (T := TX5) (N := 28) hx hb hts (inT inX5) hown hK hP 42 rfl rfl 8 (by decide) (hts (.fieldLink RX5 23 "BoardMovesModel" "locked" "[Z") (by decide +kernel)) (fun _ h9 => h9) rfl dX5_step_32 ?_
    refine lv_iload hx hb dX5_step_35 (lv_at hl 1 rfl) ?_
    refine bm_zald (f := ma.2.2.2.2.1) hx hb hK hP 47 2 rfl rfl (j := (z1 % ms.2.2.1)) (Nat.lt_of_lt_of_le (Nat.mod_lt _ hpos) ok_ms_parts) (by decide) dX5_step_37 ?_
    refine bm_zb_eq (x := (ma.2.2.2.2.1 (z1 % ms.2.2.1))) (tgt := 42) hx hb dX5_step_38 (by decide) (fun c_2 => ?_) (fun c_2 => ?_)
    · refine lv_lload_n hx hb dX5_step_42 rfl (lv_at hl 4 rfl) ?_
      refine lv_ldc2 (v := 4) hx hb hown (hts (.constantLong RX5 199 4) (by decide +kernel)) dX5_step_43 ?_
      refine bm_lrN (x := z2) (y := 4) hx hb (by omega) (by omega) (by omega) dX5_step_46 ?_
      refine lv_lconst (v := 0) hx hb dX5_step_47 (by decide) ?_
      refine bm_lc_ne (x := (lN (z2 % 4))) (y := 0) (tgt := 141) hx hb dX5_step_48 dX5_step_49 (by decide) (fun c_3 => ?_) (fun c_3 => ?_)
      · refine lv_lload_n hx hb dX5_step_141 rfl (lv_at hl 4 rfl) ?_
        refine lv_ldc2 (v := 4) hx hb hown (hts (.constantLong RX5 199 4) (by decide +kernel)) dX5_step_142 ?_
        refine bm_lrN (x := z2) (y := 4) hx hb (by omega) (by omega) (by omega) dX5_step_145 ?_
        refine lv_lconst (v := 1) hx hb dX5_step_146 (by decide) ?_
        refine bm_lc_ne (x := (lN (z2 % 4))) (y := 1) (tgt := 192) hx hb dX5_step_147 dX5_step_148 (by decide) (fun c_4 => ?_) (fun c_4 => ?_)
        · refine lv_aload_n hx hb dX5_step_192 rfl (lv_at hl 2 rfl) ?_
          refine lv_iload hx hb dX5_step_193 (lv_at hl 1 rfl) ?_
          refine lv_lload hx hb dX5_step_195 (lv_at hl 5 rfl) ?_
          refine lv_aload_n hx hb dX5_step_197 rfl (lv_at hl 2 rfl) ?_
          refine va_get (D := D) (ci := 5) (v := .long ms.1) (C := RX5) (T := TX5) (N := 28) hx hb hts (inT inX5) hown hK hP 42 rfl rfl 1 (by decide) (hts (.fieldLink RX5 71 "BoardMovesModel" "width" "J") (by decide +kernel)) (fun _ h9 => h9) rfl dX5_step_198 ?_
          refine lv_lrem hx hb dX5_step_201 hw ?_
          refine lv_topl (fun t_5 _ => ?_)
          refine lv_aload_n hx hb dX5_step_202 rfl (lv_at hl 2 rfl) ?_
          refine lv_iconst (v := nI 0) hx hb dX5_step_203 (by decide) ?_
          refine lv_iload hx hb dX5_step_204 (lv_at hl 1 rfl) ?_
          refine bm_xcallV (As := [.int (nI 0), .int (nI (z1 % ms.2.2.1))]) (rest := [.long t_5, .int (nI (z1 % ms.2.2.1)), .ref (ad 42)]) ⟨hx, hb, hml, hown, hts⟩ (y_left  (zr := 0) (zp := z1 % ms.2.2.1)  (by omega) (Nat.lt_of_lt_of_le (Nat.mod_lt _ hpos) ok_ms_parts)) (cwV 2 hts (gdV (by decide +kernel) (by decide +kernel) (by decide +kernel) (by decide +kernel) (by decide +kernel)) rfl rfl rfl (by decide +kernel) ⟨Nat.le_of_ble_eq_true rfl, Nat.le_of_ble_eq_true rfl⟩) hK hP hD hS hA 42 5 rfl rfl rfl hl.1 rfl (Nat.le_of_ble_eq_true rfl) dX5_step_206 ⟨Nat.le_of_ble_eq_true rfl, Nat.le_of_ble_eq_true rfl⟩ (fun ws_6 r_7 h_8 H locs hP hD hS => ?_)
          obtain ⟨rfl, v_9, rfl⟩ := h_8
          have hP : va_P D vwCl (WW ad cJ cI cZ bm pa p0 p1 p2 li wi mt ms ma mp mk mn ou) H := hP
          have hD : va_D A (WW ad cJ cI cZ bm pa p0 p1 p2 li wi mt ms ma mp mk mn ou) := hD
          refine lv_lsub hx hb dX5_step_209 ?_
          refine lv_topl (fun t_10 _ => ?_)
          refine lv_lload hx hb dX5_step_210 (lv_at hl 6 rfl) ?_
          refine lv_aload_n hx hb dX5_step_212 rfl (lv_at hl 2 rfl) ?_
          refine va_get (D := D) (ci := 5) (v := .long ms.2.1) (C := RX5) (T := TX5) (N := 28) hx hb hts (inT inX5) hown hK hP 42 rfl rfl 2 (by decide) (hts (.fieldLink RX5 75 "BoardMovesModel" "height" "J") (by decide +kernel)) (fun _ h9 => h9) rfl dX5_step_213 ?_
          refine lv_lrem hx hb dX5_step_216 hh ?_
          refine lv_topl (fun t_11 _ => ?_)
          refine lv_aload_n hx hb dX5_step_217 rfl (lv_at hl 2 rfl) ?_
          refine lv_iconst (v := nI 0) hx hb dX5_step_218 (by decide) ?_
          refine lv_iload hx hb dX5_step_219 (lv_at hl 1 rfl) ?_
          refine bm_xcallV (As := [.int (nI 0), .int (nI (z1 % ms.2.2.1))]) (rest := [.long t_11, .long t_10, .int (nI (z1 % ms.2.2.1)), .ref (ad 42)]) ⟨hx, hb, hml, hown, hts⟩ (y_low  (zr := 0) (zp := z1 % ms.2.2.1)  (by omega) (Nat.lt_of_lt_of_le (Nat.mod_lt _ hpos) ok_ms_parts)) (cwV 2 hts (gdV (by decide +kernel) (by decide +kernel) (by decide +kernel) (by decide +kernel) (by decide +kernel)) rfl rfl rfl (by decide +kernel) ⟨Nat.le_of_ble_eq_true rfl, Nat.le_of_ble_eq_true rfl⟩) hK hP hD hS hA 42 5 rfl rfl rfl hl.1 rfl (Nat.le_of_ble_eq_true rfl) dX5_step_221 ⟨Nat.le_of_ble_eq_true rfl, Nat.le_of_ble_eq_true rfl⟩ (fun ws_12 r_13 h_14 H locs hP hD hS => ?_)
          obtain ⟨rfl, v_15, rfl⟩ := h_14
          have hP : va_P D vwCl (WW ad cJ cI cZ bm pa p0 p1 p2 li wi mt ms ma mp mk mn ou) H := hP
          have hD : va_D A (WW ad cJ cI cZ bm pa p0 p1 p2 li wi mt ms ma mp mk mn ou) := hD
          refine lv_lsub hx hb dX5_step_224 ?_
          refine lv_topl (fun t_16 _ => ?_)
          refine bm_xcallV (As := [.int (nI (z1 % ms.2.2.1)), .long t_10, .long t_16]) (rest := []) ⟨hx, hb, hml, hown, hts⟩ (y_go  (zp := z1 % ms.2.2.1) (z1 := t_10) (z2 := t_16) ok_ms_parts ok_ma_groups (Nat.lt_of_lt_of_le (Nat.mod_lt _ hpos) ok_ms_parts)) (cwV 3 hts (gdV (by decide +kernel) (by decide +kernel) (by decide +kernel) (by decide +kernel) (by decide +kernel)) rfl rfl rfl (by decide +kernel) ⟨Nat.le_of_ble_eq_true rfl, Nat.le_of_ble_eq_true rfl⟩) hK hP hD hS hA 42 5 rfl rfl rfl hl.1 rfl (Nat.le_of_ble_eq_true rfl) dX5_step_225 ⟨Nat.le_of_ble_eq_true rfl, Nat.le_of_ble_eq_true rfl⟩ (fun ws_17 r_18 h_19 H locs hP hD hS => ?_)
          obtain ⟨g_20, g_21, g_22, rfl, rfl⟩ := h_19
          have hP : va_P D vwCl (WW ad cJ cI cZ bm pa p0 p1 p2 li wi mt ms ma (g_20, g_21, mp.2.2) mk (mn.1, mn.2.1, mn.2.2.1, mn.2.2.2.1, g_22) ou) H := hP
          have hD : va_D A (WW ad cJ cI cZ bm pa p0 p1 p2 li wi mt ms ma (g_20, g_21, mp.2.2) mk (mn.1, mn.2.1, mn.2.2.1, mn.2.2.2.1, g_22) ou) := hD
          exact bm_vretX hx hb hr hP hD hK hS ⟨g_20, g_21, mp.2.2, g_22, ok_mp_turns, rfl, rfl⟩ dX5_step_228 hlocks
        · refine lv_aload_n hx hb dX5_step_151 rfl (lv_at hl 2 rfl) ?_
          refine lv_iload hx hb dX5_step_152 (lv_at hl 1 rfl) ?_
          refine bm_xcallV (As := [.int (nI (z1 % ms.2.2.1))]) (rest := []) ⟨hx, hb, hml, hown, hts⟩ (y_mate  (zp := z1 % ms.2.2.1) ok_ms_parts ok_ma_groups (Nat.lt_of_lt_of_le (Nat.mod_lt _ hpos) ok_ms_parts)) (cwV 1 hts (gdV (by decide +kernel) (by decide +kernel) (by decide +kernel) (by decide +kernel) (by decide +kernel)) rfl rfl rfl (by decide +kernel) ⟨Nat.le_of_ble_eq_true rfl, Nat.le_of_ble_eq_true rfl⟩) hK hP hD hS hA 42 5 rfl rfl rfl hl.1 rfl (Nat.le_of_ble_eq_true rfl) dX5_step_154 ⟨Nat.le_of_ble_eq_true rfl, Nat.le_of_ble_eq_true rfl⟩ (fun ws_23 r_24 h_25 H locs hP hD hS => ?_)
          obtain ⟨rfl, v_26, rfl⟩ := h_25
          have hP : va_P D vwCl (WW ad cJ cI cZ bm pa p0 p1 p2 li wi mt ms ma mp mk mn ou) H := hP
          have hD : va_D A (WW ad cJ cI cZ bm pa p0 p1 p2 li wi mt ms ma mp mk mn ou) := hD
          refine bm_zb_ne (x := v_26) (tgt := 228) hx hb dX5_step_157 (by decide) (fun c_27 => ?_) (fun c_27 => ?_)
          · exact bm_vretX hx hb hr hP hD hK hS ⟨mp.1, mp.2.1, mp.2.2, mn.2.2.2.2, ok_mp_turns, rfl, rfl⟩ dX5_step_228 hlocks
          · refine lv_aload_n hx hb dX5_step_160 rfl (lv_at hl 2 rfl) ?_
            refine va_get (D := D) (ci := 5) (v := .ref (ad 52)) (C := RX5) (T := TX5) (N := 28) hx hb hts (inT inX5) hown hK hP 42 rfl rfl 13 (by decide) (hts (.fieldLink RX5 39 "BoardMovesModel" "turns" "[I") (by decide +kernel)) (fun _ h9 => h9) rfl dX5_step_161 ?_
            refine lv_bipush (v := nI 40) hx hb dX5_step_164 (by decide) ?_
            refine lv_iload hx hb dX5_step_166 (lv_at hl 1 rfl) ?_
            refine bm_nadd hx hb dX5_step_168 ?_
            refine lv_aload_n hx hb dX5_step_169 rfl (lv_at hl 2 rfl) ?_
            refine va_get (D := D) (ci := 5) (v := .ref (ad 52)) (C := RX5) (T := TX5) (N := 28) hx hb hts (inT inX5) hown hK hP 42 rfl rfl 13 (by decide) (hts (.fieldLink RX5 39 "BoardMovesModel" "turns" "[I") (by decide +kernel)) (fun _ h9 => h9) rfl dX5_step_170 ?_
            refine lv_iload hx hb dX5_step_173 (lv_at hl 1 rfl) ?_
            refine bm_nald (f := mp.2.2) hx hb hK hP 52 1 rfl rfl (j := (z1 % ms.2.2.1)) (Nat.lt_of_lt_of_le (Nat.mod_lt _ hpos) ok_ms_parts) (by decide) dX5_step_175 ?_
            refine lv_lload hx hb dX5_step_176 (lv_at hl 6 rfl) ?_
            refine lv_ldc2 (v := 3) hx hb hown (hts (.constantLong RX5 201 3) (by decide +kernel)) dX5_step_178 ?_
            refine bm_lrN (x := z4) (y := 3) hx hb (by omega) (by omega) (by omega) dX5_step_181 ?_
            refine bm_l2iN (x := z4 % 3) hx hb dX5_step_182 ?_
            refine bm_nadd hx hb dX5_step_183 ?_
            refine lv_iconst (v := nI 1) hx hb dX5_step_184 (by decide) ?_
            refine bm_nadd hx hb dX5_step_185 ?_
            refine lv_iconst (v := nI 4) hx hb dX5_step_186 (by decide) ?_
            refine bm_nrem hx hb (by have h := ok_mp_turns (z1 % ms.2.2.1); omega) (by decide) (by decide) dX5_step_187 ?_
            refine bm_nast (f := mp.2.2) hx hb hK hP hD hS 52 1 rfl rfl (j := (40 + (z1 % ms.2.2.1))) (x := ((((mp.2.2 (z1 % ms.2.2.1)) + (z4 % 3)) + 1) % 4)) (by have h := (Nat.lt_of_lt_of_le (Nat.mod_lt z1 hpos) ok_ms_parts); omega) (by decide) dX5_step_188 (fun H locs hP hD hS => ?_)
            have hP : va_P D vwCl (WW ad cJ cI cZ bm pa p0 p1 p2 li wi mt ms ma (mp.1, mp.2.1, va_up mp.2.2 (40 + (z1 % ms.2.2.1)) ((((mp.2.2 (z1 % ms.2.2.1)) + (z4 % 3)) + 1) % 4)) mk mn ou) H := hP
            have hD : va_D A (WW ad cJ cI cZ bm pa p0 p1 p2 li wi mt ms ma (mp.1, mp.2.1, va_up mp.2.2 (40 + (z1 % ms.2.2.1)) ((((mp.2.2 (z1 % ms.2.2.1)) + (z4 % 3)) + 1) % 4)) mk mn ou) := hD
            refine lv_goto (tgt := 228) hx hb dX5_step_189 (by decide) ?_
            exact bm_vretX hx hb hr hP hD hK hS ⟨mp.1, mp.2.1, (va_up mp.2.2 (40 + (z1 % ms.2.2.1)) ((((mp.2.2 (z1 % ms.2.2.1)) + (z4 % 3)) + 1) % 4)), mn.2.2.2.2, (bx_uplt ok_mp_turns (by omega)), rfl, rfl⟩ dX5_step_228 hlocks
      · refine lv_aload_n hx hb dX5_step_52 rfl (lv_at hl 2 rfl) ?_
        refine va_get (D := D) (ci := 5) (v := .ref (ad 49)) (C := RX5) (T := TX5) (N := 28) hx hb hts (inT inX5) hown hK hP 42 rfl rfl 10 (by decide) (hts (.fieldLink RX5 30 "BoardMovesModel" "placed" "[Z") (by decide +kernel)) (fun _ h9 => h9) rfl dX5_step_53 ?_
        refine lv_iload hx hb dX5_step_56 (lv_at hl 0 rfl) ?_
        refine bm_zald (f := ma.2.2.2.2.2.2) hx hb hK hP 49 2 rfl rfl (j := (z3 % ms.2.2.1)) (Nat.lt_of_lt_of_le (Nat.mod_lt _ hpos) ok_ms_parts) (by decide) dX5_step_58 ?_
        refine bm_zb_eq (x := (ma.2.2.2.2.2.2 (z3 % ms.2.2.1))) (tgt := 79) hx hb dX5_step_59 (by decide) (fun c_28 => ?_) (fun c_28 => ?_)
        · exact bm_vretX hx hb hr hP hD hK hS ⟨mp.1, mp.2.1, mp.2.2, mn.2.2.2.2, ok_mp_turns, rfl, rfl⟩ dX5_step_79 hlocks
        · refine lv_aload_n hx hb dX5_step_62 rfl (lv_at hl 2 rfl) ?_
          refine va_get (D := D) (ci := 5) (v := .ref (ad 48)) (C := RX5) (T := TX5) (N := 28) hx hb hts (inT inX5) hown hK hP 42 rfl rfl 9 (by decide) (hts (.fieldLink RX5 27 "BoardMovesModel" "groups" "[I") (by decide +kernel)) (fun _ h9 => h9) rfl dX5_step_63 ?_
          refine lv_iload hx hb dX5_step_66 (lv_at hl 1 rfl) ?_
          refine bm_nald (f := ma.2.2.2.2.2.1) hx hb hK hP 48 1 rfl rfl (j := (z1 % ms.2.2.1)) (Nat.lt_of_lt_of_le (Nat.mod_lt _ hpos) ok_ms_parts) (by decide) dX5_step_68 ?_
          refine lv_aload_n hx hb dX5_step_69 rfl (lv_at hl 2 rfl) ?_
          refine va_get (D := D) (ci := 5) (v := .ref (ad 48)) (C := RX5) (T := TX5) (N := 28) hx hb hts (inT inX5) hown hK hP 42 rfl rfl 9 (by decide) (hts (.fieldLink RX5 27 "BoardMovesModel" "groups" "[I") (by decide +kernel)) (fun _ h9 => h9) rfl dX5_step_70 ?_
          refine lv_iload hx hb dX5_step_73 (lv_at hl 0 rfl) ?_
          refine bm_nald (f := ma.2.2.2.2.2.1) hx hb hK hP 48 1 rfl rfl (j := (z3 % ms.2.2.1)) (Nat.lt_of_lt_of_le (Nat.mod_lt _ hpos) ok_ms_parts) (by decide) dX5_step_75 ?_
          refine bm_ni_ne (x := (ma.2.2.2.2.2.1 (z1 % ms.2.2.1))) (y := (ma.2.2.2.2.2.1 (z3 % ms.2.2.1))) (tgt := 80) hx hb (bm40 (ok_ma_groups _)) (bm40 (ok_ma_groups _)) dX5_step_76 (by decide) (fun c_29 => ?_) (fun c_29 => ?_)
          · refine lv_aload_n hx hb dX5_step_80 rfl (lv_at hl 2 rfl) ?_
            refine lv_iconst (v := nI 0) hx hb dX5_step_81 (by decide) ?_
            refine lv_iload hx hb dX5_step_82 (lv_at hl 0 rfl) ?_
            refine bm_xcallV (As := [.int (nI 0), .int (nI (z3 % ms.2.2.1))]) (rest := []) ⟨hx, hb, hml, hown, hts⟩ (y_left  (zr := 0) (zp := z3 % ms.2.2.1)  (by omega) (Nat.lt_of_lt_of_le (Nat.mod_lt _ hpos) ok_ms_parts)) (cwV 2 hts (gdV (by decide +kernel) (by decide +kernel) (by decide +kernel) (by decide +kernel) (by decide +kernel)) rfl rfl rfl (by decide +kernel) ⟨Nat.le_of_ble_eq_true rfl, Nat.le_of_ble_eq_true rfl⟩) hK hP hD hS hA 42 5 rfl rfl rfl hl.1 rfl (Nat.le_of_ble_eq_true rfl) dX5_step_84 ⟨Nat.le_of_ble_eq_true rfl, Nat.le_of_ble_eq_true rfl⟩ (fun ws_30 r_31 h_32 H locs hP hD hS => ?_)
            obtain ⟨rfl, v_33, rfl⟩ := h_32
            have hP : va_P D vwCl (WW ad cJ cI cZ bm pa p0 p1 p2 li wi mt ms ma mp mk mn ou) H := hP
            have hD : va_D A (WW ad cJ cI cZ bm pa p0 p1 p2 li wi mt ms ma mp mk mn ou) := hD
            refine lv_aload_n hx hb dX5_step_87 rfl (lv_at hl 2 rfl) ?_
            refine lv_iconst (v := nI 0) hx hb dX5_step_88 (by decide) ?_
            refine lv_iload hx hb dX5_step_89 (lv_at hl 1 rfl) ?_
            refine bm_xcallV (As := [.int (nI 0), .int (nI (z1 % ms.2.2.1))]) (rest := [.long v_33]) ⟨hx, hb, hml, hown, hts⟩ (y_left  (zr := 0) (zp := z1 % ms.2.2.1)  (by omega) (Nat.lt_of_lt_of_le (Nat.mod_lt _ hpos) ok_ms_parts)) (cwV 2 hts (gdV (by decide +kernel) (by decide +kernel) (by decide +kernel) (by decide +kernel) (by decide +kernel)) rfl rfl rfl (by decide +kernel) ⟨Nat.le_of_ble_eq_true rfl, Nat.le_of_ble_eq_true rfl⟩) hK hP hD hS hA 42 5 rfl rfl rfl hl.1 rfl (Nat.le_of_ble_eq_true rfl) dX5_step_91 ⟨Nat.le_of_ble_eq_true rfl, Nat.le_of_ble_eq_true rfl⟩ (fun ws_34 r_35 h_36 H locs hP hD hS => ?_)
            obtain ⟨rfl, v_37, rfl⟩ := h_36
            have hP : va_P D vwCl (WW ad cJ cI cZ bm pa p0 p1 p2 li wi mt ms ma mp mk mn ou) H := hP
            have hD : va_D A (WW ad cJ cI cZ bm pa p0 p1 p2 li wi mt ms ma mp mk mn ou) := hD
            refine lv_lsub hx hb dX5_step_94 ?_
            refine lv_topl (fun t_38 _ => ?_)
            refine lv_lstore (lv' := [(11, .long t_38), (10, .int (nI (z3 % ms.2.2.1))), (9, .int (nI (z1 % ms.2.2.1))), (0, .ref (ad 42)), (1, .long (lN z1)), (3, .long (lN z2)), (5, .long (lN z3)), (7, .long (lN z4))]) hx hb dX5_step_95 hl (by decide) rfl (fun ls hl => ?_)
            refine lv_aload_n hx hb dX5_step_97 rfl (lv_at hl 3 rfl) ?_
            refine lv_iconst (v := nI 0) hx hb dX5_step_98 (by decide) ?_
            refine lv_iload hx hb dX5_step_99 (lv_at hl 1 rfl) ?_
            refine bm_xcallV (As := [.int (nI 0), .int (nI (z3 % ms.2.2.1))]) (rest := []) ⟨hx, hb, hml, hown, hts⟩ (y_low  (zr := 0) (zp := z3 % ms.2.2.1)  (by omega) (Nat.lt_of_lt_of_le (Nat.mod_lt _ hpos) ok_ms_parts)) (cwV 2 hts (gdV (by decide +kernel) (by decide +kernel) (by decide +kernel) (by decide +kernel) (by decide +kernel)) rfl rfl rfl (by decide +kernel) ⟨Nat.le_of_ble_eq_true rfl, Nat.le_of_ble_eq_true rfl⟩) hK hP hD hS hA 42 5 rfl rfl rfl hl.1 rfl (Nat.le_of_ble_eq_true rfl) dX5_step_101 ⟨Nat.le_of_ble_eq_true rfl, Nat.le_of_ble_eq_true rfl⟩ (fun ws_39 r_40 h_41 H locs hP hD hS => ?_)
            obtain ⟨rfl, v_42, rfl⟩ := h_41
            have hP : va_P D vwCl (WW ad cJ cI cZ bm pa p0 p1 p2 li wi mt ms ma mp mk mn ou) H := hP
            have hD : va_D A (WW ad cJ cI cZ bm pa p0 p1 p2 li wi mt ms ma mp mk mn ou) := hD
            refine lv_aload_n hx hb dX5_step_104 rfl (lv_at hl 3 rfl) ?_
            refine lv_iconst (v := nI 0) hx hb dX5_step_105 (by decide) ?_
            refine lv_iload hx hb dX5_step_106 (lv_at hl 2 rfl) ?_
            refine bm_xcallV (As := [.int (nI 0), .int (nI (z1 % ms.2.2.1))]) (rest := [.long v_42]) ⟨hx, hb, hml, hown, hts⟩ (y_low  (zr := 0) (zp := z1 % ms.2.2.1)  (by omega) (Nat.lt_of_lt_of_le (Nat.mod_lt _ hpos) ok_ms_parts)) (cwV 2 hts (gdV (by decide +kernel) (by decide +kernel) (by decide +kernel) (by decide +kernel) (by decide +kernel)) rfl rfl rfl (by decide +kernel) ⟨Nat.le_of_ble_eq_true rfl, Nat.le_of_ble_eq_true rfl⟩) hK hP hD hS hA 42 5 rfl rfl rfl hl.1 rfl (Nat.le_of_ble_eq_true rfl) dX5_step_108 ⟨Nat.le_of_ble_eq_true rfl, Nat.le_of_ble_eq_true rfl⟩ (fun ws_43 r_44 h_45 H locs hP hD hS => ?_)
            obtain ⟨rfl, v_46, rfl⟩ := h_45
            have hP : va_P D vwCl (WW ad cJ cI cZ bm pa p0 p1 p2 li wi mt ms ma mp mk mn ou) H := hP
            have hD : va_D A (WW ad cJ cI cZ bm pa p0 p1 p2 li wi mt ms ma mp mk mn ou) := hD
            refine lv_lsub hx hb dX5_step_111 ?_
            refine lv_topl (fun t_47 _ => ?_)
            refine lv_lstore (lv' := [(13, .long t_47), (11, .long t_38), (10, .int (nI (z3 % ms.2.2.1))), (9, .int (nI (z1 % ms.2.2.1))), (0, .ref (ad 42)), (1, .long (lN z1)), (3, .long (lN z2)), (5, .long (lN z3)), (7, .long (lN z4))]) hx hb dX5_step_112 hl (by decide) rfl (fun ls hl => ?_)
            refine lv_aload_n hx hb dX5_step_114 rfl (lv_at hl 4 rfl) ?_
            refine lv_iload hx hb dX5_step_115 (lv_at hl 3 rfl) ?_
            refine lv_lload hx hb dX5_step_117 (lv_at hl 1 rfl) ?_
            refine lv_lload hx hb dX5_step_119 (lv_at hl 0 rfl) ?_
            refine bm_xcallV (As := [.int (nI (z1 % ms.2.2.1)), .long t_38, .long t_47]) (rest := []) ⟨hx, hb, hml, hown, hts⟩ (y_go  (zp := z1 % ms.2.2.1) (z1 := t_38) (z2 := t_47) ok_ms_parts ok_ma_groups (Nat.lt_of_lt_of_le (Nat.mod_lt _ hpos) ok_ms_parts)) (cwV 3 hts (gdV (by decide +kernel) (by decide +kernel) (by decide +kernel) (by decide +kernel) (by decide +kernel)) rfl rfl rfl (by decide +kernel) ⟨Nat.le_of_ble_eq_true rfl, Nat.le_of_ble_eq_true rfl⟩) hK hP hD hS hA 42 5 rfl rfl rfl hl.1 rfl (Nat.le_of_ble_eq_true rfl) dX5_step_121 ⟨Nat.le_of_ble_eq_true rfl, Nat.le_of_ble_eq_true rfl⟩ (fun ws_48 r_49 h_50 H locs hP hD hS => ?_)
            obtain ⟨g_51, g_52, g_53, rfl, rfl⟩ := h_50
            have hP : va_P D vwCl (WW ad cJ cI cZ bm pa p0 p1 p2 li wi mt ms ma (g_51, g_52, mp.2.2) mk (mn.1, mn.2.1, mn.2.2.1, mn.2.2.2.1, g_53) ou) H := hP
            have hD : va_D A (WW ad cJ cI cZ bm pa p0 p1 p2 li wi mt ms ma (g_51, g_52, mp.2.2) mk (mn.1, mn.2.1, mn.2.2.1, mn.2.2.2.1, g_53) ou) := hD
            refine lv_aload_n hx hb dX5_step_124 rfl (lv_at hl 4 rfl) ?_
            refine lv_iload hx hb dX5_step_125 (lv_at hl 2 rfl) ?_
            refine lv_lconst (v := 0) hx hb dX5_step_127 (by decide) ?_
            refine lv_lload hx hb dX5_step_128 (lv_at hl 1 rfl) ?_
            refine lv_lsub hx hb dX5_step_130 ?_
            refine lv_topl (fun t_54 _ => ?_)
            refine lv_lconst (v := 0) hx hb dX5_step_131 (by decide) ?_
            refine lv_lload hx hb dX5_step_132 (lv_at hl 0 rfl) ?_
            refine lv_lsub hx hb dX5_step_134 ?_
            refine lv_topl (fun t_55 _ => ?_)
            refine bm_xcallV (As := [.int (nI (z3 % ms.2.2.1)), .long t_54, .long t_55]) (rest := []) ⟨hx, hb, hml, hown, hts⟩ (y_go (mp := (g_51, g_52, mp.2.2)) (mn := (mn.1, mn.2.1, mn.2.2.1, mn.2.2.2.1, g_53)) (zp := z3 % ms.2.2.1) (z1 := t_54) (z2 := t_55) ok_ms_parts ok_ma_groups (Nat.lt_of_lt_of_le (Nat.mod_lt _ hpos) ok_ms_parts)) (cwV 3 hts (gdV (by decide +kernel) (by decide +kernel) (by decide +kernel) (by decide +kernel) (by decide +kernel)) rfl rfl rfl (by decide +kernel) ⟨Nat.le_of_ble_eq_true rfl, Nat.le_of_ble_eq_true rfl⟩) hK hP hD hS hA 42 5 rfl rfl rfl hl.1 rfl (Nat.le_of_ble_eq_true rfl) dX5_step_135 ⟨Nat.le_of_ble_eq_true rfl, Nat.le_of_ble_eq_true rfl⟩ (fun ws_56 r_57 h_58 H locs hP hD hS => ?_)
            obtain ⟨g_59, g_60, g_61, rfl, rfl⟩ := h_58
            have hP : va_P D vwCl (WW ad cJ cI cZ bm pa p0 p1 p2 li wi mt ms ma (g_59, g_60, mp.2.2) mk (mn.1, mn.2.1, mn.2.2.1, mn.2.2.2.1, g_61) ou) H := hP
            have hD : va_D A (WW ad cJ cI cZ bm pa p0 p1 p2 li wi mt ms ma (g_59, g_60, mp.2.2) mk (mn.1, mn.2.1, mn.2.2.1, mn.2.2.2.1, g_61) ou) := hD
            refine lv_goto (tgt := 228) hx hb dX5_step_138 (by decide) ?_
            exact bm_vretX hx hb hr hP hD hK hS ⟨g_59, g_60, mp.2.2, g_61, ok_mp_turns, rfl, rfl⟩ dX5_step_228 hlocks
          · exact bm_vretX hx hb hr hP hD hK hS ⟨mp.1, mp.2.1, mp.2.2, mn.2.2.2.2, ok_mp_turns, rfl, rfl⟩ dX5_step_79 hlocks
    · exact bm_vretX hx hb hr hP hD hK hS ⟨mp.1, mp.2.1, mp.2.2, mn.2.2.2.2, ok_mp_turns, rfl, rfl⟩ dX5_step_41 hlocks

set_option maxHeartbeats 8000000 in
set_option maxRecDepth 100000 in
theorem y_changes {l : Launch} {D : va_G} {ad : Nat → Nat} {cJ cI cZ : ClassId} {bm : gBM} {pa : gPA} {p0 p1 p2 : gPL} {li : gLI} {wi : gWI} {mt : Nat} {ms : gMS} {ma : gMA} {mp : gMP} {mk : gMK} {mn : gMN} {ou : Nat → Int64}  (ok_ms_parts : ms.2.2.1 ≤ 40) (ok_mp_turns : ∀ i, mp.2.2 i < 40)   : bm_Wx l yX5_changes wsX5_changes ({ frames := 2, cells := 0, slots := 0, locals := 44 }) D vwCl [(cJ, .long), (cI, .int), (cZ, .boolean)] (WW ad cJ cI cZ bm pa p0 p1 p2 li wi mt ms ma mp mk mn ou) [.ref (ad 42)] (fun ws9 r9 => ws9 = (WW ad cJ cI cZ bm pa p0 p1 p2 li wi mt ms ma mp mk mn ou) ∧ ∃ b9 : Bool, r9 = some (.int (bm_b b9))) := by
  intro sz
  refine Met.ofW (cc := cX5_changes) (maxL := 3) (ret := (some .boolean)) (by decide) rfl ?_
  intro p e s m args below meth c s₁ B hml hv
  obtain ⟨ha, hsz, hP, hK, hD0⟩ := hv
  have hx := B.exec
  have hb := B.bytes
  have hr := B.returns
  have hts := atoms_spec (ws := wsX5_changes) B.pre
  have hown : s.vm.findClass RX5 = some m.cls := findClass_of_methodNamed B.named
  have hlocks := B.notSynchronized
  subst hsz
  have hD := hD0.self (sz := s.heap.size)
  generalize hAe : va_A (WW ad cJ cI cZ bm pa p0 p1 p2 li wi mt ms ma mp mk mn ou) s.heap.size = A at hD ⊢
  have hA : ∀ q : Nat, s.heap.size ≤ q → A q := fun q h => by rw [← hAe]; exact Or.inr h
  have hS : va_S A s.heap s.heap [] := va_S.rf
  have hl := lv_entry ([.ref (ad 42)]) (n := 3) (Nat.le_of_ble_eq_true rfl)
  refine W.eq (g2 := entryFrame m ([.ref (ad 42)] : List Value).toArray 3) (by rw [ha]) ?_
  rw [lg_entry_eq]
  generalize (lg_sl ([.ref (ad 42)]) ++ List.replicate (3 - (lg_sl ([.ref (ad 42)])).length) Slot.unset).toArray = ls at hl ⊢
  have hl : lv_has ls 3 [(0, .ref (ad 42))] := hl
  refine lv_iconst (v := bm_b false) hx hb dX5_changes_0 (by decide) ?_
  refine lv_istore_n (lv' := [(1, .int (bm_b false)), (0, .ref (ad 42))]) hx hb dX5_changes_1 rfl hl (by decide) rfl (fun ls hl => ?_)
  refine lv_iconst (v := nI 0) hx hb dX5_changes_2 (by decide) ?_
  refine lv_istore_n (lv' := [(2, .int (nI 0)), (1, .int (bm_b false)), (0, .ref (ad 42))]) hx hb dX5_changes_3 rfl hl (by decide) rfl (fun ls hl => ?_)
  have lp_1 : ∀ (k_3 : Nat) (i_2 : Nat) (v_5 : Bool), i_2 ≤ ms.2.2.1 → ms.2.2.1 < i_2 + k_3 → ∀ (H : Heap) (locs : List Loc), va_P D vwCl (WW ad cJ cI cZ bm pa p0 p1 p2 li wi mt ms ma mp mk mn ou) H → va_D A (WW ad cJ cI cZ bm pa p0 p1 p2 li wi mt ms ma mp mk mn ou) → va_S A s.heap H locs → ∀ (ls : Array Slot), lv_has ls 3 [(2, .int (nI i_2)), (1, .int (bm_b v_5)), (0, .ref (ad 42))] → W p l e (headSpec wsX5_changes ({ frames := 2, cells := 0, slots := 0, locals := 44 })).room s m args below meth c H locs 0 0 (MQ below (bm_Wxq D vwCl [(cJ, .long), (cI, .int), (cZ, .boolean)] (fun ws9 r9 => ws9 = (WW ad cJ cI cZ bm pa p0 p1 p2 li wi mt ms ma mp mk mn ou) ∧ ∃ b9 : Bool, r9 = some (.int (bm_b b9))) A) args s 0 0 A) (F0 m 4 ls []) := by
    intro k_3
    induction k_3 with
    | zero => intro i_2 v_5 hi_6 hk_7; exfalso; omega
    | succ k_3 ih_4 =>
      intro i_2 v_5 hi_6 hk_7  H locs hP hD hS ls hl
      refine lv_iload_n hx hb dX5_changes_4 rfl (lv_at hl 0 rfl) ?_
      refine lv_aload_n hx hb dX5_changes_5 rfl (lv_at hl 2 rfl) ?_
      refine va_get (D := D) (ci := 5) (v := .int (nI ms.2.2.1)) (C := RX5) (T := TX5) (N := 28) hx hb hts (inT inX5) hown hK hP 42 rfl rfl 3 (by decide) (hts (.fieldLink RX5 85 "BoardMovesModel" "parts" "I") (by decide +kernel)) (fun _ h9 => h9) rfl dX5_changes_6 ?_
      refine bm_ni_ge (x := i_2) (y := ms.2.2.1) (tgt := 46) hx hb (by omega) (by omega) dX5_changes_9 (by decide) (fun c_8 => ?_) (fun c_8 => ?_)
      · refine lv_iload_n hx hb dX5_changes_46 rfl (lv_at hl 1 rfl) ?_
        exact bm_zretX (v := v_5) hx hb hr hP hD hK hS ⟨rfl, v_5, rfl⟩ dX5_changes_47 hlocks
      · refine lv_iload_n hx hb dX5_changes_12 rfl (lv_at hl 1 rfl) ?_
        refine bm_zb_ne (x := v_5) (tgt := 34) hx hb dX5_changes_13 (by decide) (fun c_9 => ?_) (fun c_9 => ?_)
        · refine lv_iconst (v := bm_b true) hx hb dX5_changes_34 (by decide) ?_
          refine lv_goto (tgt := 39) hx hb dX5_changes_35 (by decide) ?_
          refine lv_istore_n (lv' := [(1, .int (bm_b true)), (2, .int (nI i_2)), (0, .ref (ad 42))]) hx hb dX5_changes_39 rfl hl (by decide) rfl (fun ls hl => ?_)
          refine lv_iinc (v := (nI (i_2 + 1))) (lv' := [(2, .int (nI (i_2 + 1))), (1, .int (bm_b true)), (0, .ref (ad 42))]) hx hb dX5_changes_40 hl (k := 1) rfl (nI_1 i_2) (by decide) rfl (fun ls hl => ?_)
          refine lv_goto (tgt := 4) hx hb dX5_changes_43 (by decide) ?_
          exact ih_4 (i_2 + 1) true (by omega) (by omega)  _ _ hP hD hS _ (lv_sub hl [0, 1, 2] rfl)
        · refine lv_aload_n hx hb dX5_changes_16 rfl (lv_at hl 2 rfl) ?_
          refine va_get (D := D) (ci := 5) (v := .ref (ad 49)) (C := RX5) (T := TX5) (N := 28) hx hb hts (inT inX5) hown hK hP 42 rfl rfl 10 (by decide) (hts (.fieldLink RX5 30 "BoardMovesModel" "placed" "[Z") (by decide +kernel)) (fun _ h9 => h9) rfl dX5_changes_17 ?_
          refine lv_iload_n hx hb dX5_changes_20 rfl (lv_at hl 0 rfl) ?_
          refine bm_zald (f := ma.2.2.2.2.2.2) hx hb hK hP 49 2 rfl rfl (j := i_2) (by omega) (by decide) dX5_changes_21 ?_
          refine bm_zb_eq (x := (ma.2.2.2.2.2.2 i_2)) (tgt := 38) hx hb dX5_changes_22 (by decide) (fun c_10 => ?_) (fun c_10 => ?_)
          · refine lv_iconst (v := bm_b false) hx hb dX5_changes_38 (by decide) ?_
            refine lv_istore_n (lv' := [(1, .int (bm_b false)), (2, .int (nI i_2)), (0, .ref (ad 42))]) hx hb dX5_changes_39 rfl hl (by decide) rfl (fun ls hl => ?_)
            refine lv_iinc (v := (nI (i_2 + 1))) (lv' := [(2, .int (nI (i_2 + 1))), (1, .int (bm_b false)), (0, .ref (ad 42))]) hx hb dX5_changes_40 hl (k := 1) rfl (nI_1 i_2) (by decide) rfl (fun ls hl => ?_)
            refine lv_goto (tgt := 4) hx hb dX5_changes_43 (by decide) ?_
            exact ih_4 (i_2 + 1) false (by omega) (by omega)  _ _ hP hD hS _ (lv_sub hl [0, 1, 2] rfl)
          · refine lv_aload_n hx hb dX5_changes_25 rfl (lv_at hl 2 rfl) ?_
            refine lv_iconst (v := nI 1) hx hb dX5_changes_26 (by decide) ?_
            refine lv_iload_n hx hb dX5_changes_27 rfl (lv_at hl 0 rfl) ?_
            refine bm_xcallV (As := [.int (nI 1), .int (nI i_2)]) (rest := []) ⟨hx, hb, hml, hown, hts⟩ (y_same  (zr := 1) (zp := i_2) ok_mp_turns (by omega) (by omega)) (cwV 2 hts (gdV (by decide +kernel) (by decide +kernel) (by decide +kernel) (by decide +kernel) (by decide +kernel)) rfl rfl rfl (by decide +kernel) ⟨Nat.le_of_ble_eq_true rfl, Nat.le_of_ble_eq_true rfl⟩) hK hP hD hS hA 42 5 rfl rfl rfl hl.1 rfl (Nat.le_of_ble_eq_true rfl) dX5_changes_28 ⟨Nat.le_of_ble_eq_true rfl, Nat.le_of_ble_eq_true rfl⟩ (fun ws_11 r_12 h_13 H locs hP hD hS => ?_)
            obtain ⟨rfl, v_14, rfl⟩ := h_13
            have hP : va_P D vwCl (WW ad cJ cI cZ bm pa p0 p1 p2 li wi mt ms ma mp mk mn ou) H := hP
            have hD : va_D A (WW ad cJ cI cZ bm pa p0 p1 p2 li wi mt ms ma mp mk mn ou) := hD
            refine bm_zb_ne (x := v_14) (tgt := 38) hx hb dX5_changes_31 (by decide) (fun c_15 => ?_) (fun c_15 => ?_)
            · refine lv_iconst (v := bm_b false) hx hb dX5_changes_38 (by decide) ?_
              refine lv_istore_n (lv' := [(1, .int (bm_b false)), (2, .int (nI i_2)), (0, .ref (ad 42))]) hx hb dX5_changes_39 rfl hl (by decide) rfl (fun ls hl => ?_)
              refine lv_iinc (v := (nI (i_2 + 1))) (lv' := [(2, .int (nI (i_2 + 1))), (1, .int (bm_b false)), (0, .ref (ad 42))]) hx hb dX5_changes_40 hl (k := 1) rfl (nI_1 i_2) (by decide) rfl (fun ls hl => ?_)
              refine lv_goto (tgt := 4) hx hb dX5_changes_43 (by decide) ?_
              exact ih_4 (i_2 + 1) false (by omega) (by omega)  _ _ hP hD hS _ (lv_sub hl [0, 1, 2] rfl)
            · refine lv_iconst (v := bm_b true) hx hb dX5_changes_34 (by decide) ?_
              refine lv_goto (tgt := 39) hx hb dX5_changes_35 (by decide) ?_
              refine lv_istore_n (lv' := [(1, .int (bm_b true)), (2, .int (nI i_2)), (0, .ref (ad 42))]) hx hb dX5_changes_39 rfl hl (by decide) rfl (fun ls hl => ?_)
              refine lv_iinc (v := (nI (i_2 + 1))) (lv' := [(2, .int (nI (i_2 + 1))), (1, .int (bm_b true)), (0, .ref (ad 42))]) hx hb dX5_changes_40 hl (k := 1) rfl (nI_1 i_2) (by decide) rfl (fun ls hl => ?_)
              refine lv_goto (tgt := 4) hx hb dX5_changes_43 (by decide) ?_
              exact ih_4 (i_2 + 1) true (by omega) (by omega)  _ _ hP hD hS _ (lv_sub hl [0, 1, 2] rfl)
  exact lp_1 (ms.2.2.1 + 1) 0 false (by omega) (by omega)  _ _ hP hD hS _ (lv_sub hl [0, 1, 2] rfl)
end
