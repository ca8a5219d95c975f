abbrev cX2_shiftGroup : ByteArray := prog_4_method_5_code
def yX2_shiftGroup : MethodName := ⟨RX2, "shiftGroup", "(IJJ)V"⟩
def wsX2_shiftGroup : List Cond := .code yX2_shiftGroup cX2_shiftGroup 7 none :: bT
theorem dX2_shiftGroup_0 : decode cX2_shiftGroup 0 = .ok (.iconst 0, 1) := by decide +kernel
theorem dX2_shiftGroup_1 : decode cX2_shiftGroup 1 = .ok (.istore 6, 2) := by decide +kernel
theorem dX2_shiftGroup_3 : decode cX2_shiftGroup 3 = .ok (.iload 6, 2) := by decide +kernel
theorem dX2_shiftGroup_5 : decode cX2_shiftGroup 5 = .ok (.aload_n 0, 1) := by decide +kernel
theorem dX2_shiftGroup_6 : decode cX2_shiftGroup 6 = .ok (.getfield 26, 3) := by decide +kernel
theorem dX2_shiftGroup_9 : decode cX2_shiftGroup 9 = .ok (.getfield 30, 3) := by decide +kernel
theorem dX2_shiftGroup_12 : decode cX2_shiftGroup 12 = .ok (.if_icmp .ge (55), 3) := by decide +kernel
theorem dX2_shiftGroup_15 : decode cX2_shiftGroup 15 = .ok (.aload_n 0, 1) := by decide +kernel
theorem dX2_shiftGroup_16 : decode cX2_shiftGroup 16 = .ok (.getfield 22, 3) := by decide +kernel
theorem dX2_shiftGroup_19 : decode cX2_shiftGroup 19 = .ok (.iload 6, 2) := by decide +kernel
theorem dX2_shiftGroup_21 : decode cX2_shiftGroup 21 = .ok (.baload, 1) := by decide +kernel
theorem dX2_shiftGroup_22 : decode cX2_shiftGroup 22 = .ok (.ifCond .eq (39), 3) := by decide +kernel
theorem dX2_shiftGroup_25 : decode cX2_shiftGroup 25 = .ok (.aload_n 0, 1) := by decide +kernel
theorem dX2_shiftGroup_26 : decode cX2_shiftGroup 26 = .ok (.getfield 26, 3) := by decide +kernel
theorem dX2_shiftGroup_29 : decode cX2_shiftGroup 29 = .ok (.iload 6, 2) := by decide +kernel
theorem dX2_shiftGroup_31 : decode cX2_shiftGroup 31 = .ok (.iload_n 1, 1) := by decide +kernel
theorem dX2_shiftGroup_32 : decode cX2_shiftGroup 32 = .ok (.invokevirtual 36, 3) := by decide +kernel
theorem dX2_shiftGroup_35 : decode cX2_shiftGroup 35 = .ok (.ifCond .eq (26), 3) := by decide +kernel
theorem dX2_shiftGroup_38 : decode cX2_shiftGroup 38 = .ok (.aload_n 0, 1) := by decide +kernel
theorem dX2_shiftGroup_39 : decode cX2_shiftGroup 39 = .ok (.getfield 9, 3) := by decide +kernel
theorem dX2_shiftGroup_42 : decode cX2_shiftGroup 42 = .ok (.iload 6, 2) := by decide +kernel
theorem dX2_shiftGroup_44 : decode cX2_shiftGroup 44 = .ok (.dup2, 1) := by decide +kernel
theorem dX2_shiftGroup_45 : decode cX2_shiftGroup 45 = .ok (.laload, 1) := by decide +kernel
theorem dX2_shiftGroup_46 : decode cX2_shiftGroup 46 = .ok (.lload_n 2, 1) := by decide +kernel
theorem dX2_shiftGroup_47 : decode cX2_shiftGroup 47 = .ok (.ladd, 1) := by decide +kernel
theorem dX2_shiftGroup_48 : decode cX2_shiftGroup 48 = .ok (.lastore, 1) := by decide +kernel
theorem dX2_shiftGroup_49 : decode cX2_shiftGroup 49 = .ok (.aload_n 0, 1) := by decide +kernel
theorem dX2_shiftGroup_50 : decode cX2_shiftGroup 50 = .ok (.getfield 15, 3) := by decide +kernel
theorem dX2_shiftGroup_53 : decode cX2_shiftGroup 53 = .ok (.iload 6, 2) := by decide +kernel
theorem dX2_shiftGroup_55 : decode cX2_shiftGroup 55 = .ok (.dup2, 1) := by decide +kernel
theorem dX2_shiftGroup_56 : decode cX2_shiftGroup 56 = .ok (.laload, 1) := by decide +kernel
theorem dX2_shiftGroup_57 : decode cX2_shiftGroup 57 = .ok (.lload 4, 2) := by decide +kernel
theorem dX2_shiftGroup_59 : decode cX2_shiftGroup 59 = .ok (.ladd, 1) := by decide +kernel
theorem dX2_shiftGroup_60 : decode cX2_shiftGroup 60 = .ok (.lastore, 1) := by decide +kernel
theorem dX2_shiftGroup_61 : decode cX2_shiftGroup 61 = .ok (.iinc 6 1, 3) := by decide +kernel
theorem dX2_shiftGroup_64 : decode cX2_shiftGroup 64 = .ok (.goto (-61), 3) := by decide +kernel
theorem dX2_shiftGroup_67 : decode cX2_shiftGroup 67 = .ok (.return_, 1) := by decide +kernel
abbrev cX2_copyFrom : ByteArray := prog_4_method_2_code
def yX2_copyFrom : MethodName := ⟨RX2, "copyFrom", "(LBoardMoves$Placement;)V"⟩
def wsX2_copyFrom : List Cond := .code yX2_copyFrom cX2_copyFrom 3 none :: bT
theorem dX2_copyFrom_0 : decode cX2_copyFrom 0 = .ok (.iconst 0, 1) := by decide +kernel
theorem dX2_copyFrom_1 : decode cX2_copyFrom 1 = .ok (.istore_n 2, 1) := by decide +kernel
theorem dX2_copyFrom_2 : decode cX2_copyFrom 2 = .ok (.iload_n 2, 1) := by decide +kernel
theorem dX2_copyFrom_3 : decode cX2_copyFrom 3 = .ok (.aload_n 0, 1) := by decide +kernel
theorem dX2_copyFrom_4 : decode cX2_copyFrom 4 = .ok (.getfield 26, 3) := by decide +kernel
theorem dX2_copyFrom_7 : decode cX2_copyFrom 7 = .ok (.getfield 30, 3) := by decide +kernel
theorem dX2_copyFrom_10 : decode cX2_copyFrom 10 = .ok (.if_icmp .ge (57), 3) := by decide +kernel
theorem dX2_copyFrom_13 : decode cX2_copyFrom 13 = .ok (.aload_n 0, 1) := by decide +kernel
theorem dX2_copyFrom_14 : decode cX2_copyFrom 14 = .ok (.getfield 9, 3) := by decide +kernel
theorem dX2_copyFrom_17 : decode cX2_copyFrom 17 = .ok (.iload_n 2, 1) := by decide +kernel
theorem dX2_copyFrom_18 : decode cX2_copyFrom 18 = .ok (.aload_n 1, 1) := by decide +kernel
theorem dX2_copyFrom_19 : decode cX2_copyFrom 19 = .ok (.getfield 9, 3) := by decide +kernel
theorem dX2_copyFrom_22 : decode cX2_copyFrom 22 = .ok (.iload_n 2, 1) := by decide +kernel
theorem dX2_copyFrom_23 : decode cX2_copyFrom 23 = .ok (.laload, 1) := by decide +kernel
theorem dX2_copyFrom_24 : decode cX2_copyFrom 24 = .ok (.lastore, 1) := by decide +kernel
theorem dX2_copyFrom_25 : decode cX2_copyFrom 25 = .ok (.aload_n 0, 1) := by decide +kernel
theorem dX2_copyFrom_26 : decode cX2_copyFrom 26 = .ok (.getfield 15, 3) := by decide +kernel
theorem dX2_copyFrom_29 : decode cX2_copyFrom 29 = .ok (.iload_n 2, 1) := by decide +kernel
theorem dX2_copyFrom_30 : decode cX2_copyFrom 30 = .ok (.aload_n 1, 1) := by decide +kernel
theorem dX2_copyFrom_31 : decode cX2_copyFrom 31 = .ok (.getfield 15, 3) := by decide +kernel
theorem dX2_copyFrom_34 : decode cX2_copyFrom 34 = .ok (.iload_n 2, 1) := by decide +kernel
theorem dX2_copyFrom_35 : decode cX2_copyFrom 35 = .ok (.laload, 1) := by decide +kernel
theorem dX2_copyFrom_36 : decode cX2_copyFrom 36 = .ok (.lastore, 1) := by decide +kernel
theorem dX2_copyFrom_37 : decode cX2_copyFrom 37 = .ok (.aload_n 0, 1) := by decide +kernel
theorem dX2_copyFrom_38 : decode cX2_copyFrom 38 = .ok (.getfield 18, 3) := by decide +kernel
theorem dX2_copyFrom_41 : decode cX2_copyFrom 41 = .ok (.iload_n 2, 1) := by decide +kernel
theorem dX2_copyFrom_42 : decode cX2_copyFrom 42 = .ok (.aload_n 1, 1) := by decide +kernel
theorem dX2_copyFrom_43 : decode cX2_copyFrom 43 = .ok (.getfield 18, 3) := by decide +kernel
theorem dX2_copyFrom_46 : decode cX2_copyFrom 46 = .ok (.iload_n 2, 1) := by decide +kernel
theorem dX2_copyFrom_47 : decode cX2_copyFrom 47 = .ok (.iaload, 1) := by decide +kernel
theorem dX2_copyFrom_48 : decode cX2_copyFrom 48 = .ok (.iastore, 1) := by decide +kernel
theorem dX2_copyFrom_49 : decode cX2_copyFrom 49 = .ok (.aload_n 0, 1) := by decide +kernel
theorem dX2_copyFrom_50 : decode cX2_copyFrom 50 = .ok (.getfield 22, 3) := by decide +kernel
theorem dX2_copyFrom_53 : decode cX2_copyFrom 53 = .ok (.iload_n 2, 1) := by decide +kernel
theorem dX2_copyFrom_54 : decode cX2_copyFrom 54 = .ok (.aload_n 1, 1) := by decide +kernel
theorem dX2_copyFrom_55 : decode cX2_copyFrom 55 = .ok (.getfield 22, 3) := by decide +kernel
theorem dX2_copyFrom_58 : decode cX2_copyFrom 58 = .ok (.iload_n 2, 1) := by decide +kernel
theorem dX2_copyFrom_59 : decode cX2_copyFrom 59 = .ok (.baload, 1) := by decide +kernel
theorem dX2_copyFrom_60 : decode cX2_copyFrom 60 = .ok (.bastore, 1) := by decide +kernel
theorem dX2_copyFrom_61 : decode cX2_copyFrom 61 = .ok (.iinc 2 1, 3) := by decide +kernel
theorem dX2_copyFrom_64 : decode cX2_copyFrom 64 = .ok (.goto (-62), 3) := by decide +kernel
theorem dX2_copyFrom_67 : decode cX2_copyFrom 67 = .ok (.return_, 1) := by decide +kernel
abbrev cX2_place : ByteArray := prog_4_method_4_code
def yX2_place : MethodName := ⟨RX2, "place", "(IJJI)V"⟩
def wsX2_place : List Cond := .code yX2_place cX2_place 7 none :: bT
theorem dX2_place_0 : decode cX2_place 0 = .ok (.aload_n 0, 1) := by decide +kernel
theorem dX2_place_1 : decode cX2_place 1 = .ok (.getfield 9, 3) := by decide +kernel
theorem dX2_place_4 : decode cX2_place 4 = .ok (.iload_n 1, 1) := by decide +kernel
theorem dX2_place_5 : decode cX2_place 5 = .ok (.lload_n 2, 1) := by decide +kernel
theorem dX2_place_6 : decode cX2_place 6 = .ok (.lastore, 1) := by decide +kernel
theorem dX2_place_7 : decode cX2_place 7 = .ok (.aload_n 0, 1) := by decide +kernel
theorem dX2_place_8 : decode cX2_place 8 = .ok (.getfield 15, 3) := by decide +kernel
theorem dX2_place_11 : decode cX2_place 11 = .ok (.iload_n 1, 1) := by decide +kernel
theorem dX2_place_12 : decode cX2_place 12 = .ok (.lload 4, 2) := by decide +kernel
theorem dX2_place_14 : decode cX2_place 14 = .ok (.lastore, 1) := by decide +kernel
theorem dX2_place_15 : decode cX2_place 15 = .ok (.aload_n 0, 1) := by decide +kernel
theorem dX2_place_16 : decode cX2_place 16 = .ok (.getfield 18, 3) := by decide +kernel
theorem dX2_place_19 : decode cX2_place 19 = .ok (.iload_n 1, 1) := by decide +kernel
theorem dX2_place_20 : decode cX2_place 20 = .ok (.iload 6, 2) := by decide +kernel
theorem dX2_place_22 : decode cX2_place 22 = .ok (.iastore, 1) := by decide +kernel
theorem dX2_place_23 : decode cX2_place 23 = .ok (.aload_n 0, 1) := by decide +kernel
theorem dX2_place_24 : decode cX2_place 24 = .ok (.getfield 22, 3) := by decide +kernel
theorem dX2_place_27 : decode cX2_place 27 = .ok (.iload_n 1, 1) := by decide +kernel
theorem dX2_place_28 : decode cX2_place 28 = .ok (.iconst 1, 1) := by decide +kernel
theorem dX2_place_29 : decode cX2_place 29 = .ok (.bastore, 1) := by decide +kernel
theorem dX2_place_30 : decode cX2_place 30 = .ok (.return_, 1) := by decide +kernel
abbrev cX1_add : ByteArray := prog_3_method_2_code
def yX1_add : MethodName := ⟨RX1, "add", "(JJI)I"⟩
def wsX1_add : List Cond := .code yX1_add cX1_add 6 (some .int) :: bT
theorem dX1_add_0 : decode cX1_add 0 = .ok (.aload_n 0, 1) := by decide +kernel
theorem dX1_add_1 : decode cX1_add 1 = .ok (.getfield 32, 3) := by decide +kernel
theorem dX1_add_4 : decode cX1_add 4 = .ok (.bipush 40, 2) := by decide +kernel
theorem dX1_add_6 : decode cX1_add 6 = .ok (.if_icmp .lt (5), 3) := by decide +kernel
theorem dX1_add_9 : decode cX1_add 9 = .ok (.iconst (-1), 1) := by decide +kernel
theorem dX1_add_10 : decode cX1_add 10 = .ok (.ireturn, 1) := by decide +kernel
theorem dX1_add_11 : decode cX1_add 11 = .ok (.aload_n 0, 1) := by decide +kernel
theorem dX1_add_12 : decode cX1_add 12 = .ok (.getfield 9, 3) := by decide +kernel
theorem dX1_add_15 : decode cX1_add 15 = .ok (.aload_n 0, 1) := by decide +kernel
theorem dX1_add_16 : decode cX1_add 16 = .ok (.getfield 32, 3) := by decide +kernel
theorem dX1_add_19 : decode cX1_add 19 = .ok (.lload_n 1, 1) := by decide +kernel
theorem dX1_add_20 : decode cX1_add 20 = .ok (.lastore, 1) := by decide +kernel
theorem dX1_add_21 : decode cX1_add 21 = .ok (.aload_n 0, 1) := by decide +kernel
theorem dX1_add_22 : decode cX1_add 22 = .ok (.getfield 15, 3) := by decide +kernel
theorem dX1_add_25 : decode cX1_add 25 = .ok (.aload_n 0, 1) := by decide +kernel
theorem dX1_add_26 : decode cX1_add 26 = .ok (.getfield 32, 3) := by decide +kernel
theorem dX1_add_29 : decode cX1_add 29 = .ok (.lload_n 3, 1) := by decide +kernel
theorem dX1_add_30 : decode cX1_add 30 = .ok (.lastore, 1) := by decide +kernel
theorem dX1_add_31 : decode cX1_add 31 = .ok (.aload_n 0, 1) := by decide +kernel
theorem dX1_add_32 : decode cX1_add 32 = .ok (.getfield 18, 3) := by decide +kernel
theorem dX1_add_35 : decode cX1_add 35 = .ok (.aload_n 0, 1) := by decide +kernel
theorem dX1_add_36 : decode cX1_add 36 = .ok (.getfield 32, 3) := by decide +kernel
theorem dX1_add_39 : decode cX1_add 39 = .ok (.iload 5, 2) := by decide +kernel
theorem dX1_add_41 : decode cX1_add 41 = .ok (.iastore, 1) := by decide +kernel
theorem dX1_add_42 : decode cX1_add 42 = .ok (.aload_n 0, 1) := by decide +kernel
theorem dX1_add_43 : decode cX1_add 43 = .ok (.getfield 29, 3) := by decide +kernel
theorem dX1_add_46 : decode cX1_add 46 = .ok (.aload_n 0, 1) := by decide +kernel
theorem dX1_add_47 : decode cX1_add 47 = .ok (.getfield 32, 3) := by decide +kernel
theorem dX1_add_50 : decode cX1_add 50 = .ok (.aload_n 0, 1) := by decide +kernel
theorem dX1_add_51 : decode cX1_add 51 = .ok (.getfield 32, 3) := by decide +kernel
theorem dX1_add_54 : decode cX1_add 54 = .ok (.iastore, 1) := by decide +kernel
theorem dX1_add_55 : decode cX1_add 55 = .ok (.aload_n 0, 1) := by decide +kernel
theorem dX1_add_56 : decode cX1_add 56 = .ok (.dup, 1) := by decide +kernel
theorem dX1_add_57 : decode cX1_add 57 = .ok (.getfield 32, 3) := by decide +kernel
theorem dX1_add_60 : decode cX1_add 60 = .ok (.iconst 1, 1) := by decide +kernel
theorem dX1_add_61 : decode cX1_add 61 = .ok (.iadd, 1) := by decide +kernel
theorem dX1_add_62 : decode cX1_add 62 = .ok (.putfield 32, 3) := by decide +kernel
theorem dX1_add_65 : decode cX1_add 65 = .ok (.aload_n 0, 1) := by decide +kernel
theorem dX1_add_66 : decode cX1_add 66 = .ok (.getfield 32, 3) := by decide +kernel
theorem dX1_add_69 : decode cX1_add 69 = .ok (.iconst 1, 1) := by decide +kernel
theorem dX1_add_70 : decode cX1_add 70 = .ok (.isub, 1) := by decide +kernel
theorem dX1_add_71 : decode cX1_add 71 = .ok (.ireturn, 1) := by decide +kernel
abbrev cX0_addKeepOut : ByteArray := prog_2_method_2_code
def yX0_addKeepOut : MethodName := ⟨RX0, "addKeepOut", "(JJJJJ)Z"⟩
def wsX0_addKeepOut : List Cond := .code yX0_addKeepOut cX0_addKeepOut 11 (some .boolean) :: bT
theorem dX0_addKeepOut_0 : decode cX0_addKeepOut 0 = .ok (.aload_n 0, 1) := by decide +kernel
theorem dX0_addKeepOut_1 : decode cX0_addKeepOut 1 = .ok (.getfield 37, 3) := by decide +kernel
theorem dX0_addKeepOut_4 : decode cX0_addKeepOut 4 = .ok (.bipush 10, 2) := by decide +kernel
theorem dX0_addKeepOut_6 : decode cX0_addKeepOut 6 = .ok (.if_icmp .lt (5), 3) := by decide +kernel
theorem dX0_addKeepOut_9 : decode cX0_addKeepOut 9 = .ok (.iconst 0, 1) := by decide +kernel
theorem dX0_addKeepOut_10 : decode cX0_addKeepOut 10 = .ok (.ireturn, 1) := by decide +kernel
theorem dX0_addKeepOut_11 : decode cX0_addKeepOut 11 = .ok (.aload_n 0, 1) := by decide +kernel
theorem dX0_addKeepOut_12 : decode cX0_addKeepOut 12 = .ok (.getfield 9, 3) := by decide +kernel
theorem dX0_addKeepOut_15 : decode cX0_addKeepOut 15 = .ok (.aload_n 0, 1) := by decide +kernel
theorem dX0_addKeepOut_16 : decode cX0_addKeepOut 16 = .ok (.getfield 37, 3) := by decide +kernel
theorem dX0_addKeepOut_19 : decode cX0_addKeepOut 19 = .ok (.lload_n 1, 1) := by decide +kernel
theorem dX0_addKeepOut_20 : decode cX0_addKeepOut 20 = .ok (.lastore, 1) := by decide +kernel
theorem dX0_addKeepOut_21 : decode cX0_addKeepOut 21 = .ok (.aload_n 0, 1) := by decide +kernel
theorem dX0_addKeepOut_22 : decode cX0_addKeepOut 22 = .ok (.getfield 15, 3) := by decide +kernel
theorem dX0_addKeepOut_25 : decode cX0_addKeepOut 25 = .ok (.aload_n 0, 1) := by decide +kernel
theorem dX0_addKeepOut_26 : decode cX0_addKeepOut 26 = .ok (.getfield 37, 3) := by decide +kernel
theorem dX0_addKeepOut_29 : decode cX0_addKeepOut 29 = .ok (.lload_n 3, 1) := by decide +kernel
theorem dX0_addKeepOut_30 : decode cX0_addKeepOut 30 = .ok (.lastore, 1) := by decide +kernel
theorem dX0_addKeepOut_31 : decode cX0_addKeepOut 31 = .ok (.aload_n 0, 1) := by decide +kernel
theorem dX0_addKeepOut_32 : decode cX0_addKeepOut 32 = .ok (.getfield 18, 3) := by decide +kernel
theorem dX0_addKeepOut_35 : decode cX0_addKeepOut 35 = .ok (.aload_n 0, 1) := by decide +kernel
theorem dX0_addKeepOut_36 : decode cX0_addKeepOut 36 = .ok (.getfield 37, 3) := by decide +kernel
theorem dX0_addKeepOut_39 : decode cX0_addKeepOut 39 = .ok (.lload 5, 2) := by decide +kernel
theorem dX0_addKeepOut_41 : decode cX0_addKeepOut 41 = .ok (.lastore, 1) := by decide +kernel
theorem dX0_addKeepOut_42 : decode cX0_addKeepOut 42 = .ok (.aload_n 0, 1) := by decide +kernel
theorem dX0_addKeepOut_43 : decode cX0_addKeepOut 43 = .ok (.getfield 21, 3) := by decide +kernel
theorem dX0_addKeepOut_46 : decode cX0_addKeepOut 46 = .ok (.aload_n 0, 1) := by decide +kernel
theorem dX0_addKeepOut_47 : decode cX0_addKeepOut 47 = .ok (.getfield 37, 3) := by decide +kernel
theorem dX0_addKeepOut_50 : decode cX0_addKeepOut 50 = .ok (.lload 7, 2) := by decide +kernel
theorem dX0_addKeepOut_52 : decode cX0_addKeepOut 52 = .ok (.lastore, 1) := by decide +kernel
theorem dX0_addKeepOut_53 : decode cX0_addKeepOut 53 = .ok (.aload_n 0, 1) := by decide +kernel
theorem dX0_addKeepOut_54 : decode cX0_addKeepOut 54 = .ok (.getfield 24, 3) := by decide +kernel
theorem dX0_addKeepOut_57 : decode cX0_addKeepOut 57 = .ok (.aload_n 0, 1) := by decide +kernel
theorem dX0_addKeepOut_58 : decode cX0_addKeepOut 58 = .ok (.getfield 37, 3) := by decide +kernel
theorem dX0_addKeepOut_61 : decode cX0_addKeepOut 61 = .ok (.lload 9, 2) := by decide +kernel
theorem dX0_addKeepOut_63 : decode cX0_addKeepOut 63 = .ok (.lastore, 1) := by decide +kernel
theorem dX0_addKeepOut_64 : decode cX0_addKeepOut 64 = .ok (.aload_n 0, 1) := by decide +kernel
theorem dX0_addKeepOut_65 : decode cX0_addKeepOut 65 = .ok (.dup, 1) := by decide +kernel
theorem dX0_addKeepOut_66 : decode cX0_addKeepOut 66 = .ok (.getfield 37, 3) := by decide +kernel
theorem dX0_addKeepOut_69 : decode cX0_addKeepOut 69 = .ok (.iconst 1, 1) := by decide +kernel
theorem dX0_addKeepOut_70 : decode cX0_addKeepOut 70 = .ok (.iadd, 1) := by decide +kernel
theorem dX0_addKeepOut_71 : decode cX0_addKeepOut 71 = .ok (.putfield 37, 3) := by decide +kernel
theorem dX0_addKeepOut_74 : decode cX0_addKeepOut 74 = .ok (.iconst 1, 1) := by decide +kernel
theorem dX0_addKeepOut_75 : decode cX0_addKeepOut 75 = .ok (.ireturn, 1) := by decide +kernel
abbrev cX0_addNear : ByteArray := prog_2_method_4_code
def yX0_addNear : MethodName := ⟨RX0, "addNear", "(IIJ)Z"⟩
def wsX0_addNear : List Cond := .code yX0_addNear cX0_addNear 5 (some .boolean) :: bT
theorem dX0_addNear_0 : decode cX0_addNear 0 = .ok (.aload_n 0, 1) := by decide +kernel
theorem dX0_addNear_1 : decode cX0_addNear 1 = .ok (.getfield 41, 3) := by decide +kernel
theorem dX0_addNear_4 : decode cX0_addNear 4 = .ok (.bipush 20, 2) := by decide +kernel
theorem dX0_addNear_6 : decode cX0_addNear 6 = .ok (.if_icmp .lt (5), 3) := by decide +kernel
theorem dX0_addNear_9 : decode cX0_addNear 9 = .ok (.iconst 0, 1) := by decide +kernel
theorem dX0_addNear_10 : decode cX0_addNear 10 = .ok (.ireturn, 1) := by decide +kernel
theorem dX0_addNear_11 : decode cX0_addNear 11 = .ok (.aload_n 0, 1) := by decide +kernel
theorem dX0_addNear_12 : decode cX0_addNear 12 = .ok (.getfield 27, 3) := by decide +kernel
theorem dX0_addNear_15 : decode cX0_addNear 15 = .ok (.aload_n 0, 1) := by decide +kernel
theorem dX0_addNear_16 : decode cX0_addNear 16 = .ok (.getfield 41, 3) := by decide +kernel
theorem dX0_addNear_19 : decode cX0_addNear 19 = .ok (.iload_n 1, 1) := by decide +kernel
theorem dX0_addNear_20 : decode cX0_addNear 20 = .ok (.iastore, 1) := by decide +kernel
theorem dX0_addNear_21 : decode cX0_addNear 21 = .ok (.aload_n 0, 1) := by decide +kernel
theorem dX0_addNear_22 : decode cX0_addNear 22 = .ok (.getfield 31, 3) := by decide +kernel
theorem dX0_addNear_25 : decode cX0_addNear 25 = .ok (.aload_n 0, 1) := by decide +kernel
theorem dX0_addNear_26 : decode cX0_addNear 26 = .ok (.getfield 41, 3) := by decide +kernel
theorem dX0_addNear_29 : decode cX0_addNear 29 = .ok (.iload_n 2, 1) := by decide +kernel
theorem dX0_addNear_30 : decode cX0_addNear 30 = .ok (.iastore, 1) := by decide +kernel
theorem dX0_addNear_31 : decode cX0_addNear 31 = .ok (.aload_n 0, 1) := by decide +kernel
theorem dX0_addNear_32 : decode cX0_addNear 32 = .ok (.getfield 34, 3) := by decide +kernel
theorem dX0_addNear_35 : decode cX0_addNear 35 = .ok (.aload_n 0, 1) := by decide +kernel
theorem dX0_addNear_36 : decode cX0_addNear 36 = .ok (.getfield 41, 3) := by decide +kernel
theorem dX0_addNear_39 : decode cX0_addNear 39 = .ok (.lload_n 3, 1) := by decide +kernel
theorem dX0_addNear_40 : decode cX0_addNear 40 = .ok (.lastore, 1) := by decide +kernel
theorem dX0_addNear_41 : decode cX0_addNear 41 = .ok (.aload_n 0, 1) := by decide +kernel
theorem dX0_addNear_42 : decode cX0_addNear 42 = .ok (.dup, 1) := by decide +kernel
theorem dX0_addNear_43 : decode cX0_addNear 43 = .ok (.getfield 41, 3) := by decide +kernel
theorem dX0_addNear_46 : decode cX0_addNear 46 = .ok (.iconst 1, 1) := by decide +kernel
theorem dX0_addNear_47 : decode cX0_addNear 47 = .ok (.iadd, 1) := by decide +kernel
theorem dX0_addNear_48 : decode cX0_addNear 48 = .ok (.putfield 41, 3) := by decide +kernel
theorem dX0_addNear_51 : decode cX0_addNear 51 = .ok (.iconst 1, 1) := by decide +kernel
theorem dX0_addNear_52 : decode cX0_addNear 52 = .ok (.ireturn, 1) := by decide +kernel
abbrev cX3_addNet : ByteArray := prog_5_method_2_code
def yX3_addNet : MethodName := ⟨RX3, "addNet", "()I"⟩
def wsX3_addNet : List Cond := .code yX3_addNet cX3_addNet 1 (some .int) :: bT
theorem dX3_addNet_0 : decode cX3_addNet 0 = .ok (.aload_n 0, 1) := by decide +kernel
theorem dX3_addNet_1 : decode cX3_addNet 1 = .ok (.getfield 41, 3) := by decide +kernel
theorem dX3_addNet_4 : decode cX3_addNet 4 = .ok (.bipush 40, 2) := by decide +kernel
theorem dX3_addNet_6 : decode cX3_addNet 6 = .ok (.if_icmp .lt (5), 3) := by decide +kernel
theorem dX3_addNet_9 : decode cX3_addNet 9 = .ok (.iconst (-1), 1) := by decide +kernel
theorem dX3_addNet_10 : decode cX3_addNet 10 = .ok (.ireturn, 1) := by decide +kernel
theorem dX3_addNet_11 : decode cX3_addNet 11 = .ok (.aload_n 0, 1) := by decide +kernel
theorem dX3_addNet_12 : decode cX3_addNet 12 = .ok (.dup, 1) := by decide +kernel
theorem dX3_addNet_13 : decode cX3_addNet 13 = .ok (.getfield 41, 3) := by decide +kernel
theorem dX3_addNet_16 : decode cX3_addNet 16 = .ok (.iconst 1, 1) := by decide +kernel
theorem dX3_addNet_17 : decode cX3_addNet 17 = .ok (.iadd, 1) := by decide +kernel
theorem dX3_addNet_18 : decode cX3_addNet 18 = .ok (.putfield 41, 3) := by decide +kernel
theorem dX3_addNet_21 : decode cX3_addNet 21 = .ok (.aload_n 0, 1) := by decide +kernel
theorem dX3_addNet_22 : decode cX3_addNet 22 = .ok (.getfield 41, 3) := by decide +kernel
theorem dX3_addNet_25 : decode cX3_addNet 25 = .ok (.iconst 1, 1) := by decide +kernel
theorem dX3_addNet_26 : decode cX3_addNet 26 = .ok (.isub, 1) := by decide +kernel
theorem dX3_addNet_27 : decode cX3_addNet 27 = .ok (.ireturn, 1) := by decide +kernel
abbrev cX3_addPin : ByteArray := prog_5_method_3_code
def yX3_addPin : MethodName := ⟨RX3, "addPin", "(IIJJ)Z"⟩
def wsX3_addPin : List Cond := .code yX3_addPin cX3_addPin 7 (some .boolean) :: bT
theorem dX3_addPin_0 : decode cX3_addPin 0 = .ok (.aload_n 0, 1) := by decide +kernel
theorem dX3_addPin_1 : decode cX3_addPin 1 = .ok (.getfield 45, 3) := by decide +kernel
theorem dX3_addPin_4 : decode cX3_addPin 4 = .ok (.bipush 120, 2) := by decide +kernel
theorem dX3_addPin_6 : decode cX3_addPin 6 = .ok (.if_icmp .lt (5), 3) := by decide +kernel
theorem dX3_addPin_9 : decode cX3_addPin 9 = .ok (.iconst 0, 1) := by decide +kernel
theorem dX3_addPin_10 : decode cX3_addPin 10 = .ok (.ireturn, 1) := by decide +kernel
theorem dX3_addPin_11 : decode cX3_addPin 11 = .ok (.aload_n 0, 1) := by decide +kernel
theorem dX3_addPin_12 : decode cX3_addPin 12 = .ok (.getfield 9, 3) := by decide +kernel
theorem dX3_addPin_15 : decode cX3_addPin 15 = .ok (.aload_n 0, 1) := by decide +kernel
theorem dX3_addPin_16 : decode cX3_addPin 16 = .ok (.getfield 45, 3) := by decide +kernel
theorem dX3_addPin_19 : decode cX3_addPin 19 = .ok (.iload_n 1, 1) := by decide +kernel
theorem dX3_addPin_20 : decode cX3_addPin 20 = .ok (.iastore, 1) := by decide +kernel
theorem dX3_addPin_21 : decode cX3_addPin 21 = .ok (.aload_n 0, 1) := by decide +kernel
theorem dX3_addPin_22 : decode cX3_addPin 22 = .ok (.getfield 15, 3) := by decide +kernel
theorem dX3_addPin_25 : decode cX3_addPin 25 = .ok (.aload_n 0, 1) := by decide +kernel
theorem dX3_addPin_26 : decode cX3_addPin 26 = .ok (.getfield 45, 3) := by decide +kernel
theorem dX3_addPin_29 : decode cX3_addPin 29 = .ok (.iload_n 2, 1) := by decide +kernel
theorem dX3_addPin_30 : decode cX3_addPin 30 = .ok (.iastore, 1) := by decide +kernel
theorem dX3_addPin_31 : decode cX3_addPin 31 = .ok (.aload_n 0, 1) := by decide +kernel
theorem dX3_addPin_32 : decode cX3_addPin 32 = .ok (.getfield 18, 3) := by decide +kernel
theorem dX3_addPin_35 : decode cX3_addPin 35 = .ok (.aload_n 0, 1) := by decide +kernel
theorem dX3_addPin_36 : decode cX3_addPin 36 = .ok (.getfield 45, 3) := by decide +kernel
theorem dX3_addPin_39 : decode cX3_addPin 39 = .ok (.lload_n 3, 1) := by decide +kernel
theorem dX3_addPin_40 : decode cX3_addPin 40 = .ok (.lastore, 1) := by decide +kernel
theorem dX3_addPin_41 : decode cX3_addPin 41 = .ok (.aload_n 0, 1) := by decide +kernel
theorem dX3_addPin_42 : decode cX3_addPin 42 = .ok (.getfield 22, 3) := by decide +kernel
theorem dX3_addPin_45 : decode cX3_addPin 45 = .ok (.aload_n 0, 1) := by decide +kernel
theorem dX3_addPin_46 : decode cX3_addPin 46 = .ok (.getfield 45, 3) := by decide +kernel
theorem dX3_addPin_49 : decode cX3_addPin 49 = .ok (.lload 5, 2) := by decide +kernel
theorem dX3_addPin_51 : decode cX3_addPin 51 = .ok (.lastore, 1) := by decide +kernel
theorem dX3_addPin_52 : decode cX3_addPin 52 = .ok (.aload_n 0, 1) := by decide +kernel
theorem dX3_addPin_53 : decode cX3_addPin 53 = .ok (.dup, 1) := by decide +kernel
theorem dX3_addPin_54 : decode cX3_addPin 54 = .ok (.getfield 45, 3) := by decide +kernel
theorem dX3_addPin_57 : decode cX3_addPin 57 = .ok (.iconst 1, 1) := by decide +kernel
theorem dX3_addPin_58 : decode cX3_addPin 58 = .ok (.iadd, 1) := by decide +kernel
theorem dX3_addPin_59 : decode cX3_addPin 59 = .ok (.putfield 45, 3) := by decide +kernel
theorem dX3_addPin_62 : decode cX3_addPin 62 = .ok (.iconst 1, 1) := by decide +kernel
theorem dX3_addPin_63 : decode cX3_addPin 63 = .ok (.ireturn, 1) := by decide +kernel
abbrev cX3_turnedX : ByteArray := prog_5_method_6_code
def yX3_turnedX : MethodName := ⟨RX3, "turnedX", "(III)J"⟩
def wsX3_turnedX : List Cond := .code yX3_turnedX cX3_turnedX 4 (some .long) :: bT
theorem dX3_turnedX_0 : decode cX3_turnedX 0 = .ok (.iload_n 3, 1) := by decide +kernel
theorem dX3_turnedX_1 : decode cX3_turnedX 1 = .ok (.tableswitch 68 1 3 #[27, 44, 61], 27) := by decide +kernel
theorem dX3_turnedX_28 : decode cX3_turnedX 28 = .ok (.aload_n 0, 1) := by decide +kernel
theorem dX3_turnedX_29 : decode cX3_turnedX 29 = .ok (.getfield 48, 3) := by decide +kernel
theorem dX3_turnedX_32 : decode cX3_turnedX 32 = .ok (.getfield 86, 3) := by decide +kernel
theorem dX3_turnedX_35 : decode cX3_turnedX 35 = .ok (.iload_n 2, 1) := by decide +kernel
theorem dX3_turnedX_36 : decode cX3_turnedX 36 = .ok (.laload, 1) := by decide +kernel
theorem dX3_turnedX_37 : decode cX3_turnedX 37 = .ok (.aload_n 0, 1) := by decide +kernel
theorem dX3_turnedX_38 : decode cX3_turnedX 38 = .ok (.getfield 22, 3) := by decide +kernel
theorem dX3_turnedX_41 : decode cX3_turnedX 41 = .ok (.iload_n 1, 1) := by decide +kernel
theorem dX3_turnedX_42 : decode cX3_turnedX 42 = .ok (.laload, 1) := by decide +kernel
theorem dX3_turnedX_43 : decode cX3_turnedX 43 = .ok (.lsub, 1) := by decide +kernel
theorem dX3_turnedX_44 : decode cX3_turnedX 44 = .ok (.lreturn, 1) := by decide +kernel
theorem dX3_turnedX_45 : decode cX3_turnedX 45 = .ok (.aload_n 0, 1) := by decide +kernel
theorem dX3_turnedX_46 : decode cX3_turnedX 46 = .ok (.getfield 48, 3) := by decide +kernel
theorem dX3_turnedX_49 : decode cX3_turnedX 49 = .ok (.getfield 91, 3) := by decide +kernel
theorem dX3_turnedX_52 : decode cX3_turnedX 52 = .ok (.iload_n 2, 1) := by decide +kernel
theorem dX3_turnedX_53 : decode cX3_turnedX 53 = .ok (.laload, 1) := by decide +kernel
theorem dX3_turnedX_54 : decode cX3_turnedX 54 = .ok (.aload_n 0, 1) := by decide +kernel
theorem dX3_turnedX_55 : decode cX3_turnedX 55 = .ok (.getfield 18, 3) := by decide +kernel
theorem dX3_turnedX_58 : decode cX3_turnedX 58 = .ok (.iload_n 1, 1) := by decide +kernel
theorem dX3_turnedX_59 : decode cX3_turnedX 59 = .ok (.laload, 1) := by decide +kernel
theorem dX3_turnedX_60 : decode cX3_turnedX 60 = .ok (.lsub, 1) := by decide +kernel
theorem dX3_turnedX_61 : decode cX3_turnedX 61 = .ok (.lreturn, 1) := by decide +kernel
theorem dX3_turnedX_62 : decode cX3_turnedX 62 = .ok (.aload_n 0, 1) := by decide +kernel
theorem dX3_turnedX_63 : decode cX3_turnedX 63 = .ok (.getfield 22, 3) := by decide +kernel
theorem dX3_turnedX_66 : decode cX3_turnedX 66 = .ok (.iload_n 1, 1) := by decide +kernel
theorem dX3_turnedX_67 : decode cX3_turnedX 67 = .ok (.laload, 1) := by decide +kernel
theorem dX3_turnedX_68 : decode cX3_turnedX 68 = .ok (.lreturn, 1) := by decide +kernel
theorem dX3_turnedX_69 : decode cX3_turnedX 69 = .ok (.aload_n 0, 1) := by decide +kernel
theorem dX3_turnedX_70 : decode cX3_turnedX 70 = .ok (.getfield 18, 3) := by decide +kernel
theorem dX3_turnedX_73 : decode cX3_turnedX 73 = .ok (.iload_n 1, 1) := by decide +kernel
theorem dX3_turnedX_74 : decode cX3_turnedX 74 = .ok (.laload, 1) := by decide +kernel
theorem dX3_turnedX_75 : decode cX3_turnedX 75 = .ok (.lreturn, 1) := by decide +kernel
abbrev cX3_turnedY : ByteArray := prog_5_method_7_code
def yX3_turnedY : MethodName := ⟨RX3, "turnedY", "(III)J"⟩
def wsX3_turnedY : List Cond := .code yX3_turnedY cX3_turnedY 4 (some .long) :: bT
theorem dX3_turnedY_0 : decode cX3_turnedY 0 = .ok (.iload_n 3, 1) := by decide +kernel
theorem dX3_turnedY_1 : decode cX3_turnedY 1 = .ok (.tableswitch 68 1 3 #[27, 34, 51], 27) := by decide +kernel
theorem dX3_turnedY_28 : decode cX3_turnedY 28 = .ok (.aload_n 0, 1) := by decide +kernel
theorem dX3_turnedY_29 : decode cX3_turnedY 29 = .ok (.getfield 18, 3) := by decide +kernel
theorem dX3_turnedY_32 : decode cX3_turnedY 32 = .ok (.iload_n 1, 1) := by decide +kernel
theorem dX3_turnedY_33 : decode cX3_turnedY 33 = .ok (.laload, 1) := by decide +kernel
theorem dX3_turnedY_34 : decode cX3_turnedY 34 = .ok (.lreturn, 1) := by decide +kernel
theorem dX3_turnedY_35 : decode cX3_turnedY 35 = .ok (.aload_n 0, 1) := by decide +kernel
theorem dX3_turnedY_36 : decode cX3_turnedY 36 = .ok (.getfield 48, 3) := by decide +kernel
theorem dX3_turnedY_39 : decode cX3_turnedY 39 = .ok (.getfield 86, 3) := by decide +kernel
theorem dX3_turnedY_42 : decode cX3_turnedY 42 = .ok (.iload_n 2, 1) := by decide +kernel
theorem dX3_turnedY_43 : decode cX3_turnedY 43 = .ok (.laload, 1) := by decide +kernel
theorem dX3_turnedY_44 : decode cX3_turnedY 44 = .ok (.aload_n 0, 1) := by decide +kernel
theorem dX3_turnedY_45 : decode cX3_turnedY 45 = .ok (.getfield 22, 3) := by decide +kernel
theorem dX3_turnedY_48 : decode cX3_turnedY 48 = .ok (.iload_n 1, 1) := by decide +kernel
theorem dX3_turnedY_49 : decode cX3_turnedY 49 = .ok (.laload, 1) := by decide +kernel
theorem dX3_turnedY_50 : decode cX3_turnedY 50 = .ok (.lsub, 1) := by decide +kernel
theorem dX3_turnedY_51 : decode cX3_turnedY 51 = .ok (.lreturn, 1) := by decide +kernel
theorem dX3_turnedY_52 : decode cX3_turnedY 52 = .ok (.aload_n 0, 1) := by decide +kernel
theorem dX3_turnedY_53 : decode cX3_turnedY 53 = .ok (.getfield 48, 3) := by decide +kernel
theorem dX3_turnedY_56 : decode cX3_turnedY 56 = .ok (.getfield 91, 3) := by decide +kernel
theorem dX3_turnedY_59 : decode cX3_turnedY 59 = .ok (.iload_n 2, 1) := by decide +kernel
theorem dX3_turnedY_60 : decode cX3_turnedY 60 = .ok (.laload, 1) := by decide +kernel
theorem dX3_turnedY_61 : decode cX3_turnedY 61 = .ok (.aload_n 0, 1) := by decide +kernel
theorem dX3_turnedY_62 : decode cX3_turnedY 62 = .ok (.getfield 18, 3) := by decide +kernel
theorem dX3_turnedY_65 : decode cX3_turnedY 65 = .ok (.iload_n 1, 1) := by decide +kernel
theorem dX3_turnedY_66 : decode cX3_turnedY 66 = .ok (.laload, 1) := by decide +kernel
theorem dX3_turnedY_67 : decode cX3_turnedY 67 = .ok (.lsub, 1) := by decide +kernel
theorem dX3_turnedY_68 : decode cX3_turnedY 68 = .ok (.lreturn, 1) := by decide +kernel
theorem dX3_turnedY_69 : decode cX3_turnedY 69 = .ok (.aload_n 0, 1) := by decide +kernel
theorem dX3_turnedY_70 : decode cX3_turnedY 70 = .ok (.getfield 22, 3) := by decide +kernel
theorem dX3_turnedY_73 : decode cX3_turnedY 73 = .ok (.iload_n 1, 1) := by decide +kernel
theorem dX3_turnedY_74 : decode cX3_turnedY 74 = .ok (.laload, 1) := by decide +kernel
theorem dX3_turnedY_75 : decode cX3_turnedY 75 = .ok (.lreturn, 1) := by decide +kernel
abbrev cX3_reach : ByteArray := prog_5_method_5_code
def yX3_reach : MethodName := ⟨RX3, "reach", "(IJJ)V"⟩
def wsX3_reach : List Cond := .code yX3_reach cX3_reach 7 none :: bT
theorem dX3_reach_0 : decode cX3_reach 0 = .ok (.aload_n 0, 1) := by decide +kernel
theorem dX3_reach_1 : decode cX3_reach 1 = .ok (.getfield 25, 3) := by decide +kernel
theorem dX3_reach_4 : decode cX3_reach 4 = .ok (.iload_n 1, 1) := by decide +kernel
theorem dX3_reach_5 : decode cX3_reach 5 = .ok (.baload, 1) := by decide +kernel
theorem dX3_reach_6 : decode cX3_reach 6 = .ok (.ifCond .ne (7), 3) := by decide +kernel
theorem dX3_reach_9 : decode cX3_reach 9 = .ok (.iconst 1, 1) := by decide +kernel
theorem dX3_reach_10 : decode cX3_reach 10 = .ok (.goto (4), 3) := by decide +kernel
theorem dX3_reach_13 : decode cX3_reach 13 = .ok (.iconst 0, 1) := by decide +kernel
theorem dX3_reach_14 : decode cX3_reach 14 = .ok (.istore 6, 2) := by decide +kernel
theorem dX3_reach_16 : decode cX3_reach 16 = .ok (.aload_n 0, 1) := by decide +kernel
theorem dX3_reach_17 : decode cX3_reach 17 = .ok (.getfield 25, 3) := by decide +kernel
theorem dX3_reach_20 : decode cX3_reach 20 = .ok (.iload_n 1, 1) := by decide +kernel
theorem dX3_reach_21 : decode cX3_reach 21 = .ok (.iconst 1, 1) := by decide +kernel
theorem dX3_reach_22 : decode cX3_reach 22 = .ok (.bastore, 1) := by decide +kernel
theorem dX3_reach_23 : decode cX3_reach 23 = .ok (.aload_n 0, 1) := by decide +kernel
theorem dX3_reach_24 : decode cX3_reach 24 = .ok (.getfield 29, 3) := by decide +kernel
theorem dX3_reach_27 : decode cX3_reach 27 = .ok (.iload_n 1, 1) := by decide +kernel
theorem dX3_reach_28 : decode cX3_reach 28 = .ok (.iload 6, 2) := by decide +kernel
theorem dX3_reach_30 : decode cX3_reach 30 = .ok (.ifCond .eq (7), 3) := by decide +kernel
theorem dX3_reach_33 : decode cX3_reach 33 = .ok (.lload_n 2, 1) := by decide +kernel
theorem dX3_reach_34 : decode cX3_reach 34 = .ok (.goto (13), 3) := by decide +kernel
theorem dX3_reach_37 : decode cX3_reach 37 = .ok (.aload_n 0, 1) := by decide +kernel
theorem dX3_reach_38 : decode cX3_reach 38 = .ok (.getfield 29, 3) := by decide +kernel
theorem dX3_reach_41 : decode cX3_reach 41 = .ok (.iload_n 1, 1) := by decide +kernel
theorem dX3_reach_42 : decode cX3_reach 42 = .ok (.laload, 1) := by decide +kernel
theorem dX3_reach_43 : decode cX3_reach 43 = .ok (.lload_n 2, 1) := by decide +kernel
theorem dX3_reach_44 : decode cX3_reach 44 = .ok (.invokestatic 77, 3) := by decide +kernel
theorem dX3_reach_47 : decode cX3_reach 47 = .ok (.lastore, 1) := by decide +kernel
theorem dX3_reach_48 : decode cX3_reach 48 = .ok (.aload_n 0, 1) := by decide +kernel
theorem dX3_reach_49 : decode cX3_reach 49 = .ok (.getfield 32, 3) := by decide +kernel
theorem dX3_reach_52 : decode cX3_reach 52 = .ok (.iload_n 1, 1) := by decide +kernel
theorem dX3_reach_53 : decode cX3_reach 53 = .ok (.iload 6, 2) := by decide +kernel
theorem dX3_reach_55 : decode cX3_reach 55 = .ok (.ifCond .eq (7), 3) := by decide +kernel
theorem dX3_reach_58 : decode cX3_reach 58 = .ok (.lload_n 2, 1) := by decide +kernel
theorem dX3_reach_59 : decode cX3_reach 59 = .ok (.goto (13), 3) := by decide +kernel
theorem dX3_reach_62 : decode cX3_reach 62 = .ok (.aload_n 0, 1) := by decide +kernel
theorem dX3_reach_63 : decode cX3_reach 63 = .ok (.getfield 32, 3) := by decide +kernel
theorem dX3_reach_66 : decode cX3_reach 66 = .ok (.iload_n 1, 1) := by decide +kernel
theorem dX3_reach_67 : decode cX3_reach 67 = .ok (.laload, 1) := by decide +kernel
theorem dX3_reach_68 : decode cX3_reach 68 = .ok (.lload_n 2, 1) := by decide +kernel
theorem dX3_reach_69 : decode cX3_reach 69 = .ok (.invokestatic 83, 3) := by decide +kernel
theorem dX3_reach_72 : decode cX3_reach 72 = .ok (.lastore, 1) := by decide +kernel
theorem dX3_reach_73 : decode cX3_reach 73 = .ok (.aload_n 0, 1) := by decide +kernel
theorem dX3_reach_74 : decode cX3_reach 74 = .ok (.getfield 35, 3) := by decide +kernel
theorem dX3_reach_77 : decode cX3_reach 77 = .ok (.iload_n 1, 1) := by decide +kernel
theorem dX3_reach_78 : decode cX3_reach 78 = .ok (.iload 6, 2) := by decide +kernel
theorem dX3_reach_80 : decode cX3_reach 80 = .ok (.ifCond .eq (8), 3) := by decide +kernel
theorem dX3_reach_83 : decode cX3_reach 83 = .ok (.lload 4, 2) := by decide +kernel
theorem dX3_reach_85 : decode cX3_reach 85 = .ok (.goto (14), 3) := by decide +kernel
theorem dX3_reach_88 : decode cX3_reach 88 = .ok (.aload_n 0, 1) := by decide +kernel
theorem dX3_reach_89 : decode cX3_reach 89 = .ok (.getfield 35, 3) := by decide +kernel
theorem dX3_reach_92 : decode cX3_reach 92 = .ok (.iload_n 1, 1) := by decide +kernel
theorem dX3_reach_93 : decode cX3_reach 93 = .ok (.laload, 1) := by decide +kernel
theorem dX3_reach_94 : decode cX3_reach 94 = .ok (.lload 4, 2) := by decide +kernel
theorem dX3_reach_96 : decode cX3_reach 96 = .ok (.invokestatic 77, 3) := by decide +kernel
theorem dX3_reach_99 : decode cX3_reach 99 = .ok (.lastore, 1) := by decide +kernel
theorem dX3_reach_100 : decode cX3_reach 100 = .ok (.aload_n 0, 1) := by decide +kernel
theorem dX3_reach_101 : decode cX3_reach 101 = .ok (.getfield 38, 3) := by decide +kernel
theorem dX3_reach_104 : decode cX3_reach 104 = .ok (.iload_n 1, 1) := by decide +kernel
theorem dX3_reach_105 : decode cX3_reach 105 = .ok (.iload 6, 2) := by decide +kernel
theorem dX3_reach_107 : decode cX3_reach 107 = .ok (.ifCond .eq (8), 3) := by decide +kernel
theorem dX3_reach_110 : decode cX3_reach 110 = .ok (.lload 4, 2) := by decide +kernel
theorem dX3_reach_112 : decode cX3_reach 112 = .ok (.goto (14), 3) := by decide +kernel
theorem dX3_reach_115 : decode cX3_reach 115 = .ok (.aload_n 0, 1) := by decide +kernel
theorem dX3_reach_116 : decode cX3_reach 116 = .ok (.getfield 38, 3) := by decide +kernel
theorem dX3_reach_119 : decode cX3_reach 119 = .ok (.iload_n 1, 1) := by decide +kernel
theorem dX3_reach_120 : decode cX3_reach 120 = .ok (.laload, 1) := by decide +kernel
theorem dX3_reach_121 : decode cX3_reach 121 = .ok (.lload 4, 2) := by decide +kernel
theorem dX3_reach_123 : decode cX3_reach 123 = .ok (.invokestatic 83, 3) := by decide +kernel
theorem dX3_reach_126 : decode cX3_reach 126 = .ok (.lastore, 1) := by decide +kernel
theorem dX3_reach_127 : decode cX3_reach 127 = .ok (.return_, 1) := by decide +kernel
abbrev cX3_measure : ByteArray := prog_5_method_4_code
def yX3_measure : MethodName := ⟨RX3, "measure", "(LBoardMoves$Placement;)J"⟩
def wsX3_measure : List Cond := .code yX3_measure cX3_measure 5 (some .long) :: bT
theorem dX3_measure_0 : decode cX3_measure 0 = .ok (.iconst 0, 1) := by decide +kernel
theorem dX3_measure_1 : decode cX3_measure 1 = .ok (.istore_n 2, 1) := by decide +kernel
theorem dX3_measure_2 : decode cX3_measure 2 = .ok (.iload_n 2, 1) := by decide +kernel
theorem dX3_measure_3 : decode cX3_measure 3 = .ok (.aload_n 0, 1) := by decide +kernel
theorem dX3_measure_4 : decode cX3_measure 4 = .ok (.getfield 41, 3) := by decide +kernel
theorem dX3_measure_7 : decode cX3_measure 7 = .ok (.if_icmp .ge (16), 3) := by decide +kernel
theorem dX3_measure_10 : decode cX3_measure 10 = .ok (.aload_n 0, 1) := by decide +kernel
theorem dX3_measure_11 : decode cX3_measure 11 = .ok (.getfield 25, 3) := by decide +kernel
theorem dX3_measure_14 : decode cX3_measure 14 = .ok (.iload_n 2, 1) := by decide +kernel
theorem dX3_measure_15 : decode cX3_measure 15 = .ok (.iconst 0, 1) := by decide +kernel
theorem dX3_measure_16 : decode cX3_measure 16 = .ok (.bastore, 1) := by decide +kernel
theorem dX3_measure_17 : decode cX3_measure 17 = .ok (.iinc 2 1, 3) := by decide +kernel
theorem dX3_measure_20 : decode cX3_measure 20 = .ok (.goto (-18), 3) := by decide +kernel
theorem dX3_measure_23 : decode cX3_measure 23 = .ok (.iconst 0, 1) := by decide +kernel
theorem dX3_measure_24 : decode cX3_measure 24 = .ok (.istore_n 2, 1) := by decide +kernel
theorem dX3_measure_25 : decode cX3_measure 25 = .ok (.iload_n 2, 1) := by decide +kernel
theorem dX3_measure_26 : decode cX3_measure 26 = .ok (.aload_n 0, 1) := by decide +kernel
theorem dX3_measure_27 : decode cX3_measure 27 = .ok (.getfield 45, 3) := by decide +kernel
theorem dX3_measure_30 : decode cX3_measure 30 = .ok (.if_icmp .ge (73), 3) := by decide +kernel
theorem dX3_measure_33 : decode cX3_measure 33 = .ok (.aload_n 0, 1) := by decide +kernel
theorem dX3_measure_34 : decode cX3_measure 34 = .ok (.getfield 15, 3) := by decide +kernel
theorem dX3_measure_37 : decode cX3_measure 37 = .ok (.iload_n 2, 1) := by decide +kernel
theorem dX3_measure_38 : decode cX3_measure 38 = .ok (.iaload, 1) := by decide +kernel
theorem dX3_measure_39 : decode cX3_measure 39 = .ok (.istore_n 3, 1) := by decide +kernel
theorem dX3_measure_40 : decode cX3_measure 40 = .ok (.aload_n 1, 1) := by decide +kernel
theorem dX3_measure_41 : decode cX3_measure 41 = .ok (.getfield 52, 3) := by decide +kernel
theorem dX3_measure_44 : decode cX3_measure 44 = .ok (.iload_n 3, 1) := by decide +kernel
theorem dX3_measure_45 : decode cX3_measure 45 = .ok (.baload, 1) := by decide +kernel
theorem dX3_measure_46 : decode cX3_measure 46 = .ok (.ifCond .eq (51), 3) := by decide +kernel
theorem dX3_measure_49 : decode cX3_measure 49 = .ok (.aload_n 1, 1) := by decide +kernel
theorem dX3_measure_50 : decode cX3_measure 50 = .ok (.getfield 57, 3) := by decide +kernel
theorem dX3_measure_53 : decode cX3_measure 53 = .ok (.iload_n 3, 1) := by decide +kernel
theorem dX3_measure_54 : decode cX3_measure 54 = .ok (.iaload, 1) := by decide +kernel
theorem dX3_measure_55 : decode cX3_measure 55 = .ok (.istore 4, 2) := by decide +kernel
theorem dX3_measure_57 : decode cX3_measure 57 = .ok (.aload_n 0, 1) := by decide +kernel
theorem dX3_measure_58 : decode cX3_measure 58 = .ok (.aload_n 0, 1) := by decide +kernel
theorem dX3_measure_59 : decode cX3_measure 59 = .ok (.getfield 9, 3) := by decide +kernel
theorem dX3_measure_62 : decode cX3_measure 62 = .ok (.iload_n 2, 1) := by decide +kernel
theorem dX3_measure_63 : decode cX3_measure 63 = .ok (.iaload, 1) := by decide +kernel
theorem dX3_measure_64 : decode cX3_measure 64 = .ok (.aload_n 1, 1) := by decide +kernel
theorem dX3_measure_65 : decode cX3_measure 65 = .ok (.getfield 60, 3) := by decide +kernel
theorem dX3_measure_68 : decode cX3_measure 68 = .ok (.iload_n 3, 1) := by decide +kernel
theorem dX3_measure_69 : decode cX3_measure 69 = .ok (.laload, 1) := by decide +kernel
theorem dX3_measure_70 : decode cX3_measure 70 = .ok (.aload_n 0, 1) := by decide +kernel
theorem dX3_measure_71 : decode cX3_measure 71 = .ok (.iload_n 2, 1) := by decide +kernel
theorem dX3_measure_72 : decode cX3_measure 72 = .ok (.iload_n 3, 1) := by decide +kernel
theorem dX3_measure_73 : decode cX3_measure 73 = .ok (.iload 4, 2) := by decide +kernel
theorem dX3_measure_75 : decode cX3_measure 75 = .ok (.invokevirtual 63, 3) := by decide +kernel
theorem dX3_measure_78 : decode cX3_measure 78 = .ok (.ladd, 1) := by decide +kernel
theorem dX3_measure_79 : decode cX3_measure 79 = .ok (.aload_n 1, 1) := by decide +kernel
theorem dX3_measure_80 : decode cX3_measure 80 = .ok (.getfield 67, 3) := by decide +kernel
theorem dX3_measure_83 : decode cX3_measure 83 = .ok (.iload_n 3, 1) := by decide +kernel
theorem dX3_measure_84 : decode cX3_measure 84 = .ok (.laload, 1) := by decide +kernel
theorem dX3_measure_85 : decode cX3_measure 85 = .ok (.aload_n 0, 1) := by decide +kernel
theorem dX3_measure_86 : decode cX3_measure 86 = .ok (.iload_n 2, 1) := by decide +kernel
theorem dX3_measure_87 : decode cX3_measure 87 = .ok (.iload_n 3, 1) := by decide +kernel
theorem dX3_measure_88 : decode cX3_measure 88 = .ok (.iload 4, 2) := by decide +kernel
theorem dX3_measure_90 : decode cX3_measure 90 = .ok (.invokevirtual 70, 3) := by decide +kernel
theorem dX3_measure_93 : decode cX3_measure 93 = .ok (.ladd, 1) := by decide +kernel
theorem dX3_measure_94 : decode cX3_measure 94 = .ok (.invokevirtual 73, 3) := by decide +kernel
theorem dX3_measure_97 : decode cX3_measure 97 = .ok (.iinc 2 1, 3) := by decide +kernel
theorem dX3_measure_100 : decode cX3_measure 100 = .ok (.goto (-75), 3) := by decide +kernel
theorem dX3_measure_103 : decode cX3_measure 103 = .ok (.lconst 0, 1) := by decide +kernel
theorem dX3_measure_104 : decode cX3_measure 104 = .ok (.lstore_n 2, 1) := by decide +kernel
theorem dX3_measure_105 : decode cX3_measure 105 = .ok (.iconst 0, 1) := by decide +kernel
theorem dX3_measure_106 : decode cX3_measure 106 = .ok (.istore 4, 2) := by decide +kernel
theorem dX3_measure_108 : decode cX3_measure 108 = .ok (.iload 4, 2) := by decide +kernel
theorem dX3_measure_110 : decode cX3_measure 110 = .ok (.aload_n 0, 1) := by decide +kernel
theorem dX3_measure_111 : decode cX3_measure 111 = .ok (.getfield 41, 3) := by decide +kernel
theorem dX3_measure_114 : decode cX3_measure 114 = .ok (.if_icmp .ge (53), 3) := by decide +kernel
theorem dX3_measure_117 : decode cX3_measure 117 = .ok (.aload_n 0, 1) := by decide +kernel
theorem dX3_measure_118 : decode cX3_measure 118 = .ok (.getfield 25, 3) := by decide +kernel
theorem dX3_measure_121 : decode cX3_measure 121 = .ok (.iload 4, 2) := by decide +kernel
theorem dX3_measure_123 : decode cX3_measure 123 = .ok (.baload, 1) := by decide +kernel
theorem dX3_measure_124 : decode cX3_measure 124 = .ok (.ifCond .eq (37), 3) := by decide +kernel
theorem dX3_measure_127 : decode cX3_measure 127 = .ok (.lload_n 2, 1) := by decide +kernel
theorem dX3_measure_128 : decode cX3_measure 128 = .ok (.aload_n 0, 1) := by decide +kernel
theorem dX3_measure_129 : decode cX3_measure 129 = .ok (.getfield 32, 3) := by decide +kernel
theorem dX3_measure_132 : decode cX3_measure 132 = .ok (.iload 4, 2) := by decide +kernel
theorem dX3_measure_134 : decode cX3_measure 134 = .ok (.laload, 1) := by decide +kernel
theorem dX3_measure_135 : decode cX3_measure 135 = .ok (.aload_n 0, 1) := by decide +kernel
theorem dX3_measure_136 : decode cX3_measure 136 = .ok (.getfield 29, 3) := by decide +kernel
theorem dX3_measure_139 : decode cX3_measure 139 = .ok (.iload 4, 2) := by decide +kernel
theorem dX3_measure_141 : decode cX3_measure 141 = .ok (.laload, 1) := by decide +kernel
theorem dX3_measure_142 : decode cX3_measure 142 = .ok (.lsub, 1) := by decide +kernel
theorem dX3_measure_143 : decode cX3_measure 143 = .ok (.aload_n 0, 1) := by decide +kernel
theorem dX3_measure_144 : decode cX3_measure 144 = .ok (.getfield 38, 3) := by decide +kernel
theorem dX3_measure_147 : decode cX3_measure 147 = .ok (.iload 4, 2) := by decide +kernel
theorem dX3_measure_149 : decode cX3_measure 149 = .ok (.laload, 1) := by decide +kernel
theorem dX3_measure_150 : decode cX3_measure 150 = .ok (.ladd, 1) := by decide +kernel
theorem dX3_measure_151 : decode cX3_measure 151 = .ok (.aload_n 0, 1) := by decide +kernel
theorem dX3_measure_152 : decode cX3_measure 152 = .ok (.getfield 35, 3) := by decide +kernel
theorem dX3_measure_155 : decode cX3_measure 155 = .ok (.iload 4, 2) := by decide +kernel
theorem dX3_measure_157 : decode cX3_measure 157 = .ok (.laload, 1) := by decide +kernel
theorem dX3_measure_158 : decode cX3_measure 158 = .ok (.lsub, 1) := by decide +kernel
theorem dX3_measure_159 : decode cX3_measure 159 = .ok (.ladd, 1) := by decide +kernel
theorem dX3_measure_160 : decode cX3_measure 160 = .ok (.lstore_n 2, 1) := by decide +kernel
theorem dX3_measure_161 : decode cX3_measure 161 = .ok (.iinc 4 1, 3) := by decide +kernel
theorem dX3_measure_164 : decode cX3_measure 164 = .ok (.goto (-56), 3) := by decide +kernel
theorem dX3_measure_167 : decode cX3_measure 167 = .ok (.lload_n 2, 1) := by decide +kernel
theorem dX3_measure_168 : decode cX3_measure 168 = .ok (.lreturn, 1) := by decide +kernel
abbrev cX4_draw : ByteArray := prog_1_method_28_code
def yX4_draw : MethodName := ⟨RX4, "draw", "()J"⟩
def wsX4_draw : List Cond := .code yX4_draw cX4_draw 1 (some .long) :: bT
theorem dX4_draw_0 : decode cX4_draw 0 = .ok (.aload_n 0, 1) := by decide +kernel
theorem dX4_draw_1 : decode cX4_draw 1 = .ok (.aload_n 0, 1) := by decide +kernel
theorem dX4_draw_2 : decode cX4_draw 2 = .ok (.getfield 68, 3) := by decide +kernel
theorem dX4_draw_5 : decode cX4_draw 5 = .ok (.ldc2_w 268, 3) := by decide +kernel
theorem dX4_draw_8 : decode cX4_draw 8 = .ok (.lmul, 1) := by decide +kernel
theorem dX4_draw_9 : decode cX4_draw 9 = .ok (.ldc2_w 270, 3) := by decide +kernel
theorem dX4_draw_12 : decode cX4_draw 12 = .ok (.ladd, 1) := by decide +kernel
theorem dX4_draw_13 : decode cX4_draw 13 = .ok (.putfield 68, 3) := by decide +kernel
theorem dX4_draw_16 : decode cX4_draw 16 = .ok (.aload_n 0, 1) := by decide +kernel
theorem dX4_draw_17 : decode cX4_draw 17 = .ok (.getfield 68, 3) := by decide +kernel
theorem dX4_draw_20 : decode cX4_draw 20 = .ok (.bipush 33, 2) := by decide +kernel
theorem dX4_draw_22 : decode cX4_draw 22 = .ok (.lushr, 1) := by decide +kernel
theorem dX4_draw_23 : decode cX4_draw 23 = .ok (.lreturn, 1) := by decide +kernel
abbrev cX4_takeBack : ByteArray := prog_1_method_24_code
def yX4_takeBack : MethodName := ⟨RX4, "takeBack", "()Z"⟩
def wsX4_takeBack : List Cond := .code yX4_takeBack cX4_takeBack 1 (some .boolean) :: bT
theorem dX4_takeBack_0 : decode cX4_takeBack 0 = .ok (.aload_n 0, 1) := by decide +kernel
theorem dX4_takeBack_1 : decode cX4_takeBack 1 = .ok (.getfield 37, 3) := by decide +kernel
theorem dX4_takeBack_4 : decode cX4_takeBack 4 = .ok (.aload_n 0, 1) := by decide +kernel
theorem dX4_takeBack_5 : decode cX4_takeBack 5 = .ok (.getfield 41, 3) := by decide +kernel
theorem dX4_takeBack_8 : decode cX4_takeBack 8 = .ok (.invokevirtual 108, 3) := by decide +kernel
theorem dX4_takeBack_11 : decode cX4_takeBack 11 = .ok (.iconst 0, 1) := by decide +kernel
theorem dX4_takeBack_12 : decode cX4_takeBack 12 = .ok (.ireturn, 1) := by decide +kernel
abbrev cX4_keepChange : ByteArray := prog_1_method_23_code
def yX4_keepChange : MethodName := ⟨RX4, "keepChange", "(J)Z"⟩
def wsX4_keepChange : List Cond := .code yX4_keepChange cX4_keepChange 5 (some .boolean) :: bT
theorem dX4_keepChange_0 : decode cX4_keepChange 0 = .ok (.iconst 0, 1) := by decide +kernel
theorem dX4_keepChange_1 : decode cX4_keepChange 1 = .ok (.istore_n 3, 1) := by decide +kernel
theorem dX4_keepChange_2 : decode cX4_keepChange 2 = .ok (.iload_n 3, 1) := by decide +kernel
theorem dX4_keepChange_3 : decode cX4_keepChange 3 = .ok (.aload_n 0, 1) := by decide +kernel
theorem dX4_keepChange_4 : decode cX4_keepChange 4 = .ok (.getfield 12, 3) := by decide +kernel
theorem dX4_keepChange_7 : decode cX4_keepChange 7 = .ok (.getfield 197, 3) := by decide +kernel
theorem dX4_keepChange_10 : decode cX4_keepChange 10 = .ok (.if_icmp .ge (73), 3) := by decide +kernel
theorem dX4_keepChange_13 : decode cX4_keepChange 13 = .ok (.aload_n 0, 1) := by decide +kernel
theorem dX4_keepChange_14 : decode cX4_keepChange 14 = .ok (.getfield 37, 3) := by decide +kernel
theorem dX4_keepChange_17 : decode cX4_keepChange 17 = .ok (.aload_n 0, 1) := by decide +kernel
theorem dX4_keepChange_18 : decode cX4_keepChange 18 = .ok (.getfield 41, 3) := by decide +kernel
theorem dX4_keepChange_21 : decode cX4_keepChange 21 = .ok (.iload_n 3, 1) := by decide +kernel
theorem dX4_keepChange_22 : decode cX4_keepChange 22 = .ok (.invokevirtual 250, 3) := by decide +kernel
theorem dX4_keepChange_25 : decode cX4_keepChange 25 = .ok (.ifCond .eq (52), 3) := by decide +kernel
theorem dX4_keepChange_28 : decode cX4_keepChange 28 = .ok (.aload_n 0, 1) := by decide +kernel
theorem dX4_keepChange_29 : decode cX4_keepChange 29 = .ok (.getfield 12, 3) := by decide +kernel
theorem dX4_keepChange_32 : decode cX4_keepChange 32 = .ok (.getfield 132, 3) := by decide +kernel
theorem dX4_keepChange_35 : decode cX4_keepChange 35 = .ok (.iload_n 3, 1) := by decide +kernel
theorem dX4_keepChange_36 : decode cX4_keepChange 36 = .ok (.baload, 1) := by decide +kernel
theorem dX4_keepChange_37 : decode cX4_keepChange 37 = .ok (.ifCond .eq (19), 3) := by decide +kernel
theorem dX4_keepChange_40 : decode cX4_keepChange 40 = .ok (.aload_n 0, 1) := by decide +kernel
theorem dX4_keepChange_41 : decode cX4_keepChange 41 = .ok (.getfield 41, 3) := by decide +kernel
theorem dX4_keepChange_44 : decode cX4_keepChange 44 = .ok (.getfield 96, 3) := by decide +kernel
theorem dX4_keepChange_47 : decode cX4_keepChange 47 = .ok (.iload_n 3, 1) := by decide +kernel
theorem dX4_keepChange_48 : decode cX4_keepChange 48 = .ok (.baload, 1) := by decide +kernel
theorem dX4_keepChange_49 : decode cX4_keepChange 49 = .ok (.ifCond .eq (7), 3) := by decide +kernel
theorem dX4_keepChange_52 : decode cX4_keepChange 52 = .ok (.iconst 1, 1) := by decide +kernel
theorem dX4_keepChange_53 : decode cX4_keepChange 53 = .ok (.goto (4), 3) := by decide +kernel
theorem dX4_keepChange_56 : decode cX4_keepChange 56 = .ok (.iconst 0, 1) := by decide +kernel
theorem dX4_keepChange_57 : decode cX4_keepChange 57 = .ok (.istore 4, 2) := by decide +kernel
theorem dX4_keepChange_59 : decode cX4_keepChange 59 = .ok (.iload 4, 2) := by decide +kernel
theorem dX4_keepChange_61 : decode cX4_keepChange 61 = .ok (.ifCond .ne (11), 3) := by decide +kernel
theorem dX4_keepChange_64 : decode cX4_keepChange 64 = .ok (.aload_n 0, 1) := by decide +kernel
theorem dX4_keepChange_65 : decode cX4_keepChange 65 = .ok (.iload_n 3, 1) := by decide +kernel
theorem dX4_keepChange_66 : decode cX4_keepChange 66 = .ok (.invokevirtual 220, 3) := by decide +kernel
theorem dX4_keepChange_69 : decode cX4_keepChange 69 = .ok (.ifCond .ne (8), 3) := by decide +kernel
theorem dX4_keepChange_72 : decode cX4_keepChange 72 = .ok (.aload_n 0, 1) := by decide +kernel
theorem dX4_keepChange_73 : decode cX4_keepChange 73 = .ok (.invokevirtual 177, 3) := by decide +kernel
theorem dX4_keepChange_76 : decode cX4_keepChange 76 = .ok (.ireturn, 1) := by decide +kernel
theorem dX4_keepChange_77 : decode cX4_keepChange 77 = .ok (.iinc 3 1, 3) := by decide +kernel
theorem dX4_keepChange_80 : decode cX4_keepChange 80 = .ok (.goto (-78), 3) := by decide +kernel
theorem dX4_keepChange_83 : decode cX4_keepChange 83 = .ok (.aload_n 0, 1) := by decide +kernel
theorem dX4_keepChange_84 : decode cX4_keepChange 84 = .ok (.getfield 30, 3) := by decide +kernel
theorem dX4_keepChange_87 : decode cX4_keepChange 87 = .ok (.aload_n 0, 1) := by decide +kernel
theorem dX4_keepChange_88 : decode cX4_keepChange 88 = .ok (.getfield 37, 3) := by decide +kernel
theorem dX4_keepChange_91 : decode cX4_keepChange 91 = .ok (.invokevirtual 160, 3) := by decide +kernel
theorem dX4_keepChange_94 : decode cX4_keepChange 94 = .ok (.lstore_n 3, 1) := by decide +kernel
theorem dX4_keepChange_95 : decode cX4_keepChange 95 = .ok (.lload_n 3, 1) := by decide +kernel
theorem dX4_keepChange_96 : decode cX4_keepChange 96 = .ok (.aload_n 0, 1) := by decide +kernel
theorem dX4_keepChange_97 : decode cX4_keepChange 97 = .ok (.getfield 47, 3) := by decide +kernel
theorem dX4_keepChange_100 : decode cX4_keepChange 100 = .ok (.lsub, 1) := by decide +kernel
theorem dX4_keepChange_101 : decode cX4_keepChange 101 = .ok (.lload_n 1, 1) := by decide +kernel
theorem dX4_keepChange_102 : decode cX4_keepChange 102 = .ok (.lcmp, 1) := by decide +kernel
theorem dX4_keepChange_103 : decode cX4_keepChange 103 = .ok (.ifCond .le (8), 3) := by decide +kernel
theorem dX4_keepChange_106 : decode cX4_keepChange 106 = .ok (.aload_n 0, 1) := by decide +kernel
theorem dX4_keepChange_107 : decode cX4_keepChange 107 = .ok (.invokevirtual 177, 3) := by decide +kernel
theorem dX4_keepChange_110 : decode cX4_keepChange 110 = .ok (.ireturn, 1) := by decide +kernel
theorem dX4_keepChange_111 : decode cX4_keepChange 111 = .ok (.aload_n 0, 1) := by decide +kernel
theorem dX4_keepChange_112 : decode cX4_keepChange 112 = .ok (.lload_n 3, 1) := by decide +kernel
theorem dX4_keepChange_113 : decode cX4_keepChange 113 = .ok (.putfield 47, 3) := by decide +kernel
theorem dX4_keepChange_116 : decode cX4_keepChange 116 = .ok (.iconst 1, 1) := by decide +kernel
theorem dX4_keepChange_117 : decode cX4_keepChange 117 = .ok (.ireturn, 1) := by decide +kernel
abbrev cX4_clearTheWay : ByteArray := prog_1_method_26_code
def yX4_clearTheWay : MethodName := ⟨RX4, "clearTheWay", "(IZZ)Z"⟩
def wsX4_clearTheWay : List Cond := .code yX4_clearTheWay cX4_clearTheWay 12 (some .boolean) :: bT
theorem dX4_clearTheWay_0 : decode cX4_clearTheWay 0 = .ok (.iconst 0, 1) := by decide +kernel
theorem dX4_clearTheWay_1 : decode cX4_clearTheWay 1 = .ok (.istore 4, 2) := by decide +kernel
theorem dX4_clearTheWay_3 : decode cX4_clearTheWay 3 = .ok (.iload 4, 2) := by decide +kernel
theorem dX4_clearTheWay_5 : decode cX4_clearTheWay 5 = .ok (.sipush 200, 3) := by decide +kernel
theorem dX4_clearTheWay_8 : decode cX4_clearTheWay 8 = .ok (.if_icmp .ge (148), 3) := by decide +kernel
theorem dX4_clearTheWay_11 : decode cX4_clearTheWay 11 = .ok (.aload_n 0, 1) := by decide +kernel
theorem dX4_clearTheWay_12 : decode cX4_clearTheWay 12 = .ok (.getfield 37, 3) := by decide +kernel
theorem dX4_clearTheWay_15 : decode cX4_clearTheWay 15 = .ok (.invokevirtual 253, 3) := by decide +kernel
theorem dX4_clearTheWay_18 : decode cX4_clearTheWay 18 = .ok (.istore 5, 2) := by decide +kernel
theorem dX4_clearTheWay_20 : decode cX4_clearTheWay 20 = .ok (.iload 5, 2) := by decide +kernel
theorem dX4_clearTheWay_22 : decode cX4_clearTheWay 22 = .ok (.iconst (-1), 1) := by decide +kernel
theorem dX4_clearTheWay_23 : decode cX4_clearTheWay 23 = .ok (.if_icmp .ne (5), 3) := by decide +kernel
theorem dX4_clearTheWay_26 : decode cX4_clearTheWay 26 = .ok (.iconst 1, 1) := by decide +kernel
theorem dX4_clearTheWay_27 : decode cX4_clearTheWay 27 = .ok (.ireturn, 1) := by decide +kernel
theorem dX4_clearTheWay_28 : decode cX4_clearTheWay 28 = .ok (.aload_n 0, 1) := by decide +kernel
theorem dX4_clearTheWay_29 : decode cX4_clearTheWay 29 = .ok (.getfield 37, 3) := by decide +kernel
theorem dX4_clearTheWay_32 : decode cX4_clearTheWay 32 = .ok (.iload 5, 2) := by decide +kernel
theorem dX4_clearTheWay_34 : decode cX4_clearTheWay 34 = .ok (.iload 5, 2) := by decide +kernel
theorem dX4_clearTheWay_36 : decode cX4_clearTheWay 36 = .ok (.iconst 1, 1) := by decide +kernel
theorem dX4_clearTheWay_37 : decode cX4_clearTheWay 37 = .ok (.iadd, 1) := by decide +kernel
theorem dX4_clearTheWay_38 : decode cX4_clearTheWay 38 = .ok (.invokevirtual 240, 3) := by decide +kernel
theorem dX4_clearTheWay_41 : decode cX4_clearTheWay 41 = .ok (.istore 6, 2) := by decide +kernel
theorem dX4_clearTheWay_43 : decode cX4_clearTheWay 43 = .ok (.iload 6, 2) := by decide +kernel
theorem dX4_clearTheWay_45 : decode cX4_clearTheWay 45 = .ok (.iconst (-1), 1) := by decide +kernel
theorem dX4_clearTheWay_46 : decode cX4_clearTheWay 46 = .ok (.if_icmp .eq (17), 3) := by decide +kernel
theorem dX4_clearTheWay_49 : decode cX4_clearTheWay 49 = .ok (.aload_n 0, 1) := by decide +kernel
theorem dX4_clearTheWay_50 : decode cX4_clearTheWay 50 = .ok (.getfield 12, 3) := by decide +kernel
theorem dX4_clearTheWay_53 : decode cX4_clearTheWay 53 = .ok (.iload 5, 2) := by decide +kernel
theorem dX4_clearTheWay_55 : decode cX4_clearTheWay 55 = .ok (.iload 6, 2) := by decide +kernel
theorem dX4_clearTheWay_57 : decode cX4_clearTheWay 57 = .ok (.invokevirtual 256, 3) := by decide +kernel
theorem dX4_clearTheWay_60 : decode cX4_clearTheWay 60 = .ok (.ifCond .eq (5), 3) := by decide +kernel
theorem dX4_clearTheWay_63 : decode cX4_clearTheWay 63 = .ok (.iconst 0, 1) := by decide +kernel
theorem dX4_clearTheWay_64 : decode cX4_clearTheWay 64 = .ok (.ireturn, 1) := by decide +kernel
theorem dX4_clearTheWay_65 : decode cX4_clearTheWay 65 = .ok (.aload_n 0, 1) := by decide +kernel
theorem dX4_clearTheWay_66 : decode cX4_clearTheWay 66 = .ok (.iload 5, 2) := by decide +kernel
theorem dX4_clearTheWay_68 : decode cX4_clearTheWay 68 = .ok (.iload 6, 2) := by decide +kernel
theorem dX4_clearTheWay_70 : decode cX4_clearTheWay 70 = .ok (.iload_n 1, 1) := by decide +kernel
theorem dX4_clearTheWay_71 : decode cX4_clearTheWay 71 = .ok (.iload_n 2, 1) := by decide +kernel
theorem dX4_clearTheWay_72 : decode cX4_clearTheWay 72 = .ok (.iload_n 3, 1) := by decide +kernel
theorem dX4_clearTheWay_73 : decode cX4_clearTheWay 73 = .ok (.invokevirtual 260, 3) := by decide +kernel
theorem dX4_clearTheWay_76 : decode cX4_clearTheWay 76 = .ok (.istore 7, 2) := by decide +kernel
theorem dX4_clearTheWay_78 : decode cX4_clearTheWay 78 = .ok (.iload 7, 2) := by decide +kernel
theorem dX4_clearTheWay_80 : decode cX4_clearTheWay 80 = .ok (.ifCond .eq (8), 3) := by decide +kernel
theorem dX4_clearTheWay_83 : decode cX4_clearTheWay 83 = .ok (.iload 5, 2) := by decide +kernel
theorem dX4_clearTheWay_85 : decode cX4_clearTheWay 85 = .ok (.goto (5), 3) := by decide +kernel
theorem dX4_clearTheWay_88 : decode cX4_clearTheWay 88 = .ok (.iload 6, 2) := by decide +kernel
theorem dX4_clearTheWay_90 : decode cX4_clearTheWay 90 = .ok (.istore 8, 2) := by decide +kernel
theorem dX4_clearTheWay_92 : decode cX4_clearTheWay 92 = .ok (.iload 7, 2) := by decide +kernel
theorem dX4_clearTheWay_94 : decode cX4_clearTheWay 94 = .ok (.ifCond .eq (8), 3) := by decide +kernel
theorem dX4_clearTheWay_97 : decode cX4_clearTheWay 97 = .ok (.iload 6, 2) := by decide +kernel
theorem dX4_clearTheWay_99 : decode cX4_clearTheWay 99 = .ok (.goto (5), 3) := by decide +kernel
theorem dX4_clearTheWay_102 : decode cX4_clearTheWay 102 = .ok (.iload 5, 2) := by decide +kernel
theorem dX4_clearTheWay_104 : decode cX4_clearTheWay 104 = .ok (.istore 9, 2) := by decide +kernel
theorem dX4_clearTheWay_106 : decode cX4_clearTheWay 106 = .ok (.aload_n 0, 1) := by decide +kernel
theorem dX4_clearTheWay_107 : decode cX4_clearTheWay 107 = .ok (.getfield 37, 3) := by decide +kernel
theorem dX4_clearTheWay_110 : decode cX4_clearTheWay 110 = .ok (.iload 8, 2) := by decide +kernel
theorem dX4_clearTheWay_112 : decode cX4_clearTheWay 112 = .ok (.iload 9, 2) := by decide +kernel
theorem dX4_clearTheWay_114 : decode cX4_clearTheWay 114 = .ok (.iload_n 2, 1) := by decide +kernel
theorem dX4_clearTheWay_115 : decode cX4_clearTheWay 115 = .ok (.iload_n 3, 1) := by decide +kernel
theorem dX4_clearTheWay_116 : decode cX4_clearTheWay 116 = .ok (.invokevirtual 264, 3) := by decide +kernel
theorem dX4_clearTheWay_119 : decode cX4_clearTheWay 119 = .ok (.lstore 10, 2) := by decide +kernel
theorem dX4_clearTheWay_121 : decode cX4_clearTheWay 121 = .ok (.aload_n 0, 1) := by decide +kernel
theorem dX4_clearTheWay_122 : decode cX4_clearTheWay 122 = .ok (.getfield 37, 3) := by decide +kernel
theorem dX4_clearTheWay_125 : decode cX4_clearTheWay 125 = .ok (.iload 8, 2) := by decide +kernel
theorem dX4_clearTheWay_127 : decode cX4_clearTheWay 127 = .ok (.iload_n 2, 1) := by decide +kernel
theorem dX4_clearTheWay_128 : decode cX4_clearTheWay 128 = .ok (.ifCond .eq (8), 3) := by decide +kernel
theorem dX4_clearTheWay_131 : decode cX4_clearTheWay 131 = .ok (.lload 10, 2) := by decide +kernel
theorem dX4_clearTheWay_133 : decode cX4_clearTheWay 133 = .ok (.goto (4), 3) := by decide +kernel
theorem dX4_clearTheWay_136 : decode cX4_clearTheWay 136 = .ok (.lconst 0, 1) := by decide +kernel
theorem dX4_clearTheWay_137 : decode cX4_clearTheWay 137 = .ok (.iload_n 2, 1) := by decide +kernel
theorem dX4_clearTheWay_138 : decode cX4_clearTheWay 138 = .ok (.ifCond .eq (7), 3) := by decide +kernel
theorem dX4_clearTheWay_141 : decode cX4_clearTheWay 141 = .ok (.lconst 0, 1) := by decide +kernel
theorem dX4_clearTheWay_142 : decode cX4_clearTheWay 142 = .ok (.goto (5), 3) := by decide +kernel
theorem dX4_clearTheWay_145 : decode cX4_clearTheWay 145 = .ok (.lload 10, 2) := by decide +kernel
theorem dX4_clearTheWay_147 : decode cX4_clearTheWay 147 = .ok (.invokevirtual 119, 3) := by decide +kernel
theorem dX4_clearTheWay_150 : decode cX4_clearTheWay 150 = .ok (.iinc 4 1, 3) := by decide +kernel
theorem dX4_clearTheWay_153 : decode cX4_clearTheWay 153 = .ok (.goto (-150), 3) := by decide +kernel
theorem dX4_clearTheWay_156 : decode cX4_clearTheWay 156 = .ok (.iconst 0, 1) := by decide +kernel
theorem dX4_clearTheWay_157 : decode cX4_clearTheWay 157 = .ok (.ireturn, 1) := by decide +kernel
abbrev cX4_swapPlaces : ByteArray := prog_1_method_30_code
def yX4_swapPlaces : MethodName := ⟨RX4, "swapPlaces", "(II)V"⟩
def wsX4_swapPlaces : List Cond := .code yX4_swapPlaces cX4_swapPlaces 7 none :: bT
theorem dX4_swapPlaces_0 : decode cX4_swapPlaces 0 = .ok (.aload_n 0, 1) := by decide +kernel
theorem dX4_swapPlaces_1 : decode cX4_swapPlaces 1 = .ok (.getfield 37, 3) := by decide +kernel
theorem dX4_swapPlaces_4 : decode cX4_swapPlaces 4 = .ok (.getfield 96, 3) := by decide +kernel
theorem dX4_swapPlaces_7 : decode cX4_swapPlaces 7 = .ok (.iload_n 2, 1) := by decide +kernel
theorem dX4_swapPlaces_8 : decode cX4_swapPlaces 8 = .ok (.baload, 1) := by decide +kernel
theorem dX4_swapPlaces_9 : decode cX4_swapPlaces 9 = .ok (.ifCond .eq (15), 3) := by decide +kernel
theorem dX4_swapPlaces_12 : decode cX4_swapPlaces 12 = .ok (.aload_n 0, 1) := by decide +kernel
theorem dX4_swapPlaces_13 : decode cX4_swapPlaces 13 = .ok (.getfield 12, 3) := by decide +kernel
theorem dX4_swapPlaces_16 : decode cX4_swapPlaces 16 = .ok (.iload_n 1, 1) := by decide +kernel
theorem dX4_swapPlaces_17 : decode cX4_swapPlaces 17 = .ok (.iload_n 2, 1) := by decide +kernel
theorem dX4_swapPlaces_18 : decode cX4_swapPlaces 18 = .ok (.invokevirtual 256, 3) := by decide +kernel
theorem dX4_swapPlaces_21 : decode cX4_swapPlaces 21 = .ok (.ifCond .eq (4), 3) := by decide +kernel
theorem dX4_swapPlaces_24 : decode cX4_swapPlaces 24 = .ok (.return_, 1) := by decide +kernel
theorem dX4_swapPlaces_25 : decode cX4_swapPlaces 25 = .ok (.aload_n 0, 1) := by decide +kernel
theorem dX4_swapPlaces_26 : decode cX4_swapPlaces 26 = .ok (.getfield 37, 3) := by decide +kernel
theorem dX4_swapPlaces_29 : decode cX4_swapPlaces 29 = .ok (.getfield 112, 3) := by decide +kernel
theorem dX4_swapPlaces_32 : decode cX4_swapPlaces 32 = .ok (.iload_n 2, 1) := by decide +kernel
theorem dX4_swapPlaces_33 : decode cX4_swapPlaces 33 = .ok (.laload, 1) := by decide +kernel
theorem dX4_swapPlaces_34 : decode cX4_swapPlaces 34 = .ok (.aload_n 0, 1) := by decide +kernel
theorem dX4_swapPlaces_35 : decode cX4_swapPlaces 35 = .ok (.getfield 37, 3) := by decide +kernel
theorem dX4_swapPlaces_38 : decode cX4_swapPlaces 38 = .ok (.getfield 112, 3) := by decide +kernel
theorem dX4_swapPlaces_41 : decode cX4_swapPlaces 41 = .ok (.iload_n 1, 1) := by decide +kernel
theorem dX4_swapPlaces_42 : decode cX4_swapPlaces 42 = .ok (.laload, 1) := by decide +kernel
theorem dX4_swapPlaces_43 : decode cX4_swapPlaces 43 = .ok (.lsub, 1) := by decide +kernel
theorem dX4_swapPlaces_44 : decode cX4_swapPlaces 44 = .ok (.lstore_n 3, 1) := by decide +kernel
theorem dX4_swapPlaces_45 : decode cX4_swapPlaces 45 = .ok (.aload_n 0, 1) := by decide +kernel
theorem dX4_swapPlaces_46 : decode cX4_swapPlaces 46 = .ok (.getfield 37, 3) := by decide +kernel
theorem dX4_swapPlaces_49 : decode cX4_swapPlaces 49 = .ok (.getfield 116, 3) := by decide +kernel
theorem dX4_swapPlaces_52 : decode cX4_swapPlaces 52 = .ok (.iload_n 2, 1) := by decide +kernel
theorem dX4_swapPlaces_53 : decode cX4_swapPlaces 53 = .ok (.laload, 1) := by decide +kernel
theorem dX4_swapPlaces_54 : decode cX4_swapPlaces 54 = .ok (.aload_n 0, 1) := by decide +kernel
theorem dX4_swapPlaces_55 : decode cX4_swapPlaces 55 = .ok (.getfield 37, 3) := by decide +kernel
theorem dX4_swapPlaces_58 : decode cX4_swapPlaces 58 = .ok (.getfield 116, 3) := by decide +kernel
theorem dX4_swapPlaces_61 : decode cX4_swapPlaces 61 = .ok (.iload_n 1, 1) := by decide +kernel
theorem dX4_swapPlaces_62 : decode cX4_swapPlaces 62 = .ok (.laload, 1) := by decide +kernel
theorem dX4_swapPlaces_63 : decode cX4_swapPlaces 63 = .ok (.lsub, 1) := by decide +kernel
theorem dX4_swapPlaces_64 : decode cX4_swapPlaces 64 = .ok (.lstore 5, 2) := by decide +kernel
theorem dX4_swapPlaces_66 : decode cX4_swapPlaces 66 = .ok (.aload_n 0, 1) := by decide +kernel
theorem dX4_swapPlaces_67 : decode cX4_swapPlaces 67 = .ok (.getfield 37, 3) := by decide +kernel
theorem dX4_swapPlaces_70 : decode cX4_swapPlaces 70 = .ok (.iload_n 1, 1) := by decide +kernel
theorem dX4_swapPlaces_71 : decode cX4_swapPlaces 71 = .ok (.lload_n 3, 1) := by decide +kernel
theorem dX4_swapPlaces_72 : decode cX4_swapPlaces 72 = .ok (.lload 5, 2) := by decide +kernel
theorem dX4_swapPlaces_74 : decode cX4_swapPlaces 74 = .ok (.invokevirtual 119, 3) := by decide +kernel
theorem dX4_swapPlaces_77 : decode cX4_swapPlaces 77 = .ok (.aload_n 0, 1) := by decide +kernel
theorem dX4_swapPlaces_78 : decode cX4_swapPlaces 78 = .ok (.getfield 37, 3) := by decide +kernel
theorem dX4_swapPlaces_81 : decode cX4_swapPlaces 81 = .ok (.iload_n 2, 1) := by decide +kernel
theorem dX4_swapPlaces_82 : decode cX4_swapPlaces 82 = .ok (.lload_n 3, 1) := by decide +kernel
theorem dX4_swapPlaces_83 : decode cX4_swapPlaces 83 = .ok (.lneg, 1) := by decide +kernel
theorem dX4_swapPlaces_84 : decode cX4_swapPlaces 84 = .ok (.lload 5, 2) := by decide +kernel
theorem dX4_swapPlaces_86 : decode cX4_swapPlaces 86 = .ok (.lneg, 1) := by decide +kernel
theorem dX4_swapPlaces_87 : decode cX4_swapPlaces 87 = .ok (.invokevirtual 119, 3) := by decide +kernel
theorem dX4_swapPlaces_90 : decode cX4_swapPlaces 90 = .ok (.return_, 1) := by decide +kernel
abbrev cX4_turnAlone : ByteArray := prog_1_method_31_code
def yX4_turnAlone : MethodName := ⟨RX4, "turnAlone", "(II)V"⟩
def wsX4_turnAlone : List Cond := .code yX4_turnAlone cX4_turnAlone 3 none :: bT
theorem dX4_turnAlone_0 : decode cX4_turnAlone 0 = .ok (.aload_n 0, 1) := by decide +kernel
theorem dX4_turnAlone_1 : decode cX4_turnAlone 1 = .ok (.getfield 37, 3) := by decide +kernel
theorem dX4_turnAlone_4 : decode cX4_turnAlone 4 = .ok (.iload_n 1, 1) := by decide +kernel
theorem dX4_turnAlone_5 : decode cX4_turnAlone 5 = .ok (.invokevirtual 104, 3) := by decide +kernel
theorem dX4_turnAlone_8 : decode cX4_turnAlone 8 = .ok (.ifCond .ne (25), 3) := by decide +kernel
theorem dX4_turnAlone_11 : decode cX4_turnAlone 11 = .ok (.aload_n 0, 1) := by decide +kernel
theorem dX4_turnAlone_12 : decode cX4_turnAlone 12 = .ok (.getfield 37, 3) := by decide +kernel
theorem dX4_turnAlone_15 : decode cX4_turnAlone 15 = .ok (.getfield 100, 3) := by decide +kernel
theorem dX4_turnAlone_18 : decode cX4_turnAlone 18 = .ok (.iload_n 1, 1) := by decide +kernel
theorem dX4_turnAlone_19 : decode cX4_turnAlone 19 = .ok (.aload_n 0, 1) := by decide +kernel
theorem dX4_turnAlone_20 : decode cX4_turnAlone 20 = .ok (.getfield 37, 3) := by decide +kernel
theorem dX4_turnAlone_23 : decode cX4_turnAlone 23 = .ok (.getfield 100, 3) := by decide +kernel
theorem dX4_turnAlone_26 : decode cX4_turnAlone 26 = .ok (.iload_n 1, 1) := by decide +kernel
theorem dX4_turnAlone_27 : decode cX4_turnAlone 27 = .ok (.iaload, 1) := by decide +kernel
theorem dX4_turnAlone_28 : decode cX4_turnAlone 28 = .ok (.iload_n 2, 1) := by decide +kernel
theorem dX4_turnAlone_29 : decode cX4_turnAlone 29 = .ok (.iadd, 1) := by decide +kernel
theorem dX4_turnAlone_30 : decode cX4_turnAlone 30 = .ok (.iconst 4, 1) := by decide +kernel
theorem dX4_turnAlone_31 : decode cX4_turnAlone 31 = .ok (.irem, 1) := by decide +kernel
theorem dX4_turnAlone_32 : decode cX4_turnAlone 32 = .ok (.iastore, 1) := by decide +kernel
theorem dX4_turnAlone_33 : decode cX4_turnAlone 33 = .ok (.return_, 1) := by decide +kernel

