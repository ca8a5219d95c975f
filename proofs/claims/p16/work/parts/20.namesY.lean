abbrev cX4_isLength : ByteArray := prog_1_method_18_code
def yX4_isLength : MethodName := ⟨RX4, "isLength", "(J)Z"⟩
def wsX4_isLength : List Cond := .code yX4_isLength cX4_isLength 2 (some .boolean) :: bT
theorem dX4_isLength_0 : decode cX4_isLength 0 = .ok (.lload_n 0, 1) := by decide +kernel
theorem dX4_isLength_1 : decode cX4_isLength 1 = .ok (.lconst 1, 1) := by decide +kernel
theorem dX4_isLength_2 : decode cX4_isLength 2 = .ok (.lcmp, 1) := by decide +kernel
theorem dX4_isLength_3 : decode cX4_isLength 3 = .ok (.ifCond .lt (15), 3) := by decide +kernel
theorem dX4_isLength_6 : decode cX4_isLength 6 = .ok (.lload_n 0, 1) := by decide +kernel
theorem dX4_isLength_7 : decode cX4_isLength 7 = .ok (.ldc2_w 51, 3) := by decide +kernel
theorem dX4_isLength_10 : decode cX4_isLength 10 = .ok (.lcmp, 1) := by decide +kernel
theorem dX4_isLength_11 : decode cX4_isLength 11 = .ok (.ifCond .gt (7), 3) := by decide +kernel
theorem dX4_isLength_14 : decode cX4_isLength 14 = .ok (.iconst 1, 1) := by decide +kernel
theorem dX4_isLength_15 : decode cX4_isLength 15 = .ok (.goto (4), 3) := by decide +kernel
theorem dX4_isLength_18 : decode cX4_isLength 18 = .ok (.iconst 0, 1) := by decide +kernel
theorem dX4_isLength_19 : decode cX4_isLength 19 = .ok (.ireturn, 1) := by decide +kernel
abbrev cX4_fitsBoard : ByteArray := prog_1_method_20_code
def yX4_fitsBoard : MethodName := ⟨RX4, "fitsBoard", "(IJJI)Z"⟩
def wsX4_fitsBoard : List Cond := .code yX4_fitsBoard cX4_fitsBoard 12 (some .boolean) :: bT
theorem dX4_fitsBoard_0 : decode cX4_fitsBoard 0 = .ok (.iload 6, 2) := by decide +kernel
theorem dX4_fitsBoard_2 : decode cX4_fitsBoard 2 = .ok (.iconst 2, 1) := by decide +kernel
theorem dX4_fitsBoard_3 : decode cX4_fitsBoard 3 = .ok (.irem, 1) := by decide +kernel
theorem dX4_fitsBoard_4 : decode cX4_fitsBoard 4 = .ok (.ifCond .ne (7), 3) := by decide +kernel
theorem dX4_fitsBoard_7 : decode cX4_fitsBoard 7 = .ok (.iconst 1, 1) := by decide +kernel
theorem dX4_fitsBoard_8 : decode cX4_fitsBoard 8 = .ok (.goto (4), 3) := by decide +kernel
theorem dX4_fitsBoard_11 : decode cX4_fitsBoard 11 = .ok (.iconst 0, 1) := by decide +kernel
theorem dX4_fitsBoard_12 : decode cX4_fitsBoard 12 = .ok (.istore 7, 2) := by decide +kernel
theorem dX4_fitsBoard_14 : decode cX4_fitsBoard 14 = .ok (.iload 7, 2) := by decide +kernel
theorem dX4_fitsBoard_16 : decode cX4_fitsBoard 16 = .ok (.ifCond .eq (15), 3) := by decide +kernel
theorem dX4_fitsBoard_19 : decode cX4_fitsBoard 19 = .ok (.aload_n 0, 1) := by decide +kernel
theorem dX4_fitsBoard_20 : decode cX4_fitsBoard 20 = .ok (.getfield 12, 3) := by decide +kernel
theorem dX4_fitsBoard_23 : decode cX4_fitsBoard 23 = .ok (.getfield 148, 3) := by decide +kernel
theorem dX4_fitsBoard_26 : decode cX4_fitsBoard 26 = .ok (.iload_n 1, 1) := by decide +kernel
theorem dX4_fitsBoard_27 : decode cX4_fitsBoard 27 = .ok (.laload, 1) := by decide +kernel
theorem dX4_fitsBoard_28 : decode cX4_fitsBoard 28 = .ok (.goto (12), 3) := by decide +kernel
theorem dX4_fitsBoard_31 : decode cX4_fitsBoard 31 = .ok (.aload_n 0, 1) := by decide +kernel
theorem dX4_fitsBoard_32 : decode cX4_fitsBoard 32 = .ok (.getfield 12, 3) := by decide +kernel
theorem dX4_fitsBoard_35 : decode cX4_fitsBoard 35 = .ok (.getfield 151, 3) := by decide +kernel
theorem dX4_fitsBoard_38 : decode cX4_fitsBoard 38 = .ok (.iload_n 1, 1) := by decide +kernel
theorem dX4_fitsBoard_39 : decode cX4_fitsBoard 39 = .ok (.laload, 1) := by decide +kernel
theorem dX4_fitsBoard_40 : decode cX4_fitsBoard 40 = .ok (.lstore 8, 2) := by decide +kernel
theorem dX4_fitsBoard_42 : decode cX4_fitsBoard 42 = .ok (.iload 7, 2) := by decide +kernel
theorem dX4_fitsBoard_44 : decode cX4_fitsBoard 44 = .ok (.ifCond .eq (15), 3) := by decide +kernel
theorem dX4_fitsBoard_47 : decode cX4_fitsBoard 47 = .ok (.aload_n 0, 1) := by decide +kernel
theorem dX4_fitsBoard_48 : decode cX4_fitsBoard 48 = .ok (.getfield 12, 3) := by decide +kernel
theorem dX4_fitsBoard_51 : decode cX4_fitsBoard 51 = .ok (.getfield 151, 3) := by decide +kernel
theorem dX4_fitsBoard_54 : decode cX4_fitsBoard 54 = .ok (.iload_n 1, 1) := by decide +kernel
theorem dX4_fitsBoard_55 : decode cX4_fitsBoard 55 = .ok (.laload, 1) := by decide +kernel
theorem dX4_fitsBoard_56 : decode cX4_fitsBoard 56 = .ok (.goto (12), 3) := by decide +kernel
theorem dX4_fitsBoard_59 : decode cX4_fitsBoard 59 = .ok (.aload_n 0, 1) := by decide +kernel
theorem dX4_fitsBoard_60 : decode cX4_fitsBoard 60 = .ok (.getfield 12, 3) := by decide +kernel
theorem dX4_fitsBoard_63 : decode cX4_fitsBoard 63 = .ok (.getfield 148, 3) := by decide +kernel
theorem dX4_fitsBoard_66 : decode cX4_fitsBoard 66 = .ok (.iload_n 1, 1) := by decide +kernel
theorem dX4_fitsBoard_67 : decode cX4_fitsBoard 67 = .ok (.laload, 1) := by decide +kernel
theorem dX4_fitsBoard_68 : decode cX4_fitsBoard 68 = .ok (.lstore 10, 2) := by decide +kernel
theorem dX4_fitsBoard_70 : decode cX4_fitsBoard 70 = .ok (.lload_n 2, 1) := by decide +kernel
theorem dX4_fitsBoard_71 : decode cX4_fitsBoard 71 = .ok (.lconst 0, 1) := by decide +kernel
theorem dX4_fitsBoard_72 : decode cX4_fitsBoard 72 = .ok (.lcmp, 1) := by decide +kernel
theorem dX4_fitsBoard_73 : decode cX4_fitsBoard 73 = .ok (.ifCond .lt (39), 3) := by decide +kernel
theorem dX4_fitsBoard_76 : decode cX4_fitsBoard 76 = .ok (.lload_n 2, 1) := by decide +kernel
theorem dX4_fitsBoard_77 : decode cX4_fitsBoard 77 = .ok (.aload_n 0, 1) := by decide +kernel
theorem dX4_fitsBoard_78 : decode cX4_fitsBoard 78 = .ok (.getfield 62, 3) := by decide +kernel
theorem dX4_fitsBoard_81 : decode cX4_fitsBoard 81 = .ok (.lload 8, 2) := by decide +kernel
theorem dX4_fitsBoard_83 : decode cX4_fitsBoard 83 = .ok (.lsub, 1) := by decide +kernel
theorem dX4_fitsBoard_84 : decode cX4_fitsBoard 84 = .ok (.lcmp, 1) := by decide +kernel
theorem dX4_fitsBoard_85 : decode cX4_fitsBoard 85 = .ok (.ifCond .gt (27), 3) := by decide +kernel
theorem dX4_fitsBoard_88 : decode cX4_fitsBoard 88 = .ok (.lload 4, 2) := by decide +kernel
theorem dX4_fitsBoard_90 : decode cX4_fitsBoard 90 = .ok (.lconst 0, 1) := by decide +kernel
theorem dX4_fitsBoard_91 : decode cX4_fitsBoard 91 = .ok (.lcmp, 1) := by decide +kernel
theorem dX4_fitsBoard_92 : decode cX4_fitsBoard 92 = .ok (.ifCond .lt (20), 3) := by decide +kernel
theorem dX4_fitsBoard_95 : decode cX4_fitsBoard 95 = .ok (.lload 4, 2) := by decide +kernel
theorem dX4_fitsBoard_97 : decode cX4_fitsBoard 97 = .ok (.aload_n 0, 1) := by decide +kernel
theorem dX4_fitsBoard_98 : decode cX4_fitsBoard 98 = .ok (.getfield 65, 3) := by decide +kernel
theorem dX4_fitsBoard_101 : decode cX4_fitsBoard 101 = .ok (.lload 10, 2) := by decide +kernel
theorem dX4_fitsBoard_103 : decode cX4_fitsBoard 103 = .ok (.lsub, 1) := by decide +kernel
theorem dX4_fitsBoard_104 : decode cX4_fitsBoard 104 = .ok (.lcmp, 1) := by decide +kernel
theorem dX4_fitsBoard_105 : decode cX4_fitsBoard 105 = .ok (.ifCond .gt (7), 3) := by decide +kernel
theorem dX4_fitsBoard_108 : decode cX4_fitsBoard 108 = .ok (.iconst 1, 1) := by decide +kernel
theorem dX4_fitsBoard_109 : decode cX4_fitsBoard 109 = .ok (.goto (4), 3) := by decide +kernel
theorem dX4_fitsBoard_112 : decode cX4_fitsBoard 112 = .ok (.iconst 0, 1) := by decide +kernel
theorem dX4_fitsBoard_113 : decode cX4_fitsBoard 113 = .ok (.ireturn, 1) := by decide +kernel
abbrev cX4_standsWell : ByteArray := prog_1_method_21_code
def yX4_standsWell : MethodName := ⟨RX4, "standsWell", "(I)Z"⟩
def wsX4_standsWell : List Cond := .code yX4_standsWell cX4_standsWell 2 (some .boolean) :: bT
theorem dX4_standsWell_0 : decode cX4_standsWell 0 = .ok (.aload_n 0, 1) := by decide +kernel
theorem dX4_standsWell_1 : decode cX4_standsWell 1 = .ok (.getfield 37, 3) := by decide +kernel
theorem dX4_standsWell_4 : decode cX4_standsWell 4 = .ok (.getfield 96, 3) := by decide +kernel
theorem dX4_standsWell_7 : decode cX4_standsWell 7 = .ok (.iload_n 1, 1) := by decide +kernel
theorem dX4_standsWell_8 : decode cX4_standsWell 8 = .ok (.baload, 1) := by decide +kernel
theorem dX4_standsWell_9 : decode cX4_standsWell 9 = .ok (.ifCond .ne (5), 3) := by decide +kernel
theorem dX4_standsWell_12 : decode cX4_standsWell 12 = .ok (.iconst 1, 1) := by decide +kernel
theorem dX4_standsWell_13 : decode cX4_standsWell 13 = .ok (.ireturn, 1) := by decide +kernel
theorem dX4_standsWell_14 : decode cX4_standsWell 14 = .ok (.aload_n 0, 1) := by decide +kernel
theorem dX4_standsWell_15 : decode cX4_standsWell 15 = .ok (.iload_n 1, 1) := by decide +kernel
theorem dX4_standsWell_16 : decode cX4_standsWell 16 = .ok (.aload_n 0, 1) := by decide +kernel
theorem dX4_standsWell_17 : decode cX4_standsWell 17 = .ok (.getfield 37, 3) := by decide +kernel
theorem dX4_standsWell_20 : decode cX4_standsWell 20 = .ok (.getfield 112, 3) := by decide +kernel
theorem dX4_standsWell_23 : decode cX4_standsWell 23 = .ok (.iload_n 1, 1) := by decide +kernel
theorem dX4_standsWell_24 : decode cX4_standsWell 24 = .ok (.laload, 1) := by decide +kernel
theorem dX4_standsWell_25 : decode cX4_standsWell 25 = .ok (.aload_n 0, 1) := by decide +kernel
theorem dX4_standsWell_26 : decode cX4_standsWell 26 = .ok (.getfield 37, 3) := by decide +kernel
theorem dX4_standsWell_29 : decode cX4_standsWell 29 = .ok (.getfield 116, 3) := by decide +kernel
theorem dX4_standsWell_32 : decode cX4_standsWell 32 = .ok (.iload_n 1, 1) := by decide +kernel
theorem dX4_standsWell_33 : decode cX4_standsWell 33 = .ok (.laload, 1) := by decide +kernel
theorem dX4_standsWell_34 : decode cX4_standsWell 34 = .ok (.aload_n 0, 1) := by decide +kernel
theorem dX4_standsWell_35 : decode cX4_standsWell 35 = .ok (.getfield 37, 3) := by decide +kernel
theorem dX4_standsWell_38 : decode cX4_standsWell 38 = .ok (.getfield 100, 3) := by decide +kernel
theorem dX4_standsWell_41 : decode cX4_standsWell 41 = .ok (.iload_n 1, 1) := by decide +kernel
theorem dX4_standsWell_42 : decode cX4_standsWell 42 = .ok (.iaload, 1) := by decide +kernel
theorem dX4_standsWell_43 : decode cX4_standsWell 43 = .ok (.invokevirtual 92, 3) := by decide +kernel
theorem dX4_standsWell_46 : decode cX4_standsWell 46 = .ok (.ifCond .eq (50), 3) := by decide +kernel
theorem dX4_standsWell_49 : decode cX4_standsWell 49 = .ok (.aload_n 0, 1) := by decide +kernel
theorem dX4_standsWell_50 : decode cX4_standsWell 50 = .ok (.getfield 37, 3) := by decide +kernel
theorem dX4_standsWell_53 : decode cX4_standsWell 53 = .ok (.iload_n 1, 1) := by decide +kernel
theorem dX4_standsWell_54 : decode cX4_standsWell 54 = .ok (.iconst 0, 1) := by decide +kernel
theorem dX4_standsWell_55 : decode cX4_standsWell 55 = .ok (.invokevirtual 240, 3) := by decide +kernel
theorem dX4_standsWell_58 : decode cX4_standsWell 58 = .ok (.iconst (-1), 1) := by decide +kernel
theorem dX4_standsWell_59 : decode cX4_standsWell 59 = .ok (.if_icmp .ne (37), 3) := by decide +kernel
theorem dX4_standsWell_62 : decode cX4_standsWell 62 = .ok (.aload_n 0, 1) := by decide +kernel
theorem dX4_standsWell_63 : decode cX4_standsWell 63 = .ok (.getfield 23, 3) := by decide +kernel
theorem dX4_standsWell_66 : decode cX4_standsWell 66 = .ok (.aload_n 0, 1) := by decide +kernel
theorem dX4_standsWell_67 : decode cX4_standsWell 67 = .ok (.getfield 37, 3) := by decide +kernel
theorem dX4_standsWell_70 : decode cX4_standsWell 70 = .ok (.iload_n 1, 1) := by decide +kernel
theorem dX4_standsWell_71 : decode cX4_standsWell 71 = .ok (.invokevirtual 243, 3) := by decide +kernel
theorem dX4_standsWell_74 : decode cX4_standsWell 74 = .ok (.ifCond .eq (22), 3) := by decide +kernel
theorem dX4_standsWell_77 : decode cX4_standsWell 77 = .ok (.aload_n 0, 1) := by decide +kernel
theorem dX4_standsWell_78 : decode cX4_standsWell 78 = .ok (.getfield 23, 3) := by decide +kernel
theorem dX4_standsWell_81 : decode cX4_standsWell 81 = .ok (.aload_n 0, 1) := by decide +kernel
theorem dX4_standsWell_82 : decode cX4_standsWell 82 = .ok (.getfield 37, 3) := by decide +kernel
theorem dX4_standsWell_85 : decode cX4_standsWell 85 = .ok (.iload_n 1, 1) := by decide +kernel
theorem dX4_standsWell_86 : decode cX4_standsWell 86 = .ok (.invokevirtual 247, 3) := by decide +kernel
theorem dX4_standsWell_89 : decode cX4_standsWell 89 = .ok (.ifCond .eq (7), 3) := by decide +kernel
theorem dX4_standsWell_92 : decode cX4_standsWell 92 = .ok (.iconst 1, 1) := by decide +kernel
theorem dX4_standsWell_93 : decode cX4_standsWell 93 = .ok (.goto (4), 3) := by decide +kernel
theorem dX4_standsWell_96 : decode cX4_standsWell 96 = .ok (.iconst 0, 1) := by decide +kernel
theorem dX4_standsWell_97 : decode cX4_standsWell 97 = .ok (.ireturn, 1) := by decide +kernel
abbrev cX4_allStandWell : ByteArray := prog_1_method_22_code
def yX4_allStandWell : MethodName := ⟨RX4, "allStandWell", "()Z"⟩
def wsX4_allStandWell : List Cond := .code yX4_allStandWell cX4_allStandWell 2 (some .boolean) :: bT
theorem dX4_allStandWell_0 : decode cX4_allStandWell 0 = .ok (.iconst 0, 1) := by decide +kernel
theorem dX4_allStandWell_1 : decode cX4_allStandWell 1 = .ok (.istore_n 1, 1) := by decide +kernel
theorem dX4_allStandWell_2 : decode cX4_allStandWell 2 = .ok (.iload_n 1, 1) := by decide +kernel
theorem dX4_allStandWell_3 : decode cX4_allStandWell 3 = .ok (.aload_n 0, 1) := by decide +kernel
theorem dX4_allStandWell_4 : decode cX4_allStandWell 4 = .ok (.getfield 12, 3) := by decide +kernel
theorem dX4_allStandWell_7 : decode cX4_allStandWell 7 = .ok (.getfield 197, 3) := by decide +kernel
theorem dX4_allStandWell_10 : decode cX4_allStandWell 10 = .ok (.if_icmp .ge (19), 3) := by decide +kernel
theorem dX4_allStandWell_13 : decode cX4_allStandWell 13 = .ok (.aload_n 0, 1) := by decide +kernel
theorem dX4_allStandWell_14 : decode cX4_allStandWell 14 = .ok (.iload_n 1, 1) := by decide +kernel
theorem dX4_allStandWell_15 : decode cX4_allStandWell 15 = .ok (.invokevirtual 220, 3) := by decide +kernel
theorem dX4_allStandWell_18 : decode cX4_allStandWell 18 = .ok (.ifCond .ne (5), 3) := by decide +kernel
theorem dX4_allStandWell_21 : decode cX4_allStandWell 21 = .ok (.iconst 0, 1) := by decide +kernel
theorem dX4_allStandWell_22 : decode cX4_allStandWell 22 = .ok (.ireturn, 1) := by decide +kernel
theorem dX4_allStandWell_23 : decode cX4_allStandWell 23 = .ok (.iinc 1 1, 3) := by decide +kernel
theorem dX4_allStandWell_26 : decode cX4_allStandWell 26 = .ok (.goto (-24), 3) := by decide +kernel
theorem dX4_allStandWell_29 : decode cX4_allStandWell 29 = .ok (.iconst 1, 1) := by decide +kernel
theorem dX4_allStandWell_30 : decode cX4_allStandWell 30 = .ok (.ireturn, 1) := by decide +kernel
abbrev cX4_keepChange : ByteArray := prog_1_method_23_code
def yX4_keepChange : MethodName := ⟨RX4, "keepChange", "(J)Z"⟩
def wsX4_keepChange : List Cond := .code yX4_keepChange cX4_keepChange 5 (some .boolean) :: bT
theorem dX4_keepChange_0 : decode cX4_keepChange 0 = .ok (.iconst 0, 1) := by decide +kernel
theorem dX4_keepChange_1 : decode cX4_keepChange 1 = .ok (.istore_n 3, 1) := by decide +kernel
theorem dX4_keepChange_2 : decode cX4_keepChange 2 = .ok (.iload_n 3, 1) := by decide +kernel
theorem dX4_keepChange_3 : decode cX4_keepChange 3 = .ok (.aload_n 0, 1) := by decide +kernel
theorem dX4_keepChange_4 : decode cX4_keepChange 4 = .ok (.getfield 12, 3) := by decide +kernel
theorem dX4_keepChange_7 : decode cX4_keepChange 7 = .ok (.getfield 197, 3) := by decide +kernel
theorem dX4_keepChange_10 : decode cX4_keepChange 10 = .ok (.if_icmp .ge (73), 3) := by decide +kernel
theorem dX4_keepChange_13 : decode cX4_keepChange 13 = .ok (.aload_n 0, 1) := by decide +kernel
theorem dX4_keepChange_14 : decode cX4_keepChange 14 = .ok (.getfield 37, 3) := by decide +kernel
theorem dX4_keepChange_17 : decode cX4_keepChange 17 = .ok (.aload_n 0, 1) := by decide +kernel
theorem dX4_keepChange_18 : decode cX4_keepChange 18 = .ok (.getfield 41, 3) := by decide +kernel
theorem dX4_keepChange_21 : decode cX4_keepChange 21 = .ok (.iload_n 3, 1) := by decide +kernel
theorem dX4_keepChange_22 : decode cX4_keepChange 22 = .ok (.invokevirtual 250, 3) := by decide +kernel
theorem dX4_keepChange_25 : decode cX4_keepChange 25 = .ok (.ifCond .eq (52), 3) := by decide +kernel
theorem dX4_keepChange_28 : decode cX4_keepChange 28 = .ok (.aload_n 0, 1) := by decide +kernel
theorem dX4_keepChange_29 : decode cX4_keepChange 29 = .ok (.getfield 12, 3) := by decide +kernel
theorem dX4_keepChange_32 : decode cX4_keepChange 32 = .ok (.getfield 132, 3) := by decide +kernel
theorem dX4_keepChange_35 : decode cX4_keepChange 35 = .ok (.iload_n 3, 1) := by decide +kernel
theorem dX4_keepChange_36 : decode cX4_keepChange 36 = .ok (.baload, 1) := by decide +kernel
theorem dX4_keepChange_37 : decode cX4_keepChange 37 = .ok (.ifCond .eq (19), 3) := by decide +kernel
theorem dX4_keepChange_40 : decode cX4_keepChange 40 = .ok (.aload_n 0, 1) := by decide +kernel
theorem dX4_keepChange_41 : decode cX4_keepChange 41 = .ok (.getfield 41, 3) := by decide +kernel
theorem dX4_keepChange_44 : decode cX4_keepChange 44 = .ok (.getfield 96, 3) := by decide +kernel
theorem dX4_keepChange_47 : decode cX4_keepChange 47 = .ok (.iload_n 3, 1) := by decide +kernel
theorem dX4_keepChange_48 : decode cX4_keepChange 48 = .ok (.baload, 1) := by decide +kernel
theorem dX4_keepChange_49 : decode cX4_keepChange 49 = .ok (.ifCond .eq (7), 3) := by decide +kernel
theorem dX4_keepChange_52 : decode cX4_keepChange 52 = .ok (.iconst 1, 1) := by decide +kernel
theorem dX4_keepChange_53 : decode cX4_keepChange 53 = .ok (.goto (4), 3) := by decide +kernel
theorem dX4_keepChange_56 : decode cX4_keepChange 56 = .ok (.iconst 0, 1) := by decide +kernel
theorem dX4_keepChange_57 : decode cX4_keepChange 57 = .ok (.istore 4, 2) := by decide +kernel
theorem dX4_keepChange_59 : decode cX4_keepChange 59 = .ok (.iload 4, 2) := by decide +kernel
theorem dX4_keepChange_61 : decode cX4_keepChange 61 = .ok (.ifCond .ne (11), 3) := by decide +kernel
theorem dX4_keepChange_64 : decode cX4_keepChange 64 = .ok (.aload_n 0, 1) := by decide +kernel
theorem dX4_keepChange_65 : decode cX4_keepChange 65 = .ok (.iload_n 3, 1) := by decide +kernel
theorem dX4_keepChange_66 : decode cX4_keepChange 66 = .ok (.invokevirtual 220, 3) := by decide +kernel
theorem dX4_keepChange_69 : decode cX4_keepChange 69 = .ok (.ifCond .ne (8), 3) := by decide +kernel
theorem dX4_keepChange_72 : decode cX4_keepChange 72 = .ok (.aload_n 0, 1) := by decide +kernel
theorem dX4_keepChange_73 : decode cX4_keepChange 73 = .ok (.invokevirtual 177, 3) := by decide +kernel
theorem dX4_keepChange_76 : decode cX4_keepChange 76 = .ok (.ireturn, 1) := by decide +kernel
theorem dX4_keepChange_77 : decode cX4_keepChange 77 = .ok (.iinc 3 1, 3) := by decide +kernel
theorem dX4_keepChange_80 : decode cX4_keepChange 80 = .ok (.goto (-78), 3) := by decide +kernel
theorem dX4_keepChange_83 : decode cX4_keepChange 83 = .ok (.aload_n 0, 1) := by decide +kernel
theorem dX4_keepChange_84 : decode cX4_keepChange 84 = .ok (.getfield 30, 3) := by decide +kernel
theorem dX4_keepChange_87 : decode cX4_keepChange 87 = .ok (.aload_n 0, 1) := by decide +kernel
theorem dX4_keepChange_88 : decode cX4_keepChange 88 = .ok (.getfield 37, 3) := by decide +kernel
theorem dX4_keepChange_91 : decode cX4_keepChange 91 = .ok (.invokevirtual 160, 3) := by decide +kernel
theorem dX4_keepChange_94 : decode cX4_keepChange 94 = .ok (.lstore_n 3, 1) := by decide +kernel
theorem dX4_keepChange_95 : decode cX4_keepChange 95 = .ok (.lload_n 3, 1) := by decide +kernel
theorem dX4_keepChange_96 : decode cX4_keepChange 96 = .ok (.aload_n 0, 1) := by decide +kernel
theorem dX4_keepChange_97 : decode cX4_keepChange 97 = .ok (.getfield 47, 3) := by decide +kernel
theorem dX4_keepChange_100 : decode cX4_keepChange 100 = .ok (.lsub, 1) := by decide +kernel
theorem dX4_keepChange_101 : decode cX4_keepChange 101 = .ok (.lload_n 1, 1) := by decide +kernel
theorem dX4_keepChange_102 : decode cX4_keepChange 102 = .ok (.lcmp, 1) := by decide +kernel
theorem dX4_keepChange_103 : decode cX4_keepChange 103 = .ok (.ifCond .le (8), 3) := by decide +kernel
theorem dX4_keepChange_106 : decode cX4_keepChange 106 = .ok (.aload_n 0, 1) := by decide +kernel
theorem dX4_keepChange_107 : decode cX4_keepChange 107 = .ok (.invokevirtual 177, 3) := by decide +kernel
theorem dX4_keepChange_110 : decode cX4_keepChange 110 = .ok (.ireturn, 1) := by decide +kernel
theorem dX4_keepChange_111 : decode cX4_keepChange 111 = .ok (.aload_n 0, 1) := by decide +kernel
theorem dX4_keepChange_112 : decode cX4_keepChange 112 = .ok (.lload_n 3, 1) := by decide +kernel
theorem dX4_keepChange_113 : decode cX4_keepChange 113 = .ok (.putfield 47, 3) := by decide +kernel
theorem dX4_keepChange_116 : decode cX4_keepChange 116 = .ok (.iconst 1, 1) := by decide +kernel
theorem dX4_keepChange_117 : decode cX4_keepChange 117 = .ok (.ireturn, 1) := by decide +kernel
abbrev cX4_takeBack : ByteArray := prog_1_method_24_code
def yX4_takeBack : MethodName := ⟨RX4, "takeBack", "()Z"⟩
def wsX4_takeBack : List Cond := .code yX4_takeBack cX4_takeBack 1 (some .boolean) :: bT
theorem dX4_takeBack_0 : decode cX4_takeBack 0 = .ok (.aload_n 0, 1) := by decide +kernel
theorem dX4_takeBack_1 : decode cX4_takeBack 1 = .ok (.getfield 37, 3) := by decide +kernel
theorem dX4_takeBack_4 : decode cX4_takeBack 4 = .ok (.aload_n 0, 1) := by decide +kernel
theorem dX4_takeBack_5 : decode cX4_takeBack 5 = .ok (.getfield 41, 3) := by decide +kernel
theorem dX4_takeBack_8 : decode cX4_takeBack 8 = .ok (.invokevirtual 108, 3) := by decide +kernel
theorem dX4_takeBack_11 : decode cX4_takeBack 11 = .ok (.iconst 0, 1) := by decide +kernel
theorem dX4_takeBack_12 : decode cX4_takeBack 12 = .ok (.ireturn, 1) := by decide +kernel
abbrev cX4_countChanged : ByteArray := prog_1_method_25_code
def yX4_countChanged : MethodName := ⟨RX4, "countChanged", "(I)I"⟩
def wsX4_countChanged : List Cond := .code yX4_countChanged cX4_countChanged 4 (some .int) :: bT
theorem dX4_countChanged_0 : decode cX4_countChanged 0 = .ok (.iconst 0, 1) := by decide +kernel
theorem dX4_countChanged_1 : decode cX4_countChanged 1 = .ok (.istore_n 2, 1) := by decide +kernel
theorem dX4_countChanged_2 : decode cX4_countChanged 2 = .ok (.iconst 0, 1) := by decide +kernel
theorem dX4_countChanged_3 : decode cX4_countChanged 3 = .ok (.istore_n 3, 1) := by decide +kernel
theorem dX4_countChanged_4 : decode cX4_countChanged 4 = .ok (.iload_n 3, 1) := by decide +kernel
theorem dX4_countChanged_5 : decode cX4_countChanged 5 = .ok (.aload_n 0, 1) := by decide +kernel
theorem dX4_countChanged_6 : decode cX4_countChanged 6 = .ok (.getfield 12, 3) := by decide +kernel
theorem dX4_countChanged_9 : decode cX4_countChanged 9 = .ok (.getfield 197, 3) := by decide +kernel
theorem dX4_countChanged_12 : decode cX4_countChanged 12 = .ok (.if_icmp .ge (32), 3) := by decide +kernel
theorem dX4_countChanged_15 : decode cX4_countChanged 15 = .ok (.iload_n 3, 1) := by decide +kernel
theorem dX4_countChanged_16 : decode cX4_countChanged 16 = .ok (.iload_n 1, 1) := by decide +kernel
theorem dX4_countChanged_17 : decode cX4_countChanged 17 = .ok (.if_icmp .eq (21), 3) := by decide +kernel
theorem dX4_countChanged_20 : decode cX4_countChanged 20 = .ok (.aload_n 0, 1) := by decide +kernel
theorem dX4_countChanged_21 : decode cX4_countChanged 21 = .ok (.getfield 37, 3) := by decide +kernel
theorem dX4_countChanged_24 : decode cX4_countChanged 24 = .ok (.aload_n 0, 1) := by decide +kernel
theorem dX4_countChanged_25 : decode cX4_countChanged 25 = .ok (.getfield 41, 3) := by decide +kernel
theorem dX4_countChanged_28 : decode cX4_countChanged 28 = .ok (.iload_n 3, 1) := by decide +kernel
theorem dX4_countChanged_29 : decode cX4_countChanged 29 = .ok (.invokevirtual 250, 3) := by decide +kernel
theorem dX4_countChanged_32 : decode cX4_countChanged 32 = .ok (.ifCond .eq (6), 3) := by decide +kernel
theorem dX4_countChanged_35 : decode cX4_countChanged 35 = .ok (.iinc 2 1, 3) := by decide +kernel
theorem dX4_countChanged_38 : decode cX4_countChanged 38 = .ok (.iinc 3 1, 3) := by decide +kernel
theorem dX4_countChanged_41 : decode cX4_countChanged 41 = .ok (.goto (-37), 3) := by decide +kernel
theorem dX4_countChanged_44 : decode cX4_countChanged 44 = .ok (.iload_n 2, 1) := by decide +kernel
theorem dX4_countChanged_45 : decode cX4_countChanged 45 = .ok (.ireturn, 1) := by decide +kernel
abbrev cX4_clearTheWay : ByteArray := prog_1_method_26_code
def yX4_clearTheWay : MethodName := ⟨RX4, "clearTheWay", "(IZZ)Z"⟩
def wsX4_clearTheWay : List Cond := .code yX4_clearTheWay cX4_clearTheWay 12 (some .boolean) :: bT
theorem dX4_clearTheWay_0 : decode cX4_clearTheWay 0 = .ok (.iconst 0, 1) := by decide +kernel
theorem dX4_clearTheWay_1 : decode cX4_clearTheWay 1 = .ok (.istore 4, 2) := by decide +kernel
theorem dX4_clearTheWay_3 : decode cX4_clearTheWay 3 = .ok (.iload 4, 2) := by decide +kernel
theorem dX4_clearTheWay_5 : decode cX4_clearTheWay 5 = .ok (.sipush 200, 3) := by decide +kernel
theorem dX4_clearTheWay_8 : decode cX4_clearTheWay 8 = .ok (.if_icmp .ge (148), 3) := by decide +kernel
theorem dX4_clearTheWay_11 : decode cX4_clearTheWay 11 = .ok (.aload_n 0, 1) := by decide +kernel
theorem dX4_clearTheWay_12 : decode cX4_clearTheWay 12 = .ok (.getfield 37, 3) := by decide +kernel
theorem dX4_clearTheWay_15 : decode cX4_clearTheWay 15 = .ok (.invokevirtual 253, 3) := by decide +kernel
theorem dX4_clearTheWay_18 : decode cX4_clearTheWay 18 = .ok (.istore 5, 2) := by decide +kernel
theorem dX4_clearTheWay_20 : decode cX4_clearTheWay 20 = .ok (.iload 5, 2) := by decide +kernel
theorem dX4_clearTheWay_22 : decode cX4_clearTheWay 22 = .ok (.iconst (-1), 1) := by decide +kernel
theorem dX4_clearTheWay_23 : decode cX4_clearTheWay 23 = .ok (.if_icmp .ne (5), 3) := by decide +kernel
theorem dX4_clearTheWay_26 : decode cX4_clearTheWay 26 = .ok (.iconst 1, 1) := by decide +kernel
theorem dX4_clearTheWay_27 : decode cX4_clearTheWay 27 = .ok (.ireturn, 1) := by decide +kernel
theorem dX4_clearTheWay_28 : decode cX4_clearTheWay 28 = .ok (.aload_n 0, 1) := by decide +kernel
theorem dX4_clearTheWay_29 : decode cX4_clearTheWay 29 = .ok (.getfield 37, 3) := by decide +kernel
theorem dX4_clearTheWay_32 : decode cX4_clearTheWay 32 = .ok (.iload 5, 2) := by decide +kernel
theorem dX4_clearTheWay_34 : decode cX4_clearTheWay 34 = .ok (.iload 5, 2) := by decide +kernel
theorem dX4_clearTheWay_36 : decode cX4_clearTheWay 36 = .ok (.iconst 1, 1) := by decide +kernel
theorem dX4_clearTheWay_37 : decode cX4_clearTheWay 37 = .ok (.iadd, 1) := by decide +kernel
theorem dX4_clearTheWay_38 : decode cX4_clearTheWay 38 = .ok (.invokevirtual 240, 3) := by decide +kernel
theorem dX4_clearTheWay_41 : decode cX4_clearTheWay 41 = .ok (.istore 6, 2) := by decide +kernel
theorem dX4_clearTheWay_43 : decode cX4_clearTheWay 43 = .ok (.iload 6, 2) := by decide +kernel
theorem dX4_clearTheWay_45 : decode cX4_clearTheWay 45 = .ok (.iconst (-1), 1) := by decide +kernel
theorem dX4_clearTheWay_46 : decode cX4_clearTheWay 46 = .ok (.if_icmp .eq (17), 3) := by decide +kernel
theorem dX4_clearTheWay_49 : decode cX4_clearTheWay 49 = .ok (.aload_n 0, 1) := by decide +kernel
theorem dX4_clearTheWay_50 : decode cX4_clearTheWay 50 = .ok (.getfield 12, 3) := by decide +kernel
theorem dX4_clearTheWay_53 : decode cX4_clearTheWay 53 = .ok (.iload 5, 2) := by decide +kernel
theorem dX4_clearTheWay_55 : decode cX4_clearTheWay 55 = .ok (.iload 6, 2) := by decide +kernel
theorem dX4_clearTheWay_57 : decode cX4_clearTheWay 57 = .ok (.invokevirtual 256, 3) := by decide +kernel
theorem dX4_clearTheWay_60 : decode cX4_clearTheWay 60 = .ok (.ifCond .eq (5), 3) := by decide +kernel
theorem dX4_clearTheWay_63 : decode cX4_clearTheWay 63 = .ok (.iconst 0, 1) := by decide +kernel
theorem dX4_clearTheWay_64 : decode cX4_clearTheWay 64 = .ok (.ireturn, 1) := by decide +kernel
theorem dX4_clearTheWay_65 : decode cX4_clearTheWay 65 = .ok (.aload_n 0, 1) := by decide +kernel
theorem dX4_clearTheWay_66 : decode cX4_clearTheWay 66 = .ok (.iload 5, 2) := by decide +kernel
theorem dX4_clearTheWay_68 : decode cX4_clearTheWay 68 = .ok (.iload 6, 2) := by decide +kernel
theorem dX4_clearTheWay_70 : decode cX4_clearTheWay 70 = .ok (.iload_n 1, 1) := by decide +kernel
theorem dX4_clearTheWay_71 : decode cX4_clearTheWay 71 = .ok (.iload_n 2, 1) := by decide +kernel
theorem dX4_clearTheWay_72 : decode cX4_clearTheWay 72 = .ok (.iload_n 3, 1) := by decide +kernel
theorem dX4_clearTheWay_73 : decode cX4_clearTheWay 73 = .ok (.invokevirtual 260, 3) := by decide +kernel
theorem dX4_clearTheWay_76 : decode cX4_clearTheWay 76 = .ok (.istore 7, 2) := by decide +kernel
theorem dX4_clearTheWay_78 : decode cX4_clearTheWay 78 = .ok (.iload 7, 2) := by decide +kernel
theorem dX4_clearTheWay_80 : decode cX4_clearTheWay 80 = .ok (.ifCond .eq (8), 3) := by decide +kernel
theorem dX4_clearTheWay_83 : decode cX4_clearTheWay 83 = .ok (.iload 5, 2) := by decide +kernel
theorem dX4_clearTheWay_85 : decode cX4_clearTheWay 85 = .ok (.goto (5), 3) := by decide +kernel
theorem dX4_clearTheWay_88 : decode cX4_clearTheWay 88 = .ok (.iload 6, 2) := by decide +kernel
theorem dX4_clearTheWay_90 : decode cX4_clearTheWay 90 = .ok (.istore 8, 2) := by decide +kernel
theorem dX4_clearTheWay_92 : decode cX4_clearTheWay 92 = .ok (.iload 7, 2) := by decide +kernel
theorem dX4_clearTheWay_94 : decode cX4_clearTheWay 94 = .ok (.ifCond .eq (8), 3) := by decide +kernel
theorem dX4_clearTheWay_97 : decode cX4_clearTheWay 97 = .ok (.iload 6, 2) := by decide +kernel
theorem dX4_clearTheWay_99 : decode cX4_clearTheWay 99 = .ok (.goto (5), 3) := by decide +kernel
theorem dX4_clearTheWay_102 : decode cX4_clearTheWay 102 = .ok (.iload 5, 2) := by decide +kernel
theorem dX4_clearTheWay_104 : decode cX4_clearTheWay 104 = .ok (.istore 9, 2) := by decide +kernel
theorem dX4_clearTheWay_106 : decode cX4_clearTheWay 106 = .ok (.aload_n 0, 1) := by decide +kernel
theorem dX4_clearTheWay_107 : decode cX4_clearTheWay 107 = .ok (.getfield 37, 3) := by decide +kernel
theorem dX4_clearTheWay_110 : decode cX4_clearTheWay 110 = .ok (.iload 8, 2) := by decide +kernel
theorem dX4_clearTheWay_112 : decode cX4_clearTheWay 112 = .ok (.iload 9, 2) := by decide +kernel
theorem dX4_clearTheWay_114 : decode cX4_clearTheWay 114 = .ok (.iload_n 2, 1) := by decide +kernel
theorem dX4_clearTheWay_115 : decode cX4_clearTheWay 115 = .ok (.iload_n 3, 1) := by decide +kernel
theorem dX4_clearTheWay_116 : decode cX4_clearTheWay 116 = .ok (.invokevirtual 264, 3) := by decide +kernel
theorem dX4_clearTheWay_119 : decode cX4_clearTheWay 119 = .ok (.lstore 10, 2) := by decide +kernel
theorem dX4_clearTheWay_121 : decode cX4_clearTheWay 121 = .ok (.aload_n 0, 1) := by decide +kernel
theorem dX4_clearTheWay_122 : decode cX4_clearTheWay 122 = .ok (.getfield 37, 3) := by decide +kernel
theorem dX4_clearTheWay_125 : decode cX4_clearTheWay 125 = .ok (.iload 8, 2) := by decide +kernel
theorem dX4_clearTheWay_127 : decode cX4_clearTheWay 127 = .ok (.iload_n 2, 1) := by decide +kernel
theorem dX4_clearTheWay_128 : decode cX4_clearTheWay 128 = .ok (.ifCond .eq (8), 3) := by decide +kernel
theorem dX4_clearTheWay_131 : decode cX4_clearTheWay 131 = .ok (.lload 10, 2) := by decide +kernel
theorem dX4_clearTheWay_133 : decode cX4_clearTheWay 133 = .ok (.goto (4), 3) := by decide +kernel
theorem dX4_clearTheWay_136 : decode cX4_clearTheWay 136 = .ok (.lconst 0, 1) := by decide +kernel
theorem dX4_clearTheWay_137 : decode cX4_clearTheWay 137 = .ok (.iload_n 2, 1) := by decide +kernel
theorem dX4_clearTheWay_138 : decode cX4_clearTheWay 138 = .ok (.ifCond .eq (7), 3) := by decide +kernel
theorem dX4_clearTheWay_141 : decode cX4_clearTheWay 141 = .ok (.lconst 0, 1) := by decide +kernel
theorem dX4_clearTheWay_142 : decode cX4_clearTheWay 142 = .ok (.goto (5), 3) := by decide +kernel
theorem dX4_clearTheWay_145 : decode cX4_clearTheWay 145 = .ok (.lload 10, 2) := by decide +kernel
theorem dX4_clearTheWay_147 : decode cX4_clearTheWay 147 = .ok (.invokevirtual 119, 3) := by decide +kernel
theorem dX4_clearTheWay_150 : decode cX4_clearTheWay 150 = .ok (.iinc 4 1, 3) := by decide +kernel
theorem dX4_clearTheWay_153 : decode cX4_clearTheWay 153 = .ok (.goto (-150), 3) := by decide +kernel
theorem dX4_clearTheWay_156 : decode cX4_clearTheWay 156 = .ok (.iconst 0, 1) := by decide +kernel
theorem dX4_clearTheWay_157 : decode cX4_clearTheWay 157 = .ok (.ireturn, 1) := by decide +kernel
abbrev cX4_goesOn : ByteArray := prog_1_method_27_code
def yX4_goesOn : MethodName := ⟨RX4, "goesOn", "(IIIZZ)Z"⟩
def wsX4_goesOn : List Cond := .code yX4_goesOn cX4_goesOn 10 (some .boolean) :: bT
theorem dX4_goesOn_0 : decode cX4_goesOn 0 = .ok (.aload_n 0, 1) := by decide +kernel
theorem dX4_goesOn_1 : decode cX4_goesOn 1 = .ok (.getfield 12, 3) := by decide +kernel
theorem dX4_goesOn_4 : decode cX4_goesOn 4 = .ok (.iload_n 1, 1) := by decide +kernel
theorem dX4_goesOn_5 : decode cX4_goesOn 5 = .ok (.iload_n 3, 1) := by decide +kernel
theorem dX4_goesOn_6 : decode cX4_goesOn 6 = .ok (.invokevirtual 256, 3) := by decide +kernel
theorem dX4_goesOn_9 : decode cX4_goesOn 9 = .ok (.ifCond .eq (5), 3) := by decide +kernel
theorem dX4_goesOn_12 : decode cX4_goesOn 12 = .ok (.iconst 0, 1) := by decide +kernel
theorem dX4_goesOn_13 : decode cX4_goesOn 13 = .ok (.ireturn, 1) := by decide +kernel
theorem dX4_goesOn_14 : decode cX4_goesOn 14 = .ok (.aload_n 0, 1) := by decide +kernel
theorem dX4_goesOn_15 : decode cX4_goesOn 15 = .ok (.getfield 12, 3) := by decide +kernel
theorem dX4_goesOn_18 : decode cX4_goesOn 18 = .ok (.iload_n 2, 1) := by decide +kernel
theorem dX4_goesOn_19 : decode cX4_goesOn 19 = .ok (.iload_n 3, 1) := by decide +kernel
theorem dX4_goesOn_20 : decode cX4_goesOn 20 = .ok (.invokevirtual 256, 3) := by decide +kernel
theorem dX4_goesOn_23 : decode cX4_goesOn 23 = .ok (.ifCond .eq (5), 3) := by decide +kernel
theorem dX4_goesOn_26 : decode cX4_goesOn 26 = .ok (.iconst 1, 1) := by decide +kernel
theorem dX4_goesOn_27 : decode cX4_goesOn 27 = .ok (.ireturn, 1) := by decide +kernel
theorem dX4_goesOn_28 : decode cX4_goesOn 28 = .ok (.iload 4, 2) := by decide +kernel
theorem dX4_goesOn_30 : decode cX4_goesOn 30 = .ok (.ifCond .eq (15), 3) := by decide +kernel
theorem dX4_goesOn_33 : decode cX4_goesOn 33 = .ok (.aload_n 0, 1) := by decide +kernel
theorem dX4_goesOn_34 : decode cX4_goesOn 34 = .ok (.getfield 37, 3) := by decide +kernel
theorem dX4_goesOn_37 : decode cX4_goesOn 37 = .ok (.getfield 112, 3) := by decide +kernel
theorem dX4_goesOn_40 : decode cX4_goesOn 40 = .ok (.iload_n 1, 1) := by decide +kernel
theorem dX4_goesOn_41 : decode cX4_goesOn 41 = .ok (.laload, 1) := by decide +kernel
theorem dX4_goesOn_42 : decode cX4_goesOn 42 = .ok (.goto (12), 3) := by decide +kernel
theorem dX4_goesOn_45 : decode cX4_goesOn 45 = .ok (.aload_n 0, 1) := by decide +kernel
theorem dX4_goesOn_46 : decode cX4_goesOn 46 = .ok (.getfield 37, 3) := by decide +kernel
theorem dX4_goesOn_49 : decode cX4_goesOn 49 = .ok (.getfield 116, 3) := by decide +kernel
theorem dX4_goesOn_52 : decode cX4_goesOn 52 = .ok (.iload_n 1, 1) := by decide +kernel
theorem dX4_goesOn_53 : decode cX4_goesOn 53 = .ok (.laload, 1) := by decide +kernel
theorem dX4_goesOn_54 : decode cX4_goesOn 54 = .ok (.lstore 6, 2) := by decide +kernel
theorem dX4_goesOn_56 : decode cX4_goesOn 56 = .ok (.iload 4, 2) := by decide +kernel
theorem dX4_goesOn_58 : decode cX4_goesOn 58 = .ok (.ifCond .eq (15), 3) := by decide +kernel
theorem dX4_goesOn_61 : decode cX4_goesOn 61 = .ok (.aload_n 0, 1) := by decide +kernel
theorem dX4_goesOn_62 : decode cX4_goesOn 62 = .ok (.getfield 37, 3) := by decide +kernel
theorem dX4_goesOn_65 : decode cX4_goesOn 65 = .ok (.getfield 112, 3) := by decide +kernel
theorem dX4_goesOn_68 : decode cX4_goesOn 68 = .ok (.iload_n 2, 1) := by decide +kernel
theorem dX4_goesOn_69 : decode cX4_goesOn 69 = .ok (.laload, 1) := by decide +kernel
theorem dX4_goesOn_70 : decode cX4_goesOn 70 = .ok (.goto (12), 3) := by decide +kernel
theorem dX4_goesOn_73 : decode cX4_goesOn 73 = .ok (.aload_n 0, 1) := by decide +kernel
theorem dX4_goesOn_74 : decode cX4_goesOn 74 = .ok (.getfield 37, 3) := by decide +kernel
theorem dX4_goesOn_77 : decode cX4_goesOn 77 = .ok (.getfield 116, 3) := by decide +kernel
theorem dX4_goesOn_80 : decode cX4_goesOn 80 = .ok (.iload_n 2, 1) := by decide +kernel
theorem dX4_goesOn_81 : decode cX4_goesOn 81 = .ok (.laload, 1) := by decide +kernel
theorem dX4_goesOn_82 : decode cX4_goesOn 82 = .ok (.lstore 8, 2) := by decide +kernel
theorem dX4_goesOn_84 : decode cX4_goesOn 84 = .ok (.iload 5, 2) := by decide +kernel
theorem dX4_goesOn_86 : decode cX4_goesOn 86 = .ok (.ifCond .eq (19), 3) := by decide +kernel
theorem dX4_goesOn_89 : decode cX4_goesOn 89 = .ok (.lload 6, 2) := by decide +kernel
theorem dX4_goesOn_91 : decode cX4_goesOn 91 = .ok (.lload 8, 2) := by decide +kernel
theorem dX4_goesOn_93 : decode cX4_goesOn 93 = .ok (.lcmp, 1) := by decide +kernel
theorem dX4_goesOn_94 : decode cX4_goesOn 94 = .ok (.ifCond .le (7), 3) := by decide +kernel
theorem dX4_goesOn_97 : decode cX4_goesOn 97 = .ok (.iconst 1, 1) := by decide +kernel
theorem dX4_goesOn_98 : decode cX4_goesOn 98 = .ok (.goto (20), 3) := by decide +kernel
theorem dX4_goesOn_101 : decode cX4_goesOn 101 = .ok (.iconst 0, 1) := by decide +kernel
theorem dX4_goesOn_102 : decode cX4_goesOn 102 = .ok (.goto (16), 3) := by decide +kernel
theorem dX4_goesOn_105 : decode cX4_goesOn 105 = .ok (.lload 6, 2) := by decide +kernel
theorem dX4_goesOn_107 : decode cX4_goesOn 107 = .ok (.lload 8, 2) := by decide +kernel
theorem dX4_goesOn_109 : decode cX4_goesOn 109 = .ok (.lcmp, 1) := by decide +kernel
theorem dX4_goesOn_110 : decode cX4_goesOn 110 = .ok (.ifCond .ge (7), 3) := by decide +kernel
theorem dX4_goesOn_113 : decode cX4_goesOn 113 = .ok (.iconst 1, 1) := by decide +kernel
theorem dX4_goesOn_114 : decode cX4_goesOn 114 = .ok (.goto (4), 3) := by decide +kernel
theorem dX4_goesOn_117 : decode cX4_goesOn 117 = .ok (.iconst 0, 1) := by decide +kernel
theorem dX4_goesOn_118 : decode cX4_goesOn 118 = .ok (.ireturn, 1) := by decide +kernel
abbrev cX4_draw : ByteArray := prog_1_method_28_code
def yX4_draw : MethodName := ⟨RX4, "draw", "()J"⟩
def wsX4_draw : List Cond := .code yX4_draw cX4_draw 1 (some .long) :: bT
theorem dX4_draw_0 : decode cX4_draw 0 = .ok (.aload_n 0, 1) := by decide +kernel
theorem dX4_draw_1 : decode cX4_draw 1 = .ok (.aload_n 0, 1) := by decide +kernel
theorem dX4_draw_2 : decode cX4_draw 2 = .ok (.getfield 68, 3) := by decide +kernel
theorem dX4_draw_5 : decode cX4_draw 5 = .ok (.ldc2_w 268, 3) := by decide +kernel
theorem dX4_draw_8 : decode cX4_draw 8 = .ok (.lmul, 1) := by decide +kernel
theorem dX4_draw_9 : decode cX4_draw 9 = .ok (.ldc2_w 270, 3) := by decide +kernel
theorem dX4_draw_12 : decode cX4_draw 12 = .ok (.ladd, 1) := by decide +kernel
theorem dX4_draw_13 : decode cX4_draw 13 = .ok (.putfield 68, 3) := by decide +kernel
theorem dX4_draw_16 : decode cX4_draw 16 = .ok (.aload_n 0, 1) := by decide +kernel
theorem dX4_draw_17 : decode cX4_draw 17 = .ok (.getfield 68, 3) := by decide +kernel
theorem dX4_draw_20 : decode cX4_draw 20 = .ok (.bipush 33, 2) := by decide +kernel
theorem dX4_draw_22 : decode cX4_draw 22 = .ok (.lushr, 1) := by decide +kernel
theorem dX4_draw_23 : decode cX4_draw 23 = .ok (.lreturn, 1) := by decide +kernel
abbrev cX4_step : ByteArray := prog_1_method_29_code
def yX4_step : MethodName := ⟨RX4, "step", "(J)Z"⟩
def wsX4_step : List Cond := .code yX4_step cX4_step 13 (some .boolean) :: bT
theorem dX4_step_0 : decode cX4_step 0 = .ok (.aload_n 0, 1) := by decide +kernel
theorem dX4_step_1 : decode cX4_step 1 = .ok (.invokevirtual 272, 3) := by decide +kernel
theorem dX4_step_4 : decode cX4_step 4 = .ok (.lstore_n 3, 1) := by decide +kernel
theorem dX4_step_5 : decode cX4_step 5 = .ok (.aload_n 0, 1) := by decide +kernel
theorem dX4_step_6 : decode cX4_step 6 = .ok (.invokevirtual 272, 3) := by decide +kernel
theorem dX4_step_9 : decode cX4_step 9 = .ok (.lstore 5, 2) := by decide +kernel
theorem dX4_step_11 : decode cX4_step 11 = .ok (.aload_n 0, 1) := by decide +kernel
theorem dX4_step_12 : decode cX4_step 12 = .ok (.invokevirtual 272, 3) := by decide +kernel
theorem dX4_step_15 : decode cX4_step 15 = .ok (.lstore 7, 2) := by decide +kernel
theorem dX4_step_17 : decode cX4_step 17 = .ok (.aload_n 0, 1) := by decide +kernel
theorem dX4_step_18 : decode cX4_step 18 = .ok (.invokevirtual 272, 3) := by decide +kernel
theorem dX4_step_21 : decode cX4_step 21 = .ok (.lstore 9, 2) := by decide +kernel
theorem dX4_step_23 : decode cX4_step 23 = .ok (.aload_n 0, 1) := by decide +kernel
theorem dX4_step_24 : decode cX4_step 24 = .ok (.getfield 12, 3) := by decide +kernel
theorem dX4_step_27 : decode cX4_step 27 = .ok (.getfield 197, 3) := by decide +kernel
theorem dX4_step_30 : decode cX4_step 30 = .ok (.istore 11, 2) := by decide +kernel
theorem dX4_step_32 : decode cX4_step 32 = .ok (.iload 11, 2) := by decide +kernel
theorem dX4_step_34 : decode cX4_step 34 = .ok (.ifCond .ne (5), 3) := by decide +kernel
theorem dX4_step_37 : decode cX4_step 37 = .ok (.iconst 0, 1) := by decide +kernel
theorem dX4_step_38 : decode cX4_step 38 = .ok (.ireturn, 1) := by decide +kernel
theorem dX4_step_39 : decode cX4_step 39 = .ok (.lload_n 3, 1) := by decide +kernel
theorem dX4_step_40 : decode cX4_step 40 = .ok (.iload 11, 2) := by decide +kernel
theorem dX4_step_42 : decode cX4_step 42 = .ok (.i2l, 1) := by decide +kernel
theorem dX4_step_43 : decode cX4_step 43 = .ok (.lrem, 1) := by decide +kernel
theorem dX4_step_44 : decode cX4_step 44 = .ok (.l2i, 1) := by decide +kernel
theorem dX4_step_45 : decode cX4_step 45 = .ok (.istore 12, 2) := by decide +kernel
theorem dX4_step_47 : decode cX4_step 47 = .ok (.aload_n 0, 1) := by decide +kernel
theorem dX4_step_48 : decode cX4_step 48 = .ok (.getfield 37, 3) := by decide +kernel
theorem dX4_step_51 : decode cX4_step 51 = .ok (.getfield 96, 3) := by decide +kernel
theorem dX4_step_54 : decode cX4_step 54 = .ok (.iload 12, 2) := by decide +kernel
theorem dX4_step_56 : decode cX4_step 56 = .ok (.baload, 1) := by decide +kernel
theorem dX4_step_57 : decode cX4_step 57 = .ok (.ifCond .eq (16), 3) := by decide +kernel
theorem dX4_step_60 : decode cX4_step 60 = .ok (.aload_n 0, 1) := by decide +kernel
theorem dX4_step_61 : decode cX4_step 61 = .ok (.getfield 12, 3) := by decide +kernel
theorem dX4_step_64 : decode cX4_step 64 = .ok (.getfield 132, 3) := by decide +kernel
theorem dX4_step_67 : decode cX4_step 67 = .ok (.iload 12, 2) := by decide +kernel
theorem dX4_step_69 : decode cX4_step 69 = .ok (.baload, 1) := by decide +kernel
theorem dX4_step_70 : decode cX4_step 70 = .ok (.ifCond .eq (5), 3) := by decide +kernel
theorem dX4_step_73 : decode cX4_step 73 = .ok (.iconst 0, 1) := by decide +kernel
theorem dX4_step_74 : decode cX4_step 74 = .ok (.ireturn, 1) := by decide +kernel
theorem dX4_step_75 : decode cX4_step 75 = .ok (.aload_n 0, 1) := by decide +kernel
theorem dX4_step_76 : decode cX4_step 76 = .ok (.getfield 41, 3) := by decide +kernel
theorem dX4_step_79 : decode cX4_step 79 = .ok (.aload_n 0, 1) := by decide +kernel
theorem dX4_step_80 : decode cX4_step 80 = .ok (.getfield 37, 3) := by decide +kernel
theorem dX4_step_83 : decode cX4_step 83 = .ok (.invokevirtual 108, 3) := by decide +kernel
theorem dX4_step_86 : decode cX4_step 86 = .ok (.lload 5, 2) := by decide +kernel
theorem dX4_step_88 : decode cX4_step 88 = .ok (.ldc2_w 276, 3) := by decide +kernel
theorem dX4_step_91 : decode cX4_step 91 = .ok (.lrem, 1) := by decide +kernel
theorem dX4_step_92 : decode cX4_step 92 = .ok (.lconst 0, 1) := by decide +kernel
theorem dX4_step_93 : decode cX4_step 93 = .ok (.lcmp, 1) := by decide +kernel
theorem dX4_step_94 : decode cX4_step 94 = .ok (.ifCond .ne (19), 3) := by decide +kernel
theorem dX4_step_97 : decode cX4_step 97 = .ok (.aload_n 0, 1) := by decide +kernel
theorem dX4_step_98 : decode cX4_step 98 = .ok (.iload 12, 2) := by decide +kernel
theorem dX4_step_100 : decode cX4_step 100 = .ok (.lload 7, 2) := by decide +kernel
theorem dX4_step_102 : decode cX4_step 102 = .ok (.iload 11, 2) := by decide +kernel
theorem dX4_step_104 : decode cX4_step 104 = .ok (.i2l, 1) := by decide +kernel
theorem dX4_step_105 : decode cX4_step 105 = .ok (.lrem, 1) := by decide +kernel
theorem dX4_step_106 : decode cX4_step 106 = .ok (.l2i, 1) := by decide +kernel
theorem dX4_step_107 : decode cX4_step 107 = .ok (.invokevirtual 278, 3) := by decide +kernel
theorem dX4_step_110 : decode cX4_step 110 = .ok (.goto (77), 3) := by decide +kernel
theorem dX4_step_113 : decode cX4_step 113 = .ok (.lload 5, 2) := by decide +kernel
theorem dX4_step_115 : decode cX4_step 115 = .ok (.ldc2_w 276, 3) := by decide +kernel
theorem dX4_step_118 : decode cX4_step 118 = .ok (.lrem, 1) := by decide +kernel
theorem dX4_step_119 : decode cX4_step 119 = .ok (.lconst 1, 1) := by decide +kernel
theorem dX4_step_120 : decode cX4_step 120 = .ok (.lcmp, 1) := by decide +kernel
theorem dX4_step_121 : decode cX4_step 121 = .ok (.ifCond .ne (21), 3) := by decide +kernel
theorem dX4_step_124 : decode cX4_step 124 = .ok (.aload_n 0, 1) := by decide +kernel
theorem dX4_step_125 : decode cX4_step 125 = .ok (.iload 12, 2) := by decide +kernel
theorem dX4_step_127 : decode cX4_step 127 = .ok (.lload 9, 2) := by decide +kernel
theorem dX4_step_129 : decode cX4_step 129 = .ok (.ldc2_w 282, 3) := by decide +kernel
theorem dX4_step_132 : decode cX4_step 132 = .ok (.lrem, 1) := by decide +kernel
theorem dX4_step_133 : decode cX4_step 133 = .ok (.l2i, 1) := by decide +kernel
theorem dX4_step_134 : decode cX4_step 134 = .ok (.iconst 1, 1) := by decide +kernel
theorem dX4_step_135 : decode cX4_step 135 = .ok (.iadd, 1) := by decide +kernel
theorem dX4_step_136 : decode cX4_step 136 = .ok (.invokevirtual 284, 3) := by decide +kernel
theorem dX4_step_139 : decode cX4_step 139 = .ok (.goto (48), 3) := by decide +kernel
theorem dX4_step_142 : decode cX4_step 142 = .ok (.aload_n 0, 1) := by decide +kernel
theorem dX4_step_143 : decode cX4_step 143 = .ok (.getfield 37, 3) := by decide +kernel
theorem dX4_step_146 : decode cX4_step 146 = .ok (.iload 12, 2) := by decide +kernel
theorem dX4_step_148 : decode cX4_step 148 = .ok (.lload 7, 2) := by decide +kernel
theorem dX4_step_150 : decode cX4_step 150 = .ok (.aload_n 0, 1) := by decide +kernel
theorem dX4_step_151 : decode cX4_step 151 = .ok (.getfield 62, 3) := by decide +kernel
theorem dX4_step_154 : decode cX4_step 154 = .ok (.lrem, 1) := by decide +kernel
theorem dX4_step_155 : decode cX4_step 155 = .ok (.aload_n 0, 1) := by decide +kernel
theorem dX4_step_156 : decode cX4_step 156 = .ok (.getfield 37, 3) := by decide +kernel
theorem dX4_step_159 : decode cX4_step 159 = .ok (.getfield 112, 3) := by decide +kernel
theorem dX4_step_162 : decode cX4_step 162 = .ok (.iload 12, 2) := by decide +kernel
theorem dX4_step_164 : decode cX4_step 164 = .ok (.laload, 1) := by decide +kernel
theorem dX4_step_165 : decode cX4_step 165 = .ok (.lsub, 1) := by decide +kernel
theorem dX4_step_166 : decode cX4_step 166 = .ok (.lload 9, 2) := by decide +kernel
theorem dX4_step_168 : decode cX4_step 168 = .ok (.aload_n 0, 1) := by decide +kernel
theorem dX4_step_169 : decode cX4_step 169 = .ok (.getfield 65, 3) := by decide +kernel
theorem dX4_step_172 : decode cX4_step 172 = .ok (.lrem, 1) := by decide +kernel
theorem dX4_step_173 : decode cX4_step 173 = .ok (.aload_n 0, 1) := by decide +kernel
theorem dX4_step_174 : decode cX4_step 174 = .ok (.getfield 37, 3) := by decide +kernel
theorem dX4_step_177 : decode cX4_step 177 = .ok (.getfield 116, 3) := by decide +kernel
theorem dX4_step_180 : decode cX4_step 180 = .ok (.iload 12, 2) := by decide +kernel
theorem dX4_step_182 : decode cX4_step 182 = .ok (.laload, 1) := by decide +kernel
theorem dX4_step_183 : decode cX4_step 183 = .ok (.lsub, 1) := by decide +kernel
theorem dX4_step_184 : decode cX4_step 184 = .ok (.invokevirtual 119, 3) := by decide +kernel
theorem dX4_step_187 : decode cX4_step 187 = .ok (.aload_n 0, 1) := by decide +kernel
theorem dX4_step_188 : decode cX4_step 188 = .ok (.iconst (-1), 1) := by decide +kernel
theorem dX4_step_189 : decode cX4_step 189 = .ok (.invokevirtual 181, 3) := by decide +kernel
theorem dX4_step_192 : decode cX4_step 192 = .ok (.ifCond .le (15), 3) := by decide +kernel
theorem dX4_step_195 : decode cX4_step 195 = .ok (.aload_n 0, 1) := by decide +kernel
theorem dX4_step_196 : decode cX4_step 196 = .ok (.lload_n 1, 1) := by decide +kernel
theorem dX4_step_197 : decode cX4_step 197 = .ok (.invokevirtual 129, 3) := by decide +kernel
theorem dX4_step_200 : decode cX4_step 200 = .ok (.ifCond .eq (7), 3) := by decide +kernel
theorem dX4_step_203 : decode cX4_step 203 = .ok (.iconst 1, 1) := by decide +kernel
theorem dX4_step_204 : decode cX4_step 204 = .ok (.goto (4), 3) := by decide +kernel
theorem dX4_step_207 : decode cX4_step 207 = .ok (.iconst 0, 1) := by decide +kernel
theorem dX4_step_208 : decode cX4_step 208 = .ok (.ireturn, 1) := by decide +kernel
abbrev cX4_swapPlaces : ByteArray := prog_1_method_30_code
def yX4_swapPlaces : MethodName := ⟨RX4, "swapPlaces", "(II)V"⟩
def wsX4_swapPlaces : List Cond := .code yX4_swapPlaces cX4_swapPlaces 7 none :: bT
theorem dX4_swapPlaces_0 : decode cX4_swapPlaces 0 = .ok (.aload_n 0, 1) := by decide +kernel
theorem dX4_swapPlaces_1 : decode cX4_swapPlaces 1 = .ok (.getfield 37, 3) := by decide +kernel
theorem dX4_swapPlaces_4 : decode cX4_swapPlaces 4 = .ok (.getfield 96, 3) := by decide +kernel
theorem dX4_swapPlaces_7 : decode cX4_swapPlaces 7 = .ok (.iload_n 2, 1) := by decide +kernel
theorem dX4_swapPlaces_8 : decode cX4_swapPlaces 8 = .ok (.baload, 1) := by decide +kernel
theorem dX4_swapPlaces_9 : decode cX4_swapPlaces 9 = .ok (.ifCond .eq (15), 3) := by decide +kernel
theorem dX4_swapPlaces_12 : decode cX4_swapPlaces 12 = .ok (.aload_n 0, 1) := by decide +kernel
theorem dX4_swapPlaces_13 : decode cX4_swapPlaces 13 = .ok (.getfield 12, 3) := by decide +kernel
theorem dX4_swapPlaces_16 : decode cX4_swapPlaces 16 = .ok (.iload_n 1, 1) := by decide +kernel
theorem dX4_swapPlaces_17 : decode cX4_swapPlaces 17 = .ok (.iload_n 2, 1) := by decide +kernel
theorem dX4_swapPlaces_18 : decode cX4_swapPlaces 18 = .ok (.invokevirtual 256, 3) := by decide +kernel
theorem dX4_swapPlaces_21 : decode cX4_swapPlaces 21 = .ok (.ifCond .eq (4), 3) := by decide +kernel
theorem dX4_swapPlaces_24 : decode cX4_swapPlaces 24 = .ok (.return_, 1) := by decide +kernel
theorem dX4_swapPlaces_25 : decode cX4_swapPlaces 25 = .ok (.aload_n 0, 1) := by decide +kernel
theorem dX4_swapPlaces_26 : decode cX4_swapPlaces 26 = .ok (.getfield 37, 3) := by decide +kernel
theorem dX4_swapPlaces_29 : decode cX4_swapPlaces 29 = .ok (.getfield 112, 3) := by decide +kernel
theorem dX4_swapPlaces_32 : decode cX4_swapPlaces 32 = .ok (.iload_n 2, 1) := by decide +kernel
theorem dX4_swapPlaces_33 : decode cX4_swapPlaces 33 = .ok (.laload, 1) := by decide +kernel
theorem dX4_swapPlaces_34 : decode cX4_swapPlaces 34 = .ok (.aload_n 0, 1) := by decide +kernel
theorem dX4_swapPlaces_35 : decode cX4_swapPlaces 35 = .ok (.getfield 37, 3) := by decide +kernel
theorem dX4_swapPlaces_38 : decode cX4_swapPlaces 38 = .ok (.getfield 112, 3) := by decide +kernel
theorem dX4_swapPlaces_41 : decode cX4_swapPlaces 41 = .ok (.iload_n 1, 1) := by decide +kernel
theorem dX4_swapPlaces_42 : decode cX4_swapPlaces 42 = .ok (.laload, 1) := by decide +kernel
theorem dX4_swapPlaces_43 : decode cX4_swapPlaces 43 = .ok (.lsub, 1) := by decide +kernel
theorem dX4_swapPlaces_44 : decode cX4_swapPlaces 44 = .ok (.lstore_n 3, 1) := by decide +kernel
theorem dX4_swapPlaces_45 : decode cX4_swapPlaces 45 = .ok (.aload_n 0, 1) := by decide +kernel
theorem dX4_swapPlaces_46 : decode cX4_swapPlaces 46 = .ok (.getfield 37, 3) := by decide +kernel
theorem dX4_swapPlaces_49 : decode cX4_swapPlaces 49 = .ok (.getfield 116, 3) := by decide +kernel
theorem dX4_swapPlaces_52 : decode cX4_swapPlaces 52 = .ok (.iload_n 2, 1) := by decide +kernel
theorem dX4_swapPlaces_53 : decode cX4_swapPlaces 53 = .ok (.laload, 1) := by decide +kernel
theorem dX4_swapPlaces_54 : decode cX4_swapPlaces 54 = .ok (.aload_n 0, 1) := by decide +kernel
theorem dX4_swapPlaces_55 : decode cX4_swapPlaces 55 = .ok (.getfield 37, 3) := by decide +kernel
theorem dX4_swapPlaces_58 : decode cX4_swapPlaces 58 = .ok (.getfield 116, 3) := by decide +kernel
theorem dX4_swapPlaces_61 : decode cX4_swapPlaces 61 = .ok (.iload_n 1, 1) := by decide +kernel
theorem dX4_swapPlaces_62 : decode cX4_swapPlaces 62 = .ok (.laload, 1) := by decide +kernel
theorem dX4_swapPlaces_63 : decode cX4_swapPlaces 63 = .ok (.lsub, 1) := by decide +kernel
theorem dX4_swapPlaces_64 : decode cX4_swapPlaces 64 = .ok (.lstore 5, 2) := by decide +kernel
theorem dX4_swapPlaces_66 : decode cX4_swapPlaces 66 = .ok (.aload_n 0, 1) := by decide +kernel
theorem dX4_swapPlaces_67 : decode cX4_swapPlaces 67 = .ok (.getfield 37, 3) := by decide +kernel
theorem dX4_swapPlaces_70 : decode cX4_swapPlaces 70 = .ok (.iload_n 1, 1) := by decide +kernel
theorem dX4_swapPlaces_71 : decode cX4_swapPlaces 71 = .ok (.lload_n 3, 1) := by decide +kernel
theorem dX4_swapPlaces_72 : decode cX4_swapPlaces 72 = .ok (.lload 5, 2) := by decide +kernel
theorem dX4_swapPlaces_74 : decode cX4_swapPlaces 74 = .ok (.invokevirtual 119, 3) := by decide +kernel
theorem dX4_swapPlaces_77 : decode cX4_swapPlaces 77 = .ok (.aload_n 0, 1) := by decide +kernel
theorem dX4_swapPlaces_78 : decode cX4_swapPlaces 78 = .ok (.getfield 37, 3) := by decide +kernel
theorem dX4_swapPlaces_81 : decode cX4_swapPlaces 81 = .ok (.iload_n 2, 1) := by decide +kernel
theorem dX4_swapPlaces_82 : decode cX4_swapPlaces 82 = .ok (.lload_n 3, 1) := by decide +kernel
theorem dX4_swapPlaces_83 : decode cX4_swapPlaces 83 = .ok (.lneg, 1) := by decide +kernel
theorem dX4_swapPlaces_84 : decode cX4_swapPlaces 84 = .ok (.lload 5, 2) := by decide +kernel
theorem dX4_swapPlaces_86 : decode cX4_swapPlaces 86 = .ok (.lneg, 1) := by decide +kernel
theorem dX4_swapPlaces_87 : decode cX4_swapPlaces 87 = .ok (.invokevirtual 119, 3) := by decide +kernel
theorem dX4_swapPlaces_90 : decode cX4_swapPlaces 90 = .ok (.return_, 1) := by decide +kernel
abbrev cX4_turnAlone : ByteArray := prog_1_method_31_code
def yX4_turnAlone : MethodName := ⟨RX4, "turnAlone", "(II)V"⟩
def wsX4_turnAlone : List Cond := .code yX4_turnAlone cX4_turnAlone 3 none :: bT
theorem dX4_turnAlone_0 : decode cX4_turnAlone 0 = .ok (.aload_n 0, 1) := by decide +kernel
theorem dX4_turnAlone_1 : decode cX4_turnAlone 1 = .ok (.getfield 37, 3) := by decide +kernel
theorem dX4_turnAlone_4 : decode cX4_turnAlone 4 = .ok (.iload_n 1, 1) := by decide +kernel
theorem dX4_turnAlone_5 : decode cX4_turnAlone 5 = .ok (.invokevirtual 104, 3) := by decide +kernel
theorem dX4_turnAlone_8 : decode cX4_turnAlone 8 = .ok (.ifCond .ne (25), 3) := by decide +kernel
theorem dX4_turnAlone_11 : decode cX4_turnAlone 11 = .ok (.aload_n 0, 1) := by decide +kernel
theorem dX4_turnAlone_12 : decode cX4_turnAlone 12 = .ok (.getfield 37, 3) := by decide +kernel
theorem dX4_turnAlone_15 : decode cX4_turnAlone 15 = .ok (.getfield 100, 3) := by decide +kernel
theorem dX4_turnAlone_18 : decode cX4_turnAlone 18 = .ok (.iload_n 1, 1) := by decide +kernel
theorem dX4_turnAlone_19 : decode cX4_turnAlone 19 = .ok (.aload_n 0, 1) := by decide +kernel
theorem dX4_turnAlone_20 : decode cX4_turnAlone 20 = .ok (.getfield 37, 3) := by decide +kernel
theorem dX4_turnAlone_23 : decode cX4_turnAlone 23 = .ok (.getfield 100, 3) := by decide +kernel
theorem dX4_turnAlone_26 : decode cX4_turnAlone 26 = .ok (.iload_n 1, 1) := by decide +kernel
theorem dX4_turnAlone_27 : decode cX4_turnAlone 27 = .ok (.iaload, 1) := by decide +kernel
theorem dX4_turnAlone_28 : decode cX4_turnAlone 28 = .ok (.iload_n 2, 1) := by decide +kernel
theorem dX4_turnAlone_29 : decode cX4_turnAlone 29 = .ok (.iadd, 1) := by decide +kernel
theorem dX4_turnAlone_30 : decode cX4_turnAlone 30 = .ok (.iconst 4, 1) := by decide +kernel
theorem dX4_turnAlone_31 : decode cX4_turnAlone 31 = .ok (.irem, 1) := by decide +kernel
theorem dX4_turnAlone_32 : decode cX4_turnAlone 32 = .ok (.iastore, 1) := by decide +kernel
theorem dX4_turnAlone_33 : decode cX4_turnAlone 33 = .ok (.return_, 1) := by decide +kernel
abbrev cX5_left : ByteArray := prog_7_method_6_code
def yX5_left : MethodName := ⟨RX5, "left", "(II)J"⟩
def wsX5_left : List Cond := .code yX5_left cX5_left 3 (some .long) :: bT
theorem dX5_left_0 : decode cX5_left 0 = .ok (.aload_n 0, 1) := by decide +kernel
theorem dX5_left_1 : decode cX5_left 1 = .ok (.getfield 33, 3) := by decide +kernel
theorem dX5_left_4 : decode cX5_left 4 = .ok (.bipush 40, 2) := by decide +kernel
theorem dX5_left_6 : decode cX5_left 6 = .ok (.iload_n 1, 1) := by decide +kernel
theorem dX5_left_7 : decode cX5_left 7 = .ok (.imul, 1) := by decide +kernel
theorem dX5_left_8 : decode cX5_left 8 = .ok (.iload_n 2, 1) := by decide +kernel
theorem dX5_left_9 : decode cX5_left 9 = .ok (.iadd, 1) := by decide +kernel
theorem dX5_left_10 : decode cX5_left 10 = .ok (.laload, 1) := by decide +kernel
theorem dX5_left_11 : decode cX5_left 11 = .ok (.lreturn, 1) := by decide +kernel
abbrev cX5_low : ByteArray := prog_7_method_7_code
def yX5_low : MethodName := ⟨RX5, "low", "(II)J"⟩
def wsX5_low : List Cond := .code yX5_low cX5_low 3 (some .long) :: bT
theorem dX5_low_0 : decode cX5_low 0 = .ok (.aload_n 0, 1) := by decide +kernel
theorem dX5_low_1 : decode cX5_low 1 = .ok (.getfield 36, 3) := by decide +kernel
theorem dX5_low_4 : decode cX5_low 4 = .ok (.bipush 40, 2) := by decide +kernel
theorem dX5_low_6 : decode cX5_low 6 = .ok (.iload_n 1, 1) := by decide +kernel
theorem dX5_low_7 : decode cX5_low 7 = .ok (.imul, 1) := by decide +kernel
theorem dX5_low_8 : decode cX5_low 8 = .ok (.iload_n 2, 1) := by decide +kernel
theorem dX5_low_9 : decode cX5_low 9 = .ok (.iadd, 1) := by decide +kernel
theorem dX5_low_10 : decode cX5_low 10 = .ok (.laload, 1) := by decide +kernel
theorem dX5_low_11 : decode cX5_low 11 = .ok (.lreturn, 1) := by decide +kernel
abbrev cX5_lies : ByteArray := prog_7_method_8_code
def yX5_lies : MethodName := ⟨RX5, "lies", "(II)Z"⟩
def wsX5_lies : List Cond := .code yX5_lies cX5_lies 3 (some .boolean) :: bT
theorem dX5_lies_0 : decode cX5_lies 0 = .ok (.aload_n 0, 1) := by decide +kernel
theorem dX5_lies_1 : decode cX5_lies 1 = .ok (.getfield 39, 3) := by decide +kernel
theorem dX5_lies_4 : decode cX5_lies 4 = .ok (.bipush 40, 2) := by decide +kernel
theorem dX5_lies_6 : decode cX5_lies 6 = .ok (.iload_n 1, 1) := by decide +kernel
theorem dX5_lies_7 : decode cX5_lies 7 = .ok (.imul, 1) := by decide +kernel
theorem dX5_lies_8 : decode cX5_lies 8 = .ok (.iload_n 2, 1) := by decide +kernel
theorem dX5_lies_9 : decode cX5_lies 9 = .ok (.iadd, 1) := by decide +kernel
theorem dX5_lies_10 : decode cX5_lies 10 = .ok (.iaload, 1) := by decide +kernel
theorem dX5_lies_11 : decode cX5_lies 11 = .ok (.iconst 2, 1) := by decide +kernel
theorem dX5_lies_12 : decode cX5_lies 12 = .ok (.irem, 1) := by decide +kernel
theorem dX5_lies_13 : decode cX5_lies 13 = .ok (.iconst 1, 1) := by decide +kernel
theorem dX5_lies_14 : decode cX5_lies 14 = .ok (.if_icmp .ne (7), 3) := by decide +kernel
theorem dX5_lies_17 : decode cX5_lies 17 = .ok (.iconst 1, 1) := by decide +kernel
theorem dX5_lies_18 : decode cX5_lies 18 = .ok (.goto (4), 3) := by decide +kernel
theorem dX5_lies_21 : decode cX5_lies 21 = .ok (.iconst 0, 1) := by decide +kernel
theorem dX5_lies_22 : decode cX5_lies 22 = .ok (.ireturn, 1) := by decide +kernel
abbrev cX5_right : ByteArray := prog_7_method_9_code
def yX5_right : MethodName := ⟨RX5, "right", "(II)J"⟩
def wsX5_right : List Cond := .code yX5_right cX5_right 3 (some .long) :: bT
theorem dX5_right_0 : decode cX5_right 0 = .ok (.aload_n 0, 1) := by decide +kernel
theorem dX5_right_1 : decode cX5_right 1 = .ok (.iload_n 1, 1) := by decide +kernel
theorem dX5_right_2 : decode cX5_right 2 = .ok (.iload_n 2, 1) := by decide +kernel
theorem dX5_right_3 : decode cX5_right 3 = .ok (.invokevirtual 92, 3) := by decide +kernel
theorem dX5_right_6 : decode cX5_right 6 = .ok (.aload_n 0, 1) := by decide +kernel
theorem dX5_right_7 : decode cX5_right 7 = .ok (.iload_n 1, 1) := by decide +kernel
theorem dX5_right_8 : decode cX5_right 8 = .ok (.iload_n 2, 1) := by decide +kernel
theorem dX5_right_9 : decode cX5_right 9 = .ok (.invokevirtual 96, 3) := by decide +kernel
theorem dX5_right_12 : decode cX5_right 12 = .ok (.ifCond .eq (12), 3) := by decide +kernel
theorem dX5_right_15 : decode cX5_right 15 = .ok (.aload_n 0, 1) := by decide +kernel
theorem dX5_right_16 : decode cX5_right 16 = .ok (.getfield 13, 3) := by decide +kernel
theorem dX5_right_19 : decode cX5_right 19 = .ok (.iload_n 2, 1) := by decide +kernel
theorem dX5_right_20 : decode cX5_right 20 = .ok (.laload, 1) := by decide +kernel
theorem dX5_right_21 : decode cX5_right 21 = .ok (.goto (9), 3) := by decide +kernel
theorem dX5_right_24 : decode cX5_right 24 = .ok (.aload_n 0, 1) := by decide +kernel
theorem dX5_right_25 : decode cX5_right 25 = .ok (.getfield 7, 3) := by decide +kernel
theorem dX5_right_28 : decode cX5_right 28 = .ok (.iload_n 2, 1) := by decide +kernel
theorem dX5_right_29 : decode cX5_right 29 = .ok (.laload, 1) := by decide +kernel
theorem dX5_right_30 : decode cX5_right 30 = .ok (.ladd, 1) := by decide +kernel
theorem dX5_right_31 : decode cX5_right 31 = .ok (.lreturn, 1) := by decide +kernel
abbrev cX5_top : ByteArray := prog_7_method_10_code
def yX5_top : MethodName := ⟨RX5, "top", "(II)J"⟩
def wsX5_top : List Cond := .code yX5_top cX5_top 3 (some .long) :: bT
theorem dX5_top_0 : decode cX5_top 0 = .ok (.aload_n 0, 1) := by decide +kernel
theorem dX5_top_1 : decode cX5_top 1 = .ok (.iload_n 1, 1) := by decide +kernel
theorem dX5_top_2 : decode cX5_top 2 = .ok (.iload_n 2, 1) := by decide +kernel
theorem dX5_top_3 : decode cX5_top 3 = .ok (.invokevirtual 100, 3) := by decide +kernel
theorem dX5_top_6 : decode cX5_top 6 = .ok (.aload_n 0, 1) := by decide +kernel
theorem dX5_top_7 : decode cX5_top 7 = .ok (.iload_n 1, 1) := by decide +kernel
theorem dX5_top_8 : decode cX5_top 8 = .ok (.iload_n 2, 1) := by decide +kernel
theorem dX5_top_9 : decode cX5_top 9 = .ok (.invokevirtual 96, 3) := by decide +kernel
theorem dX5_top_12 : decode cX5_top 12 = .ok (.ifCond .eq (12), 3) := by decide +kernel
theorem dX5_top_15 : decode cX5_top 15 = .ok (.aload_n 0, 1) := by decide +kernel
theorem dX5_top_16 : decode cX5_top 16 = .ok (.getfield 7, 3) := by decide +kernel
theorem dX5_top_19 : decode cX5_top 19 = .ok (.iload_n 2, 1) := by decide +kernel
theorem dX5_top_20 : decode cX5_top 20 = .ok (.laload, 1) := by decide +kernel
theorem dX5_top_21 : decode cX5_top 21 = .ok (.goto (9), 3) := by decide +kernel
theorem dX5_top_24 : decode cX5_top 24 = .ok (.aload_n 0, 1) := by decide +kernel
theorem dX5_top_25 : decode cX5_top 25 = .ok (.getfield 13, 3) := by decide +kernel
theorem dX5_top_28 : decode cX5_top 28 = .ok (.iload_n 2, 1) := by decide +kernel
theorem dX5_top_29 : decode cX5_top 29 = .ok (.laload, 1) := by decide +kernel
theorem dX5_top_30 : decode cX5_top 30 = .ok (.ladd, 1) := by decide +kernel
theorem dX5_top_31 : decode cX5_top 31 = .ok (.lreturn, 1) := by decide +kernel
abbrev cX5_overlap : ByteArray := prog_7_method_11_code
def yX5_overlap : MethodName := ⟨RX5, "overlap", "(III)Z"⟩
def wsX5_overlap : List Cond := .code yX5_overlap cX5_overlap 4 (some .boolean) :: bT
theorem dX5_overlap_0 : decode cX5_overlap 0 = .ok (.aload_n 0, 1) := by decide +kernel
theorem dX5_overlap_1 : decode cX5_overlap 1 = .ok (.iload_n 1, 1) := by decide +kernel
theorem dX5_overlap_2 : decode cX5_overlap 2 = .ok (.iload_n 2, 1) := by decide +kernel
theorem dX5_overlap_3 : decode cX5_overlap 3 = .ok (.invokevirtual 92, 3) := by decide +kernel
theorem dX5_overlap_6 : decode cX5_overlap 6 = .ok (.aload_n 0, 1) := by decide +kernel
theorem dX5_overlap_7 : decode cX5_overlap 7 = .ok (.iload_n 1, 1) := by decide +kernel
theorem dX5_overlap_8 : decode cX5_overlap 8 = .ok (.iload_n 3, 1) := by decide +kernel
theorem dX5_overlap_9 : decode cX5_overlap 9 = .ok (.invokevirtual 103, 3) := by decide +kernel
theorem dX5_overlap_12 : decode cX5_overlap 12 = .ok (.lcmp, 1) := by decide +kernel
theorem dX5_overlap_13 : decode cX5_overlap 13 = .ok (.ifCond .ge (55), 3) := by decide +kernel
theorem dX5_overlap_16 : decode cX5_overlap 16 = .ok (.aload_n 0, 1) := by decide +kernel
theorem dX5_overlap_17 : decode cX5_overlap 17 = .ok (.iload_n 1, 1) := by decide +kernel
theorem dX5_overlap_18 : decode cX5_overlap 18 = .ok (.iload_n 3, 1) := by decide +kernel
theorem dX5_overlap_19 : decode cX5_overlap 19 = .ok (.invokevirtual 92, 3) := by decide +kernel
theorem dX5_overlap_22 : decode cX5_overlap 22 = .ok (.aload_n 0, 1) := by decide +kernel
theorem dX5_overlap_23 : decode cX5_overlap 23 = .ok (.iload_n 1, 1) := by decide +kernel
theorem dX5_overlap_24 : decode cX5_overlap 24 = .ok (.iload_n 2, 1) := by decide +kernel
theorem dX5_overlap_25 : decode cX5_overlap 25 = .ok (.invokevirtual 103, 3) := by decide +kernel
theorem dX5_overlap_28 : decode cX5_overlap 28 = .ok (.lcmp, 1) := by decide +kernel
theorem dX5_overlap_29 : decode cX5_overlap 29 = .ok (.ifCond .ge (39), 3) := by decide +kernel
theorem dX5_overlap_32 : decode cX5_overlap 32 = .ok (.aload_n 0, 1) := by decide +kernel
theorem dX5_overlap_33 : decode cX5_overlap 33 = .ok (.iload_n 1, 1) := by decide +kernel
theorem dX5_overlap_34 : decode cX5_overlap 34 = .ok (.iload_n 2, 1) := by decide +kernel
theorem dX5_overlap_35 : decode cX5_overlap 35 = .ok (.invokevirtual 100, 3) := by decide +kernel
theorem dX5_overlap_38 : decode cX5_overlap 38 = .ok (.aload_n 0, 1) := by decide +kernel
theorem dX5_overlap_39 : decode cX5_overlap 39 = .ok (.iload_n 1, 1) := by decide +kernel
theorem dX5_overlap_40 : decode cX5_overlap 40 = .ok (.iload_n 3, 1) := by decide +kernel
theorem dX5_overlap_41 : decode cX5_overlap 41 = .ok (.invokevirtual 106, 3) := by decide +kernel
theorem dX5_overlap_44 : decode cX5_overlap 44 = .ok (.lcmp, 1) := by decide +kernel
theorem dX5_overlap_45 : decode cX5_overlap 45 = .ok (.ifCond .ge (23), 3) := by decide +kernel
theorem dX5_overlap_48 : decode cX5_overlap 48 = .ok (.aload_n 0, 1) := by decide +kernel
theorem dX5_overlap_49 : decode cX5_overlap 49 = .ok (.iload_n 1, 1) := by decide +kernel
theorem dX5_overlap_50 : decode cX5_overlap 50 = .ok (.iload_n 3, 1) := by decide +kernel
theorem dX5_overlap_51 : decode cX5_overlap 51 = .ok (.invokevirtual 100, 3) := by decide +kernel
theorem dX5_overlap_54 : decode cX5_overlap 54 = .ok (.aload_n 0, 1) := by decide +kernel
theorem dX5_overlap_55 : decode cX5_overlap 55 = .ok (.iload_n 1, 1) := by decide +kernel
theorem dX5_overlap_56 : decode cX5_overlap 56 = .ok (.iload_n 2, 1) := by decide +kernel
theorem dX5_overlap_57 : decode cX5_overlap 57 = .ok (.invokevirtual 106, 3) := by decide +kernel
theorem dX5_overlap_60 : decode cX5_overlap 60 = .ok (.lcmp, 1) := by decide +kernel
theorem dX5_overlap_61 : decode cX5_overlap 61 = .ok (.ifCond .ge (7), 3) := by decide +kernel
theorem dX5_overlap_64 : decode cX5_overlap 64 = .ok (.iconst 1, 1) := by decide +kernel
theorem dX5_overlap_65 : decode cX5_overlap 65 = .ok (.goto (4), 3) := by decide +kernel
theorem dX5_overlap_68 : decode cX5_overlap 68 = .ok (.iconst 0, 1) := by decide +kernel
theorem dX5_overlap_69 : decode cX5_overlap 69 = .ok (.ireturn, 1) := by decide +kernel
abbrev cX5_isOnBoard : ByteArray := prog_7_method_12_code
def yX5_isOnBoard : MethodName := ⟨RX5, "isOnBoard", "(II)Z"⟩
def wsX5_isOnBoard : List Cond := .code yX5_isOnBoard cX5_isOnBoard 7 (some .boolean) :: bT
theorem dX5_isOnBoard_0 : decode cX5_isOnBoard 0 = .ok (.aload_n 0, 1) := by decide +kernel
theorem dX5_isOnBoard_1 : decode cX5_isOnBoard 1 = .ok (.iload_n 1, 1) := by decide +kernel
theorem dX5_isOnBoard_2 : decode cX5_isOnBoard 2 = .ok (.iload_n 2, 1) := by decide +kernel
theorem dX5_isOnBoard_3 : decode cX5_isOnBoard 3 = .ok (.invokevirtual 92, 3) := by decide +kernel
theorem dX5_isOnBoard_6 : decode cX5_isOnBoard 6 = .ok (.lstore_n 3, 1) := by decide +kernel
theorem dX5_isOnBoard_7 : decode cX5_isOnBoard 7 = .ok (.aload_n 0, 1) := by decide +kernel
theorem dX5_isOnBoard_8 : decode cX5_isOnBoard 8 = .ok (.iload_n 1, 1) := by decide +kernel
theorem dX5_isOnBoard_9 : decode cX5_isOnBoard 9 = .ok (.iload_n 2, 1) := by decide +kernel
theorem dX5_isOnBoard_10 : decode cX5_isOnBoard 10 = .ok (.invokevirtual 100, 3) := by decide +kernel
theorem dX5_isOnBoard_13 : decode cX5_isOnBoard 13 = .ok (.lstore 5, 2) := by decide +kernel
theorem dX5_isOnBoard_15 : decode cX5_isOnBoard 15 = .ok (.lload_n 3, 1) := by decide +kernel
theorem dX5_isOnBoard_16 : decode cX5_isOnBoard 16 = .ok (.lconst 0, 1) := by decide +kernel
theorem dX5_isOnBoard_17 : decode cX5_isOnBoard 17 = .ok (.lcmp, 1) := by decide +kernel
theorem dX5_isOnBoard_18 : decode cX5_isOnBoard 18 = .ok (.ifCond .lt (61), 3) := by decide +kernel
theorem dX5_isOnBoard_21 : decode cX5_isOnBoard 21 = .ok (.lload_n 3, 1) := by decide +kernel
theorem dX5_isOnBoard_22 : decode cX5_isOnBoard 22 = .ok (.aload_n 0, 1) := by decide +kernel
theorem dX5_isOnBoard_23 : decode cX5_isOnBoard 23 = .ok (.getfield 71, 3) := by decide +kernel
theorem dX5_isOnBoard_26 : decode cX5_isOnBoard 26 = .ok (.lcmp, 1) := by decide +kernel
theorem dX5_isOnBoard_27 : decode cX5_isOnBoard 27 = .ok (.ifCond .gt (52), 3) := by decide +kernel
theorem dX5_isOnBoard_30 : decode cX5_isOnBoard 30 = .ok (.aload_n 0, 1) := by decide +kernel
theorem dX5_isOnBoard_31 : decode cX5_isOnBoard 31 = .ok (.iload_n 1, 1) := by decide +kernel
theorem dX5_isOnBoard_32 : decode cX5_isOnBoard 32 = .ok (.iload_n 2, 1) := by decide +kernel
theorem dX5_isOnBoard_33 : decode cX5_isOnBoard 33 = .ok (.invokevirtual 103, 3) := by decide +kernel
theorem dX5_isOnBoard_36 : decode cX5_isOnBoard 36 = .ok (.aload_n 0, 1) := by decide +kernel
theorem dX5_isOnBoard_37 : decode cX5_isOnBoard 37 = .ok (.getfield 71, 3) := by decide +kernel
theorem dX5_isOnBoard_40 : decode cX5_isOnBoard 40 = .ok (.lcmp, 1) := by decide +kernel
theorem dX5_isOnBoard_41 : decode cX5_isOnBoard 41 = .ok (.ifCond .gt (38), 3) := by decide +kernel
theorem dX5_isOnBoard_44 : decode cX5_isOnBoard 44 = .ok (.lload 5, 2) := by decide +kernel
theorem dX5_isOnBoard_46 : decode cX5_isOnBoard 46 = .ok (.lconst 0, 1) := by decide +kernel
theorem dX5_isOnBoard_47 : decode cX5_isOnBoard 47 = .ok (.lcmp, 1) := by decide +kernel
theorem dX5_isOnBoard_48 : decode cX5_isOnBoard 48 = .ok (.ifCond .lt (31), 3) := by decide +kernel
theorem dX5_isOnBoard_51 : decode cX5_isOnBoard 51 = .ok (.lload 5, 2) := by decide +kernel
theorem dX5_isOnBoard_53 : decode cX5_isOnBoard 53 = .ok (.aload_n 0, 1) := by decide +kernel
theorem dX5_isOnBoard_54 : decode cX5_isOnBoard 54 = .ok (.getfield 75, 3) := by decide +kernel
theorem dX5_isOnBoard_57 : decode cX5_isOnBoard 57 = .ok (.lcmp, 1) := by decide +kernel
theorem dX5_isOnBoard_58 : decode cX5_isOnBoard 58 = .ok (.ifCond .gt (21), 3) := by decide +kernel
theorem dX5_isOnBoard_61 : decode cX5_isOnBoard 61 = .ok (.aload_n 0, 1) := by decide +kernel
theorem dX5_isOnBoard_62 : decode cX5_isOnBoard 62 = .ok (.iload_n 1, 1) := by decide +kernel
theorem dX5_isOnBoard_63 : decode cX5_isOnBoard 63 = .ok (.iload_n 2, 1) := by decide +kernel
theorem dX5_isOnBoard_64 : decode cX5_isOnBoard 64 = .ok (.invokevirtual 106, 3) := by decide +kernel
theorem dX5_isOnBoard_67 : decode cX5_isOnBoard 67 = .ok (.aload_n 0, 1) := by decide +kernel
theorem dX5_isOnBoard_68 : decode cX5_isOnBoard 68 = .ok (.getfield 75, 3) := by decide +kernel
theorem dX5_isOnBoard_71 : decode cX5_isOnBoard 71 = .ok (.lcmp, 1) := by decide +kernel
theorem dX5_isOnBoard_72 : decode cX5_isOnBoard 72 = .ok (.ifCond .gt (7), 3) := by decide +kernel
theorem dX5_isOnBoard_75 : decode cX5_isOnBoard 75 = .ok (.iconst 1, 1) := by decide +kernel
theorem dX5_isOnBoard_76 : decode cX5_isOnBoard 76 = .ok (.goto (4), 3) := by decide +kernel
theorem dX5_isOnBoard_79 : decode cX5_isOnBoard 79 = .ok (.iconst 0, 1) := by decide +kernel
theorem dX5_isOnBoard_80 : decode cX5_isOnBoard 80 = .ok (.ireturn, 1) := by decide +kernel
abbrev cX5_isKeptOut : ByteArray := prog_7_method_13_code
def yX5_isKeptOut : MethodName := ⟨RX5, "isKeptOut", "(II)Z"⟩
def wsX5_isKeptOut : List Cond := .code yX5_isKeptOut cX5_isKeptOut 6 (some .boolean) :: bT
theorem dX5_isKeptOut_0 : decode cX5_isKeptOut 0 = .ok (.iconst 0, 1) := by decide +kernel
theorem dX5_isKeptOut_1 : decode cX5_isKeptOut 1 = .ok (.istore_n 3, 1) := by decide +kernel
theorem dX5_isKeptOut_2 : decode cX5_isKeptOut 2 = .ok (.iconst 0, 1) := by decide +kernel
theorem dX5_isKeptOut_3 : decode cX5_isKeptOut 3 = .ok (.istore 4, 2) := by decide +kernel
theorem dX5_isKeptOut_5 : decode cX5_isKeptOut 5 = .ok (.iload 4, 2) := by decide +kernel
theorem dX5_isKeptOut_7 : decode cX5_isKeptOut 7 = .ok (.iconst 5, 1) := by decide +kernel
theorem dX5_isKeptOut_8 : decode cX5_isKeptOut 8 = .ok (.aload_n 0, 1) := by decide +kernel
theorem dX5_isKeptOut_9 : decode cX5_isKeptOut 9 = .ok (.getfield 109, 3) := by decide +kernel
theorem dX5_isKeptOut_12 : decode cX5_isKeptOut 12 = .ok (.imul, 1) := by decide +kernel
theorem dX5_isKeptOut_13 : decode cX5_isKeptOut 13 = .ok (.if_icmp .ge (124), 3) := by decide +kernel
theorem dX5_isKeptOut_16 : decode cX5_isKeptOut 16 = .ok (.aload_n 0, 1) := by decide +kernel
theorem dX5_isKeptOut_17 : decode cX5_isKeptOut 17 = .ok (.iload_n 1, 1) := by decide +kernel
theorem dX5_isKeptOut_18 : decode cX5_isKeptOut 18 = .ok (.iload_n 2, 1) := by decide +kernel
theorem dX5_isKeptOut_19 : decode cX5_isKeptOut 19 = .ok (.invokevirtual 92, 3) := by decide +kernel
theorem dX5_isKeptOut_22 : decode cX5_isKeptOut 22 = .ok (.aload_n 0, 1) := by decide +kernel
theorem dX5_isKeptOut_23 : decode cX5_isKeptOut 23 = .ok (.getfield 42, 3) := by decide +kernel
theorem dX5_isKeptOut_26 : decode cX5_isKeptOut 26 = .ok (.iload 4, 2) := by decide +kernel
theorem dX5_isKeptOut_28 : decode cX5_isKeptOut 28 = .ok (.iconst 2, 1) := by decide +kernel
theorem dX5_isKeptOut_29 : decode cX5_isKeptOut 29 = .ok (.iadd, 1) := by decide +kernel
theorem dX5_isKeptOut_30 : decode cX5_isKeptOut 30 = .ok (.laload, 1) := by decide +kernel
theorem dX5_isKeptOut_31 : decode cX5_isKeptOut 31 = .ok (.lcmp, 1) := by decide +kernel
theorem dX5_isKeptOut_32 : decode cX5_isKeptOut 32 = .ok (.ifCond .ge (62), 3) := by decide +kernel
theorem dX5_isKeptOut_35 : decode cX5_isKeptOut 35 = .ok (.aload_n 0, 1) := by decide +kernel
theorem dX5_isKeptOut_36 : decode cX5_isKeptOut 36 = .ok (.getfield 42, 3) := by decide +kernel
theorem dX5_isKeptOut_39 : decode cX5_isKeptOut 39 = .ok (.iload 4, 2) := by decide +kernel
theorem dX5_isKeptOut_41 : decode cX5_isKeptOut 41 = .ok (.laload, 1) := by decide +kernel
theorem dX5_isKeptOut_42 : decode cX5_isKeptOut 42 = .ok (.aload_n 0, 1) := by decide +kernel
theorem dX5_isKeptOut_43 : decode cX5_isKeptOut 43 = .ok (.iload_n 1, 1) := by decide +kernel
theorem dX5_isKeptOut_44 : decode cX5_isKeptOut 44 = .ok (.iload_n 2, 1) := by decide +kernel
theorem dX5_isKeptOut_45 : decode cX5_isKeptOut 45 = .ok (.invokevirtual 103, 3) := by decide +kernel
theorem dX5_isKeptOut_48 : decode cX5_isKeptOut 48 = .ok (.lcmp, 1) := by decide +kernel
theorem dX5_isKeptOut_49 : decode cX5_isKeptOut 49 = .ok (.ifCond .ge (45), 3) := by decide +kernel
theorem dX5_isKeptOut_52 : decode cX5_isKeptOut 52 = .ok (.aload_n 0, 1) := by decide +kernel
theorem dX5_isKeptOut_53 : decode cX5_isKeptOut 53 = .ok (.iload_n 1, 1) := by decide +kernel
theorem dX5_isKeptOut_54 : decode cX5_isKeptOut 54 = .ok (.iload_n 2, 1) := by decide +kernel
theorem dX5_isKeptOut_55 : decode cX5_isKeptOut 55 = .ok (.invokevirtual 100, 3) := by decide +kernel
theorem dX5_isKeptOut_58 : decode cX5_isKeptOut 58 = .ok (.aload_n 0, 1) := by decide +kernel
theorem dX5_isKeptOut_59 : decode cX5_isKeptOut 59 = .ok (.getfield 42, 3) := by decide +kernel
theorem dX5_isKeptOut_62 : decode cX5_isKeptOut 62 = .ok (.iload 4, 2) := by decide +kernel
theorem dX5_isKeptOut_64 : decode cX5_isKeptOut 64 = .ok (.iconst 3, 1) := by decide +kernel
theorem dX5_isKeptOut_65 : decode cX5_isKeptOut 65 = .ok (.iadd, 1) := by decide +kernel
theorem dX5_isKeptOut_66 : decode cX5_isKeptOut 66 = .ok (.laload, 1) := by decide +kernel
theorem dX5_isKeptOut_67 : decode cX5_isKeptOut 67 = .ok (.lcmp, 1) := by decide +kernel
theorem dX5_isKeptOut_68 : decode cX5_isKeptOut 68 = .ok (.ifCond .ge (26), 3) := by decide +kernel
theorem dX5_isKeptOut_71 : decode cX5_isKeptOut 71 = .ok (.aload_n 0, 1) := by decide +kernel
theorem dX5_isKeptOut_72 : decode cX5_isKeptOut 72 = .ok (.getfield 42, 3) := by decide +kernel
theorem dX5_isKeptOut_75 : decode cX5_isKeptOut 75 = .ok (.iload 4, 2) := by decide +kernel
theorem dX5_isKeptOut_77 : decode cX5_isKeptOut 77 = .ok (.iconst 1, 1) := by decide +kernel
theorem dX5_isKeptOut_78 : decode cX5_isKeptOut 78 = .ok (.iadd, 1) := by decide +kernel
theorem dX5_isKeptOut_79 : decode cX5_isKeptOut 79 = .ok (.laload, 1) := by decide +kernel
theorem dX5_isKeptOut_80 : decode cX5_isKeptOut 80 = .ok (.aload_n 0, 1) := by decide +kernel
theorem dX5_isKeptOut_81 : decode cX5_isKeptOut 81 = .ok (.iload_n 1, 1) := by decide +kernel
theorem dX5_isKeptOut_82 : decode cX5_isKeptOut 82 = .ok (.iload_n 2, 1) := by decide +kernel
theorem dX5_isKeptOut_83 : decode cX5_isKeptOut 83 = .ok (.invokevirtual 106, 3) := by decide +kernel
theorem dX5_isKeptOut_86 : decode cX5_isKeptOut 86 = .ok (.lcmp, 1) := by decide +kernel
theorem dX5_isKeptOut_87 : decode cX5_isKeptOut 87 = .ok (.ifCond .ge (7), 3) := by decide +kernel
theorem dX5_isKeptOut_90 : decode cX5_isKeptOut 90 = .ok (.iconst 1, 1) := by decide +kernel
theorem dX5_isKeptOut_91 : decode cX5_isKeptOut 91 = .ok (.goto (4), 3) := by decide +kernel
theorem dX5_isKeptOut_94 : decode cX5_isKeptOut 94 = .ok (.iconst 0, 1) := by decide +kernel
theorem dX5_isKeptOut_95 : decode cX5_isKeptOut 95 = .ok (.istore 5, 2) := by decide +kernel
theorem dX5_isKeptOut_97 : decode cX5_isKeptOut 97 = .ok (.iload_n 3, 1) := by decide +kernel
theorem dX5_isKeptOut_98 : decode cX5_isKeptOut 98 = .ok (.ifCond .ne (27), 3) := by decide +kernel
theorem dX5_isKeptOut_101 : decode cX5_isKeptOut 101 = .ok (.iload 5, 2) := by decide +kernel
theorem dX5_isKeptOut_103 : decode cX5_isKeptOut 103 = .ok (.ifCond .eq (26), 3) := by decide +kernel
theorem dX5_isKeptOut_106 : decode cX5_isKeptOut 106 = .ok (.aload_n 0, 1) := by decide +kernel
theorem dX5_isKeptOut_107 : decode cX5_isKeptOut 107 = .ok (.getfield 20, 3) := by decide +kernel
theorem dX5_isKeptOut_110 : decode cX5_isKeptOut 110 = .ok (.iload_n 2, 1) := by decide +kernel
theorem dX5_isKeptOut_111 : decode cX5_isKeptOut 111 = .ok (.laload, 1) := by decide +kernel
theorem dX5_isKeptOut_112 : decode cX5_isKeptOut 112 = .ok (.aload_n 0, 1) := by decide +kernel
theorem dX5_isKeptOut_113 : decode cX5_isKeptOut 113 = .ok (.getfield 42, 3) := by decide +kernel
theorem dX5_isKeptOut_116 : decode cX5_isKeptOut 116 = .ok (.iload 4, 2) := by decide +kernel
theorem dX5_isKeptOut_118 : decode cX5_isKeptOut 118 = .ok (.iconst 4, 1) := by decide +kernel
theorem dX5_isKeptOut_119 : decode cX5_isKeptOut 119 = .ok (.iadd, 1) := by decide +kernel
theorem dX5_isKeptOut_120 : decode cX5_isKeptOut 120 = .ok (.laload, 1) := by decide +kernel
theorem dX5_isKeptOut_121 : decode cX5_isKeptOut 121 = .ok (.lcmp, 1) := by decide +kernel
theorem dX5_isKeptOut_122 : decode cX5_isKeptOut 122 = .ok (.ifCond .le (7), 3) := by decide +kernel
theorem dX5_isKeptOut_125 : decode cX5_isKeptOut 125 = .ok (.iconst 1, 1) := by decide +kernel
theorem dX5_isKeptOut_126 : decode cX5_isKeptOut 126 = .ok (.goto (4), 3) := by decide +kernel
theorem dX5_isKeptOut_129 : decode cX5_isKeptOut 129 = .ok (.iconst 0, 1) := by decide +kernel
theorem dX5_isKeptOut_130 : decode cX5_isKeptOut 130 = .ok (.istore_n 3, 1) := by decide +kernel
theorem dX5_isKeptOut_131 : decode cX5_isKeptOut 131 = .ok (.iinc 4 5, 3) := by decide +kernel
theorem dX5_isKeptOut_134 : decode cX5_isKeptOut 134 = .ok (.goto (-129), 3) := by decide +kernel
theorem dX5_isKeptOut_137 : decode cX5_isKeptOut 137 = .ok (.iload_n 3, 1) := by decide +kernel
theorem dX5_isKeptOut_138 : decode cX5_isKeptOut 138 = .ok (.ireturn, 1) := by decide +kernel
abbrev cX5_gap : ByteArray := prog_7_method_14_code
def yX5_gap : MethodName := ⟨RX5, "gap", "(JJJJ)J"⟩
def wsX5_gap : List Cond := .code yX5_gap cX5_gap 8 (some .long) :: bT
theorem dX5_gap_0 : decode cX5_gap 0 = .ok (.lload 4, 2) := by decide +kernel
theorem dX5_gap_2 : decode cX5_gap 2 = .ok (.lload_n 2, 1) := by decide +kernel
theorem dX5_gap_3 : decode cX5_gap 3 = .ok (.lcmp, 1) := by decide +kernel
theorem dX5_gap_4 : decode cX5_gap 4 = .ok (.ifCond .le (10), 3) := by decide +kernel
theorem dX5_gap_7 : decode cX5_gap 7 = .ok (.lload 4, 2) := by decide +kernel
theorem dX5_gap_9 : decode cX5_gap 9 = .ok (.lload_n 2, 1) := by decide +kernel
theorem dX5_gap_10 : decode cX5_gap 10 = .ok (.lsub, 1) := by decide +kernel
theorem dX5_gap_11 : decode cX5_gap 11 = .ok (.goto (18), 3) := by decide +kernel
theorem dX5_gap_14 : decode cX5_gap 14 = .ok (.lload_n 0, 1) := by decide +kernel
theorem dX5_gap_15 : decode cX5_gap 15 = .ok (.lload 6, 2) := by decide +kernel
theorem dX5_gap_17 : decode cX5_gap 17 = .ok (.lcmp, 1) := by decide +kernel
theorem dX5_gap_18 : decode cX5_gap 18 = .ok (.ifCond .le (10), 3) := by decide +kernel
theorem dX5_gap_21 : decode cX5_gap 21 = .ok (.lload_n 0, 1) := by decide +kernel
theorem dX5_gap_22 : decode cX5_gap 22 = .ok (.lload 6, 2) := by decide +kernel
theorem dX5_gap_24 : decode cX5_gap 24 = .ok (.lsub, 1) := by decide +kernel
theorem dX5_gap_25 : decode cX5_gap 25 = .ok (.goto (4), 3) := by decide +kernel
theorem dX5_gap_28 : decode cX5_gap 28 = .ok (.lconst 0, 1) := by decide +kernel
theorem dX5_gap_29 : decode cX5_gap 29 = .ok (.lreturn, 1) := by decide +kernel
abbrev cX5_isNear : ByteArray := prog_7_method_15_code
def yX5_isNear : MethodName := ⟨RX5, "isNear", "(II)Z"⟩
def wsX5_isNear : List Cond := .code yX5_isNear cX5_isNear 5 (some .boolean) :: bT
theorem dX5_isNear_0 : decode cX5_isNear 0 = .ok (.aload_n 0, 1) := by decide +kernel
theorem dX5_isNear_1 : decode cX5_isNear 1 = .ok (.getfield 45, 3) := by decide +kernel
theorem dX5_isNear_4 : decode cX5_isNear 4 = .ok (.iload_n 2, 1) := by decide +kernel
theorem dX5_isNear_5 : decode cX5_isNear 5 = .ok (.iaload, 1) := by decide +kernel
theorem dX5_isNear_6 : decode cX5_isNear 6 = .ok (.istore_n 3, 1) := by decide +kernel
theorem dX5_isNear_7 : decode cX5_isNear 7 = .ok (.aload_n 0, 1) := by decide +kernel
theorem dX5_isNear_8 : decode cX5_isNear 8 = .ok (.getfield 48, 3) := by decide +kernel
theorem dX5_isNear_11 : decode cX5_isNear 11 = .ok (.iload_n 2, 1) := by decide +kernel
theorem dX5_isNear_12 : decode cX5_isNear 12 = .ok (.iaload, 1) := by decide +kernel
theorem dX5_isNear_13 : decode cX5_isNear 13 = .ok (.istore 4, 2) := by decide +kernel
theorem dX5_isNear_15 : decode cX5_isNear 15 = .ok (.aload_n 0, 1) := by decide +kernel
theorem dX5_isNear_16 : decode cX5_isNear 16 = .ok (.getfield 30, 3) := by decide +kernel
theorem dX5_isNear_19 : decode cX5_isNear 19 = .ok (.iload_n 3, 1) := by decide +kernel
theorem dX5_isNear_20 : decode cX5_isNear 20 = .ok (.baload, 1) := by decide +kernel
theorem dX5_isNear_21 : decode cX5_isNear 21 = .ok (.ifCond .eq (13), 3) := by decide +kernel
theorem dX5_isNear_24 : decode cX5_isNear 24 = .ok (.aload_n 0, 1) := by decide +kernel
theorem dX5_isNear_25 : decode cX5_isNear 25 = .ok (.getfield 30, 3) := by decide +kernel
theorem dX5_isNear_28 : decode cX5_isNear 28 = .ok (.iload 4, 2) := by decide +kernel
theorem dX5_isNear_30 : decode cX5_isNear 30 = .ok (.baload, 1) := by decide +kernel
theorem dX5_isNear_31 : decode cX5_isNear 31 = .ok (.ifCond .ne (5), 3) := by decide +kernel
theorem dX5_isNear_34 : decode cX5_isNear 34 = .ok (.iconst 1, 1) := by decide +kernel
theorem dX5_isNear_35 : decode cX5_isNear 35 = .ok (.ireturn, 1) := by decide +kernel
theorem dX5_isNear_36 : decode cX5_isNear 36 = .ok (.aload_n 0, 1) := by decide +kernel
theorem dX5_isNear_37 : decode cX5_isNear 37 = .ok (.iload_n 1, 1) := by decide +kernel
theorem dX5_isNear_38 : decode cX5_isNear 38 = .ok (.iload_n 3, 1) := by decide +kernel
theorem dX5_isNear_39 : decode cX5_isNear 39 = .ok (.invokevirtual 92, 3) := by decide +kernel
theorem dX5_isNear_42 : decode cX5_isNear 42 = .ok (.aload_n 0, 1) := by decide +kernel
theorem dX5_isNear_43 : decode cX5_isNear 43 = .ok (.iload_n 1, 1) := by decide +kernel
theorem dX5_isNear_44 : decode cX5_isNear 44 = .ok (.iload_n 3, 1) := by decide +kernel
theorem dX5_isNear_45 : decode cX5_isNear 45 = .ok (.invokevirtual 103, 3) := by decide +kernel
theorem dX5_isNear_48 : decode cX5_isNear 48 = .ok (.aload_n 0, 1) := by decide +kernel
theorem dX5_isNear_49 : decode cX5_isNear 49 = .ok (.iload_n 1, 1) := by decide +kernel
theorem dX5_isNear_50 : decode cX5_isNear 50 = .ok (.iload 4, 2) := by decide +kernel
theorem dX5_isNear_52 : decode cX5_isNear 52 = .ok (.invokevirtual 92, 3) := by decide +kernel
theorem dX5_isNear_55 : decode cX5_isNear 55 = .ok (.aload_n 0, 1) := by decide +kernel
theorem dX5_isNear_56 : decode cX5_isNear 56 = .ok (.iload_n 1, 1) := by decide +kernel
theorem dX5_isNear_57 : decode cX5_isNear 57 = .ok (.iload 4, 2) := by decide +kernel
theorem dX5_isNear_59 : decode cX5_isNear 59 = .ok (.invokevirtual 103, 3) := by decide +kernel
theorem dX5_isNear_62 : decode cX5_isNear 62 = .ok (.invokestatic 112, 3) := by decide +kernel
theorem dX5_isNear_65 : decode cX5_isNear 65 = .ok (.aload_n 0, 1) := by decide +kernel
theorem dX5_isNear_66 : decode cX5_isNear 66 = .ok (.iload_n 1, 1) := by decide +kernel
theorem dX5_isNear_67 : decode cX5_isNear 67 = .ok (.iload_n 3, 1) := by decide +kernel
theorem dX5_isNear_68 : decode cX5_isNear 68 = .ok (.invokevirtual 100, 3) := by decide +kernel
theorem dX5_isNear_71 : decode cX5_isNear 71 = .ok (.aload_n 0, 1) := by decide +kernel
theorem dX5_isNear_72 : decode cX5_isNear 72 = .ok (.iload_n 1, 1) := by decide +kernel
theorem dX5_isNear_73 : decode cX5_isNear 73 = .ok (.iload_n 3, 1) := by decide +kernel
theorem dX5_isNear_74 : decode cX5_isNear 74 = .ok (.invokevirtual 106, 3) := by decide +kernel
theorem dX5_isNear_77 : decode cX5_isNear 77 = .ok (.aload_n 0, 1) := by decide +kernel
theorem dX5_isNear_78 : decode cX5_isNear 78 = .ok (.iload_n 1, 1) := by decide +kernel
theorem dX5_isNear_79 : decode cX5_isNear 79 = .ok (.iload 4, 2) := by decide +kernel
theorem dX5_isNear_81 : decode cX5_isNear 81 = .ok (.invokevirtual 100, 3) := by decide +kernel
theorem dX5_isNear_84 : decode cX5_isNear 84 = .ok (.aload_n 0, 1) := by decide +kernel
theorem dX5_isNear_85 : decode cX5_isNear 85 = .ok (.iload_n 1, 1) := by decide +kernel
theorem dX5_isNear_86 : decode cX5_isNear 86 = .ok (.iload 4, 2) := by decide +kernel
theorem dX5_isNear_88 : decode cX5_isNear 88 = .ok (.invokevirtual 106, 3) := by decide +kernel
theorem dX5_isNear_91 : decode cX5_isNear 91 = .ok (.invokestatic 112, 3) := by decide +kernel
theorem dX5_isNear_94 : decode cX5_isNear 94 = .ok (.ladd, 1) := by decide +kernel
theorem dX5_isNear_95 : decode cX5_isNear 95 = .ok (.aload_n 0, 1) := by decide +kernel
theorem dX5_isNear_96 : decode cX5_isNear 96 = .ok (.getfield 51, 3) := by decide +kernel
theorem dX5_isNear_99 : decode cX5_isNear 99 = .ok (.iload_n 2, 1) := by decide +kernel
theorem dX5_isNear_100 : decode cX5_isNear 100 = .ok (.laload, 1) := by decide +kernel
theorem dX5_isNear_101 : decode cX5_isNear 101 = .ok (.lcmp, 1) := by decide +kernel
theorem dX5_isNear_102 : decode cX5_isNear 102 = .ok (.ifCond .gt (7), 3) := by decide +kernel
theorem dX5_isNear_105 : decode cX5_isNear 105 = .ok (.iconst 1, 1) := by decide +kernel
theorem dX5_isNear_106 : decode cX5_isNear 106 = .ok (.goto (4), 3) := by decide +kernel
theorem dX5_isNear_109 : decode cX5_isNear 109 = .ok (.iconst 0, 1) := by decide +kernel
theorem dX5_isNear_110 : decode cX5_isNear 110 = .ok (.ireturn, 1) := by decide +kernel
abbrev cX5_isWell : ByteArray := prog_7_method_16_code
def yX5_isWell : MethodName := ⟨RX5, "isWell", "(I)Z"⟩
def wsX5_isWell : List Cond := .code yX5_isWell cX5_isWell 4 (some .boolean) :: bT
theorem dX5_isWell_0 : decode cX5_isWell 0 = .ok (.iconst 0, 1) := by decide +kernel
theorem dX5_isWell_1 : decode cX5_isWell 1 = .ok (.istore_n 2, 1) := by decide +kernel
theorem dX5_isWell_2 : decode cX5_isWell 2 = .ok (.iload_n 2, 1) := by decide +kernel
theorem dX5_isWell_3 : decode cX5_isWell 3 = .ok (.aload_n 0, 1) := by decide +kernel
theorem dX5_isWell_4 : decode cX5_isWell 4 = .ok (.getfield 85, 3) := by decide +kernel
theorem dX5_isWell_7 : decode cX5_isWell 7 = .ok (.if_icmp .ge (90), 3) := by decide +kernel
theorem dX5_isWell_10 : decode cX5_isWell 10 = .ok (.aload_n 0, 1) := by decide +kernel
theorem dX5_isWell_11 : decode cX5_isWell 11 = .ok (.getfield 30, 3) := by decide +kernel
theorem dX5_isWell_14 : decode cX5_isWell 14 = .ok (.iload_n 2, 1) := by decide +kernel
theorem dX5_isWell_15 : decode cX5_isWell 15 = .ok (.baload, 1) := by decide +kernel
theorem dX5_isWell_16 : decode cX5_isWell 16 = .ok (.ifCond .ne (6), 3) := by decide +kernel
theorem dX5_isWell_19 : decode cX5_isWell 19 = .ok (.goto (72), 3) := by decide +kernel
theorem dX5_isWell_22 : decode cX5_isWell 22 = .ok (.aload_n 0, 1) := by decide +kernel
theorem dX5_isWell_23 : decode cX5_isWell 23 = .ok (.iload_n 1, 1) := by decide +kernel
theorem dX5_isWell_24 : decode cX5_isWell 24 = .ok (.iload_n 2, 1) := by decide +kernel
theorem dX5_isWell_25 : decode cX5_isWell 25 = .ok (.invokevirtual 116, 3) := by decide +kernel
theorem dX5_isWell_28 : decode cX5_isWell 28 = .ok (.ifCond .eq (12), 3) := by decide +kernel
theorem dX5_isWell_31 : decode cX5_isWell 31 = .ok (.aload_n 0, 1) := by decide +kernel
theorem dX5_isWell_32 : decode cX5_isWell 32 = .ok (.iload_n 1, 1) := by decide +kernel
theorem dX5_isWell_33 : decode cX5_isWell 33 = .ok (.iload_n 2, 1) := by decide +kernel
theorem dX5_isWell_34 : decode cX5_isWell 34 = .ok (.invokevirtual 119, 3) := by decide +kernel
theorem dX5_isWell_37 : decode cX5_isWell 37 = .ok (.ifCond .eq (5), 3) := by decide +kernel
theorem dX5_isWell_40 : decode cX5_isWell 40 = .ok (.iconst 0, 1) := by decide +kernel
theorem dX5_isWell_41 : decode cX5_isWell 41 = .ok (.ireturn, 1) := by decide +kernel
theorem dX5_isWell_42 : decode cX5_isWell 42 = .ok (.iconst 0, 1) := by decide +kernel
theorem dX5_isWell_43 : decode cX5_isWell 43 = .ok (.istore_n 3, 1) := by decide +kernel
theorem dX5_isWell_44 : decode cX5_isWell 44 = .ok (.iload_n 3, 1) := by decide +kernel
theorem dX5_isWell_45 : decode cX5_isWell 45 = .ok (.iload_n 2, 1) := by decide +kernel
theorem dX5_isWell_46 : decode cX5_isWell 46 = .ok (.if_icmp .ge (45), 3) := by decide +kernel
theorem dX5_isWell_49 : decode cX5_isWell 49 = .ok (.aload_n 0, 1) := by decide +kernel
theorem dX5_isWell_50 : decode cX5_isWell 50 = .ok (.getfield 30, 3) := by decide +kernel
theorem dX5_isWell_53 : decode cX5_isWell 53 = .ok (.iload_n 3, 1) := by decide +kernel
theorem dX5_isWell_54 : decode cX5_isWell 54 = .ok (.baload, 1) := by decide +kernel
theorem dX5_isWell_55 : decode cX5_isWell 55 = .ok (.ifCond .eq (30), 3) := by decide +kernel
theorem dX5_isWell_58 : decode cX5_isWell 58 = .ok (.aload_n 0, 1) := by decide +kernel
theorem dX5_isWell_59 : decode cX5_isWell 59 = .ok (.getfield 16, 3) := by decide +kernel
theorem dX5_isWell_62 : decode cX5_isWell 62 = .ok (.iload_n 2, 1) := by decide +kernel
theorem dX5_isWell_63 : decode cX5_isWell 63 = .ok (.iaload, 1) := by decide +kernel
theorem dX5_isWell_64 : decode cX5_isWell 64 = .ok (.aload_n 0, 1) := by decide +kernel
theorem dX5_isWell_65 : decode cX5_isWell 65 = .ok (.getfield 16, 3) := by decide +kernel
theorem dX5_isWell_68 : decode cX5_isWell 68 = .ok (.iload_n 3, 1) := by decide +kernel
theorem dX5_isWell_69 : decode cX5_isWell 69 = .ok (.iaload, 1) := by decide +kernel
theorem dX5_isWell_70 : decode cX5_isWell 70 = .ok (.if_icmp .ne (15), 3) := by decide +kernel
theorem dX5_isWell_73 : decode cX5_isWell 73 = .ok (.aload_n 0, 1) := by decide +kernel
theorem dX5_isWell_74 : decode cX5_isWell 74 = .ok (.iload_n 1, 1) := by decide +kernel
theorem dX5_isWell_75 : decode cX5_isWell 75 = .ok (.iload_n 2, 1) := by decide +kernel
theorem dX5_isWell_76 : decode cX5_isWell 76 = .ok (.iload_n 3, 1) := by decide +kernel
theorem dX5_isWell_77 : decode cX5_isWell 77 = .ok (.invokevirtual 122, 3) := by decide +kernel
theorem dX5_isWell_80 : decode cX5_isWell 80 = .ok (.ifCond .eq (5), 3) := by decide +kernel
theorem dX5_isWell_83 : decode cX5_isWell 83 = .ok (.iconst 0, 1) := by decide +kernel
theorem dX5_isWell_84 : decode cX5_isWell 84 = .ok (.ireturn, 1) := by decide +kernel
theorem dX5_isWell_85 : decode cX5_isWell 85 = .ok (.iinc 3 1, 3) := by decide +kernel
theorem dX5_isWell_88 : decode cX5_isWell 88 = .ok (.goto (-44), 3) := by decide +kernel
theorem dX5_isWell_91 : decode cX5_isWell 91 = .ok (.iinc 2 1, 3) := by decide +kernel
theorem dX5_isWell_94 : decode cX5_isWell 94 = .ok (.goto (-92), 3) := by decide +kernel
theorem dX5_isWell_97 : decode cX5_isWell 97 = .ok (.iconst 1, 1) := by decide +kernel
theorem dX5_isWell_98 : decode cX5_isWell 98 = .ok (.istore_n 2, 1) := by decide +kernel
theorem dX5_isWell_99 : decode cX5_isWell 99 = .ok (.iconst 0, 1) := by decide +kernel
theorem dX5_isWell_100 : decode cX5_isWell 100 = .ok (.istore_n 3, 1) := by decide +kernel
theorem dX5_isWell_101 : decode cX5_isWell 101 = .ok (.iload_n 3, 1) := by decide +kernel
theorem dX5_isWell_102 : decode cX5_isWell 102 = .ok (.aload_n 0, 1) := by decide +kernel
theorem dX5_isWell_103 : decode cX5_isWell 103 = .ok (.getfield 126, 3) := by decide +kernel
theorem dX5_isWell_106 : decode cX5_isWell 106 = .ok (.if_icmp .ge (28), 3) := by decide +kernel
theorem dX5_isWell_109 : decode cX5_isWell 109 = .ok (.iload_n 2, 1) := by decide +kernel
theorem dX5_isWell_110 : decode cX5_isWell 110 = .ok (.ifCond .eq (16), 3) := by decide +kernel
theorem dX5_isWell_113 : decode cX5_isWell 113 = .ok (.aload_n 0, 1) := by decide +kernel
theorem dX5_isWell_114 : decode cX5_isWell 114 = .ok (.iload_n 1, 1) := by decide +kernel
theorem dX5_isWell_115 : decode cX5_isWell 115 = .ok (.iload_n 3, 1) := by decide +kernel
theorem dX5_isWell_116 : decode cX5_isWell 116 = .ok (.invokevirtual 129, 3) := by decide +kernel
theorem dX5_isWell_119 : decode cX5_isWell 119 = .ok (.ifCond .eq (7), 3) := by decide +kernel
theorem dX5_isWell_122 : decode cX5_isWell 122 = .ok (.iconst 1, 1) := by decide +kernel
theorem dX5_isWell_123 : decode cX5_isWell 123 = .ok (.goto (4), 3) := by decide +kernel
theorem dX5_isWell_126 : decode cX5_isWell 126 = .ok (.iconst 0, 1) := by decide +kernel
theorem dX5_isWell_127 : decode cX5_isWell 127 = .ok (.istore_n 2, 1) := by decide +kernel
theorem dX5_isWell_128 : decode cX5_isWell 128 = .ok (.iinc 3 1, 3) := by decide +kernel
theorem dX5_isWell_131 : decode cX5_isWell 131 = .ok (.goto (-30), 3) := by decide +kernel
theorem dX5_isWell_134 : decode cX5_isWell 134 = .ok (.iload_n 2, 1) := by decide +kernel
theorem dX5_isWell_135 : decode cX5_isWell 135 = .ok (.ireturn, 1) := by decide +kernel
abbrev cX5_copy : ByteArray := prog_7_method_17_code
def yX5_copy : MethodName := ⟨RX5, "copy", "(II)V"⟩
def wsX5_copy : List Cond := .code yX5_copy cX5_copy 4 none :: bT
theorem dX5_copy_0 : decode cX5_copy 0 = .ok (.iconst 0, 1) := by decide +kernel
theorem dX5_copy_1 : decode cX5_copy 1 = .ok (.istore_n 3, 1) := by decide +kernel
theorem dX5_copy_2 : decode cX5_copy 2 = .ok (.iload_n 3, 1) := by decide +kernel
theorem dX5_copy_3 : decode cX5_copy 3 = .ok (.bipush 40, 2) := by decide +kernel
theorem dX5_copy_5 : decode cX5_copy 5 = .ok (.if_icmp .ge (75), 3) := by decide +kernel
theorem dX5_copy_8 : decode cX5_copy 8 = .ok (.aload_n 0, 1) := by decide +kernel
theorem dX5_copy_9 : decode cX5_copy 9 = .ok (.getfield 33, 3) := by decide +kernel
theorem dX5_copy_12 : decode cX5_copy 12 = .ok (.bipush 40, 2) := by decide +kernel
theorem dX5_copy_14 : decode cX5_copy 14 = .ok (.iload_n 1, 1) := by decide +kernel
theorem dX5_copy_15 : decode cX5_copy 15 = .ok (.imul, 1) := by decide +kernel
theorem dX5_copy_16 : decode cX5_copy 16 = .ok (.iload_n 3, 1) := by decide +kernel
theorem dX5_copy_17 : decode cX5_copy 17 = .ok (.iadd, 1) := by decide +kernel
theorem dX5_copy_18 : decode cX5_copy 18 = .ok (.aload_n 0, 1) := by decide +kernel
theorem dX5_copy_19 : decode cX5_copy 19 = .ok (.getfield 33, 3) := by decide +kernel
theorem dX5_copy_22 : decode cX5_copy 22 = .ok (.bipush 40, 2) := by decide +kernel
theorem dX5_copy_24 : decode cX5_copy 24 = .ok (.iload_n 2, 1) := by decide +kernel
theorem dX5_copy_25 : decode cX5_copy 25 = .ok (.imul, 1) := by decide +kernel
theorem dX5_copy_26 : decode cX5_copy 26 = .ok (.iload_n 3, 1) := by decide +kernel
theorem dX5_copy_27 : decode cX5_copy 27 = .ok (.iadd, 1) := by decide +kernel
theorem dX5_copy_28 : decode cX5_copy 28 = .ok (.laload, 1) := by decide +kernel
theorem dX5_copy_29 : decode cX5_copy 29 = .ok (.lastore, 1) := by decide +kernel
theorem dX5_copy_30 : decode cX5_copy 30 = .ok (.aload_n 0, 1) := by decide +kernel
theorem dX5_copy_31 : decode cX5_copy 31 = .ok (.getfield 36, 3) := by decide +kernel
theorem dX5_copy_34 : decode cX5_copy 34 = .ok (.bipush 40, 2) := by decide +kernel
theorem dX5_copy_36 : decode cX5_copy 36 = .ok (.iload_n 1, 1) := by decide +kernel
theorem dX5_copy_37 : decode cX5_copy 37 = .ok (.imul, 1) := by decide +kernel
theorem dX5_copy_38 : decode cX5_copy 38 = .ok (.iload_n 3, 1) := by decide +kernel
theorem dX5_copy_39 : decode cX5_copy 39 = .ok (.iadd, 1) := by decide +kernel
theorem dX5_copy_40 : decode cX5_copy 40 = .ok (.aload_n 0, 1) := by decide +kernel
theorem dX5_copy_41 : decode cX5_copy 41 = .ok (.getfield 36, 3) := by decide +kernel
theorem dX5_copy_44 : decode cX5_copy 44 = .ok (.bipush 40, 2) := by decide +kernel
theorem dX5_copy_46 : decode cX5_copy 46 = .ok (.iload_n 2, 1) := by decide +kernel
theorem dX5_copy_47 : decode cX5_copy 47 = .ok (.imul, 1) := by decide +kernel
theorem dX5_copy_48 : decode cX5_copy 48 = .ok (.iload_n 3, 1) := by decide +kernel
theorem dX5_copy_49 : decode cX5_copy 49 = .ok (.iadd, 1) := by decide +kernel
theorem dX5_copy_50 : decode cX5_copy 50 = .ok (.laload, 1) := by decide +kernel
theorem dX5_copy_51 : decode cX5_copy 51 = .ok (.lastore, 1) := by decide +kernel
theorem dX5_copy_52 : decode cX5_copy 52 = .ok (.aload_n 0, 1) := by decide +kernel
theorem dX5_copy_53 : decode cX5_copy 53 = .ok (.getfield 39, 3) := by decide +kernel
theorem dX5_copy_56 : decode cX5_copy 56 = .ok (.bipush 40, 2) := by decide +kernel
theorem dX5_copy_58 : decode cX5_copy 58 = .ok (.iload_n 1, 1) := by decide +kernel
theorem dX5_copy_59 : decode cX5_copy 59 = .ok (.imul, 1) := by decide +kernel
theorem dX5_copy_60 : decode cX5_copy 60 = .ok (.iload_n 3, 1) := by decide +kernel
theorem dX5_copy_61 : decode cX5_copy 61 = .ok (.iadd, 1) := by decide +kernel
theorem dX5_copy_62 : decode cX5_copy 62 = .ok (.aload_n 0, 1) := by decide +kernel
theorem dX5_copy_63 : decode cX5_copy 63 = .ok (.getfield 39, 3) := by decide +kernel
theorem dX5_copy_66 : decode cX5_copy 66 = .ok (.bipush 40, 2) := by decide +kernel
theorem dX5_copy_68 : decode cX5_copy 68 = .ok (.iload_n 2, 1) := by decide +kernel
theorem dX5_copy_69 : decode cX5_copy 69 = .ok (.imul, 1) := by decide +kernel
theorem dX5_copy_70 : decode cX5_copy 70 = .ok (.iload_n 3, 1) := by decide +kernel
theorem dX5_copy_71 : decode cX5_copy 71 = .ok (.iadd, 1) := by decide +kernel
theorem dX5_copy_72 : decode cX5_copy 72 = .ok (.iaload, 1) := by decide +kernel
theorem dX5_copy_73 : decode cX5_copy 73 = .ok (.iastore, 1) := by decide +kernel
theorem dX5_copy_74 : decode cX5_copy 74 = .ok (.iinc 3 1, 3) := by decide +kernel
theorem dX5_copy_77 : decode cX5_copy 77 = .ok (.goto (-75), 3) := by decide +kernel
theorem dX5_copy_80 : decode cX5_copy 80 = .ok (.return_, 1) := by decide +kernel
abbrev cX5_isSame : ByteArray := prog_7_method_18_code
def yX5_isSame : MethodName := ⟨RX5, "isSame", "(II)Z"⟩
def wsX5_isSame : List Cond := .code yX5_isSame cX5_isSame 3 (some .boolean) :: bT
theorem dX5_isSame_0 : decode cX5_isSame 0 = .ok (.aload_n 0, 1) := by decide +kernel
theorem dX5_isSame_1 : decode cX5_isSame 1 = .ok (.iload_n 1, 1) := by decide +kernel
theorem dX5_isSame_2 : decode cX5_isSame 2 = .ok (.iload_n 2, 1) := by decide +kernel
theorem dX5_isSame_3 : decode cX5_isSame 3 = .ok (.invokevirtual 92, 3) := by decide +kernel
theorem dX5_isSame_6 : decode cX5_isSame 6 = .ok (.aload_n 0, 1) := by decide +kernel
theorem dX5_isSame_7 : decode cX5_isSame 7 = .ok (.iconst 0, 1) := by decide +kernel
theorem dX5_isSame_8 : decode cX5_isSame 8 = .ok (.iload_n 2, 1) := by decide +kernel
theorem dX5_isSame_9 : decode cX5_isSame 9 = .ok (.invokevirtual 92, 3) := by decide +kernel
theorem dX5_isSame_12 : decode cX5_isSame 12 = .ok (.lcmp, 1) := by decide +kernel
theorem dX5_isSame_13 : decode cX5_isSame 13 = .ok (.ifCond .ne (43), 3) := by decide +kernel
theorem dX5_isSame_16 : decode cX5_isSame 16 = .ok (.aload_n 0, 1) := by decide +kernel
theorem dX5_isSame_17 : decode cX5_isSame 17 = .ok (.iload_n 1, 1) := by decide +kernel
theorem dX5_isSame_18 : decode cX5_isSame 18 = .ok (.iload_n 2, 1) := by decide +kernel
theorem dX5_isSame_19 : decode cX5_isSame 19 = .ok (.invokevirtual 100, 3) := by decide +kernel
theorem dX5_isSame_22 : decode cX5_isSame 22 = .ok (.aload_n 0, 1) := by decide +kernel
theorem dX5_isSame_23 : decode cX5_isSame 23 = .ok (.iconst 0, 1) := by decide +kernel
theorem dX5_isSame_24 : decode cX5_isSame 24 = .ok (.iload_n 2, 1) := by decide +kernel
theorem dX5_isSame_25 : decode cX5_isSame 25 = .ok (.invokevirtual 100, 3) := by decide +kernel
theorem dX5_isSame_28 : decode cX5_isSame 28 = .ok (.lcmp, 1) := by decide +kernel
theorem dX5_isSame_29 : decode cX5_isSame 29 = .ok (.ifCond .ne (27), 3) := by decide +kernel
theorem dX5_isSame_32 : decode cX5_isSame 32 = .ok (.aload_n 0, 1) := by decide +kernel
theorem dX5_isSame_33 : decode cX5_isSame 33 = .ok (.getfield 39, 3) := by decide +kernel
theorem dX5_isSame_36 : decode cX5_isSame 36 = .ok (.bipush 40, 2) := by decide +kernel
theorem dX5_isSame_38 : decode cX5_isSame 38 = .ok (.iload_n 1, 1) := by decide +kernel
theorem dX5_isSame_39 : decode cX5_isSame 39 = .ok (.imul, 1) := by decide +kernel
theorem dX5_isSame_40 : decode cX5_isSame 40 = .ok (.iload_n 2, 1) := by decide +kernel
theorem dX5_isSame_41 : decode cX5_isSame 41 = .ok (.iadd, 1) := by decide +kernel
theorem dX5_isSame_42 : decode cX5_isSame 42 = .ok (.iaload, 1) := by decide +kernel
theorem dX5_isSame_43 : decode cX5_isSame 43 = .ok (.aload_n 0, 1) := by decide +kernel
theorem dX5_isSame_44 : decode cX5_isSame 44 = .ok (.getfield 39, 3) := by decide +kernel
theorem dX5_isSame_47 : decode cX5_isSame 47 = .ok (.iload_n 2, 1) := by decide +kernel
theorem dX5_isSame_48 : decode cX5_isSame 48 = .ok (.iaload, 1) := by decide +kernel
theorem dX5_isSame_49 : decode cX5_isSame 49 = .ok (.if_icmp .ne (7), 3) := by decide +kernel
theorem dX5_isSame_52 : decode cX5_isSame 52 = .ok (.iconst 1, 1) := by decide +kernel
theorem dX5_isSame_53 : decode cX5_isSame 53 = .ok (.goto (4), 3) := by decide +kernel
theorem dX5_isSame_56 : decode cX5_isSame 56 = .ok (.iconst 0, 1) := by decide +kernel
theorem dX5_isSame_57 : decode cX5_isSame 57 = .ok (.ireturn, 1) := by decide +kernel
abbrev cX5_go : ByteArray := prog_7_method_19_code
def yX5_go : MethodName := ⟨RX5, "go", "(IJJ)V"⟩
def wsX5_go : List Cond := .code yX5_go cX5_go 7 none :: bT
theorem dX5_go_0 : decode cX5_go 0 = .ok (.iconst 0, 1) := by decide +kernel
theorem dX5_go_1 : decode cX5_go 1 = .ok (.istore 6, 2) := by decide +kernel
theorem dX5_go_3 : decode cX5_go 3 = .ok (.iload 6, 2) := by decide +kernel
theorem dX5_go_5 : decode cX5_go 5 = .ok (.aload_n 0, 1) := by decide +kernel
theorem dX5_go_6 : decode cX5_go 6 = .ok (.getfield 85, 3) := by decide +kernel
theorem dX5_go_9 : decode cX5_go 9 = .ok (.if_icmp .ge (102), 3) := by decide +kernel
theorem dX5_go_12 : decode cX5_go 12 = .ok (.aload_n 0, 1) := by decide +kernel
theorem dX5_go_13 : decode cX5_go 13 = .ok (.getfield 27, 3) := by decide +kernel
theorem dX5_go_16 : decode cX5_go 16 = .ok (.iload 6, 2) := by decide +kernel
theorem dX5_go_18 : decode cX5_go 18 = .ok (.iaload, 1) := by decide +kernel
theorem dX5_go_19 : decode cX5_go 19 = .ok (.aload_n 0, 1) := by decide +kernel
theorem dX5_go_20 : decode cX5_go 20 = .ok (.getfield 27, 3) := by decide +kernel
theorem dX5_go_23 : decode cX5_go 23 = .ok (.iload_n 1, 1) := by decide +kernel
theorem dX5_go_24 : decode cX5_go 24 = .ok (.iaload, 1) := by decide +kernel
theorem dX5_go_25 : decode cX5_go 25 = .ok (.if_icmp .ne (80), 3) := by decide +kernel
theorem dX5_go_28 : decode cX5_go 28 = .ok (.aload_n 0, 1) := by decide +kernel
theorem dX5_go_29 : decode cX5_go 29 = .ok (.getfield 30, 3) := by decide +kernel
theorem dX5_go_32 : decode cX5_go 32 = .ok (.iload 6, 2) := by decide +kernel
theorem dX5_go_34 : decode cX5_go 34 = .ok (.baload, 1) := by decide +kernel
theorem dX5_go_35 : decode cX5_go 35 = .ok (.ifCond .ne (6), 3) := by decide +kernel
theorem dX5_go_38 : decode cX5_go 38 = .ok (.goto (67), 3) := by decide +kernel
theorem dX5_go_41 : decode cX5_go 41 = .ok (.aload_n 0, 1) := by decide +kernel
theorem dX5_go_42 : decode cX5_go 42 = .ok (.getfield 33, 3) := by decide +kernel
theorem dX5_go_45 : decode cX5_go 45 = .ok (.bipush 40, 2) := by decide +kernel
theorem dX5_go_47 : decode cX5_go 47 = .ok (.iload 6, 2) := by decide +kernel
theorem dX5_go_49 : decode cX5_go 49 = .ok (.iadd, 1) := by decide +kernel
theorem dX5_go_50 : decode cX5_go 50 = .ok (.dup2, 1) := by decide +kernel
theorem dX5_go_51 : decode cX5_go 51 = .ok (.laload, 1) := by decide +kernel
theorem dX5_go_52 : decode cX5_go 52 = .ok (.lload_n 2, 1) := by decide +kernel
theorem dX5_go_53 : decode cX5_go 53 = .ok (.ladd, 1) := by decide +kernel
theorem dX5_go_54 : decode cX5_go 54 = .ok (.lastore, 1) := by decide +kernel
theorem dX5_go_55 : decode cX5_go 55 = .ok (.aload_n 0, 1) := by decide +kernel
theorem dX5_go_56 : decode cX5_go 56 = .ok (.getfield 36, 3) := by decide +kernel
theorem dX5_go_59 : decode cX5_go 59 = .ok (.bipush 40, 2) := by decide +kernel
theorem dX5_go_61 : decode cX5_go 61 = .ok (.iload 6, 2) := by decide +kernel
theorem dX5_go_63 : decode cX5_go 63 = .ok (.iadd, 1) := by decide +kernel
theorem dX5_go_64 : decode cX5_go 64 = .ok (.dup2, 1) := by decide +kernel
theorem dX5_go_65 : decode cX5_go 65 = .ok (.laload, 1) := by decide +kernel
theorem dX5_go_66 : decode cX5_go 66 = .ok (.lload 4, 2) := by decide +kernel
theorem dX5_go_68 : decode cX5_go 68 = .ok (.ladd, 1) := by decide +kernel
theorem dX5_go_69 : decode cX5_go 69 = .ok (.lastore, 1) := by decide +kernel
theorem dX5_go_70 : decode cX5_go 70 = .ok (.aload_n 0, 1) := by decide +kernel
theorem dX5_go_71 : decode cX5_go 71 = .ok (.getfield 66, 3) := by decide +kernel
theorem dX5_go_74 : decode cX5_go 74 = .ok (.iload 6, 2) := by decide +kernel
theorem dX5_go_76 : decode cX5_go 76 = .ok (.aload_n 0, 1) := by decide +kernel
theorem dX5_go_77 : decode cX5_go 77 = .ok (.getfield 66, 3) := by decide +kernel
theorem dX5_go_80 : decode cX5_go 80 = .ok (.iload 6, 2) := by decide +kernel
theorem dX5_go_82 : decode cX5_go 82 = .ok (.baload, 1) := by decide +kernel
theorem dX5_go_83 : decode cX5_go 83 = .ok (.ifCond .ne (16), 3) := by decide +kernel
theorem dX5_go_86 : decode cX5_go 86 = .ok (.lload_n 2, 1) := by decide +kernel
theorem dX5_go_87 : decode cX5_go 87 = .ok (.lconst 0, 1) := by decide +kernel
theorem dX5_go_88 : decode cX5_go 88 = .ok (.lcmp, 1) := by decide +kernel
theorem dX5_go_89 : decode cX5_go 89 = .ok (.ifCond .ne (10), 3) := by decide +kernel
theorem dX5_go_92 : decode cX5_go 92 = .ok (.lload 4, 2) := by decide +kernel
theorem dX5_go_94 : decode cX5_go 94 = .ok (.lconst 0, 1) := by decide +kernel
theorem dX5_go_95 : decode cX5_go 95 = .ok (.lcmp, 1) := by decide +kernel
theorem dX5_go_96 : decode cX5_go 96 = .ok (.ifCond .eq (7), 3) := by decide +kernel
theorem dX5_go_99 : decode cX5_go 99 = .ok (.iconst 1, 1) := by decide +kernel
theorem dX5_go_100 : decode cX5_go 100 = .ok (.goto (4), 3) := by decide +kernel
theorem dX5_go_103 : decode cX5_go 103 = .ok (.iconst 0, 1) := by decide +kernel
theorem dX5_go_104 : decode cX5_go 104 = .ok (.bastore, 1) := by decide +kernel
theorem dX5_go_105 : decode cX5_go 105 = .ok (.iinc 6 1, 3) := by decide +kernel
theorem dX5_go_108 : decode cX5_go 108 = .ok (.goto (-105), 3) := by decide +kernel
theorem dX5_go_111 : decode cX5_go 111 = .ok (.return_, 1) := by decide +kernel
abbrev cX5_begin : ByteArray := prog_7_method_20_code
def yX5_begin : MethodName := ⟨RX5, "begin", "()V"⟩
def wsX5_begin : List Cond := .code yX5_begin cX5_begin 2 none :: bT
theorem dX5_begin_0 : decode cX5_begin 0 = .ok (.aload_n 0, 1) := by decide +kernel
theorem dX5_begin_1 : decode cX5_begin 1 = .ok (.iconst 1, 1) := by decide +kernel
theorem dX5_begin_2 : decode cX5_begin 2 = .ok (.iconst 0, 1) := by decide +kernel
theorem dX5_begin_3 : decode cX5_begin 3 = .ok (.invokevirtual 132, 3) := by decide +kernel
theorem dX5_begin_6 : decode cX5_begin 6 = .ok (.iconst 0, 1) := by decide +kernel
theorem dX5_begin_7 : decode cX5_begin 7 = .ok (.istore_n 1, 1) := by decide +kernel
theorem dX5_begin_8 : decode cX5_begin 8 = .ok (.iload_n 1, 1) := by decide +kernel
theorem dX5_begin_9 : decode cX5_begin 9 = .ok (.bipush 40, 2) := by decide +kernel
theorem dX5_begin_11 : decode cX5_begin 11 = .ok (.if_icmp .ge (16), 3) := by decide +kernel
theorem dX5_begin_14 : decode cX5_begin 14 = .ok (.aload_n 0, 1) := by decide +kernel
theorem dX5_begin_15 : decode cX5_begin 15 = .ok (.getfield 66, 3) := by decide +kernel
theorem dX5_begin_18 : decode cX5_begin 18 = .ok (.iload_n 1, 1) := by decide +kernel
theorem dX5_begin_19 : decode cX5_begin 19 = .ok (.iconst 0, 1) := by decide +kernel
theorem dX5_begin_20 : decode cX5_begin 20 = .ok (.bastore, 1) := by decide +kernel
theorem dX5_begin_21 : decode cX5_begin 21 = .ok (.iinc 1 1, 3) := by decide +kernel
theorem dX5_begin_24 : decode cX5_begin 24 = .ok (.goto (-16), 3) := by decide +kernel
theorem dX5_begin_27 : decode cX5_begin 27 = .ok (.return_, 1) := by decide +kernel
abbrev cX5_movesLocked : ByteArray := prog_7_method_21_code
def yX5_movesLocked : MethodName := ⟨RX5, "movesLocked", "()Z"⟩
def wsX5_movesLocked : List Cond := .code yX5_movesLocked cX5_movesLocked 3 (some .boolean) :: bT
theorem dX5_movesLocked_0 : decode cX5_movesLocked 0 = .ok (.iconst 0, 1) := by decide +kernel
theorem dX5_movesLocked_1 : decode cX5_movesLocked 1 = .ok (.istore_n 1, 1) := by decide +kernel
theorem dX5_movesLocked_2 : decode cX5_movesLocked 2 = .ok (.iconst 0, 1) := by decide +kernel
theorem dX5_movesLocked_3 : decode cX5_movesLocked 3 = .ok (.istore_n 2, 1) := by decide +kernel
theorem dX5_movesLocked_4 : decode cX5_movesLocked 4 = .ok (.iload_n 2, 1) := by decide +kernel
theorem dX5_movesLocked_5 : decode cX5_movesLocked 5 = .ok (.aload_n 0, 1) := by decide +kernel
theorem dX5_movesLocked_6 : decode cX5_movesLocked 6 = .ok (.getfield 85, 3) := by decide +kernel
theorem dX5_movesLocked_9 : decode cX5_movesLocked 9 = .ok (.if_icmp .ge (46), 3) := by decide +kernel
theorem dX5_movesLocked_12 : decode cX5_movesLocked 12 = .ok (.iload_n 1, 1) := by decide +kernel
theorem dX5_movesLocked_13 : decode cX5_movesLocked 13 = .ok (.ifCond .ne (30), 3) := by decide +kernel
theorem dX5_movesLocked_16 : decode cX5_movesLocked 16 = .ok (.aload_n 0, 1) := by decide +kernel
theorem dX5_movesLocked_17 : decode cX5_movesLocked 17 = .ok (.getfield 30, 3) := by decide +kernel
theorem dX5_movesLocked_20 : decode cX5_movesLocked 20 = .ok (.iload_n 2, 1) := by decide +kernel
theorem dX5_movesLocked_21 : decode cX5_movesLocked 21 = .ok (.baload, 1) := by decide +kernel
theorem dX5_movesLocked_22 : decode cX5_movesLocked 22 = .ok (.ifCond .eq (25), 3) := by decide +kernel
theorem dX5_movesLocked_25 : decode cX5_movesLocked 25 = .ok (.aload_n 0, 1) := by decide +kernel
theorem dX5_movesLocked_26 : decode cX5_movesLocked 26 = .ok (.getfield 23, 3) := by decide +kernel
theorem dX5_movesLocked_29 : decode cX5_movesLocked 29 = .ok (.iload_n 2, 1) := by decide +kernel
theorem dX5_movesLocked_30 : decode cX5_movesLocked 30 = .ok (.baload, 1) := by decide +kernel
theorem dX5_movesLocked_31 : decode cX5_movesLocked 31 = .ok (.ifCond .eq (16), 3) := by decide +kernel
theorem dX5_movesLocked_34 : decode cX5_movesLocked 34 = .ok (.aload_n 0, 1) := by decide +kernel
theorem dX5_movesLocked_35 : decode cX5_movesLocked 35 = .ok (.iconst 1, 1) := by decide +kernel
theorem dX5_movesLocked_36 : decode cX5_movesLocked 36 = .ok (.iload_n 2, 1) := by decide +kernel
theorem dX5_movesLocked_37 : decode cX5_movesLocked 37 = .ok (.invokevirtual 136, 3) := by decide +kernel
theorem dX5_movesLocked_40 : decode cX5_movesLocked 40 = .ok (.ifCond .ne (7), 3) := by decide +kernel
theorem dX5_movesLocked_43 : decode cX5_movesLocked 43 = .ok (.iconst 1, 1) := by decide +kernel
theorem dX5_movesLocked_44 : decode cX5_movesLocked 44 = .ok (.goto (4), 3) := by decide +kernel
theorem dX5_movesLocked_47 : decode cX5_movesLocked 47 = .ok (.iconst 0, 1) := by decide +kernel
theorem dX5_movesLocked_48 : decode cX5_movesLocked 48 = .ok (.istore_n 1, 1) := by decide +kernel
theorem dX5_movesLocked_49 : decode cX5_movesLocked 49 = .ok (.iinc 2 1, 3) := by decide +kernel
theorem dX5_movesLocked_52 : decode cX5_movesLocked 52 = .ok (.goto (-48), 3) := by decide +kernel
theorem dX5_movesLocked_55 : decode cX5_movesLocked 55 = .ok (.iload_n 1, 1) := by decide +kernel
theorem dX5_movesLocked_56 : decode cX5_movesLocked 56 = .ok (.ireturn, 1) := by decide +kernel
abbrev cX5_hasMate : ByteArray := prog_7_method_22_code
def yX5_hasMate : MethodName := ⟨RX5, "hasMate", "(I)Z"⟩
def wsX5_hasMate : List Cond := .code yX5_hasMate cX5_hasMate 4 (some .boolean) :: bT
theorem dX5_hasMate_0 : decode cX5_hasMate 0 = .ok (.iconst 0, 1) := by decide +kernel
theorem dX5_hasMate_1 : decode cX5_hasMate 1 = .ok (.istore_n 2, 1) := by decide +kernel
theorem dX5_hasMate_2 : decode cX5_hasMate 2 = .ok (.iconst 0, 1) := by decide +kernel
theorem dX5_hasMate_3 : decode cX5_hasMate 3 = .ok (.istore_n 3, 1) := by decide +kernel
theorem dX5_hasMate_4 : decode cX5_hasMate 4 = .ok (.iload_n 3, 1) := by decide +kernel
theorem dX5_hasMate_5 : decode cX5_hasMate 5 = .ok (.aload_n 0, 1) := by decide +kernel
theorem dX5_hasMate_6 : decode cX5_hasMate 6 = .ok (.getfield 85, 3) := by decide +kernel
theorem dX5_hasMate_9 : decode cX5_hasMate 9 = .ok (.if_icmp .ge (48), 3) := by decide +kernel
theorem dX5_hasMate_12 : decode cX5_hasMate 12 = .ok (.iload_n 2, 1) := by decide +kernel
theorem dX5_hasMate_13 : decode cX5_hasMate 13 = .ok (.ifCond .ne (32), 3) := by decide +kernel
theorem dX5_hasMate_16 : decode cX5_hasMate 16 = .ok (.iload_n 3, 1) := by decide +kernel
theorem dX5_hasMate_17 : decode cX5_hasMate 17 = .ok (.iload_n 1, 1) := by decide +kernel
theorem dX5_hasMate_18 : decode cX5_hasMate 18 = .ok (.if_icmp .eq (31), 3) := by decide +kernel
theorem dX5_hasMate_21 : decode cX5_hasMate 21 = .ok (.aload_n 0, 1) := by decide +kernel
theorem dX5_hasMate_22 : decode cX5_hasMate 22 = .ok (.getfield 30, 3) := by decide +kernel
theorem dX5_hasMate_25 : decode cX5_hasMate 25 = .ok (.iload_n 3, 1) := by decide +kernel
theorem dX5_hasMate_26 : decode cX5_hasMate 26 = .ok (.baload, 1) := by decide +kernel
theorem dX5_hasMate_27 : decode cX5_hasMate 27 = .ok (.ifCond .eq (22), 3) := by decide +kernel
theorem dX5_hasMate_30 : decode cX5_hasMate 30 = .ok (.aload_n 0, 1) := by decide +kernel
theorem dX5_hasMate_31 : decode cX5_hasMate 31 = .ok (.getfield 27, 3) := by decide +kernel
theorem dX5_hasMate_34 : decode cX5_hasMate 34 = .ok (.iload_n 3, 1) := by decide +kernel
theorem dX5_hasMate_35 : decode cX5_hasMate 35 = .ok (.iaload, 1) := by decide +kernel
theorem dX5_hasMate_36 : decode cX5_hasMate 36 = .ok (.aload_n 0, 1) := by decide +kernel
theorem dX5_hasMate_37 : decode cX5_hasMate 37 = .ok (.getfield 27, 3) := by decide +kernel
theorem dX5_hasMate_40 : decode cX5_hasMate 40 = .ok (.iload_n 1, 1) := by decide +kernel
theorem dX5_hasMate_41 : decode cX5_hasMate 41 = .ok (.iaload, 1) := by decide +kernel
theorem dX5_hasMate_42 : decode cX5_hasMate 42 = .ok (.if_icmp .ne (7), 3) := by decide +kernel
theorem dX5_hasMate_45 : decode cX5_hasMate 45 = .ok (.iconst 1, 1) := by decide +kernel
theorem dX5_hasMate_46 : decode cX5_hasMate 46 = .ok (.goto (4), 3) := by decide +kernel
theorem dX5_hasMate_49 : decode cX5_hasMate 49 = .ok (.iconst 0, 1) := by decide +kernel
theorem dX5_hasMate_50 : decode cX5_hasMate 50 = .ok (.istore_n 2, 1) := by decide +kernel
theorem dX5_hasMate_51 : decode cX5_hasMate 51 = .ok (.iinc 3 1, 3) := by decide +kernel
theorem dX5_hasMate_54 : decode cX5_hasMate 54 = .ok (.goto (-50), 3) := by decide +kernel
theorem dX5_hasMate_57 : decode cX5_hasMate 57 = .ok (.iload_n 2, 1) := by decide +kernel
theorem dX5_hasMate_58 : decode cX5_hasMate 58 = .ok (.ireturn, 1) := by decide +kernel
abbrev cX5_pinAt : ByteArray := prog_7_method_27_code
def yX5_pinAt : MethodName := ⟨RX5, "pinAt", "(IIZ)J"⟩
def wsX5_pinAt : List Cond := .code yX5_pinAt cX5_pinAt 9 (some .long) :: bT
theorem dX5_pinAt_0 : decode cX5_pinAt 0 = .ok (.aload_n 0, 1) := by decide +kernel
theorem dX5_pinAt_1 : decode cX5_pinAt 1 = .ok (.getfield 57, 3) := by decide +kernel
theorem dX5_pinAt_4 : decode cX5_pinAt 4 = .ok (.iload_n 2, 1) := by decide +kernel
theorem dX5_pinAt_5 : decode cX5_pinAt 5 = .ok (.iaload, 1) := by decide +kernel
theorem dX5_pinAt_6 : decode cX5_pinAt 6 = .ok (.istore 4, 2) := by decide +kernel
theorem dX5_pinAt_8 : decode cX5_pinAt 8 = .ok (.aload_n 0, 1) := by decide +kernel
theorem dX5_pinAt_9 : decode cX5_pinAt 9 = .ok (.getfield 60, 3) := by decide +kernel
theorem dX5_pinAt_12 : decode cX5_pinAt 12 = .ok (.iload_n 2, 1) := by decide +kernel
theorem dX5_pinAt_13 : decode cX5_pinAt 13 = .ok (.laload, 1) := by decide +kernel
theorem dX5_pinAt_14 : decode cX5_pinAt 14 = .ok (.lstore 5, 2) := by decide +kernel
theorem dX5_pinAt_16 : decode cX5_pinAt 16 = .ok (.aload_n 0, 1) := by decide +kernel
theorem dX5_pinAt_17 : decode cX5_pinAt 17 = .ok (.getfield 63, 3) := by decide +kernel
theorem dX5_pinAt_20 : decode cX5_pinAt 20 = .ok (.iload_n 2, 1) := by decide +kernel
theorem dX5_pinAt_21 : decode cX5_pinAt 21 = .ok (.laload, 1) := by decide +kernel
theorem dX5_pinAt_22 : decode cX5_pinAt 22 = .ok (.lstore 7, 2) := by decide +kernel
theorem dX5_pinAt_24 : decode cX5_pinAt 24 = .ok (.aload_n 0, 1) := by decide +kernel
theorem dX5_pinAt_25 : decode cX5_pinAt 25 = .ok (.getfield 39, 3) := by decide +kernel
theorem dX5_pinAt_28 : decode cX5_pinAt 28 = .ok (.bipush 40, 2) := by decide +kernel
theorem dX5_pinAt_30 : decode cX5_pinAt 30 = .ok (.iload_n 1, 1) := by decide +kernel
theorem dX5_pinAt_31 : decode cX5_pinAt 31 = .ok (.imul, 1) := by decide +kernel
theorem dX5_pinAt_32 : decode cX5_pinAt 32 = .ok (.iload 4, 2) := by decide +kernel
theorem dX5_pinAt_34 : decode cX5_pinAt 34 = .ok (.iadd, 1) := by decide +kernel
theorem dX5_pinAt_35 : decode cX5_pinAt 35 = .ok (.iaload, 1) := by decide +kernel
theorem dX5_pinAt_36 : decode cX5_pinAt 36 = .ok (.tableswitch 136 0 2 #[28, 56, 92], 28) := by decide +kernel
theorem dX5_pinAt_64 : decode cX5_pinAt 64 = .ok (.iload_n 3, 1) := by decide +kernel
theorem dX5_pinAt_65 : decode cX5_pinAt 65 = .ok (.ifCond .eq (16), 3) := by decide +kernel
theorem dX5_pinAt_68 : decode cX5_pinAt 68 = .ok (.aload_n 0, 1) := by decide +kernel
theorem dX5_pinAt_69 : decode cX5_pinAt 69 = .ok (.iload_n 1, 1) := by decide +kernel
theorem dX5_pinAt_70 : decode cX5_pinAt 70 = .ok (.iload 4, 2) := by decide +kernel
theorem dX5_pinAt_72 : decode cX5_pinAt 72 = .ok (.invokevirtual 92, 3) := by decide +kernel
theorem dX5_pinAt_75 : decode cX5_pinAt 75 = .ok (.lload 5, 2) := by decide +kernel
theorem dX5_pinAt_77 : decode cX5_pinAt 77 = .ok (.ladd, 1) := by decide +kernel
theorem dX5_pinAt_78 : decode cX5_pinAt 78 = .ok (.goto (13), 3) := by decide +kernel
theorem dX5_pinAt_81 : decode cX5_pinAt 81 = .ok (.aload_n 0, 1) := by decide +kernel
theorem dX5_pinAt_82 : decode cX5_pinAt 82 = .ok (.iload_n 1, 1) := by decide +kernel
theorem dX5_pinAt_83 : decode cX5_pinAt 83 = .ok (.iload 4, 2) := by decide +kernel
theorem dX5_pinAt_85 : decode cX5_pinAt 85 = .ok (.invokevirtual 100, 3) := by decide +kernel
theorem dX5_pinAt_88 : decode cX5_pinAt 88 = .ok (.lload 7, 2) := by decide +kernel
theorem dX5_pinAt_90 : decode cX5_pinAt 90 = .ok (.ladd, 1) := by decide +kernel
theorem dX5_pinAt_91 : decode cX5_pinAt 91 = .ok (.lreturn, 1) := by decide +kernel
theorem dX5_pinAt_92 : decode cX5_pinAt 92 = .ok (.iload_n 3, 1) := by decide +kernel
theorem dX5_pinAt_93 : decode cX5_pinAt 93 = .ok (.ifCond .eq (24), 3) := by decide +kernel
theorem dX5_pinAt_96 : decode cX5_pinAt 96 = .ok (.aload_n 0, 1) := by decide +kernel
theorem dX5_pinAt_97 : decode cX5_pinAt 97 = .ok (.iload_n 1, 1) := by decide +kernel
theorem dX5_pinAt_98 : decode cX5_pinAt 98 = .ok (.iload 4, 2) := by decide +kernel
theorem dX5_pinAt_100 : decode cX5_pinAt 100 = .ok (.invokevirtual 92, 3) := by decide +kernel
theorem dX5_pinAt_103 : decode cX5_pinAt 103 = .ok (.aload_n 0, 1) := by decide +kernel
theorem dX5_pinAt_104 : decode cX5_pinAt 104 = .ok (.getfield 13, 3) := by decide +kernel
theorem dX5_pinAt_107 : decode cX5_pinAt 107 = .ok (.iload 4, 2) := by decide +kernel
theorem dX5_pinAt_109 : decode cX5_pinAt 109 = .ok (.laload, 1) := by decide +kernel
theorem dX5_pinAt_110 : decode cX5_pinAt 110 = .ok (.ladd, 1) := by decide +kernel
theorem dX5_pinAt_111 : decode cX5_pinAt 111 = .ok (.lload 7, 2) := by decide +kernel
theorem dX5_pinAt_113 : decode cX5_pinAt 113 = .ok (.lsub, 1) := by decide +kernel
theorem dX5_pinAt_114 : decode cX5_pinAt 114 = .ok (.goto (13), 3) := by decide +kernel
theorem dX5_pinAt_117 : decode cX5_pinAt 117 = .ok (.aload_n 0, 1) := by decide +kernel
theorem dX5_pinAt_118 : decode cX5_pinAt 118 = .ok (.iload_n 1, 1) := by decide +kernel
theorem dX5_pinAt_119 : decode cX5_pinAt 119 = .ok (.iload 4, 2) := by decide +kernel
theorem dX5_pinAt_121 : decode cX5_pinAt 121 = .ok (.invokevirtual 100, 3) := by decide +kernel
theorem dX5_pinAt_124 : decode cX5_pinAt 124 = .ok (.lload 5, 2) := by decide +kernel
theorem dX5_pinAt_126 : decode cX5_pinAt 126 = .ok (.ladd, 1) := by decide +kernel
theorem dX5_pinAt_127 : decode cX5_pinAt 127 = .ok (.lreturn, 1) := by decide +kernel
theorem dX5_pinAt_128 : decode cX5_pinAt 128 = .ok (.iload_n 3, 1) := by decide +kernel
theorem dX5_pinAt_129 : decode cX5_pinAt 129 = .ok (.ifCond .eq (24), 3) := by decide +kernel
theorem dX5_pinAt_132 : decode cX5_pinAt 132 = .ok (.aload_n 0, 1) := by decide +kernel
theorem dX5_pinAt_133 : decode cX5_pinAt 133 = .ok (.iload_n 1, 1) := by decide +kernel
theorem dX5_pinAt_134 : decode cX5_pinAt 134 = .ok (.iload 4, 2) := by decide +kernel
theorem dX5_pinAt_136 : decode cX5_pinAt 136 = .ok (.invokevirtual 92, 3) := by decide +kernel
theorem dX5_pinAt_139 : decode cX5_pinAt 139 = .ok (.aload_n 0, 1) := by decide +kernel
theorem dX5_pinAt_140 : decode cX5_pinAt 140 = .ok (.getfield 7, 3) := by decide +kernel
theorem dX5_pinAt_143 : decode cX5_pinAt 143 = .ok (.iload 4, 2) := by decide +kernel
theorem dX5_pinAt_145 : decode cX5_pinAt 145 = .ok (.laload, 1) := by decide +kernel
theorem dX5_pinAt_146 : decode cX5_pinAt 146 = .ok (.ladd, 1) := by decide +kernel
theorem dX5_pinAt_147 : decode cX5_pinAt 147 = .ok (.lload 5, 2) := by decide +kernel
theorem dX5_pinAt_149 : decode cX5_pinAt 149 = .ok (.lsub, 1) := by decide +kernel
theorem dX5_pinAt_150 : decode cX5_pinAt 150 = .ok (.goto (21), 3) := by decide +kernel
theorem dX5_pinAt_153 : decode cX5_pinAt 153 = .ok (.aload_n 0, 1) := by decide +kernel
theorem dX5_pinAt_154 : decode cX5_pinAt 154 = .ok (.iload_n 1, 1) := by decide +kernel
theorem dX5_pinAt_155 : decode cX5_pinAt 155 = .ok (.iload 4, 2) := by decide +kernel
theorem dX5_pinAt_157 : decode cX5_pinAt 157 = .ok (.invokevirtual 100, 3) := by decide +kernel
theorem dX5_pinAt_160 : decode cX5_pinAt 160 = .ok (.aload_n 0, 1) := by decide +kernel
theorem dX5_pinAt_161 : decode cX5_pinAt 161 = .ok (.getfield 13, 3) := by decide +kernel
theorem dX5_pinAt_164 : decode cX5_pinAt 164 = .ok (.iload 4, 2) := by decide +kernel
theorem dX5_pinAt_166 : decode cX5_pinAt 166 = .ok (.laload, 1) := by decide +kernel
theorem dX5_pinAt_167 : decode cX5_pinAt 167 = .ok (.ladd, 1) := by decide +kernel
theorem dX5_pinAt_168 : decode cX5_pinAt 168 = .ok (.lload 7, 2) := by decide +kernel
theorem dX5_pinAt_170 : decode cX5_pinAt 170 = .ok (.lsub, 1) := by decide +kernel
theorem dX5_pinAt_171 : decode cX5_pinAt 171 = .ok (.lreturn, 1) := by decide +kernel
theorem dX5_pinAt_172 : decode cX5_pinAt 172 = .ok (.iload_n 3, 1) := by decide +kernel
theorem dX5_pinAt_173 : decode cX5_pinAt 173 = .ok (.ifCond .eq (16), 3) := by decide +kernel
theorem dX5_pinAt_176 : decode cX5_pinAt 176 = .ok (.aload_n 0, 1) := by decide +kernel
theorem dX5_pinAt_177 : decode cX5_pinAt 177 = .ok (.iload_n 1, 1) := by decide +kernel
theorem dX5_pinAt_178 : decode cX5_pinAt 178 = .ok (.iload 4, 2) := by decide +kernel
theorem dX5_pinAt_180 : decode cX5_pinAt 180 = .ok (.invokevirtual 92, 3) := by decide +kernel
theorem dX5_pinAt_183 : decode cX5_pinAt 183 = .ok (.lload 7, 2) := by decide +kernel
theorem dX5_pinAt_185 : decode cX5_pinAt 185 = .ok (.ladd, 1) := by decide +kernel
theorem dX5_pinAt_186 : decode cX5_pinAt 186 = .ok (.goto (21), 3) := by decide +kernel
theorem dX5_pinAt_189 : decode cX5_pinAt 189 = .ok (.aload_n 0, 1) := by decide +kernel
theorem dX5_pinAt_190 : decode cX5_pinAt 190 = .ok (.iload_n 1, 1) := by decide +kernel
theorem dX5_pinAt_191 : decode cX5_pinAt 191 = .ok (.iload 4, 2) := by decide +kernel
theorem dX5_pinAt_193 : decode cX5_pinAt 193 = .ok (.invokevirtual 100, 3) := by decide +kernel
theorem dX5_pinAt_196 : decode cX5_pinAt 196 = .ok (.aload_n 0, 1) := by decide +kernel
theorem dX5_pinAt_197 : decode cX5_pinAt 197 = .ok (.getfield 7, 3) := by decide +kernel
theorem dX5_pinAt_200 : decode cX5_pinAt 200 = .ok (.iload 4, 2) := by decide +kernel
theorem dX5_pinAt_202 : decode cX5_pinAt 202 = .ok (.laload, 1) := by decide +kernel
theorem dX5_pinAt_203 : decode cX5_pinAt 203 = .ok (.ladd, 1) := by decide +kernel
theorem dX5_pinAt_204 : decode cX5_pinAt 204 = .ok (.lload 5, 2) := by decide +kernel
theorem dX5_pinAt_206 : decode cX5_pinAt 206 = .ok (.lsub, 1) := by decide +kernel
theorem dX5_pinAt_207 : decode cX5_pinAt 207 = .ok (.lreturn, 1) := by decide +kernel
abbrev cX5_reach : ByteArray := prog_7_method_28_code
def yX5_reach : MethodName := ⟨RX5, "reach", "(IIZ)J"⟩
def wsX5_reach : List Cond := .code yX5_reach cX5_reach 12 (some .long) :: bT
theorem dX5_reach_0 : decode cX5_reach 0 = .ok (.iconst 0, 1) := by decide +kernel
theorem dX5_reach_1 : decode cX5_reach 1 = .ok (.istore 4, 2) := by decide +kernel
theorem dX5_reach_3 : decode cX5_reach 3 = .ok (.lconst 0, 1) := by decide +kernel
theorem dX5_reach_4 : decode cX5_reach 4 = .ok (.lstore 5, 2) := by decide +kernel
theorem dX5_reach_6 : decode cX5_reach 6 = .ok (.lconst 0, 1) := by decide +kernel
theorem dX5_reach_7 : decode cX5_reach 7 = .ok (.lstore 7, 2) := by decide +kernel
theorem dX5_reach_9 : decode cX5_reach 9 = .ok (.iconst 0, 1) := by decide +kernel
theorem dX5_reach_10 : decode cX5_reach 10 = .ok (.istore 9, 2) := by decide +kernel
theorem dX5_reach_12 : decode cX5_reach 12 = .ok (.iload 9, 2) := by decide +kernel
theorem dX5_reach_14 : decode cX5_reach 14 = .ok (.aload_n 0, 1) := by decide +kernel
theorem dX5_reach_15 : decode cX5_reach 15 = .ok (.getfield 163, 3) := by decide +kernel
theorem dX5_reach_18 : decode cX5_reach 18 = .ok (.if_icmp .ge (95), 3) := by decide +kernel
theorem dX5_reach_21 : decode cX5_reach 21 = .ok (.aload_n 0, 1) := by decide +kernel
theorem dX5_reach_22 : decode cX5_reach 22 = .ok (.getfield 54, 3) := by decide +kernel
theorem dX5_reach_25 : decode cX5_reach 25 = .ok (.iload 9, 2) := by decide +kernel
theorem dX5_reach_27 : decode cX5_reach 27 = .ok (.iaload, 1) := by decide +kernel
theorem dX5_reach_28 : decode cX5_reach 28 = .ok (.iload_n 2, 1) := by decide +kernel
theorem dX5_reach_29 : decode cX5_reach 29 = .ok (.if_icmp .ne (78), 3) := by decide +kernel
theorem dX5_reach_32 : decode cX5_reach 32 = .ok (.aload_n 0, 1) := by decide +kernel
theorem dX5_reach_33 : decode cX5_reach 33 = .ok (.getfield 30, 3) := by decide +kernel
theorem dX5_reach_36 : decode cX5_reach 36 = .ok (.aload_n 0, 1) := by decide +kernel
theorem dX5_reach_37 : decode cX5_reach 37 = .ok (.getfield 57, 3) := by decide +kernel
theorem dX5_reach_40 : decode cX5_reach 40 = .ok (.iload 9, 2) := by decide +kernel
theorem dX5_reach_42 : decode cX5_reach 42 = .ok (.iaload, 1) := by decide +kernel
theorem dX5_reach_43 : decode cX5_reach 43 = .ok (.baload, 1) := by decide +kernel
theorem dX5_reach_44 : decode cX5_reach 44 = .ok (.ifCond .ne (6), 3) := by decide +kernel
theorem dX5_reach_47 : decode cX5_reach 47 = .ok (.goto (60), 3) := by decide +kernel
theorem dX5_reach_50 : decode cX5_reach 50 = .ok (.aload_n 0, 1) := by decide +kernel
theorem dX5_reach_51 : decode cX5_reach 51 = .ok (.iload_n 1, 1) := by decide +kernel
theorem dX5_reach_52 : decode cX5_reach 52 = .ok (.iload 9, 2) := by decide +kernel
theorem dX5_reach_54 : decode cX5_reach 54 = .ok (.iload_n 3, 1) := by decide +kernel
theorem dX5_reach_55 : decode cX5_reach 55 = .ok (.invokevirtual 166, 3) := by decide +kernel
theorem dX5_reach_58 : decode cX5_reach 58 = .ok (.lstore 10, 2) := by decide +kernel
theorem dX5_reach_60 : decode cX5_reach 60 = .ok (.iload 4, 2) := by decide +kernel
theorem dX5_reach_62 : decode cX5_reach 62 = .ok (.ifCond .eq (11), 3) := by decide +kernel
theorem dX5_reach_65 : decode cX5_reach 65 = .ok (.lload 10, 2) := by decide +kernel
theorem dX5_reach_67 : decode cX5_reach 67 = .ok (.lload 5, 2) := by decide +kernel
theorem dX5_reach_69 : decode cX5_reach 69 = .ok (.lcmp, 1) := by decide +kernel
theorem dX5_reach_70 : decode cX5_reach 70 = .ok (.ifCond .ge (8), 3) := by decide +kernel
theorem dX5_reach_73 : decode cX5_reach 73 = .ok (.lload 10, 2) := by decide +kernel
theorem dX5_reach_75 : decode cX5_reach 75 = .ok (.goto (5), 3) := by decide +kernel
theorem dX5_reach_78 : decode cX5_reach 78 = .ok (.lload 5, 2) := by decide +kernel
theorem dX5_reach_80 : decode cX5_reach 80 = .ok (.lstore 5, 2) := by decide +kernel
theorem dX5_reach_82 : decode cX5_reach 82 = .ok (.iload 4, 2) := by decide +kernel
theorem dX5_reach_84 : decode cX5_reach 84 = .ok (.ifCond .eq (11), 3) := by decide +kernel
theorem dX5_reach_87 : decode cX5_reach 87 = .ok (.lload 10, 2) := by decide +kernel
theorem dX5_reach_89 : decode cX5_reach 89 = .ok (.lload 7, 2) := by decide +kernel
theorem dX5_reach_91 : decode cX5_reach 91 = .ok (.lcmp, 1) := by decide +kernel
theorem dX5_reach_92 : decode cX5_reach 92 = .ok (.ifCond .le (8), 3) := by decide +kernel
theorem dX5_reach_95 : decode cX5_reach 95 = .ok (.lload 10, 2) := by decide +kernel
theorem dX5_reach_97 : decode cX5_reach 97 = .ok (.goto (5), 3) := by decide +kernel
theorem dX5_reach_100 : decode cX5_reach 100 = .ok (.lload 7, 2) := by decide +kernel
theorem dX5_reach_102 : decode cX5_reach 102 = .ok (.lstore 7, 2) := by decide +kernel
theorem dX5_reach_104 : decode cX5_reach 104 = .ok (.iconst 1, 1) := by decide +kernel
theorem dX5_reach_105 : decode cX5_reach 105 = .ok (.istore 4, 2) := by decide +kernel
theorem dX5_reach_107 : decode cX5_reach 107 = .ok (.iinc 9 1, 3) := by decide +kernel
theorem dX5_reach_110 : decode cX5_reach 110 = .ok (.goto (-98), 3) := by decide +kernel
theorem dX5_reach_113 : decode cX5_reach 113 = .ok (.lload 7, 2) := by decide +kernel
theorem dX5_reach_115 : decode cX5_reach 115 = .ok (.lload 5, 2) := by decide +kernel
theorem dX5_reach_117 : decode cX5_reach 117 = .ok (.lsub, 1) := by decide +kernel
theorem dX5_reach_118 : decode cX5_reach 118 = .ok (.lreturn, 1) := by decide +kernel
abbrev cX5_wireOf : ByteArray := prog_7_method_29_code
def yX5_wireOf : MethodName := ⟨RX5, "wireOf", "(I)J"⟩
def wsX5_wireOf : List Cond := .code yX5_wireOf cX5_wireOf 5 (some .long) :: bT
theorem dX5_wireOf_0 : decode cX5_wireOf 0 = .ok (.lconst 0, 1) := by decide +kernel
theorem dX5_wireOf_1 : decode cX5_wireOf 1 = .ok (.lstore_n 2, 1) := by decide +kernel
theorem dX5_wireOf_2 : decode cX5_wireOf 2 = .ok (.iconst 0, 1) := by decide +kernel
theorem dX5_wireOf_3 : decode cX5_wireOf 3 = .ok (.istore 4, 2) := by decide +kernel
theorem dX5_wireOf_5 : decode cX5_wireOf 5 = .ok (.iload 4, 2) := by decide +kernel
theorem dX5_wireOf_7 : decode cX5_wireOf 7 = .ok (.aload_n 0, 1) := by decide +kernel
theorem dX5_wireOf_8 : decode cX5_wireOf 8 = .ok (.getfield 160, 3) := by decide +kernel
theorem dX5_wireOf_11 : decode cX5_wireOf 11 = .ok (.if_icmp .ge (29), 3) := by decide +kernel
theorem dX5_wireOf_14 : decode cX5_wireOf 14 = .ok (.lload_n 2, 1) := by decide +kernel
theorem dX5_wireOf_15 : decode cX5_wireOf 15 = .ok (.aload_n 0, 1) := by decide +kernel
theorem dX5_wireOf_16 : decode cX5_wireOf 16 = .ok (.iload_n 1, 1) := by decide +kernel
theorem dX5_wireOf_17 : decode cX5_wireOf 17 = .ok (.iload 4, 2) := by decide +kernel
theorem dX5_wireOf_19 : decode cX5_wireOf 19 = .ok (.iconst 1, 1) := by decide +kernel
theorem dX5_wireOf_20 : decode cX5_wireOf 20 = .ok (.invokevirtual 170, 3) := by decide +kernel
theorem dX5_wireOf_23 : decode cX5_wireOf 23 = .ok (.aload_n 0, 1) := by decide +kernel
theorem dX5_wireOf_24 : decode cX5_wireOf 24 = .ok (.iload_n 1, 1) := by decide +kernel
theorem dX5_wireOf_25 : decode cX5_wireOf 25 = .ok (.iload 4, 2) := by decide +kernel
theorem dX5_wireOf_27 : decode cX5_wireOf 27 = .ok (.iconst 0, 1) := by decide +kernel
theorem dX5_wireOf_28 : decode cX5_wireOf 28 = .ok (.invokevirtual 170, 3) := by decide +kernel
theorem dX5_wireOf_31 : decode cX5_wireOf 31 = .ok (.ladd, 1) := by decide +kernel
theorem dX5_wireOf_32 : decode cX5_wireOf 32 = .ok (.ladd, 1) := by decide +kernel
theorem dX5_wireOf_33 : decode cX5_wireOf 33 = .ok (.lstore_n 2, 1) := by decide +kernel
theorem dX5_wireOf_34 : decode cX5_wireOf 34 = .ok (.iinc 4 1, 3) := by decide +kernel
theorem dX5_wireOf_37 : decode cX5_wireOf 37 = .ok (.goto (-32), 3) := by decide +kernel
theorem dX5_wireOf_40 : decode cX5_wireOf 40 = .ok (.lload_n 2, 1) := by decide +kernel
theorem dX5_wireOf_41 : decode cX5_wireOf 41 = .ok (.lreturn, 1) := by decide +kernel
abbrev cX5_beginOn : ByteArray := prog_7_method_33_code
def yX5_beginOn : MethodName := ⟨RX5, "beginOn", "(II)J"⟩
def wsX5_beginOn : List Cond := .code yX5_beginOn cX5_beginOn 3 (some .long) :: bT
theorem dX5_beginOn_0 : decode cX5_beginOn 0 = .ok (.iload_n 2, 1) := by decide +kernel
theorem dX5_beginOn_1 : decode cX5_beginOn 1 = .ok (.tableswitch 50 0 2 #[27, 34, 43], 27) := by decide +kernel
theorem dX5_beginOn_28 : decode cX5_beginOn 28 = .ok (.aload_n 0, 1) := by decide +kernel
theorem dX5_beginOn_29 : decode cX5_beginOn 29 = .ok (.iconst 1, 1) := by decide +kernel
theorem dX5_beginOn_30 : decode cX5_beginOn 30 = .ok (.iload_n 1, 1) := by decide +kernel
theorem dX5_beginOn_31 : decode cX5_beginOn 31 = .ok (.invokevirtual 92, 3) := by decide +kernel
theorem dX5_beginOn_34 : decode cX5_beginOn 34 = .ok (.lreturn, 1) := by decide +kernel
theorem dX5_beginOn_35 : decode cX5_beginOn 35 = .ok (.lconst 0, 1) := by decide +kernel
theorem dX5_beginOn_36 : decode cX5_beginOn 36 = .ok (.aload_n 0, 1) := by decide +kernel
theorem dX5_beginOn_37 : decode cX5_beginOn 37 = .ok (.iconst 1, 1) := by decide +kernel
theorem dX5_beginOn_38 : decode cX5_beginOn 38 = .ok (.iload_n 1, 1) := by decide +kernel
theorem dX5_beginOn_39 : decode cX5_beginOn 39 = .ok (.invokevirtual 103, 3) := by decide +kernel
theorem dX5_beginOn_42 : decode cX5_beginOn 42 = .ok (.lsub, 1) := by decide +kernel
theorem dX5_beginOn_43 : decode cX5_beginOn 43 = .ok (.lreturn, 1) := by decide +kernel
theorem dX5_beginOn_44 : decode cX5_beginOn 44 = .ok (.aload_n 0, 1) := by decide +kernel
theorem dX5_beginOn_45 : decode cX5_beginOn 45 = .ok (.iconst 1, 1) := by decide +kernel
theorem dX5_beginOn_46 : decode cX5_beginOn 46 = .ok (.iload_n 1, 1) := by decide +kernel
theorem dX5_beginOn_47 : decode cX5_beginOn 47 = .ok (.invokevirtual 100, 3) := by decide +kernel
theorem dX5_beginOn_50 : decode cX5_beginOn 50 = .ok (.lreturn, 1) := by decide +kernel
theorem dX5_beginOn_51 : decode cX5_beginOn 51 = .ok (.lconst 0, 1) := by decide +kernel
theorem dX5_beginOn_52 : decode cX5_beginOn 52 = .ok (.aload_n 0, 1) := by decide +kernel
theorem dX5_beginOn_53 : decode cX5_beginOn 53 = .ok (.iconst 1, 1) := by decide +kernel
theorem dX5_beginOn_54 : decode cX5_beginOn 54 = .ok (.iload_n 1, 1) := by decide +kernel
theorem dX5_beginOn_55 : decode cX5_beginOn 55 = .ok (.invokevirtual 106, 3) := by decide +kernel
theorem dX5_beginOn_58 : decode cX5_beginOn 58 = .ok (.lsub, 1) := by decide +kernel
theorem dX5_beginOn_59 : decode cX5_beginOn 59 = .ok (.lreturn, 1) := by decide +kernel
abbrev cX5_firstOverlap : ByteArray := prog_7_method_34_code
def yX5_firstOverlap : MethodName := ⟨RX5, "firstOverlap", "()I"⟩
def wsX5_firstOverlap : List Cond := .code yX5_firstOverlap cX5_firstOverlap 4 (some .int) :: bT
theorem dX5_firstOverlap_0 : decode cX5_firstOverlap 0 = .ok (.iconst 0, 1) := by decide +kernel
theorem dX5_firstOverlap_1 : decode cX5_firstOverlap 1 = .ok (.istore_n 1, 1) := by decide +kernel
theorem dX5_firstOverlap_2 : decode cX5_firstOverlap 2 = .ok (.iload_n 1, 1) := by decide +kernel
theorem dX5_firstOverlap_3 : decode cX5_firstOverlap 3 = .ok (.aload_n 0, 1) := by decide +kernel
theorem dX5_firstOverlap_4 : decode cX5_firstOverlap 4 = .ok (.getfield 85, 3) := by decide +kernel
theorem dX5_firstOverlap_7 : decode cX5_firstOverlap 7 = .ok (.if_icmp .ge (105), 3) := by decide +kernel
theorem dX5_firstOverlap_10 : decode cX5_firstOverlap 10 = .ok (.iload_n 1, 1) := by decide +kernel
theorem dX5_firstOverlap_11 : decode cX5_firstOverlap 11 = .ok (.iconst 1, 1) := by decide +kernel
theorem dX5_firstOverlap_12 : decode cX5_firstOverlap 12 = .ok (.iadd, 1) := by decide +kernel
theorem dX5_firstOverlap_13 : decode cX5_firstOverlap 13 = .ok (.istore_n 2, 1) := by decide +kernel
theorem dX5_firstOverlap_14 : decode cX5_firstOverlap 14 = .ok (.iload_n 2, 1) := by decide +kernel
theorem dX5_firstOverlap_15 : decode cX5_firstOverlap 15 = .ok (.aload_n 0, 1) := by decide +kernel
theorem dX5_firstOverlap_16 : decode cX5_firstOverlap 16 = .ok (.getfield 85, 3) := by decide +kernel
theorem dX5_firstOverlap_19 : decode cX5_firstOverlap 19 = .ok (.if_icmp .ge (87), 3) := by decide +kernel
theorem dX5_firstOverlap_22 : decode cX5_firstOverlap 22 = .ok (.aload_n 0, 1) := by decide +kernel
theorem dX5_firstOverlap_23 : decode cX5_firstOverlap 23 = .ok (.getfield 30, 3) := by decide +kernel
theorem dX5_firstOverlap_26 : decode cX5_firstOverlap 26 = .ok (.iload_n 1, 1) := by decide +kernel
theorem dX5_firstOverlap_27 : decode cX5_firstOverlap 27 = .ok (.baload, 1) := by decide +kernel
theorem dX5_firstOverlap_28 : decode cX5_firstOverlap 28 = .ok (.ifCond .eq (31), 3) := by decide +kernel
theorem dX5_firstOverlap_31 : decode cX5_firstOverlap 31 = .ok (.aload_n 0, 1) := by decide +kernel
theorem dX5_firstOverlap_32 : decode cX5_firstOverlap 32 = .ok (.getfield 30, 3) := by decide +kernel
theorem dX5_firstOverlap_35 : decode cX5_firstOverlap 35 = .ok (.iload_n 2, 1) := by decide +kernel
theorem dX5_firstOverlap_36 : decode cX5_firstOverlap 36 = .ok (.baload, 1) := by decide +kernel
theorem dX5_firstOverlap_37 : decode cX5_firstOverlap 37 = .ok (.ifCond .eq (22), 3) := by decide +kernel
theorem dX5_firstOverlap_40 : decode cX5_firstOverlap 40 = .ok (.aload_n 0, 1) := by decide +kernel
theorem dX5_firstOverlap_41 : decode cX5_firstOverlap 41 = .ok (.getfield 16, 3) := by decide +kernel
theorem dX5_firstOverlap_44 : decode cX5_firstOverlap 44 = .ok (.iload_n 1, 1) := by decide +kernel
theorem dX5_firstOverlap_45 : decode cX5_firstOverlap 45 = .ok (.iaload, 1) := by decide +kernel
theorem dX5_firstOverlap_46 : decode cX5_firstOverlap 46 = .ok (.aload_n 0, 1) := by decide +kernel
theorem dX5_firstOverlap_47 : decode cX5_firstOverlap 47 = .ok (.getfield 16, 3) := by decide +kernel
theorem dX5_firstOverlap_50 : decode cX5_firstOverlap 50 = .ok (.iload_n 2, 1) := by decide +kernel
theorem dX5_firstOverlap_51 : decode cX5_firstOverlap 51 = .ok (.iaload, 1) := by decide +kernel
theorem dX5_firstOverlap_52 : decode cX5_firstOverlap 52 = .ok (.if_icmp .ne (7), 3) := by decide +kernel
theorem dX5_firstOverlap_55 : decode cX5_firstOverlap 55 = .ok (.iconst 1, 1) := by decide +kernel
theorem dX5_firstOverlap_56 : decode cX5_firstOverlap 56 = .ok (.goto (4), 3) := by decide +kernel
theorem dX5_firstOverlap_59 : decode cX5_firstOverlap 59 = .ok (.iconst 0, 1) := by decide +kernel
theorem dX5_firstOverlap_60 : decode cX5_firstOverlap 60 = .ok (.istore_n 3, 1) := by decide +kernel
theorem dX5_firstOverlap_61 : decode cX5_firstOverlap 61 = .ok (.iload_n 3, 1) := by decide +kernel
theorem dX5_firstOverlap_62 : decode cX5_firstOverlap 62 = .ok (.ifCond .eq (38), 3) := by decide +kernel
theorem dX5_firstOverlap_65 : decode cX5_firstOverlap 65 = .ok (.aload_n 0, 1) := by decide +kernel
theorem dX5_firstOverlap_66 : decode cX5_firstOverlap 66 = .ok (.getfield 66, 3) := by decide +kernel
theorem dX5_firstOverlap_69 : decode cX5_firstOverlap 69 = .ok (.iload_n 1, 1) := by decide +kernel
theorem dX5_firstOverlap_70 : decode cX5_firstOverlap 70 = .ok (.baload, 1) := by decide +kernel
theorem dX5_firstOverlap_71 : decode cX5_firstOverlap 71 = .ok (.ifCond .ne (12), 3) := by decide +kernel
theorem dX5_firstOverlap_74 : decode cX5_firstOverlap 74 = .ok (.aload_n 0, 1) := by decide +kernel
theorem dX5_firstOverlap_75 : decode cX5_firstOverlap 75 = .ok (.getfield 66, 3) := by decide +kernel
theorem dX5_firstOverlap_78 : decode cX5_firstOverlap 78 = .ok (.iload_n 2, 1) := by decide +kernel
theorem dX5_firstOverlap_79 : decode cX5_firstOverlap 79 = .ok (.baload, 1) := by decide +kernel
theorem dX5_firstOverlap_80 : decode cX5_firstOverlap 80 = .ok (.ifCond .eq (20), 3) := by decide +kernel
theorem dX5_firstOverlap_83 : decode cX5_firstOverlap 83 = .ok (.aload_n 0, 1) := by decide +kernel
theorem dX5_firstOverlap_84 : decode cX5_firstOverlap 84 = .ok (.iconst 1, 1) := by decide +kernel
theorem dX5_firstOverlap_85 : decode cX5_firstOverlap 85 = .ok (.iload_n 1, 1) := by decide +kernel
theorem dX5_firstOverlap_86 : decode cX5_firstOverlap 86 = .ok (.iload_n 2, 1) := by decide +kernel
theorem dX5_firstOverlap_87 : decode cX5_firstOverlap 87 = .ok (.invokevirtual 122, 3) := by decide +kernel
theorem dX5_firstOverlap_90 : decode cX5_firstOverlap 90 = .ok (.ifCond .eq (10), 3) := by decide +kernel
theorem dX5_firstOverlap_93 : decode cX5_firstOverlap 93 = .ok (.bipush 40, 2) := by decide +kernel
theorem dX5_firstOverlap_95 : decode cX5_firstOverlap 95 = .ok (.iload_n 1, 1) := by decide +kernel
theorem dX5_firstOverlap_96 : decode cX5_firstOverlap 96 = .ok (.imul, 1) := by decide +kernel
theorem dX5_firstOverlap_97 : decode cX5_firstOverlap 97 = .ok (.iload_n 2, 1) := by decide +kernel
theorem dX5_firstOverlap_98 : decode cX5_firstOverlap 98 = .ok (.iadd, 1) := by decide +kernel
theorem dX5_firstOverlap_99 : decode cX5_firstOverlap 99 = .ok (.ireturn, 1) := by decide +kernel
theorem dX5_firstOverlap_100 : decode cX5_firstOverlap 100 = .ok (.iinc 2 1, 3) := by decide +kernel
theorem dX5_firstOverlap_103 : decode cX5_firstOverlap 103 = .ok (.goto (-89), 3) := by decide +kernel
theorem dX5_firstOverlap_106 : decode cX5_firstOverlap 106 = .ok (.iinc 1 1, 3) := by decide +kernel
theorem dX5_firstOverlap_109 : decode cX5_firstOverlap 109 = .ok (.goto (-107), 3) := by decide +kernel
theorem dX5_firstOverlap_112 : decode cX5_firstOverlap 112 = .ok (.iconst (-1), 1) := by decide +kernel
theorem dX5_firstOverlap_113 : decode cX5_firstOverlap 113 = .ok (.ireturn, 1) := by decide +kernel
abbrev cX5_goOn : ByteArray := prog_7_method_35_code
def yX5_goOn : MethodName := ⟨RX5, "goOn", "(III)V"⟩
def wsX5_goOn : List Cond := .code yX5_goOn cX5_goOn 4 none :: bT
theorem dX5_goOn_0 : decode cX5_goOn 0 = .ok (.iload_n 3, 1) := by decide +kernel
theorem dX5_goOn_1 : decode cX5_goOn 1 = .ok (.ifCond .ne (25), 3) := by decide +kernel
theorem dX5_goOn_4 : decode cX5_goOn 4 = .ok (.aload_n 0, 1) := by decide +kernel
theorem dX5_goOn_5 : decode cX5_goOn 5 = .ok (.iload_n 1, 1) := by decide +kernel
theorem dX5_goOn_6 : decode cX5_goOn 6 = .ok (.aload_n 0, 1) := by decide +kernel
theorem dX5_goOn_7 : decode cX5_goOn 7 = .ok (.iconst 1, 1) := by decide +kernel
theorem dX5_goOn_8 : decode cX5_goOn 8 = .ok (.iload_n 2, 1) := by decide +kernel
theorem dX5_goOn_9 : decode cX5_goOn 9 = .ok (.invokevirtual 103, 3) := by decide +kernel
theorem dX5_goOn_12 : decode cX5_goOn 12 = .ok (.aload_n 0, 1) := by decide +kernel
theorem dX5_goOn_13 : decode cX5_goOn 13 = .ok (.iconst 1, 1) := by decide +kernel
theorem dX5_goOn_14 : decode cX5_goOn 14 = .ok (.iload_n 1, 1) := by decide +kernel
theorem dX5_goOn_15 : decode cX5_goOn 15 = .ok (.invokevirtual 92, 3) := by decide +kernel
theorem dX5_goOn_18 : decode cX5_goOn 18 = .ok (.lsub, 1) := by decide +kernel
theorem dX5_goOn_19 : decode cX5_goOn 19 = .ok (.lconst 0, 1) := by decide +kernel
theorem dX5_goOn_20 : decode cX5_goOn 20 = .ok (.invokevirtual 149, 3) := by decide +kernel
theorem dX5_goOn_23 : decode cX5_goOn 23 = .ok (.goto (76), 3) := by decide +kernel
theorem dX5_goOn_26 : decode cX5_goOn 26 = .ok (.iload_n 3, 1) := by decide +kernel
theorem dX5_goOn_27 : decode cX5_goOn 27 = .ok (.iconst 1, 1) := by decide +kernel
theorem dX5_goOn_28 : decode cX5_goOn 28 = .ok (.if_icmp .ne (25), 3) := by decide +kernel
theorem dX5_goOn_31 : decode cX5_goOn 31 = .ok (.aload_n 0, 1) := by decide +kernel
theorem dX5_goOn_32 : decode cX5_goOn 32 = .ok (.iload_n 1, 1) := by decide +kernel
theorem dX5_goOn_33 : decode cX5_goOn 33 = .ok (.aload_n 0, 1) := by decide +kernel
theorem dX5_goOn_34 : decode cX5_goOn 34 = .ok (.iconst 1, 1) := by decide +kernel
theorem dX5_goOn_35 : decode cX5_goOn 35 = .ok (.iload_n 2, 1) := by decide +kernel
theorem dX5_goOn_36 : decode cX5_goOn 36 = .ok (.invokevirtual 92, 3) := by decide +kernel
theorem dX5_goOn_39 : decode cX5_goOn 39 = .ok (.aload_n 0, 1) := by decide +kernel
theorem dX5_goOn_40 : decode cX5_goOn 40 = .ok (.iconst 1, 1) := by decide +kernel
theorem dX5_goOn_41 : decode cX5_goOn 41 = .ok (.iload_n 1, 1) := by decide +kernel
theorem dX5_goOn_42 : decode cX5_goOn 42 = .ok (.invokevirtual 103, 3) := by decide +kernel
theorem dX5_goOn_45 : decode cX5_goOn 45 = .ok (.lsub, 1) := by decide +kernel
theorem dX5_goOn_46 : decode cX5_goOn 46 = .ok (.lconst 0, 1) := by decide +kernel
theorem dX5_goOn_47 : decode cX5_goOn 47 = .ok (.invokevirtual 149, 3) := by decide +kernel
theorem dX5_goOn_50 : decode cX5_goOn 50 = .ok (.goto (49), 3) := by decide +kernel
theorem dX5_goOn_53 : decode cX5_goOn 53 = .ok (.iload_n 3, 1) := by decide +kernel
theorem dX5_goOn_54 : decode cX5_goOn 54 = .ok (.iconst 2, 1) := by decide +kernel
theorem dX5_goOn_55 : decode cX5_goOn 55 = .ok (.if_icmp .ne (25), 3) := by decide +kernel
theorem dX5_goOn_58 : decode cX5_goOn 58 = .ok (.aload_n 0, 1) := by decide +kernel
theorem dX5_goOn_59 : decode cX5_goOn 59 = .ok (.iload_n 1, 1) := by decide +kernel
theorem dX5_goOn_60 : decode cX5_goOn 60 = .ok (.lconst 0, 1) := by decide +kernel
theorem dX5_goOn_61 : decode cX5_goOn 61 = .ok (.aload_n 0, 1) := by decide +kernel
theorem dX5_goOn_62 : decode cX5_goOn 62 = .ok (.iconst 1, 1) := by decide +kernel
theorem dX5_goOn_63 : decode cX5_goOn 63 = .ok (.iload_n 2, 1) := by decide +kernel
theorem dX5_goOn_64 : decode cX5_goOn 64 = .ok (.invokevirtual 106, 3) := by decide +kernel
theorem dX5_goOn_67 : decode cX5_goOn 67 = .ok (.aload_n 0, 1) := by decide +kernel
theorem dX5_goOn_68 : decode cX5_goOn 68 = .ok (.iconst 1, 1) := by decide +kernel
theorem dX5_goOn_69 : decode cX5_goOn 69 = .ok (.iload_n 1, 1) := by decide +kernel
theorem dX5_goOn_70 : decode cX5_goOn 70 = .ok (.invokevirtual 100, 3) := by decide +kernel
theorem dX5_goOn_73 : decode cX5_goOn 73 = .ok (.lsub, 1) := by decide +kernel
theorem dX5_goOn_74 : decode cX5_goOn 74 = .ok (.invokevirtual 149, 3) := by decide +kernel
theorem dX5_goOn_77 : decode cX5_goOn 77 = .ok (.goto (22), 3) := by decide +kernel
theorem dX5_goOn_80 : decode cX5_goOn 80 = .ok (.aload_n 0, 1) := by decide +kernel
theorem dX5_goOn_81 : decode cX5_goOn 81 = .ok (.iload_n 1, 1) := by decide +kernel
theorem dX5_goOn_82 : decode cX5_goOn 82 = .ok (.lconst 0, 1) := by decide +kernel
theorem dX5_goOn_83 : decode cX5_goOn 83 = .ok (.aload_n 0, 1) := by decide +kernel
theorem dX5_goOn_84 : decode cX5_goOn 84 = .ok (.iconst 1, 1) := by decide +kernel
theorem dX5_goOn_85 : decode cX5_goOn 85 = .ok (.iload_n 2, 1) := by decide +kernel
theorem dX5_goOn_86 : decode cX5_goOn 86 = .ok (.invokevirtual 100, 3) := by decide +kernel
theorem dX5_goOn_89 : decode cX5_goOn 89 = .ok (.aload_n 0, 1) := by decide +kernel
theorem dX5_goOn_90 : decode cX5_goOn 90 = .ok (.iconst 1, 1) := by decide +kernel
theorem dX5_goOn_91 : decode cX5_goOn 91 = .ok (.iload_n 1, 1) := by decide +kernel
theorem dX5_goOn_92 : decode cX5_goOn 92 = .ok (.invokevirtual 106, 3) := by decide +kernel
theorem dX5_goOn_95 : decode cX5_goOn 95 = .ok (.lsub, 1) := by decide +kernel
theorem dX5_goOn_96 : decode cX5_goOn 96 = .ok (.invokevirtual 149, 3) := by decide +kernel
theorem dX5_goOn_99 : decode cX5_goOn 99 = .ok (.return_, 1) := by decide +kernel
abbrev cX5_shove : ByteArray := prog_7_method_36_code
def yX5_shove : MethodName := ⟨RX5, "shove", "(II)Z"⟩
def wsX5_shove : List Cond := .code yX5_shove cX5_shove 8 (some .boolean) :: bT
theorem dX5_shove_0 : decode cX5_shove 0 = .ok (.aload_n 0, 1) := by decide +kernel
theorem dX5_shove_1 : decode cX5_shove 1 = .ok (.invokevirtual 177, 3) := by decide +kernel
theorem dX5_shove_4 : decode cX5_shove 4 = .ok (.istore_n 3, 1) := by decide +kernel
theorem dX5_shove_5 : decode cX5_shove 5 = .ok (.iconst 0, 1) := by decide +kernel
theorem dX5_shove_6 : decode cX5_shove 6 = .ok (.istore 4, 2) := by decide +kernel
theorem dX5_shove_8 : decode cX5_shove 8 = .ok (.iload_n 3, 1) := by decide +kernel
theorem dX5_shove_9 : decode cX5_shove 9 = .ok (.iconst (-1), 1) := by decide +kernel
theorem dX5_shove_10 : decode cX5_shove 10 = .ok (.if_icmp .eq (136), 3) := by decide +kernel
theorem dX5_shove_13 : decode cX5_shove 13 = .ok (.iload_n 3, 1) := by decide +kernel
theorem dX5_shove_14 : decode cX5_shove 14 = .ok (.bipush 40, 2) := by decide +kernel
theorem dX5_shove_16 : decode cX5_shove 16 = .ok (.idiv, 1) := by decide +kernel
theorem dX5_shove_17 : decode cX5_shove 17 = .ok (.istore 5, 2) := by decide +kernel
theorem dX5_shove_19 : decode cX5_shove 19 = .ok (.iload_n 3, 1) := by decide +kernel
theorem dX5_shove_20 : decode cX5_shove 20 = .ok (.bipush 40, 2) := by decide +kernel
theorem dX5_shove_22 : decode cX5_shove 22 = .ok (.irem, 1) := by decide +kernel
theorem dX5_shove_23 : decode cX5_shove 23 = .ok (.istore 6, 2) := by decide +kernel
theorem dX5_shove_25 : decode cX5_shove 25 = .ok (.iload 4, 2) := by decide +kernel
theorem dX5_shove_27 : decode cX5_shove 27 = .ok (.sipush 200, 3) := by decide +kernel
theorem dX5_shove_30 : decode cX5_shove 30 = .ok (.if_icmp .eq (20), 3) := by decide +kernel
theorem dX5_shove_33 : decode cX5_shove 33 = .ok (.aload_n 0, 1) := by decide +kernel
theorem dX5_shove_34 : decode cX5_shove 34 = .ok (.getfield 27, 3) := by decide +kernel
theorem dX5_shove_37 : decode cX5_shove 37 = .ok (.iload 5, 2) := by decide +kernel
theorem dX5_shove_39 : decode cX5_shove 39 = .ok (.iaload, 1) := by decide +kernel
theorem dX5_shove_40 : decode cX5_shove 40 = .ok (.aload_n 0, 1) := by decide +kernel
theorem dX5_shove_41 : decode cX5_shove 41 = .ok (.getfield 27, 3) := by decide +kernel
theorem dX5_shove_44 : decode cX5_shove 44 = .ok (.iload 6, 2) := by decide +kernel
theorem dX5_shove_46 : decode cX5_shove 46 = .ok (.iaload, 1) := by decide +kernel
theorem dX5_shove_47 : decode cX5_shove 47 = .ok (.if_icmp .ne (5), 3) := by decide +kernel
theorem dX5_shove_50 : decode cX5_shove 50 = .ok (.iconst 0, 1) := by decide +kernel
theorem dX5_shove_51 : decode cX5_shove 51 = .ok (.ireturn, 1) := by decide +kernel
theorem dX5_shove_52 : decode cX5_shove 52 = .ok (.aload_n 0, 1) := by decide +kernel
theorem dX5_shove_53 : decode cX5_shove 53 = .ok (.getfield 27, 3) := by decide +kernel
theorem dX5_shove_56 : decode cX5_shove 56 = .ok (.iload 5, 2) := by decide +kernel
theorem dX5_shove_58 : decode cX5_shove 58 = .ok (.iaload, 1) := by decide +kernel
theorem dX5_shove_59 : decode cX5_shove 59 = .ok (.aload_n 0, 1) := by decide +kernel
theorem dX5_shove_60 : decode cX5_shove 60 = .ok (.getfield 27, 3) := by decide +kernel
theorem dX5_shove_63 : decode cX5_shove 63 = .ok (.iload_n 1, 1) := by decide +kernel
theorem dX5_shove_64 : decode cX5_shove 64 = .ok (.iaload, 1) := by decide +kernel
theorem dX5_shove_65 : decode cX5_shove 65 = .ok (.if_icmp .eq (37), 3) := by decide +kernel
theorem dX5_shove_68 : decode cX5_shove 68 = .ok (.aload_n 0, 1) := by decide +kernel
theorem dX5_shove_69 : decode cX5_shove 69 = .ok (.getfield 27, 3) := by decide +kernel
theorem dX5_shove_72 : decode cX5_shove 72 = .ok (.iload 6, 2) := by decide +kernel
theorem dX5_shove_74 : decode cX5_shove 74 = .ok (.iaload, 1) := by decide +kernel
theorem dX5_shove_75 : decode cX5_shove 75 = .ok (.aload_n 0, 1) := by decide +kernel
theorem dX5_shove_76 : decode cX5_shove 76 = .ok (.getfield 27, 3) := by decide +kernel
theorem dX5_shove_79 : decode cX5_shove 79 = .ok (.iload_n 1, 1) := by decide +kernel
theorem dX5_shove_80 : decode cX5_shove 80 = .ok (.iaload, 1) := by decide +kernel
theorem dX5_shove_81 : decode cX5_shove 81 = .ok (.if_icmp .eq (25), 3) := by decide +kernel
theorem dX5_shove_84 : decode cX5_shove 84 = .ok (.aload_n 0, 1) := by decide +kernel
theorem dX5_shove_85 : decode cX5_shove 85 = .ok (.iload 6, 2) := by decide +kernel
theorem dX5_shove_87 : decode cX5_shove 87 = .ok (.iload_n 2, 1) := by decide +kernel
theorem dX5_shove_88 : decode cX5_shove 88 = .ok (.invokevirtual 181, 3) := by decide +kernel
theorem dX5_shove_91 : decode cX5_shove 91 = .ok (.aload_n 0, 1) := by decide +kernel
theorem dX5_shove_92 : decode cX5_shove 92 = .ok (.iload 5, 2) := by decide +kernel
theorem dX5_shove_94 : decode cX5_shove 94 = .ok (.iload_n 2, 1) := by decide +kernel
theorem dX5_shove_95 : decode cX5_shove 95 = .ok (.invokevirtual 181, 3) := by decide +kernel
theorem dX5_shove_98 : decode cX5_shove 98 = .ok (.lcmp, 1) := by decide +kernel
theorem dX5_shove_99 : decode cX5_shove 99 = .ok (.ifCond .lt (7), 3) := by decide +kernel
theorem dX5_shove_102 : decode cX5_shove 102 = .ok (.iconst 1, 1) := by decide +kernel
theorem dX5_shove_103 : decode cX5_shove 103 = .ok (.goto (4), 3) := by decide +kernel
theorem dX5_shove_106 : decode cX5_shove 106 = .ok (.iconst 0, 1) := by decide +kernel
theorem dX5_shove_107 : decode cX5_shove 107 = .ok (.istore 7, 2) := by decide +kernel
theorem dX5_shove_109 : decode cX5_shove 109 = .ok (.iload 7, 2) := by decide +kernel
theorem dX5_shove_111 : decode cX5_shove 111 = .ok (.ifCond .eq (15), 3) := by decide +kernel
theorem dX5_shove_114 : decode cX5_shove 114 = .ok (.aload_n 0, 1) := by decide +kernel
theorem dX5_shove_115 : decode cX5_shove 115 = .ok (.iload 6, 2) := by decide +kernel
theorem dX5_shove_117 : decode cX5_shove 117 = .ok (.iload 5, 2) := by decide +kernel
theorem dX5_shove_119 : decode cX5_shove 119 = .ok (.iload_n 2, 1) := by decide +kernel
theorem dX5_shove_120 : decode cX5_shove 120 = .ok (.invokevirtual 184, 3) := by decide +kernel
theorem dX5_shove_123 : decode cX5_shove 123 = .ok (.goto (12), 3) := by decide +kernel
theorem dX5_shove_126 : decode cX5_shove 126 = .ok (.aload_n 0, 1) := by decide +kernel
theorem dX5_shove_127 : decode cX5_shove 127 = .ok (.iload 5, 2) := by decide +kernel
theorem dX5_shove_129 : decode cX5_shove 129 = .ok (.iload 6, 2) := by decide +kernel
theorem dX5_shove_131 : decode cX5_shove 131 = .ok (.iload_n 2, 1) := by decide +kernel
theorem dX5_shove_132 : decode cX5_shove 132 = .ok (.invokevirtual 184, 3) := by decide +kernel
theorem dX5_shove_135 : decode cX5_shove 135 = .ok (.aload_n 0, 1) := by decide +kernel
theorem dX5_shove_136 : decode cX5_shove 136 = .ok (.invokevirtual 177, 3) := by decide +kernel
theorem dX5_shove_139 : decode cX5_shove 139 = .ok (.istore_n 3, 1) := by decide +kernel
theorem dX5_shove_140 : decode cX5_shove 140 = .ok (.iinc 4 1, 3) := by decide +kernel
theorem dX5_shove_143 : decode cX5_shove 143 = .ok (.goto (-135), 3) := by decide +kernel
theorem dX5_shove_146 : decode cX5_shove 146 = .ok (.iconst 1, 1) := by decide +kernel
theorem dX5_shove_147 : decode cX5_shove 147 = .ok (.ireturn, 1) := by decide +kernel
abbrev cX5_draw : ByteArray := prog_7_method_41_code
def yX5_draw : MethodName := ⟨RX5, "draw", "()J"⟩
def wsX5_draw : List Cond := .code yX5_draw cX5_draw 1 (some .long) :: bT
theorem dX5_draw_0 : decode cX5_draw 0 = .ok (.aload_n 0, 1) := by decide +kernel
theorem dX5_draw_1 : decode cX5_draw 1 = .ok (.aload_n 0, 1) := by decide +kernel
theorem dX5_draw_2 : decode cX5_draw 2 = .ok (.getfield 78, 3) := by decide +kernel
theorem dX5_draw_5 : decode cX5_draw 5 = .ok (.ldc2_w 195, 3) := by decide +kernel
theorem dX5_draw_8 : decode cX5_draw 8 = .ok (.lmul, 1) := by decide +kernel
theorem dX5_draw_9 : decode cX5_draw 9 = .ok (.ldc2_w 197, 3) := by decide +kernel
theorem dX5_draw_12 : decode cX5_draw 12 = .ok (.ladd, 1) := by decide +kernel
theorem dX5_draw_13 : decode cX5_draw 13 = .ok (.putfield 78, 3) := by decide +kernel
theorem dX5_draw_16 : decode cX5_draw 16 = .ok (.aload_n 0, 1) := by decide +kernel
theorem dX5_draw_17 : decode cX5_draw 17 = .ok (.getfield 78, 3) := by decide +kernel
theorem dX5_draw_20 : decode cX5_draw 20 = .ok (.bipush 33, 2) := by decide +kernel
theorem dX5_draw_22 : decode cX5_draw 22 = .ok (.lushr, 1) := by decide +kernel
theorem dX5_draw_23 : decode cX5_draw 23 = .ok (.lreturn, 1) := by decide +kernel
abbrev cX5_step : ByteArray := prog_7_method_42_code
def yX5_step : MethodName := ⟨RX5, "step", "(JJJJ)V"⟩
def wsX5_step : List Cond := .code yX5_step cX5_step 15 none :: bT
theorem dX5_step_0 : decode cX5_step 0 = .ok (.lload_n 1, 1) := by decide +kernel
theorem dX5_step_1 : decode cX5_step 1 = .ok (.aload_n 0, 1) := by decide +kernel
theorem dX5_step_2 : decode cX5_step 2 = .ok (.getfield 85, 3) := by decide +kernel
theorem dX5_step_5 : decode cX5_step 5 = .ok (.i2l, 1) := by decide +kernel
theorem dX5_step_6 : decode cX5_step 6 = .ok (.lrem, 1) := by decide +kernel
theorem dX5_step_7 : decode cX5_step 7 = .ok (.l2i, 1) := by decide +kernel
theorem dX5_step_8 : decode cX5_step 8 = .ok (.istore 9, 2) := by decide +kernel
theorem dX5_step_10 : decode cX5_step 10 = .ok (.lload 5, 2) := by decide +kernel
theorem dX5_step_12 : decode cX5_step 12 = .ok (.aload_n 0, 1) := by decide +kernel
theorem dX5_step_13 : decode cX5_step 13 = .ok (.getfield 85, 3) := by decide +kernel
theorem dX5_step_16 : decode cX5_step 16 = .ok (.i2l, 1) := by decide +kernel
theorem dX5_step_17 : decode cX5_step 17 = .ok (.lrem, 1) := by decide +kernel
theorem dX5_step_18 : decode cX5_step 18 = .ok (.l2i, 1) := by decide +kernel
theorem dX5_step_19 : decode cX5_step 19 = .ok (.istore 10, 2) := by decide +kernel
theorem dX5_step_21 : decode cX5_step 21 = .ok (.aload_n 0, 1) := by decide +kernel
theorem dX5_step_22 : decode cX5_step 22 = .ok (.getfield 30, 3) := by decide +kernel
theorem dX5_step_25 : decode cX5_step 25 = .ok (.iload 9, 2) := by decide +kernel
theorem dX5_step_27 : decode cX5_step 27 = .ok (.baload, 1) := by decide +kernel
theorem dX5_step_28 : decode cX5_step 28 = .ok (.ifCond .eq (13), 3) := by decide +kernel
theorem dX5_step_31 : decode cX5_step 31 = .ok (.aload_n 0, 1) := by decide +kernel
theorem dX5_step_32 : decode cX5_step 32 = .ok (.getfield 23, 3) := by decide +kernel
theorem dX5_step_35 : decode cX5_step 35 = .ok (.iload 9, 2) := by decide +kernel
theorem dX5_step_37 : decode cX5_step 37 = .ok (.baload, 1) := by decide +kernel
theorem dX5_step_38 : decode cX5_step 38 = .ok (.ifCond .eq (4), 3) := by decide +kernel
theorem dX5_step_41 : decode cX5_step 41 = .ok (.return_, 1) := by decide +kernel
theorem dX5_step_42 : decode cX5_step 42 = .ok (.lload_n 3, 1) := by decide +kernel
theorem dX5_step_43 : decode cX5_step 43 = .ok (.ldc2_w 199, 3) := by decide +kernel
theorem dX5_step_46 : decode cX5_step 46 = .ok (.lrem, 1) := by decide +kernel
theorem dX5_step_47 : decode cX5_step 47 = .ok (.lconst 0, 1) := by decide +kernel
theorem dX5_step_48 : decode cX5_step 48 = .ok (.lcmp, 1) := by decide +kernel
theorem dX5_step_49 : decode cX5_step 49 = .ok (.ifCond .ne (92), 3) := by decide +kernel
theorem dX5_step_52 : decode cX5_step 52 = .ok (.aload_n 0, 1) := by decide +kernel
theorem dX5_step_53 : decode cX5_step 53 = .ok (.getfield 30, 3) := by decide +kernel
theorem dX5_step_56 : decode cX5_step 56 = .ok (.iload 10, 2) := by decide +kernel
theorem dX5_step_58 : decode cX5_step 58 = .ok (.baload, 1) := by decide +kernel
theorem dX5_step_59 : decode cX5_step 59 = .ok (.ifCond .eq (20), 3) := by decide +kernel
theorem dX5_step_62 : decode cX5_step 62 = .ok (.aload_n 0, 1) := by decide +kernel
theorem dX5_step_63 : decode cX5_step 63 = .ok (.getfield 27, 3) := by decide +kernel
theorem dX5_step_66 : decode cX5_step 66 = .ok (.iload 9, 2) := by decide +kernel
theorem dX5_step_68 : decode cX5_step 68 = .ok (.iaload, 1) := by decide +kernel
theorem dX5_step_69 : decode cX5_step 69 = .ok (.aload_n 0, 1) := by decide +kernel
theorem dX5_step_70 : decode cX5_step 70 = .ok (.getfield 27, 3) := by decide +kernel
theorem dX5_step_73 : decode cX5_step 73 = .ok (.iload 10, 2) := by decide +kernel
theorem dX5_step_75 : decode cX5_step 75 = .ok (.iaload, 1) := by decide +kernel
theorem dX5_step_76 : decode cX5_step 76 = .ok (.if_icmp .ne (4), 3) := by decide +kernel
theorem dX5_step_79 : decode cX5_step 79 = .ok (.return_, 1) := by decide +kernel
theorem dX5_step_80 : decode cX5_step 80 = .ok (.aload_n 0, 1) := by decide +kernel
theorem dX5_step_81 : decode cX5_step 81 = .ok (.iconst 0, 1) := by decide +kernel
theorem dX5_step_82 : decode cX5_step 82 = .ok (.iload 10, 2) := by decide +kernel
theorem dX5_step_84 : decode cX5_step 84 = .ok (.invokevirtual 92, 3) := by decide +kernel
theorem dX5_step_87 : decode cX5_step 87 = .ok (.aload_n 0, 1) := by decide +kernel
theorem dX5_step_88 : decode cX5_step 88 = .ok (.iconst 0, 1) := by decide +kernel
theorem dX5_step_89 : decode cX5_step 89 = .ok (.iload 9, 2) := by decide +kernel
theorem dX5_step_91 : decode cX5_step 91 = .ok (.invokevirtual 92, 3) := by decide +kernel
theorem dX5_step_94 : decode cX5_step 94 = .ok (.lsub, 1) := by decide +kernel
theorem dX5_step_95 : decode cX5_step 95 = .ok (.lstore 11, 2) := by decide +kernel
theorem dX5_step_97 : decode cX5_step 97 = .ok (.aload_n 0, 1) := by decide +kernel
theorem dX5_step_98 : decode cX5_step 98 = .ok (.iconst 0, 1) := by decide +kernel
theorem dX5_step_99 : decode cX5_step 99 = .ok (.iload 10, 2) := by decide +kernel
theorem dX5_step_101 : decode cX5_step 101 = .ok (.invokevirtual 100, 3) := by decide +kernel
theorem dX5_step_104 : decode cX5_step 104 = .ok (.aload_n 0, 1) := by decide +kernel
theorem dX5_step_105 : decode cX5_step 105 = .ok (.iconst 0, 1) := by decide +kernel
theorem dX5_step_106 : decode cX5_step 106 = .ok (.iload 9, 2) := by decide +kernel
theorem dX5_step_108 : decode cX5_step 108 = .ok (.invokevirtual 100, 3) := by decide +kernel
theorem dX5_step_111 : decode cX5_step 111 = .ok (.lsub, 1) := by decide +kernel
theorem dX5_step_112 : decode cX5_step 112 = .ok (.lstore 13, 2) := by decide +kernel
theorem dX5_step_114 : decode cX5_step 114 = .ok (.aload_n 0, 1) := by decide +kernel
theorem dX5_step_115 : decode cX5_step 115 = .ok (.iload 9, 2) := by decide +kernel
theorem dX5_step_117 : decode cX5_step 117 = .ok (.lload 11, 2) := by decide +kernel
theorem dX5_step_119 : decode cX5_step 119 = .ok (.lload 13, 2) := by decide +kernel
theorem dX5_step_121 : decode cX5_step 121 = .ok (.invokevirtual 149, 3) := by decide +kernel
theorem dX5_step_124 : decode cX5_step 124 = .ok (.aload_n 0, 1) := by decide +kernel
theorem dX5_step_125 : decode cX5_step 125 = .ok (.iload 10, 2) := by decide +kernel
theorem dX5_step_127 : decode cX5_step 127 = .ok (.lconst 0, 1) := by decide +kernel
theorem dX5_step_128 : decode cX5_step 128 = .ok (.lload 11, 2) := by decide +kernel
theorem dX5_step_130 : decode cX5_step 130 = .ok (.lsub, 1) := by decide +kernel
theorem dX5_step_131 : decode cX5_step 131 = .ok (.lconst 0, 1) := by decide +kernel
theorem dX5_step_132 : decode cX5_step 132 = .ok (.lload 13, 2) := by decide +kernel
theorem dX5_step_134 : decode cX5_step 134 = .ok (.lsub, 1) := by decide +kernel
theorem dX5_step_135 : decode cX5_step 135 = .ok (.invokevirtual 149, 3) := by decide +kernel
theorem dX5_step_138 : decode cX5_step 138 = .ok (.goto (90), 3) := by decide +kernel
theorem dX5_step_141 : decode cX5_step 141 = .ok (.lload_n 3, 1) := by decide +kernel
theorem dX5_step_142 : decode cX5_step 142 = .ok (.ldc2_w 199, 3) := by decide +kernel
theorem dX5_step_145 : decode cX5_step 145 = .ok (.lrem, 1) := by decide +kernel
theorem dX5_step_146 : decode cX5_step 146 = .ok (.lconst 1, 1) := by decide +kernel
theorem dX5_step_147 : decode cX5_step 147 = .ok (.lcmp, 1) := by decide +kernel
theorem dX5_step_148 : decode cX5_step 148 = .ok (.ifCond .ne (44), 3) := by decide +kernel
theorem dX5_step_151 : decode cX5_step 151 = .ok (.aload_n 0, 1) := by decide +kernel
theorem dX5_step_152 : decode cX5_step 152 = .ok (.iload 9, 2) := by decide +kernel
theorem dX5_step_154 : decode cX5_step 154 = .ok (.invokevirtual 146, 3) := by decide +kernel
theorem dX5_step_157 : decode cX5_step 157 = .ok (.ifCond .ne (71), 3) := by decide +kernel
theorem dX5_step_160 : decode cX5_step 160 = .ok (.aload_n 0, 1) := by decide +kernel
theorem dX5_step_161 : decode cX5_step 161 = .ok (.getfield 39, 3) := by decide +kernel
theorem dX5_step_164 : decode cX5_step 164 = .ok (.bipush 40, 2) := by decide +kernel
theorem dX5_step_166 : decode cX5_step 166 = .ok (.iload 9, 2) := by decide +kernel
theorem dX5_step_168 : decode cX5_step 168 = .ok (.iadd, 1) := by decide +kernel
theorem dX5_step_169 : decode cX5_step 169 = .ok (.aload_n 0, 1) := by decide +kernel
theorem dX5_step_170 : decode cX5_step 170 = .ok (.getfield 39, 3) := by decide +kernel
theorem dX5_step_173 : decode cX5_step 173 = .ok (.iload 9, 2) := by decide +kernel
theorem dX5_step_175 : decode cX5_step 175 = .ok (.iaload, 1) := by decide +kernel
theorem dX5_step_176 : decode cX5_step 176 = .ok (.lload 7, 2) := by decide +kernel
theorem dX5_step_178 : decode cX5_step 178 = .ok (.ldc2_w 201, 3) := by decide +kernel
theorem dX5_step_181 : decode cX5_step 181 = .ok (.lrem, 1) := by decide +kernel
theorem dX5_step_182 : decode cX5_step 182 = .ok (.l2i, 1) := by decide +kernel
theorem dX5_step_183 : decode cX5_step 183 = .ok (.iadd, 1) := by decide +kernel
theorem dX5_step_184 : decode cX5_step 184 = .ok (.iconst 1, 1) := by decide +kernel
theorem dX5_step_185 : decode cX5_step 185 = .ok (.iadd, 1) := by decide +kernel
theorem dX5_step_186 : decode cX5_step 186 = .ok (.iconst 4, 1) := by decide +kernel
theorem dX5_step_187 : decode cX5_step 187 = .ok (.irem, 1) := by decide +kernel
theorem dX5_step_188 : decode cX5_step 188 = .ok (.iastore, 1) := by decide +kernel
theorem dX5_step_189 : decode cX5_step 189 = .ok (.goto (39), 3) := by decide +kernel
theorem dX5_step_192 : decode cX5_step 192 = .ok (.aload_n 0, 1) := by decide +kernel
theorem dX5_step_193 : decode cX5_step 193 = .ok (.iload 9, 2) := by decide +kernel
theorem dX5_step_195 : decode cX5_step 195 = .ok (.lload 5, 2) := by decide +kernel
theorem dX5_step_197 : decode cX5_step 197 = .ok (.aload_n 0, 1) := by decide +kernel
theorem dX5_step_198 : decode cX5_step 198 = .ok (.getfield 71, 3) := by decide +kernel
theorem dX5_step_201 : decode cX5_step 201 = .ok (.lrem, 1) := by decide +kernel
theorem dX5_step_202 : decode cX5_step 202 = .ok (.aload_n 0, 1) := by decide +kernel
theorem dX5_step_203 : decode cX5_step 203 = .ok (.iconst 0, 1) := by decide +kernel
theorem dX5_step_204 : decode cX5_step 204 = .ok (.iload 9, 2) := by decide +kernel
theorem dX5_step_206 : decode cX5_step 206 = .ok (.invokevirtual 92, 3) := by decide +kernel
theorem dX5_step_209 : decode cX5_step 209 = .ok (.lsub, 1) := by decide +kernel
theorem dX5_step_210 : decode cX5_step 210 = .ok (.lload 7, 2) := by decide +kernel
theorem dX5_step_212 : decode cX5_step 212 = .ok (.aload_n 0, 1) := by decide +kernel
theorem dX5_step_213 : decode cX5_step 213 = .ok (.getfield 75, 3) := by decide +kernel
theorem dX5_step_216 : decode cX5_step 216 = .ok (.lrem, 1) := by decide +kernel
theorem dX5_step_217 : decode cX5_step 217 = .ok (.aload_n 0, 1) := by decide +kernel
theorem dX5_step_218 : decode cX5_step 218 = .ok (.iconst 0, 1) := by decide +kernel
theorem dX5_step_219 : decode cX5_step 219 = .ok (.iload 9, 2) := by decide +kernel
theorem dX5_step_221 : decode cX5_step 221 = .ok (.invokevirtual 100, 3) := by decide +kernel
theorem dX5_step_224 : decode cX5_step 224 = .ok (.lsub, 1) := by decide +kernel
theorem dX5_step_225 : decode cX5_step 225 = .ok (.invokevirtual 149, 3) := by decide +kernel
theorem dX5_step_228 : decode cX5_step 228 = .ok (.return_, 1) := by decide +kernel
abbrev cX5_changes : ByteArray := prog_7_method_43_code
def yX5_changes : MethodName := ⟨RX5, "changes", "()Z"⟩
def wsX5_changes : List Cond := .code yX5_changes cX5_changes 3 (some .boolean) :: bT
theorem dX5_changes_0 : decode cX5_changes 0 = .ok (.iconst 0, 1) := by decide +kernel
theorem dX5_changes_1 : decode cX5_changes 1 = .ok (.istore_n 1, 1) := by decide +kernel
theorem dX5_changes_2 : decode cX5_changes 2 = .ok (.iconst 0, 1) := by decide +kernel
theorem dX5_changes_3 : decode cX5_changes 3 = .ok (.istore_n 2, 1) := by decide +kernel
theorem dX5_changes_4 : decode cX5_changes 4 = .ok (.iload_n 2, 1) := by decide +kernel
theorem dX5_changes_5 : decode cX5_changes 5 = .ok (.aload_n 0, 1) := by decide +kernel
theorem dX5_changes_6 : decode cX5_changes 6 = .ok (.getfield 85, 3) := by decide +kernel
theorem dX5_changes_9 : decode cX5_changes 9 = .ok (.if_icmp .ge (37), 3) := by decide +kernel
theorem dX5_changes_12 : decode cX5_changes 12 = .ok (.iload_n 1, 1) := by decide +kernel
theorem dX5_changes_13 : decode cX5_changes 13 = .ok (.ifCond .ne (21), 3) := by decide +kernel
theorem dX5_changes_16 : decode cX5_changes 16 = .ok (.aload_n 0, 1) := by decide +kernel
theorem dX5_changes_17 : decode cX5_changes 17 = .ok (.getfield 30, 3) := by decide +kernel
theorem dX5_changes_20 : decode cX5_changes 20 = .ok (.iload_n 2, 1) := by decide +kernel
theorem dX5_changes_21 : decode cX5_changes 21 = .ok (.baload, 1) := by decide +kernel
theorem dX5_changes_22 : decode cX5_changes 22 = .ok (.ifCond .eq (16), 3) := by decide +kernel
theorem dX5_changes_25 : decode cX5_changes 25 = .ok (.aload_n 0, 1) := by decide +kernel
theorem dX5_changes_26 : decode cX5_changes 26 = .ok (.iconst 1, 1) := by decide +kernel
theorem dX5_changes_27 : decode cX5_changes 27 = .ok (.iload_n 2, 1) := by decide +kernel
theorem dX5_changes_28 : decode cX5_changes 28 = .ok (.invokevirtual 136, 3) := by decide +kernel
theorem dX5_changes_31 : decode cX5_changes 31 = .ok (.ifCond .ne (7), 3) := by decide +kernel
theorem dX5_changes_34 : decode cX5_changes 34 = .ok (.iconst 1, 1) := by decide +kernel
theorem dX5_changes_35 : decode cX5_changes 35 = .ok (.goto (4), 3) := by decide +kernel
theorem dX5_changes_38 : decode cX5_changes 38 = .ok (.iconst 0, 1) := by decide +kernel
theorem dX5_changes_39 : decode cX5_changes 39 = .ok (.istore_n 1, 1) := by decide +kernel
theorem dX5_changes_40 : decode cX5_changes 40 = .ok (.iinc 2 1, 3) := by decide +kernel
theorem dX5_changes_43 : decode cX5_changes 43 = .ok (.goto (-39), 3) := by decide +kernel
theorem dX5_changes_46 : decode cX5_changes 46 = .ok (.iload_n 1, 1) := by decide +kernel
theorem dX5_changes_47 : decode cX5_changes 47 = .ok (.ireturn, 1) := by decide +kernel
abbrev cX0_addKeepOut : ByteArray := prog_2_method_2_code
def yX0_addKeepOut : MethodName := ⟨RX0, "addKeepOut", "(JJJJJ)Z"⟩
def wsX0_addKeepOut : List Cond := .code yX0_addKeepOut cX0_addKeepOut 11 (some .boolean) :: bT
theorem dX0_addKeepOut_0 : decode cX0_addKeepOut 0 = .ok (.aload_n 0, 1) := by decide +kernel
theorem dX0_addKeepOut_1 : decode cX0_addKeepOut 1 = .ok (.getfield 37, 3) := by decide +kernel
theorem dX0_addKeepOut_4 : decode cX0_addKeepOut 4 = .ok (.bipush 10, 2) := by decide +kernel
theorem dX0_addKeepOut_6 : decode cX0_addKeepOut 6 = .ok (.if_icmp .lt (5), 3) := by decide +kernel
theorem dX0_addKeepOut_9 : decode cX0_addKeepOut 9 = .ok (.iconst 0, 1) := by decide +kernel
theorem dX0_addKeepOut_10 : decode cX0_addKeepOut 10 = .ok (.ireturn, 1) := by decide +kernel
theorem dX0_addKeepOut_11 : decode cX0_addKeepOut 11 = .ok (.aload_n 0, 1) := by decide +kernel
theorem dX0_addKeepOut_12 : decode cX0_addKeepOut 12 = .ok (.getfield 9, 3) := by decide +kernel
theorem dX0_addKeepOut_15 : decode cX0_addKeepOut 15 = .ok (.aload_n 0, 1) := by decide +kernel
theorem dX0_addKeepOut_16 : decode cX0_addKeepOut 16 = .ok (.getfield 37, 3) := by decide +kernel
theorem dX0_addKeepOut_19 : decode cX0_addKeepOut 19 = .ok (.lload_n 1, 1) := by decide +kernel
theorem dX0_addKeepOut_20 : decode cX0_addKeepOut 20 = .ok (.lastore, 1) := by decide +kernel
theorem dX0_addKeepOut_21 : decode cX0_addKeepOut 21 = .ok (.aload_n 0, 1) := by decide +kernel
theorem dX0_addKeepOut_22 : decode cX0_addKeepOut 22 = .ok (.getfield 15, 3) := by decide +kernel
theorem dX0_addKeepOut_25 : decode cX0_addKeepOut 25 = .ok (.aload_n 0, 1) := by decide +kernel
theorem dX0_addKeepOut_26 : decode cX0_addKeepOut 26 = .ok (.getfield 37, 3) := by decide +kernel
theorem dX0_addKeepOut_29 : decode cX0_addKeepOut 29 = .ok (.lload_n 3, 1) := by decide +kernel
theorem dX0_addKeepOut_30 : decode cX0_addKeepOut 30 = .ok (.lastore, 1) := by decide +kernel
theorem dX0_addKeepOut_31 : decode cX0_addKeepOut 31 = .ok (.aload_n 0, 1) := by decide +kernel
theorem dX0_addKeepOut_32 : decode cX0_addKeepOut 32 = .ok (.getfield 18, 3) := by decide +kernel
theorem dX0_addKeepOut_35 : decode cX0_addKeepOut 35 = .ok (.aload_n 0, 1) := by decide +kernel
theorem dX0_addKeepOut_36 : decode cX0_addKeepOut 36 = .ok (.getfield 37, 3) := by decide +kernel
theorem dX0_addKeepOut_39 : decode cX0_addKeepOut 39 = .ok (.lload 5, 2) := by decide +kernel
theorem dX0_addKeepOut_41 : decode cX0_addKeepOut 41 = .ok (.lastore, 1) := by decide +kernel
theorem dX0_addKeepOut_42 : decode cX0_addKeepOut 42 = .ok (.aload_n 0, 1) := by decide +kernel
theorem dX0_addKeepOut_43 : decode cX0_addKeepOut 43 = .ok (.getfield 21, 3) := by decide +kernel
theorem dX0_addKeepOut_46 : decode cX0_addKeepOut 46 = .ok (.aload_n 0, 1) := by decide +kernel
theorem dX0_addKeepOut_47 : decode cX0_addKeepOut 47 = .ok (.getfield 37, 3) := by decide +kernel
theorem dX0_addKeepOut_50 : decode cX0_addKeepOut 50 = .ok (.lload 7, 2) := by decide +kernel
theorem dX0_addKeepOut_52 : decode cX0_addKeepOut 52 = .ok (.lastore, 1) := by decide +kernel
theorem dX0_addKeepOut_53 : decode cX0_addKeepOut 53 = .ok (.aload_n 0, 1) := by decide +kernel
theorem dX0_addKeepOut_54 : decode cX0_addKeepOut 54 = .ok (.getfield 24, 3) := by decide +kernel
theorem dX0_addKeepOut_57 : decode cX0_addKeepOut 57 = .ok (.aload_n 0, 1) := by decide +kernel
theorem dX0_addKeepOut_58 : decode cX0_addKeepOut 58 = .ok (.getfield 37, 3) := by decide +kernel
theorem dX0_addKeepOut_61 : decode cX0_addKeepOut 61 = .ok (.lload 9, 2) := by decide +kernel
theorem dX0_addKeepOut_63 : decode cX0_addKeepOut 63 = .ok (.lastore, 1) := by decide +kernel
theorem dX0_addKeepOut_64 : decode cX0_addKeepOut 64 = .ok (.aload_n 0, 1) := by decide +kernel
theorem dX0_addKeepOut_65 : decode cX0_addKeepOut 65 = .ok (.dup, 1) := by decide +kernel
theorem dX0_addKeepOut_66 : decode cX0_addKeepOut 66 = .ok (.getfield 37, 3) := by decide +kernel
theorem dX0_addKeepOut_69 : decode cX0_addKeepOut 69 = .ok (.iconst 1, 1) := by decide +kernel
theorem dX0_addKeepOut_70 : decode cX0_addKeepOut 70 = .ok (.iadd, 1) := by decide +kernel
theorem dX0_addKeepOut_71 : decode cX0_addKeepOut 71 = .ok (.putfield 37, 3) := by decide +kernel
theorem dX0_addKeepOut_74 : decode cX0_addKeepOut 74 = .ok (.iconst 1, 1) := by decide +kernel
theorem dX0_addKeepOut_75 : decode cX0_addKeepOut 75 = .ok (.ireturn, 1) := by decide +kernel
abbrev cX0_dropKeepOut : ByteArray := prog_2_method_3_code
def yX0_dropKeepOut : MethodName := ⟨RX0, "dropKeepOut", "()V"⟩
def wsX0_dropKeepOut : List Cond := .code yX0_dropKeepOut cX0_dropKeepOut 1 none :: bT
theorem dX0_dropKeepOut_0 : decode cX0_dropKeepOut 0 = .ok (.aload_n 0, 1) := by decide +kernel
theorem dX0_dropKeepOut_1 : decode cX0_dropKeepOut 1 = .ok (.getfield 37, 3) := by decide +kernel
theorem dX0_dropKeepOut_4 : decode cX0_dropKeepOut 4 = .ok (.ifCond .le (13), 3) := by decide +kernel
theorem dX0_dropKeepOut_7 : decode cX0_dropKeepOut 7 = .ok (.aload_n 0, 1) := by decide +kernel
theorem dX0_dropKeepOut_8 : decode cX0_dropKeepOut 8 = .ok (.dup, 1) := by decide +kernel
theorem dX0_dropKeepOut_9 : decode cX0_dropKeepOut 9 = .ok (.getfield 37, 3) := by decide +kernel
theorem dX0_dropKeepOut_12 : decode cX0_dropKeepOut 12 = .ok (.iconst 1, 1) := by decide +kernel
theorem dX0_dropKeepOut_13 : decode cX0_dropKeepOut 13 = .ok (.isub, 1) := by decide +kernel
theorem dX0_dropKeepOut_14 : decode cX0_dropKeepOut 14 = .ok (.putfield 37, 3) := by decide +kernel
theorem dX0_dropKeepOut_17 : decode cX0_dropKeepOut 17 = .ok (.return_, 1) := by decide +kernel
abbrev cX0_addNear : ByteArray := prog_2_method_4_code
def yX0_addNear : MethodName := ⟨RX0, "addNear", "(IIJ)Z"⟩
def wsX0_addNear : List Cond := .code yX0_addNear cX0_addNear 5 (some .boolean) :: bT
theorem dX0_addNear_0 : decode cX0_addNear 0 = .ok (.aload_n 0, 1) := by decide +kernel
theorem dX0_addNear_1 : decode cX0_addNear 1 = .ok (.getfield 41, 3) := by decide +kernel
theorem dX0_addNear_4 : decode cX0_addNear 4 = .ok (.bipush 20, 2) := by decide +kernel
theorem dX0_addNear_6 : decode cX0_addNear 6 = .ok (.if_icmp .lt (5), 3) := by decide +kernel
theorem dX0_addNear_9 : decode cX0_addNear 9 = .ok (.iconst 0, 1) := by decide +kernel
theorem dX0_addNear_10 : decode cX0_addNear 10 = .ok (.ireturn, 1) := by decide +kernel
theorem dX0_addNear_11 : decode cX0_addNear 11 = .ok (.aload_n 0, 1) := by decide +kernel
theorem dX0_addNear_12 : decode cX0_addNear 12 = .ok (.getfield 27, 3) := by decide +kernel
theorem dX0_addNear_15 : decode cX0_addNear 15 = .ok (.aload_n 0, 1) := by decide +kernel
theorem dX0_addNear_16 : decode cX0_addNear 16 = .ok (.getfield 41, 3) := by decide +kernel
theorem dX0_addNear_19 : decode cX0_addNear 19 = .ok (.iload_n 1, 1) := by decide +kernel
theorem dX0_addNear_20 : decode cX0_addNear 20 = .ok (.iastore, 1) := by decide +kernel
theorem dX0_addNear_21 : decode cX0_addNear 21 = .ok (.aload_n 0, 1) := by decide +kernel
theorem dX0_addNear_22 : decode cX0_addNear 22 = .ok (.getfield 31, 3) := by decide +kernel
theorem dX0_addNear_25 : decode cX0_addNear 25 = .ok (.aload_n 0, 1) := by decide +kernel
theorem dX0_addNear_26 : decode cX0_addNear 26 = .ok (.getfield 41, 3) := by decide +kernel
theorem dX0_addNear_29 : decode cX0_addNear 29 = .ok (.iload_n 2, 1) := by decide +kernel
theorem dX0_addNear_30 : decode cX0_addNear 30 = .ok (.iastore, 1) := by decide +kernel
theorem dX0_addNear_31 : decode cX0_addNear 31 = .ok (.aload_n 0, 1) := by decide +kernel
theorem dX0_addNear_32 : decode cX0_addNear 32 = .ok (.getfield 34, 3) := by decide +kernel
theorem dX0_addNear_35 : decode cX0_addNear 35 = .ok (.aload_n 0, 1) := by decide +kernel
theorem dX0_addNear_36 : decode cX0_addNear 36 = .ok (.getfield 41, 3) := by decide +kernel
theorem dX0_addNear_39 : decode cX0_addNear 39 = .ok (.lload_n 3, 1) := by decide +kernel
theorem dX0_addNear_40 : decode cX0_addNear 40 = .ok (.lastore, 1) := by decide +kernel
theorem dX0_addNear_41 : decode cX0_addNear 41 = .ok (.aload_n 0, 1) := by decide +kernel
theorem dX0_addNear_42 : decode cX0_addNear 42 = .ok (.dup, 1) := by decide +kernel
theorem dX0_addNear_43 : decode cX0_addNear 43 = .ok (.getfield 41, 3) := by decide +kernel
theorem dX0_addNear_46 : decode cX0_addNear 46 = .ok (.iconst 1, 1) := by decide +kernel
theorem dX0_addNear_47 : decode cX0_addNear 47 = .ok (.iadd, 1) := by decide +kernel
theorem dX0_addNear_48 : decode cX0_addNear 48 = .ok (.putfield 41, 3) := by decide +kernel
theorem dX0_addNear_51 : decode cX0_addNear 51 = .ok (.iconst 1, 1) := by decide +kernel
theorem dX0_addNear_52 : decode cX0_addNear 52 = .ok (.ireturn, 1) := by decide +kernel
abbrev cX0_isLowEnough : ByteArray := prog_2_method_5_code
def yX0_isLowEnough : MethodName := ⟨RX0, "isLowEnough", "(LBoardMoves$Placement;I)Z"⟩
def wsX0_isLowEnough : List Cond := .code yX0_isLowEnough cX0_isLowEnough 4 (some .boolean) :: bT
theorem dX0_isLowEnough_0 : decode cX0_isLowEnough 0 = .ok (.iconst 0, 1) := by decide +kernel
theorem dX0_isLowEnough_1 : decode cX0_isLowEnough 1 = .ok (.istore_n 3, 1) := by decide +kernel
theorem dX0_isLowEnough_2 : decode cX0_isLowEnough 2 = .ok (.iload_n 3, 1) := by decide +kernel
theorem dX0_isLowEnough_3 : decode cX0_isLowEnough 3 = .ok (.aload_n 0, 1) := by decide +kernel
theorem dX0_isLowEnough_4 : decode cX0_isLowEnough 4 = .ok (.getfield 37, 3) := by decide +kernel
theorem dX0_isLowEnough_7 : decode cX0_isLowEnough 7 = .ok (.if_icmp .ge (62), 3) := by decide +kernel
theorem dX0_isLowEnough_10 : decode cX0_isLowEnough 10 = .ok (.aload_n 0, 1) := by decide +kernel
theorem dX0_isLowEnough_11 : decode cX0_isLowEnough 11 = .ok (.getfield 44, 3) := by decide +kernel
theorem dX0_isLowEnough_14 : decode cX0_isLowEnough 14 = .ok (.getfield 48, 3) := by decide +kernel
theorem dX0_isLowEnough_17 : decode cX0_isLowEnough 17 = .ok (.iload_n 2, 1) := by decide +kernel
theorem dX0_isLowEnough_18 : decode cX0_isLowEnough 18 = .ok (.laload, 1) := by decide +kernel
theorem dX0_isLowEnough_19 : decode cX0_isLowEnough 19 = .ok (.aload_n 0, 1) := by decide +kernel
theorem dX0_isLowEnough_20 : decode cX0_isLowEnough 20 = .ok (.getfield 24, 3) := by decide +kernel
theorem dX0_isLowEnough_23 : decode cX0_isLowEnough 23 = .ok (.iload_n 3, 1) := by decide +kernel
theorem dX0_isLowEnough_24 : decode cX0_isLowEnough 24 = .ok (.laload, 1) := by decide +kernel
theorem dX0_isLowEnough_25 : decode cX0_isLowEnough 25 = .ok (.lcmp, 1) := by decide +kernel
theorem dX0_isLowEnough_26 : decode cX0_isLowEnough 26 = .ok (.ifCond .le (37), 3) := by decide +kernel
theorem dX0_isLowEnough_29 : decode cX0_isLowEnough 29 = .ok (.aload_n 1, 1) := by decide +kernel
theorem dX0_isLowEnough_30 : decode cX0_isLowEnough 30 = .ok (.iload_n 2, 1) := by decide +kernel
theorem dX0_isLowEnough_31 : decode cX0_isLowEnough 31 = .ok (.aload_n 0, 1) := by decide +kernel
theorem dX0_isLowEnough_32 : decode cX0_isLowEnough 32 = .ok (.getfield 9, 3) := by decide +kernel
theorem dX0_isLowEnough_35 : decode cX0_isLowEnough 35 = .ok (.iload_n 3, 1) := by decide +kernel
theorem dX0_isLowEnough_36 : decode cX0_isLowEnough 36 = .ok (.laload, 1) := by decide +kernel
theorem dX0_isLowEnough_37 : decode cX0_isLowEnough 37 = .ok (.aload_n 0, 1) := by decide +kernel
theorem dX0_isLowEnough_38 : decode cX0_isLowEnough 38 = .ok (.getfield 15, 3) := by decide +kernel
theorem dX0_isLowEnough_41 : decode cX0_isLowEnough 41 = .ok (.iload_n 3, 1) := by decide +kernel
theorem dX0_isLowEnough_42 : decode cX0_isLowEnough 42 = .ok (.laload, 1) := by decide +kernel
theorem dX0_isLowEnough_43 : decode cX0_isLowEnough 43 = .ok (.aload_n 0, 1) := by decide +kernel
theorem dX0_isLowEnough_44 : decode cX0_isLowEnough 44 = .ok (.getfield 18, 3) := by decide +kernel
theorem dX0_isLowEnough_47 : decode cX0_isLowEnough 47 = .ok (.iload_n 3, 1) := by decide +kernel
theorem dX0_isLowEnough_48 : decode cX0_isLowEnough 48 = .ok (.laload, 1) := by decide +kernel
theorem dX0_isLowEnough_49 : decode cX0_isLowEnough 49 = .ok (.aload_n 0, 1) := by decide +kernel
theorem dX0_isLowEnough_50 : decode cX0_isLowEnough 50 = .ok (.getfield 21, 3) := by decide +kernel
theorem dX0_isLowEnough_53 : decode cX0_isLowEnough 53 = .ok (.iload_n 3, 1) := by decide +kernel
theorem dX0_isLowEnough_54 : decode cX0_isLowEnough 54 = .ok (.laload, 1) := by decide +kernel
theorem dX0_isLowEnough_55 : decode cX0_isLowEnough 55 = .ok (.invokevirtual 53, 3) := by decide +kernel
theorem dX0_isLowEnough_58 : decode cX0_isLowEnough 58 = .ok (.ifCond .eq (5), 3) := by decide +kernel
theorem dX0_isLowEnough_61 : decode cX0_isLowEnough 61 = .ok (.iconst 0, 1) := by decide +kernel
theorem dX0_isLowEnough_62 : decode cX0_isLowEnough 62 = .ok (.ireturn, 1) := by decide +kernel
theorem dX0_isLowEnough_63 : decode cX0_isLowEnough 63 = .ok (.iinc 3 1, 3) := by decide +kernel
theorem dX0_isLowEnough_66 : decode cX0_isLowEnough 66 = .ok (.goto (-64), 3) := by decide +kernel
theorem dX0_isLowEnough_69 : decode cX0_isLowEnough 69 = .ok (.iconst 1, 1) := by decide +kernel
theorem dX0_isLowEnough_70 : decode cX0_isLowEnough 70 = .ok (.ireturn, 1) := by decide +kernel
abbrev cX0_isNearEnough : ByteArray := prog_2_method_6_code
def yX0_isNearEnough : MethodName := ⟨RX0, "isNearEnough", "(LBoardMoves$Placement;I)Z"⟩
def wsX0_isNearEnough : List Cond := .code yX0_isNearEnough cX0_isNearEnough 5 (some .boolean) :: bT
theorem dX0_isNearEnough_0 : decode cX0_isNearEnough 0 = .ok (.iconst 0, 1) := by decide +kernel
theorem dX0_isNearEnough_1 : decode cX0_isNearEnough 1 = .ok (.istore_n 3, 1) := by decide +kernel
theorem dX0_isNearEnough_2 : decode cX0_isNearEnough 2 = .ok (.iload_n 3, 1) := by decide +kernel
theorem dX0_isNearEnough_3 : decode cX0_isNearEnough 3 = .ok (.aload_n 0, 1) := by decide +kernel
theorem dX0_isNearEnough_4 : decode cX0_isNearEnough 4 = .ok (.getfield 41, 3) := by decide +kernel
theorem dX0_isNearEnough_7 : decode cX0_isNearEnough 7 = .ok (.if_icmp .ge (68), 3) := by decide +kernel
theorem dX0_isNearEnough_10 : decode cX0_isNearEnough 10 = .ok (.aload_n 0, 1) := by decide +kernel
theorem dX0_isNearEnough_11 : decode cX0_isNearEnough 11 = .ok (.getfield 27, 3) := by decide +kernel
theorem dX0_isNearEnough_14 : decode cX0_isNearEnough 14 = .ok (.iload_n 3, 1) := by decide +kernel
theorem dX0_isNearEnough_15 : decode cX0_isNearEnough 15 = .ok (.iaload, 1) := by decide +kernel
theorem dX0_isNearEnough_16 : decode cX0_isNearEnough 16 = .ok (.iload_n 2, 1) := by decide +kernel
theorem dX0_isNearEnough_17 : decode cX0_isNearEnough 17 = .ok (.if_icmp .eq (13), 3) := by decide +kernel
theorem dX0_isNearEnough_20 : decode cX0_isNearEnough 20 = .ok (.aload_n 0, 1) := by decide +kernel
theorem dX0_isNearEnough_21 : decode cX0_isNearEnough 21 = .ok (.getfield 31, 3) := by decide +kernel
theorem dX0_isNearEnough_24 : decode cX0_isNearEnough 24 = .ok (.iload_n 3, 1) := by decide +kernel
theorem dX0_isNearEnough_25 : decode cX0_isNearEnough 25 = .ok (.iaload, 1) := by decide +kernel
theorem dX0_isNearEnough_26 : decode cX0_isNearEnough 26 = .ok (.iload_n 2, 1) := by decide +kernel
theorem dX0_isNearEnough_27 : decode cX0_isNearEnough 27 = .ok (.if_icmp .ne (7), 3) := by decide +kernel
theorem dX0_isNearEnough_30 : decode cX0_isNearEnough 30 = .ok (.iconst 1, 1) := by decide +kernel
theorem dX0_isNearEnough_31 : decode cX0_isNearEnough 31 = .ok (.goto (4), 3) := by decide +kernel
theorem dX0_isNearEnough_34 : decode cX0_isNearEnough 34 = .ok (.iconst 0, 1) := by decide +kernel
theorem dX0_isNearEnough_35 : decode cX0_isNearEnough 35 = .ok (.istore 4, 2) := by decide +kernel
theorem dX0_isNearEnough_37 : decode cX0_isNearEnough 37 = .ok (.iload 4, 2) := by decide +kernel
theorem dX0_isNearEnough_39 : decode cX0_isNearEnough 39 = .ok (.ifCond .eq (30), 3) := by decide +kernel
theorem dX0_isNearEnough_42 : decode cX0_isNearEnough 42 = .ok (.aload_n 1, 1) := by decide +kernel
theorem dX0_isNearEnough_43 : decode cX0_isNearEnough 43 = .ok (.aload_n 0, 1) := by decide +kernel
theorem dX0_isNearEnough_44 : decode cX0_isNearEnough 44 = .ok (.getfield 27, 3) := by decide +kernel
theorem dX0_isNearEnough_47 : decode cX0_isNearEnough 47 = .ok (.iload_n 3, 1) := by decide +kernel
theorem dX0_isNearEnough_48 : decode cX0_isNearEnough 48 = .ok (.iaload, 1) := by decide +kernel
theorem dX0_isNearEnough_49 : decode cX0_isNearEnough 49 = .ok (.aload_n 0, 1) := by decide +kernel
theorem dX0_isNearEnough_50 : decode cX0_isNearEnough 50 = .ok (.getfield 31, 3) := by decide +kernel
theorem dX0_isNearEnough_53 : decode cX0_isNearEnough 53 = .ok (.iload_n 3, 1) := by decide +kernel
theorem dX0_isNearEnough_54 : decode cX0_isNearEnough 54 = .ok (.iaload, 1) := by decide +kernel
theorem dX0_isNearEnough_55 : decode cX0_isNearEnough 55 = .ok (.aload_n 0, 1) := by decide +kernel
theorem dX0_isNearEnough_56 : decode cX0_isNearEnough 56 = .ok (.getfield 34, 3) := by decide +kernel
theorem dX0_isNearEnough_59 : decode cX0_isNearEnough 59 = .ok (.iload_n 3, 1) := by decide +kernel
theorem dX0_isNearEnough_60 : decode cX0_isNearEnough 60 = .ok (.laload, 1) := by decide +kernel
theorem dX0_isNearEnough_61 : decode cX0_isNearEnough 61 = .ok (.invokevirtual 59, 3) := by decide +kernel
theorem dX0_isNearEnough_64 : decode cX0_isNearEnough 64 = .ok (.ifCond .ne (5), 3) := by decide +kernel
theorem dX0_isNearEnough_67 : decode cX0_isNearEnough 67 = .ok (.iconst 0, 1) := by decide +kernel
theorem dX0_isNearEnough_68 : decode cX0_isNearEnough 68 = .ok (.ireturn, 1) := by decide +kernel
theorem dX0_isNearEnough_69 : decode cX0_isNearEnough 69 = .ok (.iinc 3 1, 3) := by decide +kernel
theorem dX0_isNearEnough_72 : decode cX0_isNearEnough 72 = .ok (.goto (-70), 3) := by decide +kernel
theorem dX0_isNearEnough_75 : decode cX0_isNearEnough 75 = .ok (.iconst 1, 1) := by decide +kernel
theorem dX0_isNearEnough_76 : decode cX0_isNearEnough 76 = .ok (.ireturn, 1) := by decide +kernel
abbrev cX1_areMates : ByteArray := prog_3_method_3_code
def yX1_areMates : MethodName := ⟨RX1, "areMates", "(II)Z"⟩
def wsX1_areMates : List Cond := .code yX1_areMates cX1_areMates 3 (some .boolean) :: bT
theorem dX1_areMates_0 : decode cX1_areMates 0 = .ok (.aload_n 0, 1) := by decide +kernel
theorem dX1_areMates_1 : decode cX1_areMates 1 = .ok (.getfield 29, 3) := by decide +kernel
theorem dX1_areMates_4 : decode cX1_areMates 4 = .ok (.iload_n 1, 1) := by decide +kernel
theorem dX1_areMates_5 : decode cX1_areMates 5 = .ok (.iaload, 1) := by decide +kernel
theorem dX1_areMates_6 : decode cX1_areMates 6 = .ok (.aload_n 0, 1) := by decide +kernel
theorem dX1_areMates_7 : decode cX1_areMates 7 = .ok (.getfield 29, 3) := by decide +kernel
theorem dX1_areMates_10 : decode cX1_areMates 10 = .ok (.iload_n 2, 1) := by decide +kernel
theorem dX1_areMates_11 : decode cX1_areMates 11 = .ok (.iaload, 1) := by decide +kernel
theorem dX1_areMates_12 : decode cX1_areMates 12 = .ok (.if_icmp .ne (7), 3) := by decide +kernel
theorem dX1_areMates_15 : decode cX1_areMates 15 = .ok (.iconst 1, 1) := by decide +kernel
theorem dX1_areMates_16 : decode cX1_areMates 16 = .ok (.goto (4), 3) := by decide +kernel
theorem dX1_areMates_19 : decode cX1_areMates 19 = .ok (.iconst 0, 1) := by decide +kernel
theorem dX1_areMates_20 : decode cX1_areMates 20 = .ok (.ireturn, 1) := by decide +kernel
abbrev cX1_join : ByteArray := prog_3_method_4_code
def yX1_join : MethodName := ⟨RX1, "join", "(II)I"⟩
def wsX1_join : List Cond := .code yX1_join cX1_join 8 (some .int) :: bT
theorem dX1_join_0 : decode cX1_join 0 = .ok (.aload_n 0, 1) := by decide +kernel
theorem dX1_join_1 : decode cX1_join 1 = .ok (.getfield 29, 3) := by decide +kernel
theorem dX1_join_4 : decode cX1_join 4 = .ok (.iload_n 1, 1) := by decide +kernel
theorem dX1_join_5 : decode cX1_join 5 = .ok (.iaload, 1) := by decide +kernel
theorem dX1_join_6 : decode cX1_join 6 = .ok (.istore_n 3, 1) := by decide +kernel
theorem dX1_join_7 : decode cX1_join 7 = .ok (.aload_n 0, 1) := by decide +kernel
theorem dX1_join_8 : decode cX1_join 8 = .ok (.getfield 29, 3) := by decide +kernel
theorem dX1_join_11 : decode cX1_join 11 = .ok (.iload_n 2, 1) := by decide +kernel
theorem dX1_join_12 : decode cX1_join 12 = .ok (.iaload, 1) := by decide +kernel
theorem dX1_join_13 : decode cX1_join 13 = .ok (.istore 4, 2) := by decide +kernel
theorem dX1_join_15 : decode cX1_join 15 = .ok (.iload_n 3, 1) := by decide +kernel
theorem dX1_join_16 : decode cX1_join 16 = .ok (.iload 4, 2) := by decide +kernel
theorem dX1_join_18 : decode cX1_join 18 = .ok (.invokestatic 36, 3) := by decide +kernel
theorem dX1_join_21 : decode cX1_join 21 = .ok (.istore 5, 2) := by decide +kernel
theorem dX1_join_23 : decode cX1_join 23 = .ok (.iconst 0, 1) := by decide +kernel
theorem dX1_join_24 : decode cX1_join 24 = .ok (.istore 6, 2) := by decide +kernel
theorem dX1_join_26 : decode cX1_join 26 = .ok (.iconst 0, 1) := by decide +kernel
theorem dX1_join_27 : decode cX1_join 27 = .ok (.istore 7, 2) := by decide +kernel
theorem dX1_join_29 : decode cX1_join 29 = .ok (.iload 7, 2) := by decide +kernel
theorem dX1_join_31 : decode cX1_join 31 = .ok (.aload_n 0, 1) := by decide +kernel
theorem dX1_join_32 : decode cX1_join 32 = .ok (.getfield 32, 3) := by decide +kernel
theorem dX1_join_35 : decode cX1_join 35 = .ok (.if_icmp .ge (44), 3) := by decide +kernel
theorem dX1_join_38 : decode cX1_join 38 = .ok (.aload_n 0, 1) := by decide +kernel
theorem dX1_join_39 : decode cX1_join 39 = .ok (.getfield 29, 3) := by decide +kernel
theorem dX1_join_42 : decode cX1_join 42 = .ok (.iload 7, 2) := by decide +kernel
theorem dX1_join_44 : decode cX1_join 44 = .ok (.iaload, 1) := by decide +kernel
theorem dX1_join_45 : decode cX1_join 45 = .ok (.iload_n 3, 1) := by decide +kernel
theorem dX1_join_46 : decode cX1_join 46 = .ok (.if_icmp .eq (15), 3) := by decide +kernel
theorem dX1_join_49 : decode cX1_join 49 = .ok (.aload_n 0, 1) := by decide +kernel
theorem dX1_join_50 : decode cX1_join 50 = .ok (.getfield 29, 3) := by decide +kernel
theorem dX1_join_53 : decode cX1_join 53 = .ok (.iload 7, 2) := by decide +kernel
theorem dX1_join_55 : decode cX1_join 55 = .ok (.iaload, 1) := by decide +kernel
theorem dX1_join_56 : decode cX1_join 56 = .ok (.iload 4, 2) := by decide +kernel
theorem dX1_join_58 : decode cX1_join 58 = .ok (.if_icmp .ne (15), 3) := by decide +kernel
theorem dX1_join_61 : decode cX1_join 61 = .ok (.aload_n 0, 1) := by decide +kernel
theorem dX1_join_62 : decode cX1_join 62 = .ok (.getfield 29, 3) := by decide +kernel
theorem dX1_join_65 : decode cX1_join 65 = .ok (.iload 7, 2) := by decide +kernel
theorem dX1_join_67 : decode cX1_join 67 = .ok (.iload 5, 2) := by decide +kernel
theorem dX1_join_69 : decode cX1_join 69 = .ok (.iastore, 1) := by decide +kernel
theorem dX1_join_70 : decode cX1_join 70 = .ok (.iinc 6 1, 3) := by decide +kernel
theorem dX1_join_73 : decode cX1_join 73 = .ok (.iinc 7 1, 3) := by decide +kernel
theorem dX1_join_76 : decode cX1_join 76 = .ok (.goto (-47), 3) := by decide +kernel
theorem dX1_join_79 : decode cX1_join 79 = .ok (.iload 6, 2) := by decide +kernel
theorem dX1_join_81 : decode cX1_join 81 = .ok (.ireturn, 1) := by decide +kernel
abbrev cX2_copyFrom : ByteArray := prog_4_method_2_code
def yX2_copyFrom : MethodName := ⟨RX2, "copyFrom", "(LBoardMoves$Placement;)V"⟩
def wsX2_copyFrom : List Cond := .code yX2_copyFrom cX2_copyFrom 3 none :: bT
theorem dX2_copyFrom_0 : decode cX2_copyFrom 0 = .ok (.iconst 0, 1) := by decide +kernel
theorem dX2_copyFrom_1 : decode cX2_copyFrom 1 = .ok (.istore_n 2, 1) := by decide +kernel
theorem dX2_copyFrom_2 : decode cX2_copyFrom 2 = .ok (.iload_n 2, 1) := by decide +kernel
theorem dX2_copyFrom_3 : decode cX2_copyFrom 3 = .ok (.aload_n 0, 1) := by decide +kernel
theorem dX2_copyFrom_4 : decode cX2_copyFrom 4 = .ok (.getfield 26, 3) := by decide +kernel
theorem dX2_copyFrom_7 : decode cX2_copyFrom 7 = .ok (.getfield 30, 3) := by decide +kernel
theorem dX2_copyFrom_10 : decode cX2_copyFrom 10 = .ok (.if_icmp .ge (57), 3) := by decide +kernel
theorem dX2_copyFrom_13 : decode cX2_copyFrom 13 = .ok (.aload_n 0, 1) := by decide +kernel
theorem dX2_copyFrom_14 : decode cX2_copyFrom 14 = .ok (.getfield 9, 3) := by decide +kernel
theorem dX2_copyFrom_17 : decode cX2_copyFrom 17 = .ok (.iload_n 2, 1) := by decide +kernel
theorem dX2_copyFrom_18 : decode cX2_copyFrom 18 = .ok (.aload_n 1, 1) := by decide +kernel
theorem dX2_copyFrom_19 : decode cX2_copyFrom 19 = .ok (.getfield 9, 3) := by decide +kernel
theorem dX2_copyFrom_22 : decode cX2_copyFrom 22 = .ok (.iload_n 2, 1) := by decide +kernel
theorem dX2_copyFrom_23 : decode cX2_copyFrom 23 = .ok (.laload, 1) := by decide +kernel
theorem dX2_copyFrom_24 : decode cX2_copyFrom 24 = .ok (.lastore, 1) := by decide +kernel
theorem dX2_copyFrom_25 : decode cX2_copyFrom 25 = .ok (.aload_n 0, 1) := by decide +kernel
theorem dX2_copyFrom_26 : decode cX2_copyFrom 26 = .ok (.getfield 15, 3) := by decide +kernel
theorem dX2_copyFrom_29 : decode cX2_copyFrom 29 = .ok (.iload_n 2, 1) := by decide +kernel
theorem dX2_copyFrom_30 : decode cX2_copyFrom 30 = .ok (.aload_n 1, 1) := by decide +kernel
theorem dX2_copyFrom_31 : decode cX2_copyFrom 31 = .ok (.getfield 15, 3) := by decide +kernel
theorem dX2_copyFrom_34 : decode cX2_copyFrom 34 = .ok (.iload_n 2, 1) := by decide +kernel
theorem dX2_copyFrom_35 : decode cX2_copyFrom 35 = .ok (.laload, 1) := by decide +kernel
theorem dX2_copyFrom_36 : decode cX2_copyFrom 36 = .ok (.lastore, 1) := by decide +kernel
theorem dX2_copyFrom_37 : decode cX2_copyFrom 37 = .ok (.aload_n 0, 1) := by decide +kernel
theorem dX2_copyFrom_38 : decode cX2_copyFrom 38 = .ok (.getfield 18, 3) := by decide +kernel
theorem dX2_copyFrom_41 : decode cX2_copyFrom 41 = .ok (.iload_n 2, 1) := by decide +kernel
theorem dX2_copyFrom_42 : decode cX2_copyFrom 42 = .ok (.aload_n 1, 1) := by decide +kernel
theorem dX2_copyFrom_43 : decode cX2_copyFrom 43 = .ok (.getfield 18, 3) := by decide +kernel
theorem dX2_copyFrom_46 : decode cX2_copyFrom 46 = .ok (.iload_n 2, 1) := by decide +kernel
theorem dX2_copyFrom_47 : decode cX2_copyFrom 47 = .ok (.iaload, 1) := by decide +kernel
theorem dX2_copyFrom_48 : decode cX2_copyFrom 48 = .ok (.iastore, 1) := by decide +kernel
theorem dX2_copyFrom_49 : decode cX2_copyFrom 49 = .ok (.aload_n 0, 1) := by decide +kernel
theorem dX2_copyFrom_50 : decode cX2_copyFrom 50 = .ok (.getfield 22, 3) := by decide +kernel
theorem dX2_copyFrom_53 : decode cX2_copyFrom 53 = .ok (.iload_n 2, 1) := by decide +kernel
theorem dX2_copyFrom_54 : decode cX2_copyFrom 54 = .ok (.aload_n 1, 1) := by decide +kernel
theorem dX2_copyFrom_55 : decode cX2_copyFrom 55 = .ok (.getfield 22, 3) := by decide +kernel
theorem dX2_copyFrom_58 : decode cX2_copyFrom 58 = .ok (.iload_n 2, 1) := by decide +kernel
theorem dX2_copyFrom_59 : decode cX2_copyFrom 59 = .ok (.baload, 1) := by decide +kernel
theorem dX2_copyFrom_60 : decode cX2_copyFrom 60 = .ok (.bastore, 1) := by decide +kernel
theorem dX2_copyFrom_61 : decode cX2_copyFrom 61 = .ok (.iinc 2 1, 3) := by decide +kernel
theorem dX2_copyFrom_64 : decode cX2_copyFrom 64 = .ok (.goto (-62), 3) := by decide +kernel
theorem dX2_copyFrom_67 : decode cX2_copyFrom 67 = .ok (.return_, 1) := by decide +kernel
abbrev cX2_differs : ByteArray := prog_4_method_3_code
def yX2_differs : MethodName := ⟨RX2, "differs", "(LBoardMoves$Placement;I)Z"⟩
def wsX2_differs : List Cond := .code yX2_differs cX2_differs 3 (some .boolean) :: bT
theorem dX2_differs_0 : decode cX2_differs 0 = .ok (.aload_n 0, 1) := by decide +kernel
theorem dX2_differs_1 : decode cX2_differs 1 = .ok (.getfield 9, 3) := by decide +kernel
theorem dX2_differs_4 : decode cX2_differs 4 = .ok (.iload_n 2, 1) := by decide +kernel
theorem dX2_differs_5 : decode cX2_differs 5 = .ok (.laload, 1) := by decide +kernel
theorem dX2_differs_6 : decode cX2_differs 6 = .ok (.aload_n 1, 1) := by decide +kernel
theorem dX2_differs_7 : decode cX2_differs 7 = .ok (.getfield 9, 3) := by decide +kernel
theorem dX2_differs_10 : decode cX2_differs 10 = .ok (.iload_n 2, 1) := by decide +kernel
theorem dX2_differs_11 : decode cX2_differs 11 = .ok (.laload, 1) := by decide +kernel
theorem dX2_differs_12 : decode cX2_differs 12 = .ok (.lcmp, 1) := by decide +kernel
theorem dX2_differs_13 : decode cX2_differs 13 = .ok (.ifCond .ne (49), 3) := by decide +kernel
theorem dX2_differs_16 : decode cX2_differs 16 = .ok (.aload_n 0, 1) := by decide +kernel
theorem dX2_differs_17 : decode cX2_differs 17 = .ok (.getfield 15, 3) := by decide +kernel
theorem dX2_differs_20 : decode cX2_differs 20 = .ok (.iload_n 2, 1) := by decide +kernel
theorem dX2_differs_21 : decode cX2_differs 21 = .ok (.laload, 1) := by decide +kernel
theorem dX2_differs_22 : decode cX2_differs 22 = .ok (.aload_n 1, 1) := by decide +kernel
theorem dX2_differs_23 : decode cX2_differs 23 = .ok (.getfield 15, 3) := by decide +kernel
theorem dX2_differs_26 : decode cX2_differs 26 = .ok (.iload_n 2, 1) := by decide +kernel
theorem dX2_differs_27 : decode cX2_differs 27 = .ok (.laload, 1) := by decide +kernel
theorem dX2_differs_28 : decode cX2_differs 28 = .ok (.lcmp, 1) := by decide +kernel
theorem dX2_differs_29 : decode cX2_differs 29 = .ok (.ifCond .ne (33), 3) := by decide +kernel
theorem dX2_differs_32 : decode cX2_differs 32 = .ok (.aload_n 0, 1) := by decide +kernel
theorem dX2_differs_33 : decode cX2_differs 33 = .ok (.getfield 18, 3) := by decide +kernel
theorem dX2_differs_36 : decode cX2_differs 36 = .ok (.iload_n 2, 1) := by decide +kernel
theorem dX2_differs_37 : decode cX2_differs 37 = .ok (.iaload, 1) := by decide +kernel
theorem dX2_differs_38 : decode cX2_differs 38 = .ok (.aload_n 1, 1) := by decide +kernel
theorem dX2_differs_39 : decode cX2_differs 39 = .ok (.getfield 18, 3) := by decide +kernel
theorem dX2_differs_42 : decode cX2_differs 42 = .ok (.iload_n 2, 1) := by decide +kernel
theorem dX2_differs_43 : decode cX2_differs 43 = .ok (.iaload, 1) := by decide +kernel
theorem dX2_differs_44 : decode cX2_differs 44 = .ok (.if_icmp .ne (18), 3) := by decide +kernel
theorem dX2_differs_47 : decode cX2_differs 47 = .ok (.aload_n 0, 1) := by decide +kernel
theorem dX2_differs_48 : decode cX2_differs 48 = .ok (.getfield 22, 3) := by decide +kernel
theorem dX2_differs_51 : decode cX2_differs 51 = .ok (.iload_n 2, 1) := by decide +kernel
theorem dX2_differs_52 : decode cX2_differs 52 = .ok (.baload, 1) := by decide +kernel
theorem dX2_differs_53 : decode cX2_differs 53 = .ok (.aload_n 1, 1) := by decide +kernel
theorem dX2_differs_54 : decode cX2_differs 54 = .ok (.getfield 22, 3) := by decide +kernel
theorem dX2_differs_57 : decode cX2_differs 57 = .ok (.iload_n 2, 1) := by decide +kernel
theorem dX2_differs_58 : decode cX2_differs 58 = .ok (.baload, 1) := by decide +kernel
theorem dX2_differs_59 : decode cX2_differs 59 = .ok (.if_icmp .eq (7), 3) := by decide +kernel
theorem dX2_differs_62 : decode cX2_differs 62 = .ok (.iconst 1, 1) := by decide +kernel
theorem dX2_differs_63 : decode cX2_differs 63 = .ok (.goto (4), 3) := by decide +kernel
theorem dX2_differs_66 : decode cX2_differs 66 = .ok (.iconst 0, 1) := by decide +kernel
theorem dX2_differs_67 : decode cX2_differs 67 = .ok (.ireturn, 1) := by decide +kernel
abbrev cX2_place : ByteArray := prog_4_method_4_code
def yX2_place : MethodName := ⟨RX2, "place", "(IJJI)V"⟩
def wsX2_place : List Cond := .code yX2_place cX2_place 7 none :: bT
theorem dX2_place_0 : decode cX2_place 0 = .ok (.aload_n 0, 1) := by decide +kernel
theorem dX2_place_1 : decode cX2_place 1 = .ok (.getfield 9, 3) := by decide +kernel
theorem dX2_place_4 : decode cX2_place 4 = .ok (.iload_n 1, 1) := by decide +kernel
theorem dX2_place_5 : decode cX2_place 5 = .ok (.lload_n 2, 1) := by decide +kernel
theorem dX2_place_6 : decode cX2_place 6 = .ok (.lastore, 1) := by decide +kernel
theorem dX2_place_7 : decode cX2_place 7 = .ok (.aload_n 0, 1) := by decide +kernel
theorem dX2_place_8 : decode cX2_place 8 = .ok (.getfield 15, 3) := by decide +kernel
theorem dX2_place_11 : decode cX2_place 11 = .ok (.iload_n 1, 1) := by decide +kernel
theorem dX2_place_12 : decode cX2_place 12 = .ok (.lload 4, 2) := by decide +kernel
theorem dX2_place_14 : decode cX2_place 14 = .ok (.lastore, 1) := by decide +kernel
theorem dX2_place_15 : decode cX2_place 15 = .ok (.aload_n 0, 1) := by decide +kernel
theorem dX2_place_16 : decode cX2_place 16 = .ok (.getfield 18, 3) := by decide +kernel
theorem dX2_place_19 : decode cX2_place 19 = .ok (.iload_n 1, 1) := by decide +kernel
theorem dX2_place_20 : decode cX2_place 20 = .ok (.iload 6, 2) := by decide +kernel
theorem dX2_place_22 : decode cX2_place 22 = .ok (.iastore, 1) := by decide +kernel
theorem dX2_place_23 : decode cX2_place 23 = .ok (.aload_n 0, 1) := by decide +kernel
theorem dX2_place_24 : decode cX2_place 24 = .ok (.getfield 22, 3) := by decide +kernel
theorem dX2_place_27 : decode cX2_place 27 = .ok (.iload_n 1, 1) := by decide +kernel
theorem dX2_place_28 : decode cX2_place 28 = .ok (.iconst 1, 1) := by decide +kernel
theorem dX2_place_29 : decode cX2_place 29 = .ok (.bastore, 1) := by decide +kernel
theorem dX2_place_30 : decode cX2_place 30 = .ok (.return_, 1) := by decide +kernel
abbrev cX2_shiftGroup : ByteArray := prog_4_method_5_code
def yX2_shiftGroup : MethodName := ⟨RX2, "shiftGroup", "(IJJ)V"⟩
def wsX2_shiftGroup : List Cond := .code yX2_shiftGroup cX2_shiftGroup 7 none :: bT
theorem dX2_shiftGroup_0 : decode cX2_shiftGroup 0 = .ok (.iconst 0, 1) := by decide +kernel
theorem dX2_shiftGroup_1 : decode cX2_shiftGroup 1 = .ok (.istore 6, 2) := by decide +kernel
theorem dX2_shiftGroup_3 : decode cX2_shiftGroup 3 = .ok (.iload 6, 2) := by decide +kernel
theorem dX2_shiftGroup_5 : decode cX2_shiftGroup 5 = .ok (.aload_n 0, 1) := by decide +kernel
theorem dX2_shiftGroup_6 : decode cX2_shiftGroup 6 = .ok (.getfield 26, 3) := by decide +kernel
theorem dX2_shiftGroup_9 : decode cX2_shiftGroup 9 = .ok (.getfield 30, 3) := by decide +kernel
theorem dX2_shiftGroup_12 : decode cX2_shiftGroup 12 = .ok (.if_icmp .ge (55), 3) := by decide +kernel
theorem dX2_shiftGroup_15 : decode cX2_shiftGroup 15 = .ok (.aload_n 0, 1) := by decide +kernel
theorem dX2_shiftGroup_16 : decode cX2_shiftGroup 16 = .ok (.getfield 22, 3) := by decide +kernel
theorem dX2_shiftGroup_19 : decode cX2_shiftGroup 19 = .ok (.iload 6, 2) := by decide +kernel
theorem dX2_shiftGroup_21 : decode cX2_shiftGroup 21 = .ok (.baload, 1) := by decide +kernel
theorem dX2_shiftGroup_22 : decode cX2_shiftGroup 22 = .ok (.ifCond .eq (39), 3) := by decide +kernel
theorem dX2_shiftGroup_25 : decode cX2_shiftGroup 25 = .ok (.aload_n 0, 1) := by decide +kernel
theorem dX2_shiftGroup_26 : decode cX2_shiftGroup 26 = .ok (.getfield 26, 3) := by decide +kernel
theorem dX2_shiftGroup_29 : decode cX2_shiftGroup 29 = .ok (.iload 6, 2) := by decide +kernel
theorem dX2_shiftGroup_31 : decode cX2_shiftGroup 31 = .ok (.iload_n 1, 1) := by decide +kernel
theorem dX2_shiftGroup_32 : decode cX2_shiftGroup 32 = .ok (.invokevirtual 36, 3) := by decide +kernel
theorem dX2_shiftGroup_35 : decode cX2_shiftGroup 35 = .ok (.ifCond .eq (26), 3) := by decide +kernel
theorem dX2_shiftGroup_38 : decode cX2_shiftGroup 38 = .ok (.aload_n 0, 1) := by decide +kernel
theorem dX2_shiftGroup_39 : decode cX2_shiftGroup 39 = .ok (.getfield 9, 3) := by decide +kernel
theorem dX2_shiftGroup_42 : decode cX2_shiftGroup 42 = .ok (.iload 6, 2) := by decide +kernel
theorem dX2_shiftGroup_44 : decode cX2_shiftGroup 44 = .ok (.dup2, 1) := by decide +kernel
theorem dX2_shiftGroup_45 : decode cX2_shiftGroup 45 = .ok (.laload, 1) := by decide +kernel
theorem dX2_shiftGroup_46 : decode cX2_shiftGroup 46 = .ok (.lload_n 2, 1) := by decide +kernel
theorem dX2_shiftGroup_47 : decode cX2_shiftGroup 47 = .ok (.ladd, 1) := by decide +kernel
theorem dX2_shiftGroup_48 : decode cX2_shiftGroup 48 = .ok (.lastore, 1) := by decide +kernel
theorem dX2_shiftGroup_49 : decode cX2_shiftGroup 49 = .ok (.aload_n 0, 1) := by decide +kernel
theorem dX2_shiftGroup_50 : decode cX2_shiftGroup 50 = .ok (.getfield 15, 3) := by decide +kernel
theorem dX2_shiftGroup_53 : decode cX2_shiftGroup 53 = .ok (.iload 6, 2) := by decide +kernel
theorem dX2_shiftGroup_55 : decode cX2_shiftGroup 55 = .ok (.dup2, 1) := by decide +kernel
theorem dX2_shiftGroup_56 : decode cX2_shiftGroup 56 = .ok (.laload, 1) := by decide +kernel
theorem dX2_shiftGroup_57 : decode cX2_shiftGroup 57 = .ok (.lload 4, 2) := by decide +kernel
theorem dX2_shiftGroup_59 : decode cX2_shiftGroup 59 = .ok (.ladd, 1) := by decide +kernel
theorem dX2_shiftGroup_60 : decode cX2_shiftGroup 60 = .ok (.lastore, 1) := by decide +kernel
theorem dX2_shiftGroup_61 : decode cX2_shiftGroup 61 = .ok (.iinc 6 1, 3) := by decide +kernel
theorem dX2_shiftGroup_64 : decode cX2_shiftGroup 64 = .ok (.goto (-61), 3) := by decide +kernel
theorem dX2_shiftGroup_67 : decode cX2_shiftGroup 67 = .ok (.return_, 1) := by decide +kernel
abbrev cX2_hasPlacedMate : ByteArray := prog_4_method_6_code
def yX2_hasPlacedMate : MethodName := ⟨RX2, "hasPlacedMate", "(I)Z"⟩
def wsX2_hasPlacedMate : List Cond := .code yX2_hasPlacedMate cX2_hasPlacedMate 3 (some .boolean) :: bT
theorem dX2_hasPlacedMate_0 : decode cX2_hasPlacedMate 0 = .ok (.iconst 0, 1) := by decide +kernel
theorem dX2_hasPlacedMate_1 : decode cX2_hasPlacedMate 1 = .ok (.istore_n 2, 1) := by decide +kernel
theorem dX2_hasPlacedMate_2 : decode cX2_hasPlacedMate 2 = .ok (.iload_n 2, 1) := by decide +kernel
theorem dX2_hasPlacedMate_3 : decode cX2_hasPlacedMate 3 = .ok (.aload_n 0, 1) := by decide +kernel
theorem dX2_hasPlacedMate_4 : decode cX2_hasPlacedMate 4 = .ok (.getfield 26, 3) := by decide +kernel
theorem dX2_hasPlacedMate_7 : decode cX2_hasPlacedMate 7 = .ok (.getfield 30, 3) := by decide +kernel
theorem dX2_hasPlacedMate_10 : decode cX2_hasPlacedMate 10 = .ok (.if_icmp .ge (37), 3) := by decide +kernel
theorem dX2_hasPlacedMate_13 : decode cX2_hasPlacedMate 13 = .ok (.iload_n 2, 1) := by decide +kernel
theorem dX2_hasPlacedMate_14 : decode cX2_hasPlacedMate 14 = .ok (.iload_n 1, 1) := by decide +kernel
theorem dX2_hasPlacedMate_15 : decode cX2_hasPlacedMate 15 = .ok (.if_icmp .eq (26), 3) := by decide +kernel
theorem dX2_hasPlacedMate_18 : decode cX2_hasPlacedMate 18 = .ok (.aload_n 0, 1) := by decide +kernel
theorem dX2_hasPlacedMate_19 : decode cX2_hasPlacedMate 19 = .ok (.getfield 22, 3) := by decide +kernel
theorem dX2_hasPlacedMate_22 : decode cX2_hasPlacedMate 22 = .ok (.iload_n 2, 1) := by decide +kernel
theorem dX2_hasPlacedMate_23 : decode cX2_hasPlacedMate 23 = .ok (.baload, 1) := by decide +kernel
theorem dX2_hasPlacedMate_24 : decode cX2_hasPlacedMate 24 = .ok (.ifCond .eq (17), 3) := by decide +kernel
theorem dX2_hasPlacedMate_27 : decode cX2_hasPlacedMate 27 = .ok (.aload_n 0, 1) := by decide +kernel
theorem dX2_hasPlacedMate_28 : decode cX2_hasPlacedMate 28 = .ok (.getfield 26, 3) := by decide +kernel
theorem dX2_hasPlacedMate_31 : decode cX2_hasPlacedMate 31 = .ok (.iload_n 2, 1) := by decide +kernel
theorem dX2_hasPlacedMate_32 : decode cX2_hasPlacedMate 32 = .ok (.iload_n 1, 1) := by decide +kernel
theorem dX2_hasPlacedMate_33 : decode cX2_hasPlacedMate 33 = .ok (.invokevirtual 36, 3) := by decide +kernel
theorem dX2_hasPlacedMate_36 : decode cX2_hasPlacedMate 36 = .ok (.ifCond .eq (5), 3) := by decide +kernel
theorem dX2_hasPlacedMate_39 : decode cX2_hasPlacedMate 39 = .ok (.iconst 1, 1) := by decide +kernel
theorem dX2_hasPlacedMate_40 : decode cX2_hasPlacedMate 40 = .ok (.ireturn, 1) := by decide +kernel
theorem dX2_hasPlacedMate_41 : decode cX2_hasPlacedMate 41 = .ok (.iinc 2 1, 3) := by decide +kernel
theorem dX2_hasPlacedMate_44 : decode cX2_hasPlacedMate 44 = .ok (.goto (-42), 3) := by decide +kernel
theorem dX2_hasPlacedMate_47 : decode cX2_hasPlacedMate 47 = .ok (.iconst 0, 1) := by decide +kernel
theorem dX2_hasPlacedMate_48 : decode cX2_hasPlacedMate 48 = .ok (.ireturn, 1) := by decide +kernel
abbrev cX2_endX : ByteArray := prog_4_method_7_code
def yX2_endX : MethodName := ⟨RX2, "endX", "(I)J"⟩
def wsX2_endX : List Cond := .code yX2_endX cX2_endX 2 (some .long) :: bT
theorem dX2_endX_0 : decode cX2_endX 0 = .ok (.aload_n 0, 1) := by decide +kernel
theorem dX2_endX_1 : decode cX2_endX 1 = .ok (.getfield 9, 3) := by decide +kernel
theorem dX2_endX_4 : decode cX2_endX 4 = .ok (.iload_n 1, 1) := by decide +kernel
theorem dX2_endX_5 : decode cX2_endX 5 = .ok (.laload, 1) := by decide +kernel
theorem dX2_endX_6 : decode cX2_endX 6 = .ok (.aload_n 0, 1) := by decide +kernel
theorem dX2_endX_7 : decode cX2_endX 7 = .ok (.getfield 18, 3) := by decide +kernel
theorem dX2_endX_10 : decode cX2_endX 10 = .ok (.iload_n 1, 1) := by decide +kernel
theorem dX2_endX_11 : decode cX2_endX 11 = .ok (.iaload, 1) := by decide +kernel
theorem dX2_endX_12 : decode cX2_endX 12 = .ok (.iconst 2, 1) := by decide +kernel
theorem dX2_endX_13 : decode cX2_endX 13 = .ok (.irem, 1) := by decide +kernel
theorem dX2_endX_14 : decode cX2_endX 14 = .ok (.ifCond .ne (15), 3) := by decide +kernel
theorem dX2_endX_17 : decode cX2_endX 17 = .ok (.aload_n 0, 1) := by decide +kernel
theorem dX2_endX_18 : decode cX2_endX 18 = .ok (.getfield 26, 3) := by decide +kernel
theorem dX2_endX_21 : decode cX2_endX 21 = .ok (.getfield 40, 3) := by decide +kernel
theorem dX2_endX_24 : decode cX2_endX 24 = .ok (.iload_n 1, 1) := by decide +kernel
theorem dX2_endX_25 : decode cX2_endX 25 = .ok (.laload, 1) := by decide +kernel
theorem dX2_endX_26 : decode cX2_endX 26 = .ok (.goto (12), 3) := by decide +kernel
theorem dX2_endX_29 : decode cX2_endX 29 = .ok (.aload_n 0, 1) := by decide +kernel
theorem dX2_endX_30 : decode cX2_endX 30 = .ok (.getfield 26, 3) := by decide +kernel
theorem dX2_endX_33 : decode cX2_endX 33 = .ok (.getfield 43, 3) := by decide +kernel
theorem dX2_endX_36 : decode cX2_endX 36 = .ok (.iload_n 1, 1) := by decide +kernel
theorem dX2_endX_37 : decode cX2_endX 37 = .ok (.laload, 1) := by decide +kernel
theorem dX2_endX_38 : decode cX2_endX 38 = .ok (.ladd, 1) := by decide +kernel
theorem dX2_endX_39 : decode cX2_endX 39 = .ok (.lreturn, 1) := by decide +kernel
abbrev cX2_endY : ByteArray := prog_4_method_8_code
def yX2_endY : MethodName := ⟨RX2, "endY", "(I)J"⟩
def wsX2_endY : List Cond := .code yX2_endY cX2_endY 2 (some .long) :: bT
theorem dX2_endY_0 : decode cX2_endY 0 = .ok (.aload_n 0, 1) := by decide +kernel
theorem dX2_endY_1 : decode cX2_endY 1 = .ok (.getfield 15, 3) := by decide +kernel
theorem dX2_endY_4 : decode cX2_endY 4 = .ok (.iload_n 1, 1) := by decide +kernel
theorem dX2_endY_5 : decode cX2_endY 5 = .ok (.laload, 1) := by decide +kernel
theorem dX2_endY_6 : decode cX2_endY 6 = .ok (.aload_n 0, 1) := by decide +kernel
theorem dX2_endY_7 : decode cX2_endY 7 = .ok (.getfield 18, 3) := by decide +kernel
theorem dX2_endY_10 : decode cX2_endY 10 = .ok (.iload_n 1, 1) := by decide +kernel
theorem dX2_endY_11 : decode cX2_endY 11 = .ok (.iaload, 1) := by decide +kernel
theorem dX2_endY_12 : decode cX2_endY 12 = .ok (.iconst 2, 1) := by decide +kernel
theorem dX2_endY_13 : decode cX2_endY 13 = .ok (.irem, 1) := by decide +kernel
theorem dX2_endY_14 : decode cX2_endY 14 = .ok (.ifCond .ne (15), 3) := by decide +kernel
theorem dX2_endY_17 : decode cX2_endY 17 = .ok (.aload_n 0, 1) := by decide +kernel
theorem dX2_endY_18 : decode cX2_endY 18 = .ok (.getfield 26, 3) := by decide +kernel
theorem dX2_endY_21 : decode cX2_endY 21 = .ok (.getfield 43, 3) := by decide +kernel
theorem dX2_endY_24 : decode cX2_endY 24 = .ok (.iload_n 1, 1) := by decide +kernel
theorem dX2_endY_25 : decode cX2_endY 25 = .ok (.laload, 1) := by decide +kernel
theorem dX2_endY_26 : decode cX2_endY 26 = .ok (.goto (12), 3) := by decide +kernel
theorem dX2_endY_29 : decode cX2_endY 29 = .ok (.aload_n 0, 1) := by decide +kernel
theorem dX2_endY_30 : decode cX2_endY 30 = .ok (.getfield 26, 3) := by decide +kernel
theorem dX2_endY_33 : decode cX2_endY 33 = .ok (.getfield 40, 3) := by decide +kernel
theorem dX2_endY_36 : decode cX2_endY 36 = .ok (.iload_n 1, 1) := by decide +kernel
theorem dX2_endY_37 : decode cX2_endY 37 = .ok (.laload, 1) := by decide +kernel
theorem dX2_endY_38 : decode cX2_endY 38 = .ok (.ladd, 1) := by decide +kernel
theorem dX2_endY_39 : decode cX2_endY 39 = .ok (.lreturn, 1) := by decide +kernel
abbrev cX2_meetsArea : ByteArray := prog_4_method_9_code
def yX2_meetsArea : MethodName := ⟨RX2, "meetsArea", "(IJJJJ)Z"⟩
def wsX2_meetsArea : List Cond := .code yX2_meetsArea cX2_meetsArea 10 (some .boolean) :: bT
theorem dX2_meetsArea_0 : decode cX2_meetsArea 0 = .ok (.aload_n 0, 1) := by decide +kernel
theorem dX2_meetsArea_1 : decode cX2_meetsArea 1 = .ok (.getfield 22, 3) := by decide +kernel
theorem dX2_meetsArea_4 : decode cX2_meetsArea 4 = .ok (.iload_n 1, 1) := by decide +kernel
theorem dX2_meetsArea_5 : decode cX2_meetsArea 5 = .ok (.baload, 1) := by decide +kernel
theorem dX2_meetsArea_6 : decode cX2_meetsArea 6 = .ok (.ifCond .eq (52), 3) := by decide +kernel
theorem dX2_meetsArea_9 : decode cX2_meetsArea 9 = .ok (.aload_n 0, 1) := by decide +kernel
theorem dX2_meetsArea_10 : decode cX2_meetsArea 10 = .ok (.getfield 9, 3) := by decide +kernel
theorem dX2_meetsArea_13 : decode cX2_meetsArea 13 = .ok (.iload_n 1, 1) := by decide +kernel
theorem dX2_meetsArea_14 : decode cX2_meetsArea 14 = .ok (.laload, 1) := by decide +kernel
theorem dX2_meetsArea_15 : decode cX2_meetsArea 15 = .ok (.lload 6, 2) := by decide +kernel
theorem dX2_meetsArea_17 : decode cX2_meetsArea 17 = .ok (.lcmp, 1) := by decide +kernel
theorem dX2_meetsArea_18 : decode cX2_meetsArea 18 = .ok (.ifCond .ge (40), 3) := by decide +kernel
theorem dX2_meetsArea_21 : decode cX2_meetsArea 21 = .ok (.lload_n 2, 1) := by decide +kernel
theorem dX2_meetsArea_22 : decode cX2_meetsArea 22 = .ok (.aload_n 0, 1) := by decide +kernel
theorem dX2_meetsArea_23 : decode cX2_meetsArea 23 = .ok (.iload_n 1, 1) := by decide +kernel
theorem dX2_meetsArea_24 : decode cX2_meetsArea 24 = .ok (.invokevirtual 46, 3) := by decide +kernel
theorem dX2_meetsArea_27 : decode cX2_meetsArea 27 = .ok (.lcmp, 1) := by decide +kernel
theorem dX2_meetsArea_28 : decode cX2_meetsArea 28 = .ok (.ifCond .ge (30), 3) := by decide +kernel
theorem dX2_meetsArea_31 : decode cX2_meetsArea 31 = .ok (.aload_n 0, 1) := by decide +kernel
theorem dX2_meetsArea_32 : decode cX2_meetsArea 32 = .ok (.getfield 15, 3) := by decide +kernel
theorem dX2_meetsArea_35 : decode cX2_meetsArea 35 = .ok (.iload_n 1, 1) := by decide +kernel
theorem dX2_meetsArea_36 : decode cX2_meetsArea 36 = .ok (.laload, 1) := by decide +kernel
theorem dX2_meetsArea_37 : decode cX2_meetsArea 37 = .ok (.lload 8, 2) := by decide +kernel
theorem dX2_meetsArea_39 : decode cX2_meetsArea 39 = .ok (.lcmp, 1) := by decide +kernel
theorem dX2_meetsArea_40 : decode cX2_meetsArea 40 = .ok (.ifCond .ge (18), 3) := by decide +kernel
theorem dX2_meetsArea_43 : decode cX2_meetsArea 43 = .ok (.lload 4, 2) := by decide +kernel
theorem dX2_meetsArea_45 : decode cX2_meetsArea 45 = .ok (.aload_n 0, 1) := by decide +kernel
theorem dX2_meetsArea_46 : decode cX2_meetsArea 46 = .ok (.iload_n 1, 1) := by decide +kernel
theorem dX2_meetsArea_47 : decode cX2_meetsArea 47 = .ok (.invokevirtual 50, 3) := by decide +kernel
theorem dX2_meetsArea_50 : decode cX2_meetsArea 50 = .ok (.lcmp, 1) := by decide +kernel
theorem dX2_meetsArea_51 : decode cX2_meetsArea 51 = .ok (.ifCond .ge (7), 3) := by decide +kernel
theorem dX2_meetsArea_54 : decode cX2_meetsArea 54 = .ok (.iconst 1, 1) := by decide +kernel
theorem dX2_meetsArea_55 : decode cX2_meetsArea 55 = .ok (.goto (4), 3) := by decide +kernel
theorem dX2_meetsArea_58 : decode cX2_meetsArea 58 = .ok (.iconst 0, 1) := by decide +kernel
theorem dX2_meetsArea_59 : decode cX2_meetsArea 59 = .ok (.ireturn, 1) := by decide +kernel
abbrev cX2_overlapped : ByteArray := prog_4_method_10_code
def yX2_overlapped : MethodName := ⟨RX2, "overlapped", "(II)I"⟩
def wsX2_overlapped : List Cond := .code yX2_overlapped cX2_overlapped 8 (some .int) :: bT
theorem dX2_overlapped_0 : decode cX2_overlapped 0 = .ok (.aload_n 0, 1) := by decide +kernel
theorem dX2_overlapped_1 : decode cX2_overlapped 1 = .ok (.iload_n 1, 1) := by decide +kernel
theorem dX2_overlapped_2 : decode cX2_overlapped 2 = .ok (.invokevirtual 46, 3) := by decide +kernel
theorem dX2_overlapped_5 : decode cX2_overlapped 5 = .ok (.lstore_n 3, 1) := by decide +kernel
theorem dX2_overlapped_6 : decode cX2_overlapped 6 = .ok (.aload_n 0, 1) := by decide +kernel
theorem dX2_overlapped_7 : decode cX2_overlapped 7 = .ok (.iload_n 1, 1) := by decide +kernel
theorem dX2_overlapped_8 : decode cX2_overlapped 8 = .ok (.invokevirtual 50, 3) := by decide +kernel
theorem dX2_overlapped_11 : decode cX2_overlapped 11 = .ok (.lstore 5, 2) := by decide +kernel
theorem dX2_overlapped_13 : decode cX2_overlapped 13 = .ok (.iload_n 2, 1) := by decide +kernel
theorem dX2_overlapped_14 : decode cX2_overlapped 14 = .ok (.istore 7, 2) := by decide +kernel
theorem dX2_overlapped_16 : decode cX2_overlapped 16 = .ok (.iload 7, 2) := by decide +kernel
theorem dX2_overlapped_18 : decode cX2_overlapped 18 = .ok (.aload_n 0, 1) := by decide +kernel
theorem dX2_overlapped_19 : decode cX2_overlapped 19 = .ok (.getfield 26, 3) := by decide +kernel
theorem dX2_overlapped_22 : decode cX2_overlapped 22 = .ok (.getfield 30, 3) := by decide +kernel
theorem dX2_overlapped_25 : decode cX2_overlapped 25 = .ok (.if_icmp .ge (64), 3) := by decide +kernel
theorem dX2_overlapped_28 : decode cX2_overlapped 28 = .ok (.iload 7, 2) := by decide +kernel
theorem dX2_overlapped_30 : decode cX2_overlapped 30 = .ok (.iload_n 1, 1) := by decide +kernel
theorem dX2_overlapped_31 : decode cX2_overlapped 31 = .ok (.if_icmp .eq (52), 3) := by decide +kernel
theorem dX2_overlapped_34 : decode cX2_overlapped 34 = .ok (.aload_n 0, 1) := by decide +kernel
theorem dX2_overlapped_35 : decode cX2_overlapped 35 = .ok (.getfield 26, 3) := by decide +kernel
theorem dX2_overlapped_38 : decode cX2_overlapped 38 = .ok (.getfield 53, 3) := by decide +kernel
theorem dX2_overlapped_41 : decode cX2_overlapped 41 = .ok (.iload 7, 2) := by decide +kernel
theorem dX2_overlapped_43 : decode cX2_overlapped 43 = .ok (.iaload, 1) := by decide +kernel
theorem dX2_overlapped_44 : decode cX2_overlapped 44 = .ok (.aload_n 0, 1) := by decide +kernel
theorem dX2_overlapped_45 : decode cX2_overlapped 45 = .ok (.getfield 26, 3) := by decide +kernel
theorem dX2_overlapped_48 : decode cX2_overlapped 48 = .ok (.getfield 53, 3) := by decide +kernel
theorem dX2_overlapped_51 : decode cX2_overlapped 51 = .ok (.iload_n 1, 1) := by decide +kernel
theorem dX2_overlapped_52 : decode cX2_overlapped 52 = .ok (.iaload, 1) := by decide +kernel
theorem dX2_overlapped_53 : decode cX2_overlapped 53 = .ok (.if_icmp .ne (30), 3) := by decide +kernel
theorem dX2_overlapped_56 : decode cX2_overlapped 56 = .ok (.aload_n 0, 1) := by decide +kernel
theorem dX2_overlapped_57 : decode cX2_overlapped 57 = .ok (.iload 7, 2) := by decide +kernel
theorem dX2_overlapped_59 : decode cX2_overlapped 59 = .ok (.aload_n 0, 1) := by decide +kernel
theorem dX2_overlapped_60 : decode cX2_overlapped 60 = .ok (.getfield 9, 3) := by decide +kernel
theorem dX2_overlapped_63 : decode cX2_overlapped 63 = .ok (.iload_n 1, 1) := by decide +kernel
theorem dX2_overlapped_64 : decode cX2_overlapped 64 = .ok (.laload, 1) := by decide +kernel
theorem dX2_overlapped_65 : decode cX2_overlapped 65 = .ok (.aload_n 0, 1) := by decide +kernel
theorem dX2_overlapped_66 : decode cX2_overlapped 66 = .ok (.getfield 15, 3) := by decide +kernel
theorem dX2_overlapped_69 : decode cX2_overlapped 69 = .ok (.iload_n 1, 1) := by decide +kernel
theorem dX2_overlapped_70 : decode cX2_overlapped 70 = .ok (.laload, 1) := by decide +kernel
theorem dX2_overlapped_71 : decode cX2_overlapped 71 = .ok (.lload_n 3, 1) := by decide +kernel
theorem dX2_overlapped_72 : decode cX2_overlapped 72 = .ok (.lload 5, 2) := by decide +kernel
theorem dX2_overlapped_74 : decode cX2_overlapped 74 = .ok (.invokevirtual 56, 3) := by decide +kernel
theorem dX2_overlapped_77 : decode cX2_overlapped 77 = .ok (.ifCond .eq (6), 3) := by decide +kernel
theorem dX2_overlapped_80 : decode cX2_overlapped 80 = .ok (.iload 7, 2) := by decide +kernel
theorem dX2_overlapped_82 : decode cX2_overlapped 82 = .ok (.ireturn, 1) := by decide +kernel
theorem dX2_overlapped_83 : decode cX2_overlapped 83 = .ok (.iinc 7 1, 3) := by decide +kernel
theorem dX2_overlapped_86 : decode cX2_overlapped 86 = .ok (.goto (-70), 3) := by decide +kernel
theorem dX2_overlapped_89 : decode cX2_overlapped 89 = .ok (.iconst (-1), 1) := by decide +kernel
theorem dX2_overlapped_90 : decode cX2_overlapped 90 = .ok (.ireturn, 1) := by decide +kernel
abbrev cX2_firstOverlapping : ByteArray := prog_4_method_11_code
def yX2_firstOverlapping : MethodName := ⟨RX2, "firstOverlapping", "()I"⟩
def wsX2_firstOverlapping : List Cond := .code yX2_firstOverlapping cX2_firstOverlapping 2 (some .int) :: bT
theorem dX2_firstOverlapping_0 : decode cX2_firstOverlapping 0 = .ok (.iconst 0, 1) := by decide +kernel
theorem dX2_firstOverlapping_1 : decode cX2_firstOverlapping 1 = .ok (.istore_n 1, 1) := by decide +kernel
theorem dX2_firstOverlapping_2 : decode cX2_firstOverlapping 2 = .ok (.iload_n 1, 1) := by decide +kernel
theorem dX2_firstOverlapping_3 : decode cX2_firstOverlapping 3 = .ok (.aload_n 0, 1) := by decide +kernel
theorem dX2_firstOverlapping_4 : decode cX2_firstOverlapping 4 = .ok (.getfield 26, 3) := by decide +kernel
theorem dX2_firstOverlapping_7 : decode cX2_firstOverlapping 7 = .ok (.getfield 30, 3) := by decide +kernel
theorem dX2_firstOverlapping_10 : decode cX2_firstOverlapping 10 = .ok (.if_icmp .ge (32), 3) := by decide +kernel
theorem dX2_firstOverlapping_13 : decode cX2_firstOverlapping 13 = .ok (.aload_n 0, 1) := by decide +kernel
theorem dX2_firstOverlapping_14 : decode cX2_firstOverlapping 14 = .ok (.getfield 22, 3) := by decide +kernel
theorem dX2_firstOverlapping_17 : decode cX2_firstOverlapping 17 = .ok (.iload_n 1, 1) := by decide +kernel
theorem dX2_firstOverlapping_18 : decode cX2_firstOverlapping 18 = .ok (.baload, 1) := by decide +kernel
theorem dX2_firstOverlapping_19 : decode cX2_firstOverlapping 19 = .ok (.ifCond .eq (17), 3) := by decide +kernel
theorem dX2_firstOverlapping_22 : decode cX2_firstOverlapping 22 = .ok (.aload_n 0, 1) := by decide +kernel
theorem dX2_firstOverlapping_23 : decode cX2_firstOverlapping 23 = .ok (.iload_n 1, 1) := by decide +kernel
theorem dX2_firstOverlapping_24 : decode cX2_firstOverlapping 24 = .ok (.iload_n 1, 1) := by decide +kernel
theorem dX2_firstOverlapping_25 : decode cX2_firstOverlapping 25 = .ok (.iconst 1, 1) := by decide +kernel
theorem dX2_firstOverlapping_26 : decode cX2_firstOverlapping 26 = .ok (.iadd, 1) := by decide +kernel
theorem dX2_firstOverlapping_27 : decode cX2_firstOverlapping 27 = .ok (.invokevirtual 60, 3) := by decide +kernel
theorem dX2_firstOverlapping_30 : decode cX2_firstOverlapping 30 = .ok (.iconst (-1), 1) := by decide +kernel
theorem dX2_firstOverlapping_31 : decode cX2_firstOverlapping 31 = .ok (.if_icmp .eq (5), 3) := by decide +kernel
theorem dX2_firstOverlapping_34 : decode cX2_firstOverlapping 34 = .ok (.iload_n 1, 1) := by decide +kernel
theorem dX2_firstOverlapping_35 : decode cX2_firstOverlapping 35 = .ok (.ireturn, 1) := by decide +kernel
theorem dX2_firstOverlapping_36 : decode cX2_firstOverlapping 36 = .ok (.iinc 1 1, 3) := by decide +kernel
theorem dX2_firstOverlapping_39 : decode cX2_firstOverlapping 39 = .ok (.goto (-37), 3) := by decide +kernel
theorem dX2_firstOverlapping_42 : decode cX2_firstOverlapping 42 = .ok (.iconst (-1), 1) := by decide +kernel
theorem dX2_firstOverlapping_43 : decode cX2_firstOverlapping 43 = .ok (.ireturn, 1) := by decide +kernel
abbrev cX2_wayToBorder : ByteArray := prog_4_method_12_code
def yX2_wayToBorder : MethodName := ⟨RX2, "wayToBorder", "(IIZZ)J"⟩
def wsX2_wayToBorder : List Cond := .code yX2_wayToBorder cX2_wayToBorder 5 (some .long) :: bT
theorem dX2_wayToBorder_0 : decode cX2_wayToBorder 0 = .ok (.iload_n 3, 1) := by decide +kernel
theorem dX2_wayToBorder_1 : decode cX2_wayToBorder 1 = .ok (.ifCond .eq (36), 3) := by decide +kernel
theorem dX2_wayToBorder_4 : decode cX2_wayToBorder 4 = .ok (.iload 4, 2) := by decide +kernel
theorem dX2_wayToBorder_6 : decode cX2_wayToBorder 6 = .ok (.ifCond .eq (18), 3) := by decide +kernel
theorem dX2_wayToBorder_9 : decode cX2_wayToBorder 9 = .ok (.aload_n 0, 1) := by decide +kernel
theorem dX2_wayToBorder_10 : decode cX2_wayToBorder 10 = .ok (.iload_n 2, 1) := by decide +kernel
theorem dX2_wayToBorder_11 : decode cX2_wayToBorder 11 = .ok (.invokevirtual 46, 3) := by decide +kernel
theorem dX2_wayToBorder_14 : decode cX2_wayToBorder 14 = .ok (.aload_n 0, 1) := by decide +kernel
theorem dX2_wayToBorder_15 : decode cX2_wayToBorder 15 = .ok (.getfield 9, 3) := by decide +kernel
theorem dX2_wayToBorder_18 : decode cX2_wayToBorder 18 = .ok (.iload_n 1, 1) := by decide +kernel
theorem dX2_wayToBorder_19 : decode cX2_wayToBorder 19 = .ok (.laload, 1) := by decide +kernel
theorem dX2_wayToBorder_20 : decode cX2_wayToBorder 20 = .ok (.lsub, 1) := by decide +kernel
theorem dX2_wayToBorder_21 : decode cX2_wayToBorder 21 = .ok (.goto (15), 3) := by decide +kernel
theorem dX2_wayToBorder_24 : decode cX2_wayToBorder 24 = .ok (.aload_n 0, 1) := by decide +kernel
theorem dX2_wayToBorder_25 : decode cX2_wayToBorder 25 = .ok (.getfield 9, 3) := by decide +kernel
theorem dX2_wayToBorder_28 : decode cX2_wayToBorder 28 = .ok (.iload_n 2, 1) := by decide +kernel
theorem dX2_wayToBorder_29 : decode cX2_wayToBorder 29 = .ok (.laload, 1) := by decide +kernel
theorem dX2_wayToBorder_30 : decode cX2_wayToBorder 30 = .ok (.aload_n 0, 1) := by decide +kernel
theorem dX2_wayToBorder_31 : decode cX2_wayToBorder 31 = .ok (.iload_n 1, 1) := by decide +kernel
theorem dX2_wayToBorder_32 : decode cX2_wayToBorder 32 = .ok (.invokevirtual 46, 3) := by decide +kernel
theorem dX2_wayToBorder_35 : decode cX2_wayToBorder 35 = .ok (.lsub, 1) := by decide +kernel
theorem dX2_wayToBorder_36 : decode cX2_wayToBorder 36 = .ok (.lreturn, 1) := by decide +kernel
theorem dX2_wayToBorder_37 : decode cX2_wayToBorder 37 = .ok (.iload 4, 2) := by decide +kernel
theorem dX2_wayToBorder_39 : decode cX2_wayToBorder 39 = .ok (.ifCond .eq (18), 3) := by decide +kernel
theorem dX2_wayToBorder_42 : decode cX2_wayToBorder 42 = .ok (.aload_n 0, 1) := by decide +kernel
theorem dX2_wayToBorder_43 : decode cX2_wayToBorder 43 = .ok (.iload_n 2, 1) := by decide +kernel
theorem dX2_wayToBorder_44 : decode cX2_wayToBorder 44 = .ok (.invokevirtual 50, 3) := by decide +kernel
theorem dX2_wayToBorder_47 : decode cX2_wayToBorder 47 = .ok (.aload_n 0, 1) := by decide +kernel
theorem dX2_wayToBorder_48 : decode cX2_wayToBorder 48 = .ok (.getfield 15, 3) := by decide +kernel
theorem dX2_wayToBorder_51 : decode cX2_wayToBorder 51 = .ok (.iload_n 1, 1) := by decide +kernel
theorem dX2_wayToBorder_52 : decode cX2_wayToBorder 52 = .ok (.laload, 1) := by decide +kernel
theorem dX2_wayToBorder_53 : decode cX2_wayToBorder 53 = .ok (.lsub, 1) := by decide +kernel
theorem dX2_wayToBorder_54 : decode cX2_wayToBorder 54 = .ok (.goto (15), 3) := by decide +kernel
theorem dX2_wayToBorder_57 : decode cX2_wayToBorder 57 = .ok (.aload_n 0, 1) := by decide +kernel
theorem dX2_wayToBorder_58 : decode cX2_wayToBorder 58 = .ok (.getfield 15, 3) := by decide +kernel
theorem dX2_wayToBorder_61 : decode cX2_wayToBorder 61 = .ok (.iload_n 2, 1) := by decide +kernel
theorem dX2_wayToBorder_62 : decode cX2_wayToBorder 62 = .ok (.laload, 1) := by decide +kernel
theorem dX2_wayToBorder_63 : decode cX2_wayToBorder 63 = .ok (.aload_n 0, 1) := by decide +kernel
theorem dX2_wayToBorder_64 : decode cX2_wayToBorder 64 = .ok (.iload_n 1, 1) := by decide +kernel
theorem dX2_wayToBorder_65 : decode cX2_wayToBorder 65 = .ok (.invokevirtual 50, 3) := by decide +kernel
theorem dX2_wayToBorder_68 : decode cX2_wayToBorder 68 = .ok (.lsub, 1) := by decide +kernel
theorem dX2_wayToBorder_69 : decode cX2_wayToBorder 69 = .ok (.lreturn, 1) := by decide +kernel
abbrev cX2_isNear : ByteArray := prog_4_method_13_code
def yX2_isNear : MethodName := ⟨RX2, "isNear", "(IIJ)Z"⟩
def wsX2_isNear : List Cond := .code yX2_isNear cX2_isNear 9 (some .boolean) :: bT
theorem dX2_isNear_0 : decode cX2_isNear 0 = .ok (.aload_n 0, 1) := by decide +kernel
theorem dX2_isNear_1 : decode cX2_isNear 1 = .ok (.getfield 22, 3) := by decide +kernel
theorem dX2_isNear_4 : decode cX2_isNear 4 = .ok (.iload_n 1, 1) := by decide +kernel
theorem dX2_isNear_5 : decode cX2_isNear 5 = .ok (.baload, 1) := by decide +kernel
theorem dX2_isNear_6 : decode cX2_isNear 6 = .ok (.ifCond .eq (12), 3) := by decide +kernel
theorem dX2_isNear_9 : decode cX2_isNear 9 = .ok (.aload_n 0, 1) := by decide +kernel
theorem dX2_isNear_10 : decode cX2_isNear 10 = .ok (.getfield 22, 3) := by decide +kernel
theorem dX2_isNear_13 : decode cX2_isNear 13 = .ok (.iload_n 2, 1) := by decide +kernel
theorem dX2_isNear_14 : decode cX2_isNear 14 = .ok (.baload, 1) := by decide +kernel
theorem dX2_isNear_15 : decode cX2_isNear 15 = .ok (.ifCond .ne (5), 3) := by decide +kernel
theorem dX2_isNear_18 : decode cX2_isNear 18 = .ok (.iconst 1, 1) := by decide +kernel
theorem dX2_isNear_19 : decode cX2_isNear 19 = .ok (.ireturn, 1) := by decide +kernel
theorem dX2_isNear_20 : decode cX2_isNear 20 = .ok (.aload_n 0, 1) := by decide +kernel
theorem dX2_isNear_21 : decode cX2_isNear 21 = .ok (.getfield 9, 3) := by decide +kernel
theorem dX2_isNear_24 : decode cX2_isNear 24 = .ok (.iload_n 1, 1) := by decide +kernel
theorem dX2_isNear_25 : decode cX2_isNear 25 = .ok (.laload, 1) := by decide +kernel
theorem dX2_isNear_26 : decode cX2_isNear 26 = .ok (.aload_n 0, 1) := by decide +kernel
theorem dX2_isNear_27 : decode cX2_isNear 27 = .ok (.getfield 9, 3) := by decide +kernel
theorem dX2_isNear_30 : decode cX2_isNear 30 = .ok (.iload_n 2, 1) := by decide +kernel
theorem dX2_isNear_31 : decode cX2_isNear 31 = .ok (.laload, 1) := by decide +kernel
theorem dX2_isNear_32 : decode cX2_isNear 32 = .ok (.invokestatic 64, 3) := by decide +kernel
theorem dX2_isNear_35 : decode cX2_isNear 35 = .ok (.aload_n 0, 1) := by decide +kernel
theorem dX2_isNear_36 : decode cX2_isNear 36 = .ok (.iload_n 1, 1) := by decide +kernel
theorem dX2_isNear_37 : decode cX2_isNear 37 = .ok (.invokevirtual 46, 3) := by decide +kernel
theorem dX2_isNear_40 : decode cX2_isNear 40 = .ok (.aload_n 0, 1) := by decide +kernel
theorem dX2_isNear_41 : decode cX2_isNear 41 = .ok (.iload_n 2, 1) := by decide +kernel
theorem dX2_isNear_42 : decode cX2_isNear 42 = .ok (.invokevirtual 46, 3) := by decide +kernel
theorem dX2_isNear_45 : decode cX2_isNear 45 = .ok (.invokestatic 70, 3) := by decide +kernel
theorem dX2_isNear_48 : decode cX2_isNear 48 = .ok (.lsub, 1) := by decide +kernel
theorem dX2_isNear_49 : decode cX2_isNear 49 = .ok (.lstore 5, 2) := by decide +kernel
theorem dX2_isNear_51 : decode cX2_isNear 51 = .ok (.aload_n 0, 1) := by decide +kernel
theorem dX2_isNear_52 : decode cX2_isNear 52 = .ok (.getfield 15, 3) := by decide +kernel
theorem dX2_isNear_55 : decode cX2_isNear 55 = .ok (.iload_n 1, 1) := by decide +kernel
theorem dX2_isNear_56 : decode cX2_isNear 56 = .ok (.laload, 1) := by decide +kernel
theorem dX2_isNear_57 : decode cX2_isNear 57 = .ok (.aload_n 0, 1) := by decide +kernel
theorem dX2_isNear_58 : decode cX2_isNear 58 = .ok (.getfield 15, 3) := by decide +kernel
theorem dX2_isNear_61 : decode cX2_isNear 61 = .ok (.iload_n 2, 1) := by decide +kernel
theorem dX2_isNear_62 : decode cX2_isNear 62 = .ok (.laload, 1) := by decide +kernel
theorem dX2_isNear_63 : decode cX2_isNear 63 = .ok (.invokestatic 64, 3) := by decide +kernel
theorem dX2_isNear_66 : decode cX2_isNear 66 = .ok (.aload_n 0, 1) := by decide +kernel
theorem dX2_isNear_67 : decode cX2_isNear 67 = .ok (.iload_n 1, 1) := by decide +kernel
theorem dX2_isNear_68 : decode cX2_isNear 68 = .ok (.invokevirtual 50, 3) := by decide +kernel
theorem dX2_isNear_71 : decode cX2_isNear 71 = .ok (.aload_n 0, 1) := by decide +kernel
theorem dX2_isNear_72 : decode cX2_isNear 72 = .ok (.iload_n 2, 1) := by decide +kernel
theorem dX2_isNear_73 : decode cX2_isNear 73 = .ok (.invokevirtual 50, 3) := by decide +kernel
theorem dX2_isNear_76 : decode cX2_isNear 76 = .ok (.invokestatic 70, 3) := by decide +kernel
theorem dX2_isNear_79 : decode cX2_isNear 79 = .ok (.lsub, 1) := by decide +kernel
theorem dX2_isNear_80 : decode cX2_isNear 80 = .ok (.lstore 7, 2) := by decide +kernel
theorem dX2_isNear_82 : decode cX2_isNear 82 = .ok (.lconst 0, 1) := by decide +kernel
theorem dX2_isNear_83 : decode cX2_isNear 83 = .ok (.lload 5, 2) := by decide +kernel
theorem dX2_isNear_85 : decode cX2_isNear 85 = .ok (.invokestatic 64, 3) := by decide +kernel
theorem dX2_isNear_88 : decode cX2_isNear 88 = .ok (.lconst 0, 1) := by decide +kernel
theorem dX2_isNear_89 : decode cX2_isNear 89 = .ok (.lload 7, 2) := by decide +kernel
theorem dX2_isNear_91 : decode cX2_isNear 91 = .ok (.invokestatic 64, 3) := by decide +kernel
theorem dX2_isNear_94 : decode cX2_isNear 94 = .ok (.ladd, 1) := by decide +kernel
theorem dX2_isNear_95 : decode cX2_isNear 95 = .ok (.lload_n 3, 1) := by decide +kernel
theorem dX2_isNear_96 : decode cX2_isNear 96 = .ok (.lcmp, 1) := by decide +kernel
theorem dX2_isNear_97 : decode cX2_isNear 97 = .ok (.ifCond .gt (7), 3) := by decide +kernel
theorem dX2_isNear_100 : decode cX2_isNear 100 = .ok (.iconst 1, 1) := by decide +kernel
theorem dX2_isNear_101 : decode cX2_isNear 101 = .ok (.goto (4), 3) := by decide +kernel
theorem dX2_isNear_104 : decode cX2_isNear 104 = .ok (.iconst 0, 1) := by decide +kernel
theorem dX2_isNear_105 : decode cX2_isNear 105 = .ok (.ireturn, 1) := by decide +kernel
abbrev cX3_addPin : ByteArray := prog_5_method_3_code
def yX3_addPin : MethodName := ⟨RX3, "addPin", "(IIJJ)Z"⟩
def wsX3_addPin : List Cond := .code yX3_addPin cX3_addPin 7 (some .boolean) :: bT
theorem dX3_addPin_0 : decode cX3_addPin 0 = .ok (.aload_n 0, 1) := by decide +kernel
theorem dX3_addPin_1 : decode cX3_addPin 1 = .ok (.getfield 45, 3) := by decide +kernel
theorem dX3_addPin_4 : decode cX3_addPin 4 = .ok (.bipush 120, 2) := by decide +kernel
theorem dX3_addPin_6 : decode cX3_addPin 6 = .ok (.if_icmp .lt (5), 3) := by decide +kernel
theorem dX3_addPin_9 : decode cX3_addPin 9 = .ok (.iconst 0, 1) := by decide +kernel
theorem dX3_addPin_10 : decode cX3_addPin 10 = .ok (.ireturn, 1) := by decide +kernel
theorem dX3_addPin_11 : decode cX3_addPin 11 = .ok (.aload_n 0, 1) := by decide +kernel
theorem dX3_addPin_12 : decode cX3_addPin 12 = .ok (.getfield 9, 3) := by decide +kernel
theorem dX3_addPin_15 : decode cX3_addPin 15 = .ok (.aload_n 0, 1) := by decide +kernel
theorem dX3_addPin_16 : decode cX3_addPin 16 = .ok (.getfield 45, 3) := by decide +kernel
theorem dX3_addPin_19 : decode cX3_addPin 19 = .ok (.iload_n 1, 1) := by decide +kernel
theorem dX3_addPin_20 : decode cX3_addPin 20 = .ok (.iastore, 1) := by decide +kernel
theorem dX3_addPin_21 : decode cX3_addPin 21 = .ok (.aload_n 0, 1) := by decide +kernel
theorem dX3_addPin_22 : decode cX3_addPin 22 = .ok (.getfield 15, 3) := by decide +kernel
theorem dX3_addPin_25 : decode cX3_addPin 25 = .ok (.aload_n 0, 1) := by decide +kernel
theorem dX3_addPin_26 : decode cX3_addPin 26 = .ok (.getfield 45, 3) := by decide +kernel
theorem dX3_addPin_29 : decode cX3_addPin 29 = .ok (.iload_n 2, 1) := by decide +kernel
theorem dX3_addPin_30 : decode cX3_addPin 30 = .ok (.iastore, 1) := by decide +kernel
theorem dX3_addPin_31 : decode cX3_addPin 31 = .ok (.aload_n 0, 1) := by decide +kernel
theorem dX3_addPin_32 : decode cX3_addPin 32 = .ok (.getfield 18, 3) := by decide +kernel
theorem dX3_addPin_35 : decode cX3_addPin 35 = .ok (.aload_n 0, 1) := by decide +kernel
theorem dX3_addPin_36 : decode cX3_addPin 36 = .ok (.getfield 45, 3) := by decide +kernel
theorem dX3_addPin_39 : decode cX3_addPin 39 = .ok (.lload_n 3, 1) := by decide +kernel
theorem dX3_addPin_40 : decode cX3_addPin 40 = .ok (.lastore, 1) := by decide +kernel
theorem dX3_addPin_41 : decode cX3_addPin 41 = .ok (.aload_n 0, 1) := by decide +kernel
theorem dX3_addPin_42 : decode cX3_addPin 42 = .ok (.getfield 22, 3) := by decide +kernel
theorem dX3_addPin_45 : decode cX3_addPin 45 = .ok (.aload_n 0, 1) := by decide +kernel
theorem dX3_addPin_46 : decode cX3_addPin 46 = .ok (.getfield 45, 3) := by decide +kernel
theorem dX3_addPin_49 : decode cX3_addPin 49 = .ok (.lload 5, 2) := by decide +kernel
theorem dX3_addPin_51 : decode cX3_addPin 51 = .ok (.lastore, 1) := by decide +kernel
theorem dX3_addPin_52 : decode cX3_addPin 52 = .ok (.aload_n 0, 1) := by decide +kernel
theorem dX3_addPin_53 : decode cX3_addPin 53 = .ok (.dup, 1) := by decide +kernel
theorem dX3_addPin_54 : decode cX3_addPin 54 = .ok (.getfield 45, 3) := by decide +kernel
theorem dX3_addPin_57 : decode cX3_addPin 57 = .ok (.iconst 1, 1) := by decide +kernel
theorem dX3_addPin_58 : decode cX3_addPin 58 = .ok (.iadd, 1) := by decide +kernel
theorem dX3_addPin_59 : decode cX3_addPin 59 = .ok (.putfield 45, 3) := by decide +kernel
theorem dX3_addPin_62 : decode cX3_addPin 62 = .ok (.iconst 1, 1) := by decide +kernel
theorem dX3_addPin_63 : decode cX3_addPin 63 = .ok (.ireturn, 1) := by decide +kernel
abbrev cX3_measure : ByteArray := prog_5_method_4_code
def yX3_measure : MethodName := ⟨RX3, "measure", "(LBoardMoves$Placement;)J"⟩
def wsX3_measure : List Cond := .code yX3_measure cX3_measure 5 (some .long) :: bT
theorem dX3_measure_0 : decode cX3_measure 0 = .ok (.iconst 0, 1) := by decide +kernel
theorem dX3_measure_1 : decode cX3_measure 1 = .ok (.istore_n 2, 1) := by decide +kernel
theorem dX3_measure_2 : decode cX3_measure 2 = .ok (.iload_n 2, 1) := by decide +kernel
theorem dX3_measure_3 : decode cX3_measure 3 = .ok (.aload_n 0, 1) := by decide +kernel
theorem dX3_measure_4 : decode cX3_measure 4 = .ok (.getfield 41, 3) := by decide +kernel
theorem dX3_measure_7 : decode cX3_measure 7 = .ok (.if_icmp .ge (16), 3) := by decide +kernel
theorem dX3_measure_10 : decode cX3_measure 10 = .ok (.aload_n 0, 1) := by decide +kernel
theorem dX3_measure_11 : decode cX3_measure 11 = .ok (.getfield 25, 3) := by decide +kernel
theorem dX3_measure_14 : decode cX3_measure 14 = .ok (.iload_n 2, 1) := by decide +kernel
theorem dX3_measure_15 : decode cX3_measure 15 = .ok (.iconst 0, 1) := by decide +kernel
theorem dX3_measure_16 : decode cX3_measure 16 = .ok (.bastore, 1) := by decide +kernel
theorem dX3_measure_17 : decode cX3_measure 17 = .ok (.iinc 2 1, 3) := by decide +kernel
theorem dX3_measure_20 : decode cX3_measure 20 = .ok (.goto (-18), 3) := by decide +kernel
theorem dX3_measure_23 : decode cX3_measure 23 = .ok (.iconst 0, 1) := by decide +kernel
theorem dX3_measure_24 : decode cX3_measure 24 = .ok (.istore_n 2, 1) := by decide +kernel
theorem dX3_measure_25 : decode cX3_measure 25 = .ok (.iload_n 2, 1) := by decide +kernel
theorem dX3_measure_26 : decode cX3_measure 26 = .ok (.aload_n 0, 1) := by decide +kernel
theorem dX3_measure_27 : decode cX3_measure 27 = .ok (.getfield 45, 3) := by decide +kernel
theorem dX3_measure_30 : decode cX3_measure 30 = .ok (.if_icmp .ge (73), 3) := by decide +kernel
theorem dX3_measure_33 : decode cX3_measure 33 = .ok (.aload_n 0, 1) := by decide +kernel
theorem dX3_measure_34 : decode cX3_measure 34 = .ok (.getfield 15, 3) := by decide +kernel
theorem dX3_measure_37 : decode cX3_measure 37 = .ok (.iload_n 2, 1) := by decide +kernel
theorem dX3_measure_38 : decode cX3_measure 38 = .ok (.iaload, 1) := by decide +kernel
theorem dX3_measure_39 : decode cX3_measure 39 = .ok (.istore_n 3, 1) := by decide +kernel
theorem dX3_measure_40 : decode cX3_measure 40 = .ok (.aload_n 1, 1) := by decide +kernel
theorem dX3_measure_41 : decode cX3_measure 41 = .ok (.getfield 52, 3) := by decide +kernel
theorem dX3_measure_44 : decode cX3_measure 44 = .ok (.iload_n 3, 1) := by decide +kernel
theorem dX3_measure_45 : decode cX3_measure 45 = .ok (.baload, 1) := by decide +kernel
theorem dX3_measure_46 : decode cX3_measure 46 = .ok (.ifCond .eq (51), 3) := by decide +kernel
theorem dX3_measure_49 : decode cX3_measure 49 = .ok (.aload_n 1, 1) := by decide +kernel
theorem dX3_measure_50 : decode cX3_measure 50 = .ok (.getfield 57, 3) := by decide +kernel
theorem dX3_measure_53 : decode cX3_measure 53 = .ok (.iload_n 3, 1) := by decide +kernel
theorem dX3_measure_54 : decode cX3_measure 54 = .ok (.iaload, 1) := by decide +kernel
theorem dX3_measure_55 : decode cX3_measure 55 = .ok (.istore 4, 2) := by decide +kernel
theorem dX3_measure_57 : decode cX3_measure 57 = .ok (.aload_n 0, 1) := by decide +kernel
theorem dX3_measure_58 : decode cX3_measure 58 = .ok (.aload_n 0, 1) := by decide +kernel
theorem dX3_measure_59 : decode cX3_measure 59 = .ok (.getfield 9, 3) := by decide +kernel
theorem dX3_measure_62 : decode cX3_measure 62 = .ok (.iload_n 2, 1) := by decide +kernel
theorem dX3_measure_63 : decode cX3_measure 63 = .ok (.iaload, 1) := by decide +kernel
theorem dX3_measure_64 : decode cX3_measure 64 = .ok (.aload_n 1, 1) := by decide +kernel
theorem dX3_measure_65 : decode cX3_measure 65 = .ok (.getfield 60, 3) := by decide +kernel
theorem dX3_measure_68 : decode cX3_measure 68 = .ok (.iload_n 3, 1) := by decide +kernel
theorem dX3_measure_69 : decode cX3_measure 69 = .ok (.laload, 1) := by decide +kernel
theorem dX3_measure_70 : decode cX3_measure 70 = .ok (.aload_n 0, 1) := by decide +kernel
theorem dX3_measure_71 : decode cX3_measure 71 = .ok (.iload_n 2, 1) := by decide +kernel
theorem dX3_measure_72 : decode cX3_measure 72 = .ok (.iload_n 3, 1) := by decide +kernel
theorem dX3_measure_73 : decode cX3_measure 73 = .ok (.iload 4, 2) := by decide +kernel
theorem dX3_measure_75 : decode cX3_measure 75 = .ok (.invokevirtual 63, 3) := by decide +kernel
theorem dX3_measure_78 : decode cX3_measure 78 = .ok (.ladd, 1) := by decide +kernel
theorem dX3_measure_79 : decode cX3_measure 79 = .ok (.aload_n 1, 1) := by decide +kernel
theorem dX3_measure_80 : decode cX3_measure 80 = .ok (.getfield 67, 3) := by decide +kernel
theorem dX3_measure_83 : decode cX3_measure 83 = .ok (.iload_n 3, 1) := by decide +kernel
theorem dX3_measure_84 : decode cX3_measure 84 = .ok (.laload, 1) := by decide +kernel
theorem dX3_measure_85 : decode cX3_measure 85 = .ok (.aload_n 0, 1) := by decide +kernel
theorem dX3_measure_86 : decode cX3_measure 86 = .ok (.iload_n 2, 1) := by decide +kernel
theorem dX3_measure_87 : decode cX3_measure 87 = .ok (.iload_n 3, 1) := by decide +kernel
theorem dX3_measure_88 : decode cX3_measure 88 = .ok (.iload 4, 2) := by decide +kernel
theorem dX3_measure_90 : decode cX3_measure 90 = .ok (.invokevirtual 70, 3) := by decide +kernel
theorem dX3_measure_93 : decode cX3_measure 93 = .ok (.ladd, 1) := by decide +kernel
theorem dX3_measure_94 : decode cX3_measure 94 = .ok (.invokevirtual 73, 3) := by decide +kernel
theorem dX3_measure_97 : decode cX3_measure 97 = .ok (.iinc 2 1, 3) := by decide +kernel
theorem dX3_measure_100 : decode cX3_measure 100 = .ok (.goto (-75), 3) := by decide +kernel
theorem dX3_measure_103 : decode cX3_measure 103 = .ok (.lconst 0, 1) := by decide +kernel
theorem dX3_measure_104 : decode cX3_measure 104 = .ok (.lstore_n 2, 1) := by decide +kernel
theorem dX3_measure_105 : decode cX3_measure 105 = .ok (.iconst 0, 1) := by decide +kernel
theorem dX3_measure_106 : decode cX3_measure 106 = .ok (.istore 4, 2) := by decide +kernel
theorem dX3_measure_108 : decode cX3_measure 108 = .ok (.iload 4, 2) := by decide +kernel
theorem dX3_measure_110 : decode cX3_measure 110 = .ok (.aload_n 0, 1) := by decide +kernel
theorem dX3_measure_111 : decode cX3_measure 111 = .ok (.getfield 41, 3) := by decide +kernel
theorem dX3_measure_114 : decode cX3_measure 114 = .ok (.if_icmp .ge (53), 3) := by decide +kernel
theorem dX3_measure_117 : decode cX3_measure 117 = .ok (.aload_n 0, 1) := by decide +kernel
theorem dX3_measure_118 : decode cX3_measure 118 = .ok (.getfield 25, 3) := by decide +kernel
theorem dX3_measure_121 : decode cX3_measure 121 = .ok (.iload 4, 2) := by decide +kernel
theorem dX3_measure_123 : decode cX3_measure 123 = .ok (.baload, 1) := by decide +kernel
theorem dX3_measure_124 : decode cX3_measure 124 = .ok (.ifCond .eq (37), 3) := by decide +kernel
theorem dX3_measure_127 : decode cX3_measure 127 = .ok (.lload_n 2, 1) := by decide +kernel
theorem dX3_measure_128 : decode cX3_measure 128 = .ok (.aload_n 0, 1) := by decide +kernel
theorem dX3_measure_129 : decode cX3_measure 129 = .ok (.getfield 32, 3) := by decide +kernel
theorem dX3_measure_132 : decode cX3_measure 132 = .ok (.iload 4, 2) := by decide +kernel
theorem dX3_measure_134 : decode cX3_measure 134 = .ok (.laload, 1) := by decide +kernel
theorem dX3_measure_135 : decode cX3_measure 135 = .ok (.aload_n 0, 1) := by decide +kernel
theorem dX3_measure_136 : decode cX3_measure 136 = .ok (.getfield 29, 3) := by decide +kernel
theorem dX3_measure_139 : decode cX3_measure 139 = .ok (.iload 4, 2) := by decide +kernel
theorem dX3_measure_141 : decode cX3_measure 141 = .ok (.laload, 1) := by decide +kernel
theorem dX3_measure_142 : decode cX3_measure 142 = .ok (.lsub, 1) := by decide +kernel
theorem dX3_measure_143 : decode cX3_measure 143 = .ok (.aload_n 0, 1) := by decide +kernel
theorem dX3_measure_144 : decode cX3_measure 144 = .ok (.getfield 38, 3) := by decide +kernel
theorem dX3_measure_147 : decode cX3_measure 147 = .ok (.iload 4, 2) := by decide +kernel
theorem dX3_measure_149 : decode cX3_measure 149 = .ok (.laload, 1) := by decide +kernel
theorem dX3_measure_150 : decode cX3_measure 150 = .ok (.ladd, 1) := by decide +kernel
theorem dX3_measure_151 : decode cX3_measure 151 = .ok (.aload_n 0, 1) := by decide +kernel
theorem dX3_measure_152 : decode cX3_measure 152 = .ok (.getfield 35, 3) := by decide +kernel
theorem dX3_measure_155 : decode cX3_measure 155 = .ok (.iload 4, 2) := by decide +kernel
theorem dX3_measure_157 : decode cX3_measure 157 = .ok (.laload, 1) := by decide +kernel
theorem dX3_measure_158 : decode cX3_measure 158 = .ok (.lsub, 1) := by decide +kernel
theorem dX3_measure_159 : decode cX3_measure 159 = .ok (.ladd, 1) := by decide +kernel
theorem dX3_measure_160 : decode cX3_measure 160 = .ok (.lstore_n 2, 1) := by decide +kernel
theorem dX3_measure_161 : decode cX3_measure 161 = .ok (.iinc 4 1, 3) := by decide +kernel
theorem dX3_measure_164 : decode cX3_measure 164 = .ok (.goto (-56), 3) := by decide +kernel
theorem dX3_measure_167 : decode cX3_measure 167 = .ok (.lload_n 2, 1) := by decide +kernel
theorem dX3_measure_168 : decode cX3_measure 168 = .ok (.lreturn, 1) := by decide +kernel
abbrev cX3_reach : ByteArray := prog_5_method_5_code
def yX3_reach : MethodName := ⟨RX3, "reach", "(IJJ)V"⟩
def wsX3_reach : List Cond := .code yX3_reach cX3_reach 7 none :: bT
theorem dX3_reach_0 : decode cX3_reach 0 = .ok (.aload_n 0, 1) := by decide +kernel
theorem dX3_reach_1 : decode cX3_reach 1 = .ok (.getfield 25, 3) := by decide +kernel
theorem dX3_reach_4 : decode cX3_reach 4 = .ok (.iload_n 1, 1) := by decide +kernel
theorem dX3_reach_5 : decode cX3_reach 5 = .ok (.baload, 1) := by decide +kernel
theorem dX3_reach_6 : decode cX3_reach 6 = .ok (.ifCond .ne (7), 3) := by decide +kernel
theorem dX3_reach_9 : decode cX3_reach 9 = .ok (.iconst 1, 1) := by decide +kernel
theorem dX3_reach_10 : decode cX3_reach 10 = .ok (.goto (4), 3) := by decide +kernel
theorem dX3_reach_13 : decode cX3_reach 13 = .ok (.iconst 0, 1) := by decide +kernel
theorem dX3_reach_14 : decode cX3_reach 14 = .ok (.istore 6, 2) := by decide +kernel
theorem dX3_reach_16 : decode cX3_reach 16 = .ok (.aload_n 0, 1) := by decide +kernel
theorem dX3_reach_17 : decode cX3_reach 17 = .ok (.getfield 25, 3) := by decide +kernel
theorem dX3_reach_20 : decode cX3_reach 20 = .ok (.iload_n 1, 1) := by decide +kernel
theorem dX3_reach_21 : decode cX3_reach 21 = .ok (.iconst 1, 1) := by decide +kernel
theorem dX3_reach_22 : decode cX3_reach 22 = .ok (.bastore, 1) := by decide +kernel
theorem dX3_reach_23 : decode cX3_reach 23 = .ok (.aload_n 0, 1) := by decide +kernel
theorem dX3_reach_24 : decode cX3_reach 24 = .ok (.getfield 29, 3) := by decide +kernel
theorem dX3_reach_27 : decode cX3_reach 27 = .ok (.iload_n 1, 1) := by decide +kernel
theorem dX3_reach_28 : decode cX3_reach 28 = .ok (.iload 6, 2) := by decide +kernel
theorem dX3_reach_30 : decode cX3_reach 30 = .ok (.ifCond .eq (7), 3) := by decide +kernel
theorem dX3_reach_33 : decode cX3_reach 33 = .ok (.lload_n 2, 1) := by decide +kernel
theorem dX3_reach_34 : decode cX3_reach 34 = .ok (.goto (13), 3) := by decide +kernel
theorem dX3_reach_37 : decode cX3_reach 37 = .ok (.aload_n 0, 1) := by decide +kernel
theorem dX3_reach_38 : decode cX3_reach 38 = .ok (.getfield 29, 3) := by decide +kernel
theorem dX3_reach_41 : decode cX3_reach 41 = .ok (.iload_n 1, 1) := by decide +kernel
theorem dX3_reach_42 : decode cX3_reach 42 = .ok (.laload, 1) := by decide +kernel
theorem dX3_reach_43 : decode cX3_reach 43 = .ok (.lload_n 2, 1) := by decide +kernel
theorem dX3_reach_44 : decode cX3_reach 44 = .ok (.invokestatic 77, 3) := by decide +kernel
theorem dX3_reach_47 : decode cX3_reach 47 = .ok (.lastore, 1) := by decide +kernel
theorem dX3_reach_48 : decode cX3_reach 48 = .ok (.aload_n 0, 1) := by decide +kernel
theorem dX3_reach_49 : decode cX3_reach 49 = .ok (.getfield 32, 3) := by decide +kernel
theorem dX3_reach_52 : decode cX3_reach 52 = .ok (.iload_n 1, 1) := by decide +kernel
theorem dX3_reach_53 : decode cX3_reach 53 = .ok (.iload 6, 2) := by decide +kernel
theorem dX3_reach_55 : decode cX3_reach 55 = .ok (.ifCond .eq (7), 3) := by decide +kernel
theorem dX3_reach_58 : decode cX3_reach 58 = .ok (.lload_n 2, 1) := by decide +kernel
theorem dX3_reach_59 : decode cX3_reach 59 = .ok (.goto (13), 3) := by decide +kernel
theorem dX3_reach_62 : decode cX3_reach 62 = .ok (.aload_n 0, 1) := by decide +kernel
theorem dX3_reach_63 : decode cX3_reach 63 = .ok (.getfield 32, 3) := by decide +kernel
theorem dX3_reach_66 : decode cX3_reach 66 = .ok (.iload_n 1, 1) := by decide +kernel
theorem dX3_reach_67 : decode cX3_reach 67 = .ok (.laload, 1) := by decide +kernel
theorem dX3_reach_68 : decode cX3_reach 68 = .ok (.lload_n 2, 1) := by decide +kernel
theorem dX3_reach_69 : decode cX3_reach 69 = .ok (.invokestatic 83, 3) := by decide +kernel
theorem dX3_reach_72 : decode cX3_reach 72 = .ok (.lastore, 1) := by decide +kernel
theorem dX3_reach_73 : decode cX3_reach 73 = .ok (.aload_n 0, 1) := by decide +kernel
theorem dX3_reach_74 : decode cX3_reach 74 = .ok (.getfield 35, 3) := by decide +kernel
theorem dX3_reach_77 : decode cX3_reach 77 = .ok (.iload_n 1, 1) := by decide +kernel
theorem dX3_reach_78 : decode cX3_reach 78 = .ok (.iload 6, 2) := by decide +kernel
theorem dX3_reach_80 : decode cX3_reach 80 = .ok (.ifCond .eq (8), 3) := by decide +kernel
theorem dX3_reach_83 : decode cX3_reach 83 = .ok (.lload 4, 2) := by decide +kernel
theorem dX3_reach_85 : decode cX3_reach 85 = .ok (.goto (14), 3) := by decide +kernel
theorem dX3_reach_88 : decode cX3_reach 88 = .ok (.aload_n 0, 1) := by decide +kernel
theorem dX3_reach_89 : decode cX3_reach 89 = .ok (.getfield 35, 3) := by decide +kernel
theorem dX3_reach_92 : decode cX3_reach 92 = .ok (.iload_n 1, 1) := by decide +kernel
theorem dX3_reach_93 : decode cX3_reach 93 = .ok (.laload, 1) := by decide +kernel
theorem dX3_reach_94 : decode cX3_reach 94 = .ok (.lload 4, 2) := by decide +kernel
theorem dX3_reach_96 : decode cX3_reach 96 = .ok (.invokestatic 77, 3) := by decide +kernel
theorem dX3_reach_99 : decode cX3_reach 99 = .ok (.lastore, 1) := by decide +kernel
theorem dX3_reach_100 : decode cX3_reach 100 = .ok (.aload_n 0, 1) := by decide +kernel
theorem dX3_reach_101 : decode cX3_reach 101 = .ok (.getfield 38, 3) := by decide +kernel
theorem dX3_reach_104 : decode cX3_reach 104 = .ok (.iload_n 1, 1) := by decide +kernel
theorem dX3_reach_105 : decode cX3_reach 105 = .ok (.iload 6, 2) := by decide +kernel
theorem dX3_reach_107 : decode cX3_reach 107 = .ok (.ifCond .eq (8), 3) := by decide +kernel
theorem dX3_reach_110 : decode cX3_reach 110 = .ok (.lload 4, 2) := by decide +kernel
theorem dX3_reach_112 : decode cX3_reach 112 = .ok (.goto (14), 3) := by decide +kernel
theorem dX3_reach_115 : decode cX3_reach 115 = .ok (.aload_n 0, 1) := by decide +kernel
theorem dX3_reach_116 : decode cX3_reach 116 = .ok (.getfield 38, 3) := by decide +kernel
theorem dX3_reach_119 : decode cX3_reach 119 = .ok (.iload_n 1, 1) := by decide +kernel
theorem dX3_reach_120 : decode cX3_reach 120 = .ok (.laload, 1) := by decide +kernel
theorem dX3_reach_121 : decode cX3_reach 121 = .ok (.lload 4, 2) := by decide +kernel
theorem dX3_reach_123 : decode cX3_reach 123 = .ok (.invokestatic 83, 3) := by decide +kernel
theorem dX3_reach_126 : decode cX3_reach 126 = .ok (.lastore, 1) := by decide +kernel
theorem dX3_reach_127 : decode cX3_reach 127 = .ok (.return_, 1) := by decide +kernel
abbrev cX3_turnedX : ByteArray := prog_5_method_6_code
def yX3_turnedX : MethodName := ⟨RX3, "turnedX", "(III)J"⟩
def wsX3_turnedX : List Cond := .code yX3_turnedX cX3_turnedX 4 (some .long) :: bT
theorem dX3_turnedX_0 : decode cX3_turnedX 0 = .ok (.iload_n 3, 1) := by decide +kernel
theorem dX3_turnedX_1 : decode cX3_turnedX 1 = .ok (.tableswitch 68 1 3 #[27, 44, 61], 27) := by decide +kernel
theorem dX3_turnedX_28 : decode cX3_turnedX 28 = .ok (.aload_n 0, 1) := by decide +kernel
theorem dX3_turnedX_29 : decode cX3_turnedX 29 = .ok (.getfield 48, 3) := by decide +kernel
theorem dX3_turnedX_32 : decode cX3_turnedX 32 = .ok (.getfield 86, 3) := by decide +kernel
theorem dX3_turnedX_35 : decode cX3_turnedX 35 = .ok (.iload_n 2, 1) := by decide +kernel
theorem dX3_turnedX_36 : decode cX3_turnedX 36 = .ok (.laload, 1) := by decide +kernel
theorem dX3_turnedX_37 : decode cX3_turnedX 37 = .ok (.aload_n 0, 1) := by decide +kernel
theorem dX3_turnedX_38 : decode cX3_turnedX 38 = .ok (.getfield 22, 3) := by decide +kernel
theorem dX3_turnedX_41 : decode cX3_turnedX 41 = .ok (.iload_n 1, 1) := by decide +kernel
theorem dX3_turnedX_42 : decode cX3_turnedX 42 = .ok (.laload, 1) := by decide +kernel
theorem dX3_turnedX_43 : decode cX3_turnedX 43 = .ok (.lsub, 1) := by decide +kernel
theorem dX3_turnedX_44 : decode cX3_turnedX 44 = .ok (.lreturn, 1) := by decide +kernel
theorem dX3_turnedX_45 : decode cX3_turnedX 45 = .ok (.aload_n 0, 1) := by decide +kernel
theorem dX3_turnedX_46 : decode cX3_turnedX 46 = .ok (.getfield 48, 3) := by decide +kernel
theorem dX3_turnedX_49 : decode cX3_turnedX 49 = .ok (.getfield 91, 3) := by decide +kernel
theorem dX3_turnedX_52 : decode cX3_turnedX 52 = .ok (.iload_n 2, 1) := by decide +kernel
theorem dX3_turnedX_53 : decode cX3_turnedX 53 = .ok (.laload, 1) := by decide +kernel
theorem dX3_turnedX_54 : decode cX3_turnedX 54 = .ok (.aload_n 0, 1) := by decide +kernel
theorem dX3_turnedX_55 : decode cX3_turnedX 55 = .ok (.getfield 18, 3) := by decide +kernel
theorem dX3_turnedX_58 : decode cX3_turnedX 58 = .ok (.iload_n 1, 1) := by decide +kernel
theorem dX3_turnedX_59 : decode cX3_turnedX 59 = .ok (.laload, 1) := by decide +kernel
theorem dX3_turnedX_60 : decode cX3_turnedX 60 = .ok (.lsub, 1) := by decide +kernel
theorem dX3_turnedX_61 : decode cX3_turnedX 61 = .ok (.lreturn, 1) := by decide +kernel
theorem dX3_turnedX_62 : decode cX3_turnedX 62 = .ok (.aload_n 0, 1) := by decide +kernel
theorem dX3_turnedX_63 : decode cX3_turnedX 63 = .ok (.getfield 22, 3) := by decide +kernel
theorem dX3_turnedX_66 : decode cX3_turnedX 66 = .ok (.iload_n 1, 1) := by decide +kernel
theorem dX3_turnedX_67 : decode cX3_turnedX 67 = .ok (.laload, 1) := by decide +kernel
theorem dX3_turnedX_68 : decode cX3_turnedX 68 = .ok (.lreturn, 1) := by decide +kernel
theorem dX3_turnedX_69 : decode cX3_turnedX 69 = .ok (.aload_n 0, 1) := by decide +kernel
theorem dX3_turnedX_70 : decode cX3_turnedX 70 = .ok (.getfield 18, 3) := by decide +kernel
theorem dX3_turnedX_73 : decode cX3_turnedX 73 = .ok (.iload_n 1, 1) := by decide +kernel
theorem dX3_turnedX_74 : decode cX3_turnedX 74 = .ok (.laload, 1) := by decide +kernel
theorem dX3_turnedX_75 : decode cX3_turnedX 75 = .ok (.lreturn, 1) := by decide +kernel
abbrev cX3_turnedY : ByteArray := prog_5_method_7_code
def yX3_turnedY : MethodName := ⟨RX3, "turnedY", "(III)J"⟩
def wsX3_turnedY : List Cond := .code yX3_turnedY cX3_turnedY 4 (some .long) :: bT
theorem dX3_turnedY_0 : decode cX3_turnedY 0 = .ok (.iload_n 3, 1) := by decide +kernel
theorem dX3_turnedY_1 : decode cX3_turnedY 1 = .ok (.tableswitch 68 1 3 #[27, 34, 51], 27) := by decide +kernel
theorem dX3_turnedY_28 : decode cX3_turnedY 28 = .ok (.aload_n 0, 1) := by decide +kernel
theorem dX3_turnedY_29 : decode cX3_turnedY 29 = .ok (.getfield 18, 3) := by decide +kernel
theorem dX3_turnedY_32 : decode cX3_turnedY 32 = .ok (.iload_n 1, 1) := by decide +kernel
theorem dX3_turnedY_33 : decode cX3_turnedY 33 = .ok (.laload, 1) := by decide +kernel
theorem dX3_turnedY_34 : decode cX3_turnedY 34 = .ok (.lreturn, 1) := by decide +kernel
theorem dX3_turnedY_35 : decode cX3_turnedY 35 = .ok (.aload_n 0, 1) := by decide +kernel
theorem dX3_turnedY_36 : decode cX3_turnedY 36 = .ok (.getfield 48, 3) := by decide +kernel
theorem dX3_turnedY_39 : decode cX3_turnedY 39 = .ok (.getfield 86, 3) := by decide +kernel
theorem dX3_turnedY_42 : decode cX3_turnedY 42 = .ok (.iload_n 2, 1) := by decide +kernel
theorem dX3_turnedY_43 : decode cX3_turnedY 43 = .ok (.laload, 1) := by decide +kernel
theorem dX3_turnedY_44 : decode cX3_turnedY 44 = .ok (.aload_n 0, 1) := by decide +kernel
theorem dX3_turnedY_45 : decode cX3_turnedY 45 = .ok (.getfield 22, 3) := by decide +kernel
theorem dX3_turnedY_48 : decode cX3_turnedY 48 = .ok (.iload_n 1, 1) := by decide +kernel
theorem dX3_turnedY_49 : decode cX3_turnedY 49 = .ok (.laload, 1) := by decide +kernel
theorem dX3_turnedY_50 : decode cX3_turnedY 50 = .ok (.lsub, 1) := by decide +kernel
theorem dX3_turnedY_51 : decode cX3_turnedY 51 = .ok (.lreturn, 1) := by decide +kernel
theorem dX3_turnedY_52 : decode cX3_turnedY 52 = .ok (.aload_n 0, 1) := by decide +kernel
theorem dX3_turnedY_53 : decode cX3_turnedY 53 = .ok (.getfield 48, 3) := by decide +kernel
theorem dX3_turnedY_56 : decode cX3_turnedY 56 = .ok (.getfield 91, 3) := by decide +kernel
theorem dX3_turnedY_59 : decode cX3_turnedY 59 = .ok (.iload_n 2, 1) := by decide +kernel
theorem dX3_turnedY_60 : decode cX3_turnedY 60 = .ok (.laload, 1) := by decide +kernel
theorem dX3_turnedY_61 : decode cX3_turnedY 61 = .ok (.aload_n 0, 1) := by decide +kernel
theorem dX3_turnedY_62 : decode cX3_turnedY 62 = .ok (.getfield 18, 3) := by decide +kernel
theorem dX3_turnedY_65 : decode cX3_turnedY 65 = .ok (.iload_n 1, 1) := by decide +kernel
theorem dX3_turnedY_66 : decode cX3_turnedY 66 = .ok (.laload, 1) := by decide +kernel
theorem dX3_turnedY_67 : decode cX3_turnedY 67 = .ok (.lsub, 1) := by decide +kernel
theorem dX3_turnedY_68 : decode cX3_turnedY 68 = .ok (.lreturn, 1) := by decide +kernel
theorem dX3_turnedY_69 : decode cX3_turnedY 69 = .ok (.aload_n 0, 1) := by decide +kernel
theorem dX3_turnedY_70 : decode cX3_turnedY 70 = .ok (.getfield 22, 3) := by decide +kernel
theorem dX3_turnedY_73 : decode cX3_turnedY 73 = .ok (.iload_n 1, 1) := by decide +kernel
theorem dX3_turnedY_74 : decode cX3_turnedY 74 = .ok (.laload, 1) := by decide +kernel
theorem dX3_turnedY_75 : decode cX3_turnedY 75 = .ok (.lreturn, 1) := by decide +kernel
theorem flX0_9 : Cond.fieldLink RX0 9 "BoardMoves$Limits" "x0" "[J" ∈ bT := (mB 74 (by decide +kernel))
theorem flX0_15 : Cond.fieldLink RX0 15 "BoardMoves$Limits" "y0" "[J" ∈ bT := (mB 75 (by decide +kernel))
theorem flX0_18 : Cond.fieldLink RX0 18 "BoardMoves$Limits" "x1" "[J" ∈ bT := (mB 76 (by decide +kernel))
theorem flX0_21 : Cond.fieldLink RX0 21 "BoardMoves$Limits" "y1" "[J" ∈ bT := (mB 77 (by decide +kernel))
theorem flX0_24 : Cond.fieldLink RX0 24 "BoardMoves$Limits" "tallest" "[J" ∈ bT := (mB 78 (by decide +kernel))
theorem flX0_27 : Cond.fieldLink RX0 27 "BoardMoves$Limits" "one" "[I" ∈ bT := (mB 79 (by decide +kernel))
theorem flX0_31 : Cond.fieldLink RX0 31 "BoardMoves$Limits" "other" "[I" ∈ bT := (mB 80 (by decide +kernel))
theorem flX0_34 : Cond.fieldLink RX0 34 "BoardMoves$Limits" "most" "[J" ∈ bT := (mB 81 (by decide +kernel))
theorem flX0_37 : Cond.fieldLink RX0 37 "BoardMoves$Limits" "keepOuts" "I" ∈ bT := (mB 82 (by decide +kernel))
theorem flX0_41 : Cond.fieldLink RX0 41 "BoardMoves$Limits" "nears" "I" ∈ bT := (mB 83 (by decide +kernel))
theorem flX0_44 : Cond.fieldLink RX0 44 "BoardMoves$Limits" "parts" "LBoardMoves$Parts;" ∈ bT := (mB 73 (by decide +kernel))
theorem flX0_48 : Cond.fieldLink RX0 48 "BoardMoves$Parts" "tall" "[J" ∈ bT := (mB 40 (by decide +kernel))
theorem flX1_29 : Cond.fieldLink RX1 29 "BoardMoves$Parts" "lowest" "[I" ∈ bT := (mB 44 (by decide +kernel))
theorem flX1_32 : Cond.fieldLink RX1 32 "BoardMoves$Parts" "count" "I" ∈ bT := (mB 46 (by decide +kernel))
theorem flX2_9 : Cond.fieldLink RX2 9 "BoardMoves$Placement" "x" "[J" ∈ bT := (mB 158 (by decide +kernel))
theorem flX2_15 : Cond.fieldLink RX2 15 "BoardMoves$Placement" "y" "[J" ∈ bT := (mB 161 (by decide +kernel))
theorem flX2_18 : Cond.fieldLink RX2 18 "BoardMoves$Placement" "turn" "[I" ∈ bT := (mB 164 (by decide +kernel))
theorem flX2_22 : Cond.fieldLink RX2 22 "BoardMoves$Placement" "placed" "[Z" ∈ bT := (mB 167 (by decide +kernel))
theorem flX2_26 : Cond.fieldLink RX2 26 "BoardMoves$Placement" "parts" "LBoardMoves$Parts;" ∈ bT := (mB 157 (by decide +kernel))
theorem flX2_30 : Cond.fieldLink RX2 30 "BoardMoves$Parts" "count" "I" ∈ bT := (mB 47 (by decide +kernel))
theorem flX2_40 : Cond.fieldLink RX2 40 "BoardMoves$Parts" "w" "[J" ∈ bT := (mB 31 (by decide +kernel))
theorem flX2_43 : Cond.fieldLink RX2 43 "BoardMoves$Parts" "h" "[J" ∈ bT := (mB 35 (by decide +kernel))
theorem flX2_53 : Cond.fieldLink RX2 53 "BoardMoves$Parts" "side" "[I" ∈ bT := (mB 37 (by decide +kernel))
theorem flX3_9 : Cond.fieldLink RX3 9 "BoardMoves$Wiring" "netOf" "[I" ∈ bT := (mB 114 (by decide +kernel))
theorem flX3_15 : Cond.fieldLink RX3 15 "BoardMoves$Wiring" "partOf" "[I" ∈ bT := (mB 115 (by decide +kernel))
theorem flX3_18 : Cond.fieldLink RX3 18 "BoardMoves$Wiring" "dx" "[J" ∈ bT := (mB 116 (by decide +kernel))
theorem flX3_22 : Cond.fieldLink RX3 22 "BoardMoves$Wiring" "dy" "[J" ∈ bT := (mB 117 (by decide +kernel))
theorem flX3_25 : Cond.fieldLink RX3 25 "BoardMoves$Wiring" "reached" "[Z" ∈ bT := (mB 118 (by decide +kernel))
theorem flX3_29 : Cond.fieldLink RX3 29 "BoardMoves$Wiring" "lowX" "[J" ∈ bT := (mB 119 (by decide +kernel))
theorem flX3_32 : Cond.fieldLink RX3 32 "BoardMoves$Wiring" "highX" "[J" ∈ bT := (mB 120 (by decide +kernel))
theorem flX3_35 : Cond.fieldLink RX3 35 "BoardMoves$Wiring" "lowY" "[J" ∈ bT := (mB 121 (by decide +kernel))
theorem flX3_38 : Cond.fieldLink RX3 38 "BoardMoves$Wiring" "highY" "[J" ∈ bT := (mB 122 (by decide +kernel))
theorem flX3_41 : Cond.fieldLink RX3 41 "BoardMoves$Wiring" "nets" "I" ∈ bT := (mB 123 (by decide +kernel))
theorem flX3_45 : Cond.fieldLink RX3 45 "BoardMoves$Wiring" "pins" "I" ∈ bT := (mB 125 (by decide +kernel))
theorem flX3_48 : Cond.fieldLink RX3 48 "BoardMoves$Wiring" "parts" "LBoardMoves$Parts;" ∈ bT := (mB 113 (by decide +kernel))
theorem flX3_52 : Cond.fieldLink RX3 52 "BoardMoves$Placement" "placed" "[Z" ∈ bT := (mB 169 (by decide +kernel))
theorem flX3_57 : Cond.fieldLink RX3 57 "BoardMoves$Placement" "turn" "[I" ∈ bT := (mB 166 (by decide +kernel))
theorem flX3_60 : Cond.fieldLink RX3 60 "BoardMoves$Placement" "x" "[J" ∈ bT := (mB 160 (by decide +kernel))
theorem flX3_67 : Cond.fieldLink RX3 67 "BoardMoves$Placement" "y" "[J" ∈ bT := (mB 163 (by decide +kernel))
theorem flX3_86 : Cond.fieldLink RX3 86 "BoardMoves$Parts" "h" "[J" ∈ bT := (mB 33 (by decide +kernel))
theorem flX3_91 : Cond.fieldLink RX3 91 "BoardMoves$Parts" "w" "[J" ∈ bT := (mB 30 (by decide +kernel))
theorem flX4_12 : Cond.fieldLink RX4 12 "BoardMoves" "parts" "LBoardMoves$Parts;" ∈ bT := (mB 190 (by decide +kernel))
theorem flX4_23 : Cond.fieldLink RX4 23 "BoardMoves" "limits" "LBoardMoves$Limits;" ∈ bT := (mB 191 (by decide +kernel))
theorem flX4_30 : Cond.fieldLink RX4 30 "BoardMoves" "wiring" "LBoardMoves$Wiring;" ∈ bT := (mB 192 (by decide +kernel))
theorem flX4_37 : Cond.fieldLink RX4 37 "BoardMoves" "now" "LBoardMoves$Placement;" ∈ bT := (mB 193 (by decide +kernel))
theorem flX4_41 : Cond.fieldLink RX4 41 "BoardMoves" "before" "LBoardMoves$Placement;" ∈ bT := (mB 194 (by decide +kernel))
theorem flX4_47 : Cond.fieldLink RX4 47 "BoardMoves" "keptWire" "J" ∈ bT := (mB 197 (by decide +kernel))
theorem flX4_62 : Cond.fieldLink RX4 62 "BoardMoves" "boardWide" "J" ∈ bT := (mB 188 (by decide +kernel))
theorem flX4_65 : Cond.fieldLink RX4 65 "BoardMoves" "boardHigh" "J" ∈ bT := (mB 189 (by decide +kernel))
theorem flX4_68 : Cond.fieldLink RX4 68 "BoardMoves" "drawn" "J" ∈ bT := (mB 196 (by decide +kernel))
theorem flX4_96 : Cond.fieldLink RX4 96 "BoardMoves$Placement" "placed" "[Z" ∈ bT := (mB 168 (by decide +kernel))
theorem flX4_100 : Cond.fieldLink RX4 100 "BoardMoves$Placement" "turn" "[I" ∈ bT := (mB 165 (by decide +kernel))
theorem flX4_112 : Cond.fieldLink RX4 112 "BoardMoves$Placement" "x" "[J" ∈ bT := (mB 159 (by decide +kernel))
theorem flX4_116 : Cond.fieldLink RX4 116 "BoardMoves$Placement" "y" "[J" ∈ bT := (mB 162 (by decide +kernel))
theorem flX4_132 : Cond.fieldLink RX4 132 "BoardMoves$Parts" "locked" "[Z" ∈ bT := (mB 43 (by decide +kernel))
theorem flX4_148 : Cond.fieldLink RX4 148 "BoardMoves$Parts" "w" "[J" ∈ bT := (mB 29 (by decide +kernel))
theorem flX4_151 : Cond.fieldLink RX4 151 "BoardMoves$Parts" "h" "[J" ∈ bT := (mB 34 (by decide +kernel))
theorem flX4_197 : Cond.fieldLink RX4 197 "BoardMoves$Parts" "count" "I" ∈ bT := (mB 48 (by decide +kernel))
theorem flX5_7 : Cond.fieldLink RX5 7 "BoardMovesModel" "wide" "[J" ∈ bT := (mB 624 (by decide +kernel))
theorem flX5_13 : Cond.fieldLink RX5 13 "BoardMovesModel" "high" "[J" ∈ bT := (mB 625 (by decide +kernel))
theorem flX5_16 : Cond.fieldLink RX5 16 "BoardMovesModel" "sides" "[I" ∈ bT := (mB 626 (by decide +kernel))
theorem flX5_20 : Cond.fieldLink RX5 20 "BoardMovesModel" "heights" "[J" ∈ bT := (mB 627 (by decide +kernel))
theorem flX5_23 : Cond.fieldLink RX5 23 "BoardMovesModel" "locked" "[Z" ∈ bT := (mB 628 (by decide +kernel))
theorem flX5_27 : Cond.fieldLink RX5 27 "BoardMovesModel" "groups" "[I" ∈ bT := (mB 629 (by decide +kernel))
theorem flX5_30 : Cond.fieldLink RX5 30 "BoardMovesModel" "placed" "[Z" ∈ bT := (mB 630 (by decide +kernel))
theorem flX5_33 : Cond.fieldLink RX5 33 "BoardMovesModel" "x" "[J" ∈ bT := (mB 631 (by decide +kernel))
theorem flX5_36 : Cond.fieldLink RX5 36 "BoardMovesModel" "y" "[J" ∈ bT := (mB 632 (by decide +kernel))
theorem flX5_39 : Cond.fieldLink RX5 39 "BoardMovesModel" "turns" "[I" ∈ bT := (mB 633 (by decide +kernel))
theorem flX5_42 : Cond.fieldLink RX5 42 "BoardMovesModel" "out" "[J" ∈ bT := (mB 635 (by decide +kernel))
theorem flX5_45 : Cond.fieldLink RX5 45 "BoardMovesModel" "nearOne" "[I" ∈ bT := (mB 637 (by decide +kernel))
theorem flX5_48 : Cond.fieldLink RX5 48 "BoardMovesModel" "nearTwo" "[I" ∈ bT := (mB 638 (by decide +kernel))
theorem flX5_51 : Cond.fieldLink RX5 51 "BoardMovesModel" "nearMost" "[J" ∈ bT := (mB 639 (by decide +kernel))
theorem flX5_54 : Cond.fieldLink RX5 54 "BoardMovesModel" "pinNet" "[I" ∈ bT := (mB 642 (by decide +kernel))
theorem flX5_57 : Cond.fieldLink RX5 57 "BoardMovesModel" "pinPart" "[I" ∈ bT := (mB 643 (by decide +kernel))
theorem flX5_60 : Cond.fieldLink RX5 60 "BoardMovesModel" "pinX" "[J" ∈ bT := (mB 644 (by decide +kernel))
theorem flX5_63 : Cond.fieldLink RX5 63 "BoardMovesModel" "pinY" "[J" ∈ bT := (mB 645 (by decide +kernel))
theorem flX5_66 : Cond.fieldLink RX5 66 "BoardMovesModel" "moved" "[Z" ∈ bT := (mB 646 (by decide +kernel))
theorem flX5_71 : Cond.fieldLink RX5 71 "BoardMovesModel" "width" "J" ∈ bT := (mB 621 (by decide +kernel))
theorem flX5_75 : Cond.fieldLink RX5 75 "BoardMovesModel" "height" "J" ∈ bT := (mB 622 (by decide +kernel))
theorem flX5_78 : Cond.fieldLink RX5 78 "BoardMovesModel" "s" "J" ∈ bT := (mB 647 (by decide +kernel))
theorem flX5_85 : Cond.fieldLink RX5 85 "BoardMovesModel" "parts" "I" ∈ bT := (mB 623 (by decide +kernel))
theorem flX5_109 : Cond.fieldLink RX5 109 "BoardMovesModel" "outs" "I" ∈ bT := (mB 634 (by decide +kernel))
theorem flX5_126 : Cond.fieldLink RX5 126 "BoardMovesModel" "nears" "I" ∈ bT := (mB 636 (by decide +kernel))
theorem flX5_160 : Cond.fieldLink RX5 160 "BoardMovesModel" "nets" "I" ∈ bT := (mB 640 (by decide +kernel))
theorem flX5_163 : Cond.fieldLink RX5 163 "BoardMovesModel" "pins" "I" ∈ bT := (mB 641 (by decide +kernel))
theorem clX4_51 : Cond.constantLong RX4 51 65536 ∈ bT := (mB 181 (by decide +kernel))
theorem clX4_268 : Cond.constantLong RX4 268 6364136223846793005 ∈ bT := (mB 543 (by decide +kernel))
theorem clX4_270 : Cond.constantLong RX4 270 1442695040888963407 ∈ bT := (mB 544 (by decide +kernel))
theorem clX4_276 : Cond.constantLong RX4 276 4 ∈ bT := (mB 545 (by decide +kernel))
theorem clX4_282 : Cond.constantLong RX4 282 3 ∈ bT := (mB 550 (by decide +kernel))
theorem clX5_195 : Cond.constantLong RX5 195 6364136223846793005 ∈ bT := (mB 863 (by decide +kernel))
theorem clX5_197 : Cond.constantLong RX5 197 1442695040888963407 ∈ bT := (mB 864 (by decide +kernel))
theorem clX5_199 : Cond.constantLong RX5 199 4 ∈ bT := (mB 869 (by decide +kernel))
theorem clX5_201 : Cond.constantLong RX5 201 3 ∈ bT := (mB 870 (by decide +kernel))
theorem wcX5_gap : Cond.code yX5_gap cX5_gap 8 (some .long) ∈ bT := (mB 786 (by decide +kernel))
theorem gsX5_112 {a : Cond} : GoodIn (a :: bT) (wsS RX5 112 yX5_gap wsX5_gap) := gdS wcX5_gap (mB 784 (by decide +kernel)) (mB 785 (by decide +kernel)) (mB 7 (by decide +kernel))
theorem wcX2_meetsArea : Cond.code yX2_meetsArea cX2_meetsArea 10 (some .boolean) ∈ bT := (mB 284 (by decide +kernel))
theorem gvX0_53 {a : Cond} : GoodIn (a :: bT) (wsV RX0 53 RX2 yX2_meetsArea wsX2_meetsArea) := gdV wcX2_meetsArea (mB 289 (by decide +kernel)) (mB 282 (by decide +kernel)) (mB 283 (by decide +kernel)) (mB 5 (by decide +kernel))
theorem wcX2_isNear : Cond.code yX2_isNear cX2_isNear 9 (some .boolean) ∈ bT := (mB 297 (by decide +kernel))
theorem gvX0_59 {a : Cond} : GoodIn (a :: bT) (wsV RX0 59 RX2 yX2_isNear wsX2_isNear) := gdV wcX2_isNear (mB 294 (by decide +kernel)) (mB 295 (by decide +kernel)) (mB 296 (by decide +kernel)) (mB 5 (by decide +kernel))
theorem wcX1_areMates : Cond.code yX1_areMates cX1_areMates 3 (some .boolean) ∈ bT := (mB 422 (by decide +kernel))
theorem gvX2_36 {a : Cond} : GoodIn (a :: bT) (wsV RX2 36 RX1 yX1_areMates wsX1_areMates) := gdV wcX1_areMates (mB 419 (by decide +kernel)) (mB 420 (by decide +kernel)) (mB 421 (by decide +kernel)) (mB 2 (by decide +kernel))
theorem wcX2_endX : Cond.code yX2_endX cX2_endX 2 (some .long) ∈ bT := (mB 276 (by decide +kernel))
theorem gvX2_46 {a : Cond} : GoodIn (a :: bT) (wsV RX2 46 RX2 yX2_endX wsX2_endX) := gdV wcX2_endX (mB 273 (by decide +kernel)) (mB 274 (by decide +kernel)) (mB 275 (by decide +kernel)) (mB 5 (by decide +kernel))
theorem wcX2_endY : Cond.code yX2_endY cX2_endY 2 (some .long) ∈ bT := (mB 280 (by decide +kernel))
theorem gvX2_50 {a : Cond} : GoodIn (a :: bT) (wsV RX2 50 RX2 yX2_endY wsX2_endY) := gdV wcX2_endY (mB 277 (by decide +kernel)) (mB 278 (by decide +kernel)) (mB 279 (by decide +kernel)) (mB 5 (by decide +kernel))
theorem gvX2_56 {a : Cond} : GoodIn (a :: bT) (wsV RX2 56 RX2 yX2_meetsArea wsX2_meetsArea) := gdV wcX2_meetsArea (mB 281 (by decide +kernel)) (mB 282 (by decide +kernel)) (mB 283 (by decide +kernel)) (mB 5 (by decide +kernel))
theorem wcX2_overlapped : Cond.code yX2_overlapped cX2_overlapped 8 (some .int) ∈ bT := (mB 272 (by decide +kernel))
theorem gvX2_60 {a : Cond} : GoodIn (a :: bT) (wsV RX2 60 RX2 yX2_overlapped wsX2_overlapped) := gdV wcX2_overlapped (mB 503 (by decide +kernel)) (mB 270 (by decide +kernel)) (mB 271 (by decide +kernel)) (mB 5 (by decide +kernel))
theorem wcX3_turnedX : Cond.code yX3_turnedX cX3_turnedX 4 (some .long) ∈ bT := (mB 242 (by decide +kernel))
theorem gvX3_63 {a : Cond} : GoodIn (a :: bT) (wsV RX3 63 RX3 yX3_turnedX wsX3_turnedX) := gdV wcX3_turnedX (mB 239 (by decide +kernel)) (mB 241 (by decide +kernel)) (mS (by decide +kernel)) (mB 4 (by decide +kernel))
theorem wcX3_turnedY : Cond.code yX3_turnedY cX3_turnedY 4 (some .long) ∈ bT := (mB 246 (by decide +kernel))
theorem gvX3_70 {a : Cond} : GoodIn (a :: bT) (wsV RX3 70 RX3 yX3_turnedY wsX3_turnedY) := gdV wcX3_turnedY (mB 243 (by decide +kernel)) (mB 245 (by decide +kernel)) (mS (by decide +kernel)) (mB 4 (by decide +kernel))
theorem wcX3_reach : Cond.code yX3_reach cX3_reach 7 none ∈ bT := (mB 250 (by decide +kernel))
theorem gvX3_73 {a : Cond} : GoodIn (a :: bT) (wsV RX3 73 RX3 yX3_reach wsX3_reach) := gdV wcX3_reach (mB 247 (by decide +kernel)) (mB 249 (by decide +kernel)) (mS (by decide +kernel)) (mB 4 (by decide +kernel))
theorem wcX4_fitsBoard : Cond.code yX4_fitsBoard cX4_fitsBoard 12 (some .boolean) ∈ bT := (mB 268 (by decide +kernel))
theorem gvX4_92 {a : Cond} : GoodIn (a :: bT) (wsV RX4 92 RX4 yX4_fitsBoard wsX4_fitsBoard) := gdV wcX4_fitsBoard (mB 265 (by decide +kernel)) (mB 267 (by decide +kernel)) (mS (by decide +kernel)) (mB 1 (by decide +kernel))
theorem wcX2_hasPlacedMate : Cond.code yX2_hasPlacedMate cX2_hasPlacedMate 3 (some .boolean) ∈ bT := (mB 418 (by decide +kernel))
theorem gvX4_104 {a : Cond} : GoodIn (a :: bT) (wsV RX4 104 RX2 yX2_hasPlacedMate wsX2_hasPlacedMate) := gdV wcX2_hasPlacedMate (mB 415 (by decide +kernel)) (mB 416 (by decide +kernel)) (mB 417 (by decide +kernel)) (mB 5 (by decide +kernel))
theorem wcX2_copyFrom : Cond.code yX2_copyFrom cX2_copyFrom 3 none ∈ bT := (mB 426 (by decide +kernel))
theorem gvX4_108 {a : Cond} : GoodIn (a :: bT) (wsV RX4 108 RX2 yX2_copyFrom wsX2_copyFrom) := gdV wcX2_copyFrom (mB 423 (by decide +kernel)) (mB 424 (by decide +kernel)) (mB 425 (by decide +kernel)) (mB 5 (by decide +kernel))
theorem wcX2_shiftGroup : Cond.code yX2_shiftGroup cX2_shiftGroup 7 none ∈ bT := (mB 430 (by decide +kernel))
theorem gvX4_119 {a : Cond} : GoodIn (a :: bT) (wsV RX4 119 RX2 yX2_shiftGroup wsX2_shiftGroup) := gdV wcX2_shiftGroup (mB 427 (by decide +kernel)) (mB 428 (by decide +kernel)) (mB 429 (by decide +kernel)) (mB 5 (by decide +kernel))
theorem wcX4_keepChange : Cond.code yX4_keepChange cX4_keepChange 5 (some .boolean) ∈ bT := (mB 439 (by decide +kernel))
theorem gvX4_129 {a : Cond} : GoodIn (a :: bT) (wsV RX4 129 RX4 yX4_keepChange wsX4_keepChange) := gdV wcX4_keepChange (mB 436 (by decide +kernel)) (mB 438 (by decide +kernel)) (mS (by decide +kernel)) (mB 1 (by decide +kernel))
theorem wcX3_measure : Cond.code yX3_measure cX3_measure 5 (some .long) ∈ bT := (mB 238 (by decide +kernel))
theorem gvX4_160 {a : Cond} : GoodIn (a :: bT) (wsV RX4 160 RX3 yX3_measure wsX3_measure) := gdV wcX3_measure (mB 235 (by decide +kernel)) (mB 236 (by decide +kernel)) (mB 237 (by decide +kernel)) (mB 4 (by decide +kernel))
theorem wcX4_takeBack : Cond.code yX4_takeBack cX4_takeBack 1 (some .boolean) ∈ bT := (mB 447 (by decide +kernel))
theorem gvX4_177 {a : Cond} : GoodIn (a :: bT) (wsV RX4 177 RX4 yX4_takeBack wsX4_takeBack) := gdV wcX4_takeBack (mB 444 (by decide +kernel)) (mB 446 (by decide +kernel)) (mS (by decide +kernel)) (mB 1 (by decide +kernel))
theorem wcX4_countChanged : Cond.code yX4_countChanged cX4_countChanged 4 (some .int) ∈ bT := (mB 516 (by decide +kernel))
theorem gvX4_181 {a : Cond} : GoodIn (a :: bT) (wsV RX4 181 RX4 yX4_countChanged wsX4_countChanged) := gdV wcX4_countChanged (mB 513 (by decide +kernel)) (mB 515 (by decide +kernel)) (mS (by decide +kernel)) (mB 1 (by decide +kernel))
theorem wcX4_standsWell : Cond.code yX4_standsWell cX4_standsWell 2 (some .boolean) ∈ bT := (mB 264 (by decide +kernel))
theorem gvX4_220 {a : Cond} : GoodIn (a :: bT) (wsV RX4 220 RX4 yX4_standsWell wsX4_standsWell) := gdV wcX4_standsWell (mB 261 (by decide +kernel)) (mB 263 (by decide +kernel)) (mS (by decide +kernel)) (mB 1 (by decide +kernel))
theorem gvX4_240 {a : Cond} : GoodIn (a :: bT) (wsV RX4 240 RX2 yX2_overlapped wsX2_overlapped) := gdV wcX2_overlapped (mB 269 (by decide +kernel)) (mB 270 (by decide +kernel)) (mB 271 (by decide +kernel)) (mB 5 (by decide +kernel))
theorem wcX0_isLowEnough : Cond.code yX0_isLowEnough cX0_isLowEnough 4 (some .boolean) ∈ bT := (mB 288 (by decide +kernel))
theorem gvX4_243 {a : Cond} : GoodIn (a :: bT) (wsV RX4 243 RX0 yX0_isLowEnough wsX0_isLowEnough) := gdV wcX0_isLowEnough (mB 285 (by decide +kernel)) (mB 286 (by decide +kernel)) (mB 287 (by decide +kernel)) (mB 3 (by decide +kernel))
theorem wcX0_isNearEnough : Cond.code yX0_isNearEnough cX0_isNearEnough 5 (some .boolean) ∈ bT := (mB 293 (by decide +kernel))
theorem gvX4_247 {a : Cond} : GoodIn (a :: bT) (wsV RX4 247 RX0 yX0_isNearEnough wsX0_isNearEnough) := gdV wcX0_isNearEnough (mB 290 (by decide +kernel)) (mB 291 (by decide +kernel)) (mB 292 (by decide +kernel)) (mB 3 (by decide +kernel))
theorem wcX2_differs : Cond.code yX2_differs cX2_differs 3 (some .boolean) ∈ bT := (mB 443 (by decide +kernel))
theorem gvX4_250 {a : Cond} : GoodIn (a :: bT) (wsV RX4 250 RX2 yX2_differs wsX2_differs) := gdV wcX2_differs (mB 440 (by decide +kernel)) (mB 441 (by decide +kernel)) (mB 442 (by decide +kernel)) (mB 5 (by decide +kernel))
theorem wcX2_firstOverlapping : Cond.code yX2_firstOverlapping cX2_firstOverlapping 2 (some .int) ∈ bT := (mB 502 (by decide +kernel))
theorem gvX4_253 {a : Cond} : GoodIn (a :: bT) (wsV RX4 253 RX2 yX2_firstOverlapping wsX2_firstOverlapping) := gdV wcX2_firstOverlapping (mB 499 (by decide +kernel)) (mB 500 (by decide +kernel)) (mB 501 (by decide +kernel)) (mB 5 (by decide +kernel))
theorem gvX4_256 {a : Cond} : GoodIn (a :: bT) (wsV RX4 256 RX1 yX1_areMates wsX1_areMates) := gdV wcX1_areMates (mB 504 (by decide +kernel)) (mB 420 (by decide +kernel)) (mB 421 (by decide +kernel)) (mB 2 (by decide +kernel))
theorem wcX4_goesOn : Cond.code yX4_goesOn cX4_goesOn 10 (some .boolean) ∈ bT := (mB 508 (by decide +kernel))
theorem gvX4_260 {a : Cond} : GoodIn (a :: bT) (wsV RX4 260 RX4 yX4_goesOn wsX4_goesOn) := gdV wcX4_goesOn (mB 505 (by decide +kernel)) (mB 507 (by decide +kernel)) (mS (by decide +kernel)) (mB 1 (by decide +kernel))
theorem wcX2_wayToBorder : Cond.code yX2_wayToBorder cX2_wayToBorder 5 (some .long) ∈ bT := (mB 512 (by decide +kernel))
theorem gvX4_264 {a : Cond} : GoodIn (a :: bT) (wsV RX4 264 RX2 yX2_wayToBorder wsX2_wayToBorder) := gdV wcX2_wayToBorder (mB 509 (by decide +kernel)) (mB 510 (by decide +kernel)) (mB 511 (by decide +kernel)) (mB 5 (by decide +kernel))
theorem wcX4_draw : Cond.code yX4_draw cX4_draw 1 (some .long) ∈ bT := (mB 542 (by decide +kernel))
theorem gvX4_272 {a : Cond} : GoodIn (a :: bT) (wsV RX4 272 RX4 yX4_draw wsX4_draw) := gdV wcX4_draw (mB 539 (by decide +kernel)) (mB 541 (by decide +kernel)) (mS (by decide +kernel)) (mB 1 (by decide +kernel))
theorem wcX4_swapPlaces : Cond.code yX4_swapPlaces cX4_swapPlaces 7 none ∈ bT := (mB 549 (by decide +kernel))
theorem gvX4_278 {a : Cond} : GoodIn (a :: bT) (wsV RX4 278 RX4 yX4_swapPlaces wsX4_swapPlaces) := gdV wcX4_swapPlaces (mB 546 (by decide +kernel)) (mB 548 (by decide +kernel)) (mS (by decide +kernel)) (mB 1 (by decide +kernel))
theorem wcX4_turnAlone : Cond.code yX4_turnAlone cX4_turnAlone 3 none ∈ bT := (mB 554 (by decide +kernel))
theorem gvX4_284 {a : Cond} : GoodIn (a :: bT) (wsV RX4 284 RX4 yX4_turnAlone wsX4_turnAlone) := gdV wcX4_turnAlone (mB 551 (by decide +kernel)) (mB 553 (by decide +kernel)) (mS (by decide +kernel)) (mB 1 (by decide +kernel))
theorem wcX5_left : Cond.code yX5_left cX5_left 3 (some .long) ∈ bT := (mB 735 (by decide +kernel))
theorem gvX5_92 {a : Cond} : GoodIn (a :: bT) (wsV RX5 92 RX5 yX5_left wsX5_left) := gdV wcX5_left (mB 732 (by decide +kernel)) (mB 734 (by decide +kernel)) (mS (by decide +kernel)) (mB 7 (by decide +kernel))
theorem wcX5_lies : Cond.code yX5_lies cX5_lies 3 (some .boolean) ∈ bT := (mB 767 (by decide +kernel))
theorem gvX5_96 {a : Cond} : GoodIn (a :: bT) (wsV RX5 96 RX5 yX5_lies wsX5_lies) := gdV wcX5_lies (mB 764 (by decide +kernel)) (mB 766 (by decide +kernel)) (mS (by decide +kernel)) (mB 7 (by decide +kernel))
theorem wcX5_low : Cond.code yX5_low cX5_low 3 (some .long) ∈ bT := (mB 739 (by decide +kernel))
theorem gvX5_100 {a : Cond} : GoodIn (a :: bT) (wsV RX5 100 RX5 yX5_low wsX5_low) := gdV wcX5_low (mB 736 (by decide +kernel)) (mB 738 (by decide +kernel)) (mS (by decide +kernel)) (mB 7 (by decide +kernel))
theorem wcX5_right : Cond.code yX5_right cX5_right 3 (some .long) ∈ bT := (mB 763 (by decide +kernel))
theorem gvX5_103 {a : Cond} : GoodIn (a :: bT) (wsV RX5 103 RX5 yX5_right wsX5_right) := gdV wcX5_right (mB 760 (by decide +kernel)) (mB 762 (by decide +kernel)) (mS (by decide +kernel)) (mB 7 (by decide +kernel))
theorem wcX5_top : Cond.code yX5_top cX5_top 3 (some .long) ∈ bT := (mB 771 (by decide +kernel))
theorem gvX5_106 {a : Cond} : GoodIn (a :: bT) (wsV RX5 106 RX5 yX5_top wsX5_top) := gdV wcX5_top (mB 768 (by decide +kernel)) (mB 770 (by decide +kernel)) (mS (by decide +kernel)) (mB 7 (by decide +kernel))
theorem wcX5_isOnBoard : Cond.code yX5_isOnBoard cX5_isOnBoard 7 (some .boolean) ∈ bT := (mB 759 (by decide +kernel))
theorem gvX5_116 {a : Cond} : GoodIn (a :: bT) (wsV RX5 116 RX5 yX5_isOnBoard wsX5_isOnBoard) := gdV wcX5_isOnBoard (mB 756 (by decide +kernel)) (mB 758 (by decide +kernel)) (mS (by decide +kernel)) (mB 7 (by decide +kernel))
theorem wcX5_isKeptOut : Cond.code yX5_isKeptOut cX5_isKeptOut 6 (some .boolean) ∈ bT := (mB 775 (by decide +kernel))
theorem gvX5_119 {a : Cond} : GoodIn (a :: bT) (wsV RX5 119 RX5 yX5_isKeptOut wsX5_isKeptOut) := gdV wcX5_isKeptOut (mB 772 (by decide +kernel)) (mB 774 (by decide +kernel)) (mS (by decide +kernel)) (mB 7 (by decide +kernel))
theorem wcX5_overlap : Cond.code yX5_overlap cX5_overlap 4 (some .boolean) ∈ bT := (mB 779 (by decide +kernel))
theorem gvX5_122 {a : Cond} : GoodIn (a :: bT) (wsV RX5 122 RX5 yX5_overlap wsX5_overlap) := gdV wcX5_overlap (mB 776 (by decide +kernel)) (mB 778 (by decide +kernel)) (mS (by decide +kernel)) (mB 7 (by decide +kernel))
theorem wcX5_isNear : Cond.code yX5_isNear cX5_isNear 5 (some .boolean) ∈ bT := (mB 783 (by decide +kernel))
theorem gvX5_129 {a : Cond} : GoodIn (a :: bT) (wsV RX5 129 RX5 yX5_isNear wsX5_isNear) := gdV wcX5_isNear (mB 780 (by decide +kernel)) (mB 782 (by decide +kernel)) (mS (by decide +kernel)) (mB 7 (by decide +kernel))
theorem wcX5_copy : Cond.code yX5_copy cX5_copy 4 none ∈ bT := (mB 727 (by decide +kernel))
theorem gvX5_132 {a : Cond} : GoodIn (a :: bT) (wsV RX5 132 RX5 yX5_copy wsX5_copy) := gdV wcX5_copy (mB 724 (by decide +kernel)) (mB 726 (by decide +kernel)) (mS (by decide +kernel)) (mB 7 (by decide +kernel))
theorem wcX5_isSame : Cond.code yX5_isSame cX5_isSame 3 (some .boolean) ∈ bT := (mB 751 (by decide +kernel))
theorem gvX5_136 {a : Cond} : GoodIn (a :: bT) (wsV RX5 136 RX5 yX5_isSame wsX5_isSame) := gdV wcX5_isSame (mB 748 (by decide +kernel)) (mB 750 (by decide +kernel)) (mS (by decide +kernel)) (mB 7 (by decide +kernel))
theorem wcX5_hasMate : Cond.code yX5_hasMate cX5_hasMate 4 (some .boolean) ∈ bT := (mB 731 (by decide +kernel))
theorem gvX5_146 {a : Cond} : GoodIn (a :: bT) (wsV RX5 146 RX5 yX5_hasMate wsX5_hasMate) := gdV wcX5_hasMate (mB 728 (by decide +kernel)) (mB 730 (by decide +kernel)) (mS (by decide +kernel)) (mB 7 (by decide +kernel))
theorem wcX5_go : Cond.code yX5_go cX5_go 7 none ∈ bT := (mB 743 (by decide +kernel))
theorem gvX5_149 {a : Cond} : GoodIn (a :: bT) (wsV RX5 149 RX5 yX5_go wsX5_go) := gdV wcX5_go (mB 740 (by decide +kernel)) (mB 742 (by decide +kernel)) (mS (by decide +kernel)) (mB 7 (by decide +kernel))
theorem wcX5_pinAt : Cond.code yX5_pinAt cX5_pinAt 9 (some .long) ∈ bT := (mB 814 (by decide +kernel))
theorem gvX5_166 {a : Cond} : GoodIn (a :: bT) (wsV RX5 166 RX5 yX5_pinAt wsX5_pinAt) := gdV wcX5_pinAt (mB 811 (by decide +kernel)) (mB 813 (by decide +kernel)) (mS (by decide +kernel)) (mB 7 (by decide +kernel))
theorem wcX5_reach : Cond.code yX5_reach cX5_reach 12 (some .long) ∈ bT := (mB 810 (by decide +kernel))
theorem gvX5_170 {a : Cond} : GoodIn (a :: bT) (wsV RX5 170 RX5 yX5_reach wsX5_reach) := gdV wcX5_reach (mB 807 (by decide +kernel)) (mB 809 (by decide +kernel)) (mS (by decide +kernel)) (mB 7 (by decide +kernel))
theorem wcX5_firstOverlap : Cond.code yX5_firstOverlap cX5_firstOverlap 4 (some .int) ∈ bT := (mB 833 (by decide +kernel))
theorem gvX5_177 {a : Cond} : GoodIn (a :: bT) (wsV RX5 177 RX5 yX5_firstOverlap wsX5_firstOverlap) := gdV wcX5_firstOverlap (mB 830 (by decide +kernel)) (mB 832 (by decide +kernel)) (mS (by decide +kernel)) (mB 7 (by decide +kernel))
theorem wcX5_beginOn : Cond.code yX5_beginOn cX5_beginOn 3 (some .long) ∈ bT := (mB 837 (by decide +kernel))
theorem gvX5_181 {a : Cond} : GoodIn (a :: bT) (wsV RX5 181 RX5 yX5_beginOn wsX5_beginOn) := gdV wcX5_beginOn (mB 834 (by decide +kernel)) (mB 836 (by decide +kernel)) (mS (by decide +kernel)) (mB 7 (by decide +kernel))
theorem wcX5_goOn : Cond.code yX5_goOn cX5_goOn 4 none ∈ bT := (mB 841 (by decide +kernel))
theorem gvX5_184 {a : Cond} : GoodIn (a :: bT) (wsV RX5 184 RX5 yX5_goOn wsX5_goOn) := gdV wcX5_goOn (mB 838 (by decide +kernel)) (mB 840 (by decide +kernel)) (mS (by decide +kernel)) (mB 7 (by decide +kernel))
theorem hsX5_gap : yX5_gap.cls = RX5 ∧ yX5_gap.cls ≠ "java/lang/invoke/MethodHandle" ∧ yX5_gap.cls ≠ "java/lang/invoke/VarHandle" ∧ (parseMethodDescriptor yX5_gap.desc).map (fun d => d.parameters.length) = some 4 := by decide +kernel
theorem hvX0_isLowEnough : yX0_isLowEnough.cls = RX0 ∧ yX0_isLowEnough.cls ≠ "java/lang/invoke/MethodHandle" ∧ yX0_isLowEnough.cls ≠ "java/lang/invoke/VarHandle" ∧ (parseMethodDescriptor yX0_isLowEnough.desc).map (fun d => d.parameters.length) = some 2 := by decide +kernel
theorem hvX0_isNearEnough : yX0_isNearEnough.cls = RX0 ∧ yX0_isNearEnough.cls ≠ "java/lang/invoke/MethodHandle" ∧ yX0_isNearEnough.cls ≠ "java/lang/invoke/VarHandle" ∧ (parseMethodDescriptor yX0_isNearEnough.desc).map (fun d => d.parameters.length) = some 2 := by decide +kernel
theorem hvX1_areMates : yX1_areMates.cls = RX1 ∧ yX1_areMates.cls ≠ "java/lang/invoke/MethodHandle" ∧ yX1_areMates.cls ≠ "java/lang/invoke/VarHandle" ∧ (parseMethodDescriptor yX1_areMates.desc).map (fun d => d.parameters.length) = some 2 := by decide +kernel
theorem hvX2_copyFrom : yX2_copyFrom.cls = RX2 ∧ yX2_copyFrom.cls ≠ "java/lang/invoke/MethodHandle" ∧ yX2_copyFrom.cls ≠ "java/lang/invoke/VarHandle" ∧ (parseMethodDescriptor yX2_copyFrom.desc).map (fun d => d.parameters.length) = some 1 := by decide +kernel
theorem hvX2_differs : yX2_differs.cls = RX2 ∧ yX2_differs.cls ≠ "java/lang/invoke/MethodHandle" ∧ yX2_differs.cls ≠ "java/lang/invoke/VarHandle" ∧ (parseMethodDescriptor yX2_differs.desc).map (fun d => d.parameters.length) = some 2 := by decide +kernel
theorem hvX2_endX : yX2_endX.cls = RX2 ∧ yX2_endX.cls ≠ "java/lang/invoke/MethodHandle" ∧ yX2_endX.cls ≠ "java/lang/invoke/VarHandle" ∧ (parseMethodDescriptor yX2_endX.desc).map (fun d => d.parameters.length) = some 1 := by decide +kernel
theorem hvX2_endY : yX2_endY.cls = RX2 ∧ yX2_endY.cls ≠ "java/lang/invoke/MethodHandle" ∧ yX2_endY.cls ≠ "java/lang/invoke/VarHandle" ∧ (parseMethodDescriptor yX2_endY.desc).map (fun d => d.parameters.length) = some 1 := by decide +kernel
theorem hvX2_firstOverlapping : yX2_firstOverlapping.cls = RX2 ∧ yX2_firstOverlapping.cls ≠ "java/lang/invoke/MethodHandle" ∧ yX2_firstOverlapping.cls ≠ "java/lang/invoke/VarHandle" ∧ (parseMethodDescriptor yX2_firstOverlapping.desc).map (fun d => d.parameters.length) = some 0 := by decide +kernel
theorem hvX2_hasPlacedMate : yX2_hasPlacedMate.cls = RX2 ∧ yX2_hasPlacedMate.cls ≠ "java/lang/invoke/MethodHandle" ∧ yX2_hasPlacedMate.cls ≠ "java/lang/invoke/VarHandle" ∧ (parseMethodDescriptor yX2_hasPlacedMate.desc).map (fun d => d.parameters.length) = some 1 := by decide +kernel
theorem hvX2_isNear : yX2_isNear.cls = RX2 ∧ yX2_isNear.cls ≠ "java/lang/invoke/MethodHandle" ∧ yX2_isNear.cls ≠ "java/lang/invoke/VarHandle" ∧ (parseMethodDescriptor yX2_isNear.desc).map (fun d => d.parameters.length) = some 3 := by decide +kernel
theorem hvX2_meetsArea : yX2_meetsArea.cls = RX2 ∧ yX2_meetsArea.cls ≠ "java/lang/invoke/MethodHandle" ∧ yX2_meetsArea.cls ≠ "java/lang/invoke/VarHandle" ∧ (parseMethodDescriptor yX2_meetsArea.desc).map (fun d => d.parameters.length) = some 5 := by decide +kernel
theorem hvX2_overlapped : yX2_overlapped.cls = RX2 ∧ yX2_overlapped.cls ≠ "java/lang/invoke/MethodHandle" ∧ yX2_overlapped.cls ≠ "java/lang/invoke/VarHandle" ∧ (parseMethodDescriptor yX2_overlapped.desc).map (fun d => d.parameters.length) = some 2 := by decide +kernel
theorem hvX2_shiftGroup : yX2_shiftGroup.cls = RX2 ∧ yX2_shiftGroup.cls ≠ "java/lang/invoke/MethodHandle" ∧ yX2_shiftGroup.cls ≠ "java/lang/invoke/VarHandle" ∧ (parseMethodDescriptor yX2_shiftGroup.desc).map (fun d => d.parameters.length) = some 3 := by decide +kernel
theorem hvX2_wayToBorder : yX2_wayToBorder.cls = RX2 ∧ yX2_wayToBorder.cls ≠ "java/lang/invoke/MethodHandle" ∧ yX2_wayToBorder.cls ≠ "java/lang/invoke/VarHandle" ∧ (parseMethodDescriptor yX2_wayToBorder.desc).map (fun d => d.parameters.length) = some 4 := by decide +kernel
theorem hvX3_measure : yX3_measure.cls = RX3 ∧ yX3_measure.cls ≠ "java/lang/invoke/MethodHandle" ∧ yX3_measure.cls ≠ "java/lang/invoke/VarHandle" ∧ (parseMethodDescriptor yX3_measure.desc).map (fun d => d.parameters.length) = some 1 := by decide +kernel
theorem hvX3_reach : yX3_reach.cls = RX3 ∧ yX3_reach.cls ≠ "java/lang/invoke/MethodHandle" ∧ yX3_reach.cls ≠ "java/lang/invoke/VarHandle" ∧ (parseMethodDescriptor yX3_reach.desc).map (fun d => d.parameters.length) = some 3 := by decide +kernel
theorem hvX3_turnedX : yX3_turnedX.cls = RX3 ∧ yX3_turnedX.cls ≠ "java/lang/invoke/MethodHandle" ∧ yX3_turnedX.cls ≠ "java/lang/invoke/VarHandle" ∧ (parseMethodDescriptor yX3_turnedX.desc).map (fun d => d.parameters.length) = some 3 := by decide +kernel
theorem hvX3_turnedY : yX3_turnedY.cls = RX3 ∧ yX3_turnedY.cls ≠ "java/lang/invoke/MethodHandle" ∧ yX3_turnedY.cls ≠ "java/lang/invoke/VarHandle" ∧ (parseMethodDescriptor yX3_turnedY.desc).map (fun d => d.parameters.length) = some 3 := by decide +kernel
theorem hvX4_countChanged : yX4_countChanged.cls = RX4 ∧ yX4_countChanged.cls ≠ "java/lang/invoke/MethodHandle" ∧ yX4_countChanged.cls ≠ "java/lang/invoke/VarHandle" ∧ (parseMethodDescriptor yX4_countChanged.desc).map (fun d => d.parameters.length) = some 1 := by decide +kernel
theorem hvX4_draw : yX4_draw.cls = RX4 ∧ yX4_draw.cls ≠ "java/lang/invoke/MethodHandle" ∧ yX4_draw.cls ≠ "java/lang/invoke/VarHandle" ∧ (parseMethodDescriptor yX4_draw.desc).map (fun d => d.parameters.length) = some 0 := by decide +kernel
theorem hvX4_fitsBoard : yX4_fitsBoard.cls = RX4 ∧ yX4_fitsBoard.cls ≠ "java/lang/invoke/MethodHandle" ∧ yX4_fitsBoard.cls ≠ "java/lang/invoke/VarHandle" ∧ (parseMethodDescriptor yX4_fitsBoard.desc).map (fun d => d.parameters.length) = some 4 := by decide +kernel
theorem hvX4_goesOn : yX4_goesOn.cls = RX4 ∧ yX4_goesOn.cls ≠ "java/lang/invoke/MethodHandle" ∧ yX4_goesOn.cls ≠ "java/lang/invoke/VarHandle" ∧ (parseMethodDescriptor yX4_goesOn.desc).map (fun d => d.parameters.length) = some 5 := by decide +kernel
theorem hvX4_keepChange : yX4_keepChange.cls = RX4 ∧ yX4_keepChange.cls ≠ "java/lang/invoke/MethodHandle" ∧ yX4_keepChange.cls ≠ "java/lang/invoke/VarHandle" ∧ (parseMethodDescriptor yX4_keepChange.desc).map (fun d => d.parameters.length) = some 1 := by decide +kernel
theorem hvX4_standsWell : yX4_standsWell.cls = RX4 ∧ yX4_standsWell.cls ≠ "java/lang/invoke/MethodHandle" ∧ yX4_standsWell.cls ≠ "java/lang/invoke/VarHandle" ∧ (parseMethodDescriptor yX4_standsWell.desc).map (fun d => d.parameters.length) = some 1 := by decide +kernel
theorem hvX4_swapPlaces : yX4_swapPlaces.cls = RX4 ∧ yX4_swapPlaces.cls ≠ "java/lang/invoke/MethodHandle" ∧ yX4_swapPlaces.cls ≠ "java/lang/invoke/VarHandle" ∧ (parseMethodDescriptor yX4_swapPlaces.desc).map (fun d => d.parameters.length) = some 2 := by decide +kernel
theorem hvX4_takeBack : yX4_takeBack.cls = RX4 ∧ yX4_takeBack.cls ≠ "java/lang/invoke/MethodHandle" ∧ yX4_takeBack.cls ≠ "java/lang/invoke/VarHandle" ∧ (parseMethodDescriptor yX4_takeBack.desc).map (fun d => d.parameters.length) = some 0 := by decide +kernel
theorem hvX4_turnAlone : yX4_turnAlone.cls = RX4 ∧ yX4_turnAlone.cls ≠ "java/lang/invoke/MethodHandle" ∧ yX4_turnAlone.cls ≠ "java/lang/invoke/VarHandle" ∧ (parseMethodDescriptor yX4_turnAlone.desc).map (fun d => d.parameters.length) = some 2 := by decide +kernel
theorem hvX5_beginOn : yX5_beginOn.cls = RX5 ∧ yX5_beginOn.cls ≠ "java/lang/invoke/MethodHandle" ∧ yX5_beginOn.cls ≠ "java/lang/invoke/VarHandle" ∧ (parseMethodDescriptor yX5_beginOn.desc).map (fun d => d.parameters.length) = some 2 := by decide +kernel
theorem hvX5_copy : yX5_copy.cls = RX5 ∧ yX5_copy.cls ≠ "java/lang/invoke/MethodHandle" ∧ yX5_copy.cls ≠ "java/lang/invoke/VarHandle" ∧ (parseMethodDescriptor yX5_copy.desc).map (fun d => d.parameters.length) = some 2 := by decide +kernel
theorem hvX5_firstOverlap : yX5_firstOverlap.cls = RX5 ∧ yX5_firstOverlap.cls ≠ "java/lang/invoke/MethodHandle" ∧ yX5_firstOverlap.cls ≠ "java/lang/invoke/VarHandle" ∧ (parseMethodDescriptor yX5_firstOverlap.desc).map (fun d => d.parameters.length) = some 0 := by decide +kernel
theorem hvX5_go : yX5_go.cls = RX5 ∧ yX5_go.cls ≠ "java/lang/invoke/MethodHandle" ∧ yX5_go.cls ≠ "java/lang/invoke/VarHandle" ∧ (parseMethodDescriptor yX5_go.desc).map (fun d => d.parameters.length) = some 3 := by decide +kernel
theorem hvX5_goOn : yX5_goOn.cls = RX5 ∧ yX5_goOn.cls ≠ "java/lang/invoke/MethodHandle" ∧ yX5_goOn.cls ≠ "java/lang/invoke/VarHandle" ∧ (parseMethodDescriptor yX5_goOn.desc).map (fun d => d.parameters.length) = some 3 := by decide +kernel
theorem hvX5_hasMate : yX5_hasMate.cls = RX5 ∧ yX5_hasMate.cls ≠ "java/lang/invoke/MethodHandle" ∧ yX5_hasMate.cls ≠ "java/lang/invoke/VarHandle" ∧ (parseMethodDescriptor yX5_hasMate.desc).map (fun d => d.parameters.length) = some 1 := by decide +kernel
theorem hvX5_isKeptOut : yX5_isKeptOut.cls = RX5 ∧ yX5_isKeptOut.cls ≠ "java/lang/invoke/MethodHandle" ∧ yX5_isKeptOut.cls ≠ "java/lang/invoke/VarHandle" ∧ (parseMethodDescriptor yX5_isKeptOut.desc).map (fun d => d.parameters.length) = some 2 := by decide +kernel
theorem hvX5_isNear : yX5_isNear.cls = RX5 ∧ yX5_isNear.cls ≠ "java/lang/invoke/MethodHandle" ∧ yX5_isNear.cls ≠ "java/lang/invoke/VarHandle" ∧ (parseMethodDescriptor yX5_isNear.desc).map (fun d => d.parameters.length) = some 2 := by decide +kernel
theorem hvX5_isOnBoard : yX5_isOnBoard.cls = RX5 ∧ yX5_isOnBoard.cls ≠ "java/lang/invoke/MethodHandle" ∧ yX5_isOnBoard.cls ≠ "java/lang/invoke/VarHandle" ∧ (parseMethodDescriptor yX5_isOnBoard.desc).map (fun d => d.parameters.length) = some 2 := by decide +kernel
theorem hvX5_isSame : yX5_isSame.cls = RX5 ∧ yX5_isSame.cls ≠ "java/lang/invoke/MethodHandle" ∧ yX5_isSame.cls ≠ "java/lang/invoke/VarHandle" ∧ (parseMethodDescriptor yX5_isSame.desc).map (fun d => d.parameters.length) = some 2 := by decide +kernel
theorem hvX5_left : yX5_left.cls = RX5 ∧ yX5_left.cls ≠ "java/lang/invoke/MethodHandle" ∧ yX5_left.cls ≠ "java/lang/invoke/VarHandle" ∧ (parseMethodDescriptor yX5_left.desc).map (fun d => d.parameters.length) = some 2 := by decide +kernel
theorem hvX5_lies : yX5_lies.cls = RX5 ∧ yX5_lies.cls ≠ "java/lang/invoke/MethodHandle" ∧ yX5_lies.cls ≠ "java/lang/invoke/VarHandle" ∧ (parseMethodDescriptor yX5_lies.desc).map (fun d => d.parameters.length) = some 2 := by decide +kernel
theorem hvX5_low : yX5_low.cls = RX5 ∧ yX5_low.cls ≠ "java/lang/invoke/MethodHandle" ∧ yX5_low.cls ≠ "java/lang/invoke/VarHandle" ∧ (parseMethodDescriptor yX5_low.desc).map (fun d => d.parameters.length) = some 2 := by decide +kernel
theorem hvX5_overlap : yX5_overlap.cls = RX5 ∧ yX5_overlap.cls ≠ "java/lang/invoke/MethodHandle" ∧ yX5_overlap.cls ≠ "java/lang/invoke/VarHandle" ∧ (parseMethodDescriptor yX5_overlap.desc).map (fun d => d.parameters.length) = some 3 := by decide +kernel
theorem hvX5_pinAt : yX5_pinAt.cls = RX5 ∧ yX5_pinAt.cls ≠ "java/lang/invoke/MethodHandle" ∧ yX5_pinAt.cls ≠ "java/lang/invoke/VarHandle" ∧ (parseMethodDescriptor yX5_pinAt.desc).map (fun d => d.parameters.length) = some 3 := by decide +kernel
theorem hvX5_reach : yX5_reach.cls = RX5 ∧ yX5_reach.cls ≠ "java/lang/invoke/MethodHandle" ∧ yX5_reach.cls ≠ "java/lang/invoke/VarHandle" ∧ (parseMethodDescriptor yX5_reach.desc).map (fun d => d.parameters.length) = some 3 := by decide +kernel
theorem hvX5_right : yX5_right.cls = RX5 ∧ yX5_right.cls ≠ "java/lang/invoke/MethodHandle" ∧ yX5_right.cls ≠ "java/lang/invoke/VarHandle" ∧ (parseMethodDescriptor yX5_right.desc).map (fun d => d.parameters.length) = some 2 := by decide +kernel
theorem hvX5_top : yX5_top.cls = RX5 ∧ yX5_top.cls ≠ "java/lang/invoke/MethodHandle" ∧ yX5_top.cls ≠ "java/lang/invoke/VarHandle" ∧ (parseMethodDescriptor yX5_top.desc).map (fun d => d.parameters.length) = some 2 := by decide +kernel
