abbrev cX4_init : ByteArray := prog_1_method_1_code
def yX4_init : MethodName := ⟨RX4, "<init>", "(JJJ)V"⟩
def wsX4_init : List Cond := .code yX4_init cX4_init 7 none :: bT
theorem dX4_init_0 : decode cX4_init 0 = .ok (.aload_n 0, 1) := by decide +kernel
theorem dX4_init_1 : decode cX4_init 1 = .ok (.invokespecial 3, 3) := by decide +kernel
theorem dX4_init_4 : decode cX4_init 4 = .ok (.aload_n 0, 1) := by decide +kernel
theorem dX4_init_5 : decode cX4_init 5 = .ok (.new 9, 3) := by decide +kernel
theorem dX4_init_8 : decode cX4_init 8 = .ok (.dup, 1) := by decide +kernel
theorem dX4_init_9 : decode cX4_init 9 = .ok (.invokespecial 11, 3) := by decide +kernel
theorem dX4_init_12 : decode cX4_init 12 = .ok (.putfield 12, 3) := by decide +kernel
theorem dX4_init_15 : decode cX4_init 15 = .ok (.aload_n 0, 1) := by decide +kernel
theorem dX4_init_16 : decode cX4_init 16 = .ok (.new 18, 3) := by decide +kernel
theorem dX4_init_19 : decode cX4_init 19 = .ok (.dup, 1) := by decide +kernel
theorem dX4_init_20 : decode cX4_init 20 = .ok (.aload_n 0, 1) := by decide +kernel
theorem dX4_init_21 : decode cX4_init 21 = .ok (.getfield 12, 3) := by decide +kernel
theorem dX4_init_24 : decode cX4_init 24 = .ok (.invokespecial 20, 3) := by decide +kernel
theorem dX4_init_27 : decode cX4_init 27 = .ok (.putfield 23, 3) := by decide +kernel
theorem dX4_init_30 : decode cX4_init 30 = .ok (.aload_n 0, 1) := by decide +kernel
theorem dX4_init_31 : decode cX4_init 31 = .ok (.new 27, 3) := by decide +kernel
theorem dX4_init_34 : decode cX4_init 34 = .ok (.dup, 1) := by decide +kernel
theorem dX4_init_35 : decode cX4_init 35 = .ok (.aload_n 0, 1) := by decide +kernel
theorem dX4_init_36 : decode cX4_init 36 = .ok (.getfield 12, 3) := by decide +kernel
theorem dX4_init_39 : decode cX4_init 39 = .ok (.invokespecial 29, 3) := by decide +kernel
theorem dX4_init_42 : decode cX4_init 42 = .ok (.putfield 30, 3) := by decide +kernel
theorem dX4_init_45 : decode cX4_init 45 = .ok (.aload_n 0, 1) := by decide +kernel
theorem dX4_init_46 : decode cX4_init 46 = .ok (.new 34, 3) := by decide +kernel
theorem dX4_init_49 : decode cX4_init 49 = .ok (.dup, 1) := by decide +kernel
theorem dX4_init_50 : decode cX4_init 50 = .ok (.aload_n 0, 1) := by decide +kernel
theorem dX4_init_51 : decode cX4_init 51 = .ok (.getfield 12, 3) := by decide +kernel
theorem dX4_init_54 : decode cX4_init 54 = .ok (.invokespecial 36, 3) := by decide +kernel
theorem dX4_init_57 : decode cX4_init 57 = .ok (.putfield 37, 3) := by decide +kernel
theorem dX4_init_60 : decode cX4_init 60 = .ok (.aload_n 0, 1) := by decide +kernel
theorem dX4_init_61 : decode cX4_init 61 = .ok (.new 34, 3) := by decide +kernel
theorem dX4_init_64 : decode cX4_init 64 = .ok (.dup, 1) := by decide +kernel
theorem dX4_init_65 : decode cX4_init 65 = .ok (.aload_n 0, 1) := by decide +kernel
theorem dX4_init_66 : decode cX4_init 66 = .ok (.getfield 12, 3) := by decide +kernel
theorem dX4_init_69 : decode cX4_init 69 = .ok (.invokespecial 36, 3) := by decide +kernel
theorem dX4_init_72 : decode cX4_init 72 = .ok (.putfield 41, 3) := by decide +kernel
theorem dX4_init_75 : decode cX4_init 75 = .ok (.aload_n 0, 1) := by decide +kernel
theorem dX4_init_76 : decode cX4_init 76 = .ok (.new 34, 3) := by decide +kernel
theorem dX4_init_79 : decode cX4_init 79 = .ok (.dup, 1) := by decide +kernel
theorem dX4_init_80 : decode cX4_init 80 = .ok (.aload_n 0, 1) := by decide +kernel
theorem dX4_init_81 : decode cX4_init 81 = .ok (.getfield 12, 3) := by decide +kernel
theorem dX4_init_84 : decode cX4_init 84 = .ok (.invokespecial 36, 3) := by decide +kernel
theorem dX4_init_87 : decode cX4_init 87 = .ok (.putfield 44, 3) := by decide +kernel
theorem dX4_init_90 : decode cX4_init 90 = .ok (.aload_n 0, 1) := by decide +kernel
theorem dX4_init_91 : decode cX4_init 91 = .ok (.lconst 0, 1) := by decide +kernel
theorem dX4_init_92 : decode cX4_init 92 = .ok (.putfield 47, 3) := by decide +kernel
theorem dX4_init_95 : decode cX4_init 95 = .ok (.aload_n 0, 1) := by decide +kernel
theorem dX4_init_96 : decode cX4_init 96 = .ok (.lconst 1, 1) := by decide +kernel
theorem dX4_init_97 : decode cX4_init 97 = .ok (.ldc2_w 51, 3) := by decide +kernel
theorem dX4_init_100 : decode cX4_init 100 = .ok (.lload_n 1, 1) := by decide +kernel
theorem dX4_init_101 : decode cX4_init 101 = .ok (.invokestatic 53, 3) := by decide +kernel
theorem dX4_init_104 : decode cX4_init 104 = .ok (.invokestatic 59, 3) := by decide +kernel
theorem dX4_init_107 : decode cX4_init 107 = .ok (.putfield 62, 3) := by decide +kernel
theorem dX4_init_110 : decode cX4_init 110 = .ok (.aload_n 0, 1) := by decide +kernel
theorem dX4_init_111 : decode cX4_init 111 = .ok (.lconst 1, 1) := by decide +kernel
theorem dX4_init_112 : decode cX4_init 112 = .ok (.ldc2_w 51, 3) := by decide +kernel
theorem dX4_init_115 : decode cX4_init 115 = .ok (.lload_n 3, 1) := by decide +kernel
theorem dX4_init_116 : decode cX4_init 116 = .ok (.invokestatic 53, 3) := by decide +kernel
theorem dX4_init_119 : decode cX4_init 119 = .ok (.invokestatic 59, 3) := by decide +kernel
theorem dX4_init_122 : decode cX4_init 122 = .ok (.putfield 65, 3) := by decide +kernel
theorem dX4_init_125 : decode cX4_init 125 = .ok (.aload_n 0, 1) := by decide +kernel
theorem dX4_init_126 : decode cX4_init 126 = .ok (.lload 5, 2) := by decide +kernel
theorem dX4_init_128 : decode cX4_init 128 = .ok (.putfield 68, 3) := by decide +kernel
theorem dX4_init_131 : decode cX4_init 131 = .ok (.return_, 1) := by decide +kernel
theorem dX4_part_35 : decode cX4_part 35 = .ok (.aload_n 0, 1) := by decide +kernel
theorem dX4_part_36 : decode cX4_part 36 = .ok (.getfield 12, 3) := by decide +kernel
theorem dX4_part_39 : decode cX4_part 39 = .ok (.lload_n 1, 1) := by decide +kernel
theorem dX4_part_40 : decode cX4_part 40 = .ok (.lload_n 3, 1) := by decide +kernel
theorem dX4_part_41 : decode cX4_part 41 = .ok (.iload 5, 2) := by decide +kernel
theorem dX4_part_43 : decode cX4_part 43 = .ok (.invokevirtual 82, 3) := by decide +kernel
theorem dX4_part_46 : decode cX4_part 46 = .ok (.ireturn, 1) := by decide +kernel
abbrev cX4_net : ByteArray := prog_1_method_5_code
def yX4_net : MethodName := ⟨RX4, "net", "()I"⟩
def wsX4_net : List Cond := .code yX4_net cX4_net 1 (some .int) :: bT
theorem dX4_net_0 : decode cX4_net 0 = .ok (.aload_n 0, 1) := by decide +kernel
theorem dX4_net_1 : decode cX4_net 1 = .ok (.getfield 30, 3) := by decide +kernel
theorem dX4_net_4 : decode cX4_net 4 = .ok (.invokevirtual 135, 3) := by decide +kernel
theorem dX4_net_7 : decode cX4_net 7 = .ok (.ireturn, 1) := by decide +kernel
theorem dX4_near_26 : decode cX4_near 26 = .ok (.iload_n 1, 1) := by decide +kernel
theorem dX4_near_27 : decode cX4_near 27 = .ok (.iload_n 2, 1) := by decide +kernel
theorem dX4_near_28 : decode cX4_near 28 = .ok (.if_icmp .eq (16), 3) := by decide +kernel
theorem dX4_near_31 : decode cX4_near 31 = .ok (.aload_n 0, 1) := by decide +kernel
theorem dX4_near_32 : decode cX4_near 32 = .ok (.getfield 37, 3) := by decide +kernel
theorem dX4_near_35 : decode cX4_near 35 = .ok (.iload_n 1, 1) := by decide +kernel
theorem dX4_near_36 : decode cX4_near 36 = .ok (.iload_n 2, 1) := by decide +kernel
theorem dX4_near_37 : decode cX4_near 37 = .ok (.lload_n 3, 1) := by decide +kernel
theorem dX4_near_38 : decode cX4_near 38 = .ok (.invokevirtual 207, 3) := by decide +kernel
theorem dX4_near_41 : decode cX4_near 41 = .ok (.ifCond .ne (5), 3) := by decide +kernel
theorem dX4_near_44 : decode cX4_near 44 = .ok (.iconst 0, 1) := by decide +kernel
theorem dX4_near_45 : decode cX4_near 45 = .ok (.ireturn, 1) := by decide +kernel
theorem dX4_near_46 : decode cX4_near 46 = .ok (.aload_n 0, 1) := by decide +kernel
theorem dX4_near_47 : decode cX4_near 47 = .ok (.getfield 23, 3) := by decide +kernel
theorem dX4_near_50 : decode cX4_near 50 = .ok (.iload_n 1, 1) := by decide +kernel
theorem dX4_near_51 : decode cX4_near 51 = .ok (.iload_n 2, 1) := by decide +kernel
theorem dX4_near_52 : decode cX4_near 52 = .ok (.lload_n 3, 1) := by decide +kernel
theorem dX4_near_53 : decode cX4_near 53 = .ok (.invokevirtual 211, 3) := by decide +kernel
theorem dX4_near_56 : decode cX4_near 56 = .ok (.ireturn, 1) := by decide +kernel
theorem dX4_keepOut_17 : decode cX4_keepOut 17 = .ok (.lload_n 1, 1) := by decide +kernel
theorem dX4_keepOut_18 : decode cX4_keepOut 18 = .ok (.lload 5, 2) := by decide +kernel
theorem dX4_keepOut_20 : decode cX4_keepOut 20 = .ok (.lcmp, 1) := by decide +kernel
theorem dX4_keepOut_21 : decode cX4_keepOut 21 = .ok (.ifCond .ge (28), 3) := by decide +kernel
theorem dX4_keepOut_24 : decode cX4_keepOut 24 = .ok (.lload_n 3, 1) := by decide +kernel
theorem dX4_keepOut_25 : decode cX4_keepOut 25 = .ok (.lload 7, 2) := by decide +kernel
theorem dX4_keepOut_27 : decode cX4_keepOut 27 = .ok (.lcmp, 1) := by decide +kernel
theorem dX4_keepOut_28 : decode cX4_keepOut 28 = .ok (.ifCond .ge (21), 3) := by decide +kernel
theorem dX4_keepOut_31 : decode cX4_keepOut 31 = .ok (.aload_n 0, 1) := by decide +kernel
theorem dX4_keepOut_32 : decode cX4_keepOut 32 = .ok (.getfield 23, 3) := by decide +kernel
theorem dX4_keepOut_35 : decode cX4_keepOut 35 = .ok (.lload_n 1, 1) := by decide +kernel
theorem dX4_keepOut_36 : decode cX4_keepOut 36 = .ok (.lload_n 3, 1) := by decide +kernel
theorem dX4_keepOut_37 : decode cX4_keepOut 37 = .ok (.lload 5, 2) := by decide +kernel
theorem dX4_keepOut_39 : decode cX4_keepOut 39 = .ok (.lload 7, 2) := by decide +kernel
theorem dX4_keepOut_41 : decode cX4_keepOut 41 = .ok (.lload 9, 2) := by decide +kernel
theorem dX4_keepOut_43 : decode cX4_keepOut 43 = .ok (.invokevirtual 225, 3) := by decide +kernel
theorem dX4_keepOut_46 : decode cX4_keepOut 46 = .ok (.ifCond .ne (5), 3) := by decide +kernel
theorem dX4_keepOut_49 : decode cX4_keepOut 49 = .ok (.iconst 0, 1) := by decide +kernel
theorem dX4_keepOut_50 : decode cX4_keepOut 50 = .ok (.ireturn, 1) := by decide +kernel
theorem dX4_keepOut_51 : decode cX4_keepOut 51 = .ok (.aload_n 0, 1) := by decide +kernel
theorem dX4_keepOut_52 : decode cX4_keepOut 52 = .ok (.invokevirtual 229, 3) := by decide +kernel
theorem dX4_keepOut_55 : decode cX4_keepOut 55 = .ok (.ifCond .ne (12), 3) := by decide +kernel
theorem dX4_keepOut_58 : decode cX4_keepOut 58 = .ok (.aload_n 0, 1) := by decide +kernel
theorem dX4_keepOut_59 : decode cX4_keepOut 59 = .ok (.getfield 23, 3) := by decide +kernel
theorem dX4_keepOut_62 : decode cX4_keepOut 62 = .ok (.invokevirtual 232, 3) := by decide +kernel
theorem dX4_keepOut_65 : decode cX4_keepOut 65 = .ok (.iconst 0, 1) := by decide +kernel
theorem dX4_keepOut_66 : decode cX4_keepOut 66 = .ok (.ireturn, 1) := by decide +kernel
theorem dX4_keepOut_67 : decode cX4_keepOut 67 = .ok (.iconst 1, 1) := by decide +kernel
theorem dX4_keepOut_68 : decode cX4_keepOut 68 = .ok (.ireturn, 1) := by decide +kernel
abbrev cX4_clear2 : ByteArray := prog_1_method_16_code
def yX4_clear2 : MethodName := ⟨RX4, "clear2", "()Z"⟩
def wsX4_clear2 : List Cond := .code yX4_clear2 cX4_clear2 1 (some .boolean) :: bT
theorem dX4_clear2_0 : decode cX4_clear2 0 = .ok (.aload_n 0, 1) := by decide +kernel
theorem dX4_clear2_1 : decode cX4_clear2 1 = .ok (.invokevirtual 229, 3) := by decide +kernel
theorem dX4_clear2_4 : decode cX4_clear2 4 = .ok (.ireturn, 1) := by decide +kernel
abbrev cX5_init : ByteArray := prog_7_method_1_code
def yX5_init : MethodName := ⟨RX5, "<init>", "(JJJ)V"⟩
def wsX5_init : List Cond := .code yX5_init cX5_init 7 none :: bT
theorem dX5_init_0 : decode cX5_init 0 = .ok (.aload_n 0, 1) := by decide +kernel
theorem dX5_init_1 : decode cX5_init 1 = .ok (.invokespecial 1, 3) := by decide +kernel
theorem dX5_init_4 : decode cX5_init 4 = .ok (.aload_n 0, 1) := by decide +kernel
theorem dX5_init_5 : decode cX5_init 5 = .ok (.bipush 40, 2) := by decide +kernel
theorem dX5_init_7 : decode cX5_init 7 = .ok (.newarray .long, 2) := by decide +kernel
theorem dX5_init_9 : decode cX5_init 9 = .ok (.putfield 7, 3) := by decide +kernel
theorem dX5_init_12 : decode cX5_init 12 = .ok (.aload_n 0, 1) := by decide +kernel
theorem dX5_init_13 : decode cX5_init 13 = .ok (.bipush 40, 2) := by decide +kernel
theorem dX5_init_15 : decode cX5_init 15 = .ok (.newarray .long, 2) := by decide +kernel
theorem dX5_init_17 : decode cX5_init 17 = .ok (.putfield 13, 3) := by decide +kernel
theorem dX5_init_20 : decode cX5_init 20 = .ok (.aload_n 0, 1) := by decide +kernel
theorem dX5_init_21 : decode cX5_init 21 = .ok (.bipush 40, 2) := by decide +kernel
theorem dX5_init_23 : decode cX5_init 23 = .ok (.newarray .int, 2) := by decide +kernel
theorem dX5_init_25 : decode cX5_init 25 = .ok (.putfield 16, 3) := by decide +kernel
theorem dX5_init_28 : decode cX5_init 28 = .ok (.aload_n 0, 1) := by decide +kernel
theorem dX5_init_29 : decode cX5_init 29 = .ok (.bipush 40, 2) := by decide +kernel
theorem dX5_init_31 : decode cX5_init 31 = .ok (.newarray .long, 2) := by decide +kernel
theorem dX5_init_33 : decode cX5_init 33 = .ok (.putfield 20, 3) := by decide +kernel
theorem dX5_init_36 : decode cX5_init 36 = .ok (.aload_n 0, 1) := by decide +kernel
theorem dX5_init_37 : decode cX5_init 37 = .ok (.bipush 40, 2) := by decide +kernel
theorem dX5_init_39 : decode cX5_init 39 = .ok (.newarray .boolean, 2) := by decide +kernel
theorem dX5_init_41 : decode cX5_init 41 = .ok (.putfield 23, 3) := by decide +kernel
theorem dX5_init_44 : decode cX5_init 44 = .ok (.aload_n 0, 1) := by decide +kernel
theorem dX5_init_45 : decode cX5_init 45 = .ok (.bipush 40, 2) := by decide +kernel
theorem dX5_init_47 : decode cX5_init 47 = .ok (.newarray .int, 2) := by decide +kernel
theorem dX5_init_49 : decode cX5_init 49 = .ok (.putfield 27, 3) := by decide +kernel
theorem dX5_init_52 : decode cX5_init 52 = .ok (.aload_n 0, 1) := by decide +kernel
theorem dX5_init_53 : decode cX5_init 53 = .ok (.bipush 40, 2) := by decide +kernel
theorem dX5_init_55 : decode cX5_init 55 = .ok (.newarray .boolean, 2) := by decide +kernel
theorem dX5_init_57 : decode cX5_init 57 = .ok (.putfield 30, 3) := by decide +kernel
theorem dX5_init_60 : decode cX5_init 60 = .ok (.aload_n 0, 1) := by decide +kernel
theorem dX5_init_61 : decode cX5_init 61 = .ok (.bipush 120, 2) := by decide +kernel
theorem dX5_init_63 : decode cX5_init 63 = .ok (.newarray .long, 2) := by decide +kernel
theorem dX5_init_65 : decode cX5_init 65 = .ok (.putfield 33, 3) := by decide +kernel
theorem dX5_init_68 : decode cX5_init 68 = .ok (.aload_n 0, 1) := by decide +kernel
theorem dX5_init_69 : decode cX5_init 69 = .ok (.bipush 120, 2) := by decide +kernel
theorem dX5_init_71 : decode cX5_init 71 = .ok (.newarray .long, 2) := by decide +kernel
theorem dX5_init_73 : decode cX5_init 73 = .ok (.putfield 36, 3) := by decide +kernel
theorem dX5_init_76 : decode cX5_init 76 = .ok (.aload_n 0, 1) := by decide +kernel
theorem dX5_init_77 : decode cX5_init 77 = .ok (.bipush 120, 2) := by decide +kernel
theorem dX5_init_79 : decode cX5_init 79 = .ok (.newarray .int, 2) := by decide +kernel
theorem dX5_init_81 : decode cX5_init 81 = .ok (.putfield 39, 3) := by decide +kernel
theorem dX5_init_84 : decode cX5_init 84 = .ok (.aload_n 0, 1) := by decide +kernel
theorem dX5_init_85 : decode cX5_init 85 = .ok (.bipush 50, 2) := by decide +kernel
theorem dX5_init_87 : decode cX5_init 87 = .ok (.newarray .long, 2) := by decide +kernel
theorem dX5_init_89 : decode cX5_init 89 = .ok (.putfield 42, 3) := by decide +kernel
theorem dX5_init_92 : decode cX5_init 92 = .ok (.aload_n 0, 1) := by decide +kernel
theorem dX5_init_93 : decode cX5_init 93 = .ok (.bipush 20, 2) := by decide +kernel
theorem dX5_init_95 : decode cX5_init 95 = .ok (.newarray .int, 2) := by decide +kernel
theorem dX5_init_97 : decode cX5_init 97 = .ok (.putfield 45, 3) := by decide +kernel
theorem dX5_init_100 : decode cX5_init 100 = .ok (.aload_n 0, 1) := by decide +kernel
theorem dX5_init_101 : decode cX5_init 101 = .ok (.bipush 20, 2) := by decide +kernel
theorem dX5_init_103 : decode cX5_init 103 = .ok (.newarray .int, 2) := by decide +kernel
theorem dX5_init_105 : decode cX5_init 105 = .ok (.putfield 48, 3) := by decide +kernel
theorem dX5_init_108 : decode cX5_init 108 = .ok (.aload_n 0, 1) := by decide +kernel
theorem dX5_init_109 : decode cX5_init 109 = .ok (.bipush 20, 2) := by decide +kernel
theorem dX5_init_111 : decode cX5_init 111 = .ok (.newarray .long, 2) := by decide +kernel
theorem dX5_init_113 : decode cX5_init 113 = .ok (.putfield 51, 3) := by decide +kernel
theorem dX5_init_116 : decode cX5_init 116 = .ok (.aload_n 0, 1) := by decide +kernel
theorem dX5_init_117 : decode cX5_init 117 = .ok (.bipush 120, 2) := by decide +kernel
theorem dX5_init_119 : decode cX5_init 119 = .ok (.newarray .int, 2) := by decide +kernel
theorem dX5_init_121 : decode cX5_init 121 = .ok (.putfield 54, 3) := by decide +kernel
theorem dX5_init_124 : decode cX5_init 124 = .ok (.aload_n 0, 1) := by decide +kernel
theorem dX5_init_125 : decode cX5_init 125 = .ok (.bipush 120, 2) := by decide +kernel
theorem dX5_init_127 : decode cX5_init 127 = .ok (.newarray .int, 2) := by decide +kernel
theorem dX5_init_129 : decode cX5_init 129 = .ok (.putfield 57, 3) := by decide +kernel
theorem dX5_init_132 : decode cX5_init 132 = .ok (.aload_n 0, 1) := by decide +kernel
theorem dX5_init_133 : decode cX5_init 133 = .ok (.bipush 120, 2) := by decide +kernel
theorem dX5_init_135 : decode cX5_init 135 = .ok (.newarray .long, 2) := by decide +kernel
theorem dX5_init_137 : decode cX5_init 137 = .ok (.putfield 60, 3) := by decide +kernel
theorem dX5_init_140 : decode cX5_init 140 = .ok (.aload_n 0, 1) := by decide +kernel
theorem dX5_init_141 : decode cX5_init 141 = .ok (.bipush 120, 2) := by decide +kernel
theorem dX5_init_143 : decode cX5_init 143 = .ok (.newarray .long, 2) := by decide +kernel
theorem dX5_init_145 : decode cX5_init 145 = .ok (.putfield 63, 3) := by decide +kernel
theorem dX5_init_148 : decode cX5_init 148 = .ok (.aload_n 0, 1) := by decide +kernel
theorem dX5_init_149 : decode cX5_init 149 = .ok (.bipush 40, 2) := by decide +kernel
theorem dX5_init_151 : decode cX5_init 151 = .ok (.newarray .boolean, 2) := by decide +kernel
theorem dX5_init_153 : decode cX5_init 153 = .ok (.putfield 66, 3) := by decide +kernel
theorem dX5_init_156 : decode cX5_init 156 = .ok (.aload_n 0, 1) := by decide +kernel
theorem dX5_init_157 : decode cX5_init 157 = .ok (.lload_n 1, 1) := by decide +kernel
theorem dX5_init_158 : decode cX5_init 158 = .ok (.lconst 1, 1) := by decide +kernel
theorem dX5_init_159 : decode cX5_init 159 = .ok (.lcmp, 1) := by decide +kernel
theorem dX5_init_160 : decode cX5_init 160 = .ok (.ifCond .ge (7), 3) := by decide +kernel
theorem dX5_init_163 : decode cX5_init 163 = .ok (.lconst 1, 1) := by decide +kernel
theorem dX5_init_164 : decode cX5_init 164 = .ok (.goto (18), 3) := by decide +kernel
theorem dX5_init_167 : decode cX5_init 167 = .ok (.lload_n 1, 1) := by decide +kernel
theorem dX5_init_168 : decode cX5_init 168 = .ok (.ldc2_w 69, 3) := by decide +kernel
theorem dX5_init_171 : decode cX5_init 171 = .ok (.lcmp, 1) := by decide +kernel
theorem dX5_init_172 : decode cX5_init 172 = .ok (.ifCond .le (9), 3) := by decide +kernel
theorem dX5_init_175 : decode cX5_init 175 = .ok (.ldc2_w 69, 3) := by decide +kernel
theorem dX5_init_178 : decode cX5_init 178 = .ok (.goto (4), 3) := by decide +kernel
theorem dX5_init_181 : decode cX5_init 181 = .ok (.lload_n 1, 1) := by decide +kernel
theorem dX5_init_182 : decode cX5_init 182 = .ok (.putfield 71, 3) := by decide +kernel
theorem dX5_init_185 : decode cX5_init 185 = .ok (.aload_n 0, 1) := by decide +kernel
theorem dX5_init_186 : decode cX5_init 186 = .ok (.lload_n 3, 1) := by decide +kernel
theorem dX5_init_187 : decode cX5_init 187 = .ok (.lconst 1, 1) := by decide +kernel
theorem dX5_init_188 : decode cX5_init 188 = .ok (.lcmp, 1) := by decide +kernel
theorem dX5_init_189 : decode cX5_init 189 = .ok (.ifCond .ge (7), 3) := by decide +kernel
theorem dX5_init_192 : decode cX5_init 192 = .ok (.lconst 1, 1) := by decide +kernel
theorem dX5_init_193 : decode cX5_init 193 = .ok (.goto (18), 3) := by decide +kernel
theorem dX5_init_196 : decode cX5_init 196 = .ok (.lload_n 3, 1) := by decide +kernel
theorem dX5_init_197 : decode cX5_init 197 = .ok (.ldc2_w 69, 3) := by decide +kernel
theorem dX5_init_200 : decode cX5_init 200 = .ok (.lcmp, 1) := by decide +kernel
theorem dX5_init_201 : decode cX5_init 201 = .ok (.ifCond .le (9), 3) := by decide +kernel
theorem dX5_init_204 : decode cX5_init 204 = .ok (.ldc2_w 69, 3) := by decide +kernel
theorem dX5_init_207 : decode cX5_init 207 = .ok (.goto (4), 3) := by decide +kernel
theorem dX5_init_210 : decode cX5_init 210 = .ok (.lload_n 3, 1) := by decide +kernel
theorem dX5_init_211 : decode cX5_init 211 = .ok (.putfield 75, 3) := by decide +kernel
theorem dX5_init_214 : decode cX5_init 214 = .ok (.aload_n 0, 1) := by decide +kernel
theorem dX5_init_215 : decode cX5_init 215 = .ok (.lload 5, 2) := by decide +kernel
theorem dX5_init_217 : decode cX5_init 217 = .ok (.putfield 78, 3) := by decide +kernel
theorem dX5_init_220 : decode cX5_init 220 = .ok (.return_, 1) := by decide +kernel
abbrev cX5_net : ByteArray := prog_7_method_25_code
def yX5_net : MethodName := ⟨RX5, "net", "()I"⟩
def wsX5_net : List Cond := .code yX5_net cX5_net 1 (some .int) :: bT
theorem dX5_net_0 : decode cX5_net 0 = .ok (.aload_n 0, 1) := by decide +kernel
theorem dX5_net_1 : decode cX5_net 1 = .ok (.iconst 0, 1) := by decide +kernel
theorem dX5_net_2 : decode cX5_net 2 = .ok (.putfield 81, 3) := by decide +kernel
theorem dX5_net_5 : decode cX5_net 5 = .ok (.aload_n 0, 1) := by decide +kernel
theorem dX5_net_6 : decode cX5_net 6 = .ok (.getfield 160, 3) := by decide +kernel
theorem dX5_net_9 : decode cX5_net 9 = .ok (.bipush 40, 2) := by decide +kernel
theorem dX5_net_11 : decode cX5_net 11 = .ok (.if_icmp .ne (5), 3) := by decide +kernel
theorem dX5_net_14 : decode cX5_net 14 = .ok (.iconst (-1), 1) := by decide +kernel
theorem dX5_net_15 : decode cX5_net 15 = .ok (.ireturn, 1) := by decide +kernel
theorem dX5_net_16 : decode cX5_net 16 = .ok (.aload_n 0, 1) := by decide +kernel
theorem dX5_net_17 : decode cX5_net 17 = .ok (.dup, 1) := by decide +kernel
theorem dX5_net_18 : decode cX5_net 18 = .ok (.getfield 160, 3) := by decide +kernel
theorem dX5_net_21 : decode cX5_net 21 = .ok (.iconst 1, 1) := by decide +kernel
theorem dX5_net_22 : decode cX5_net 22 = .ok (.iadd, 1) := by decide +kernel
theorem dX5_net_23 : decode cX5_net 23 = .ok (.putfield 160, 3) := by decide +kernel
theorem dX5_net_26 : decode cX5_net 26 = .ok (.aload_n 0, 1) := by decide +kernel
theorem dX5_net_27 : decode cX5_net 27 = .ok (.getfield 160, 3) := by decide +kernel
theorem dX5_net_30 : decode cX5_net 30 = .ok (.iconst 1, 1) := by decide +kernel
theorem dX5_net_31 : decode cX5_net 31 = .ok (.isub, 1) := by decide +kernel
theorem dX5_net_32 : decode cX5_net 32 = .ok (.ireturn, 1) := by decide +kernel
abbrev cX5_clear2 : ByteArray := prog_7_method_40_code
def yX5_clear2 : MethodName := ⟨RX5, "clear2", "()Z"⟩
def wsX5_clear2 : List Cond := .code yX5_clear2 cX5_clear2 1 (some .boolean) :: bT
theorem dX5_clear2_0 : decode cX5_clear2 0 = .ok (.aload_n 0, 1) := by decide +kernel
theorem dX5_clear2_1 : decode cX5_clear2 1 = .ok (.iconst 0, 1) := by decide +kernel
theorem dX5_clear2_2 : decode cX5_clear2 2 = .ok (.putfield 81, 3) := by decide +kernel
theorem dX5_clear2_5 : decode cX5_clear2 5 = .ok (.iconst 1, 1) := by decide +kernel
theorem dX5_clear2_6 : decode cX5_clear2 6 = .ok (.ireturn, 1) := by decide +kernel
abbrev cX0_init : ByteArray := prog_2_method_1_code
def yX0_init : MethodName := ⟨RX0, "<init>", "(LBoardMoves$Parts;)V"⟩
def wsX0_init : List Cond := .code yX0_init cX0_init 2 none :: bT
theorem dX0_init_0 : decode cX0_init 0 = .ok (.aload_n 0, 1) := by decide +kernel
theorem dX0_init_1 : decode cX0_init 1 = .ok (.invokespecial 3, 3) := by decide +kernel
theorem dX0_init_4 : decode cX0_init 4 = .ok (.aload_n 0, 1) := by decide +kernel
theorem dX0_init_5 : decode cX0_init 5 = .ok (.bipush 10, 2) := by decide +kernel
theorem dX0_init_7 : decode cX0_init 7 = .ok (.newarray .long, 2) := by decide +kernel
theorem dX0_init_9 : decode cX0_init 9 = .ok (.putfield 9, 3) := by decide +kernel
theorem dX0_init_12 : decode cX0_init 12 = .ok (.aload_n 0, 1) := by decide +kernel
theorem dX0_init_13 : decode cX0_init 13 = .ok (.bipush 10, 2) := by decide +kernel
theorem dX0_init_15 : decode cX0_init 15 = .ok (.newarray .long, 2) := by decide +kernel
theorem dX0_init_17 : decode cX0_init 17 = .ok (.putfield 15, 3) := by decide +kernel
theorem dX0_init_20 : decode cX0_init 20 = .ok (.aload_n 0, 1) := by decide +kernel
theorem dX0_init_21 : decode cX0_init 21 = .ok (.bipush 10, 2) := by decide +kernel
theorem dX0_init_23 : decode cX0_init 23 = .ok (.newarray .long, 2) := by decide +kernel
theorem dX0_init_25 : decode cX0_init 25 = .ok (.putfield 18, 3) := by decide +kernel
theorem dX0_init_28 : decode cX0_init 28 = .ok (.aload_n 0, 1) := by decide +kernel
theorem dX0_init_29 : decode cX0_init 29 = .ok (.bipush 10, 2) := by decide +kernel
theorem dX0_init_31 : decode cX0_init 31 = .ok (.newarray .long, 2) := by decide +kernel
theorem dX0_init_33 : decode cX0_init 33 = .ok (.putfield 21, 3) := by decide +kernel
theorem dX0_init_36 : decode cX0_init 36 = .ok (.aload_n 0, 1) := by decide +kernel
theorem dX0_init_37 : decode cX0_init 37 = .ok (.bipush 10, 2) := by decide +kernel
theorem dX0_init_39 : decode cX0_init 39 = .ok (.newarray .long, 2) := by decide +kernel
theorem dX0_init_41 : decode cX0_init 41 = .ok (.putfield 24, 3) := by decide +kernel
theorem dX0_init_44 : decode cX0_init 44 = .ok (.aload_n 0, 1) := by decide +kernel
theorem dX0_init_45 : decode cX0_init 45 = .ok (.bipush 20, 2) := by decide +kernel
theorem dX0_init_47 : decode cX0_init 47 = .ok (.newarray .int, 2) := by decide +kernel
theorem dX0_init_49 : decode cX0_init 49 = .ok (.putfield 27, 3) := by decide +kernel
theorem dX0_init_52 : decode cX0_init 52 = .ok (.aload_n 0, 1) := by decide +kernel
theorem dX0_init_53 : decode cX0_init 53 = .ok (.bipush 20, 2) := by decide +kernel
theorem dX0_init_55 : decode cX0_init 55 = .ok (.newarray .int, 2) := by decide +kernel
theorem dX0_init_57 : decode cX0_init 57 = .ok (.putfield 31, 3) := by decide +kernel
theorem dX0_init_60 : decode cX0_init 60 = .ok (.aload_n 0, 1) := by decide +kernel
theorem dX0_init_61 : decode cX0_init 61 = .ok (.bipush 20, 2) := by decide +kernel
theorem dX0_init_63 : decode cX0_init 63 = .ok (.newarray .long, 2) := by decide +kernel
theorem dX0_init_65 : decode cX0_init 65 = .ok (.putfield 34, 3) := by decide +kernel
theorem dX0_init_68 : decode cX0_init 68 = .ok (.aload_n 0, 1) := by decide +kernel
theorem dX0_init_69 : decode cX0_init 69 = .ok (.iconst 0, 1) := by decide +kernel
theorem dX0_init_70 : decode cX0_init 70 = .ok (.putfield 37, 3) := by decide +kernel
theorem dX0_init_73 : decode cX0_init 73 = .ok (.aload_n 0, 1) := by decide +kernel
theorem dX0_init_74 : decode cX0_init 74 = .ok (.iconst 0, 1) := by decide +kernel
theorem dX0_init_75 : decode cX0_init 75 = .ok (.putfield 41, 3) := by decide +kernel
theorem dX0_init_78 : decode cX0_init 78 = .ok (.aload_n 0, 1) := by decide +kernel
theorem dX0_init_79 : decode cX0_init 79 = .ok (.aload_n 1, 1) := by decide +kernel
theorem dX0_init_80 : decode cX0_init 80 = .ok (.putfield 44, 3) := by decide +kernel
theorem dX0_init_83 : decode cX0_init 83 = .ok (.return_, 1) := by decide +kernel
abbrev cX1_init : ByteArray := prog_3_method_1_code
def yX1_init : MethodName := ⟨RX1, "<init>", "()V"⟩
def wsX1_init : List Cond := .code yX1_init cX1_init 1 none :: bT
theorem dX1_init_0 : decode cX1_init 0 = .ok (.aload_n 0, 1) := by decide +kernel
theorem dX1_init_1 : decode cX1_init 1 = .ok (.invokespecial 3, 3) := by decide +kernel
theorem dX1_init_4 : decode cX1_init 4 = .ok (.aload_n 0, 1) := by decide +kernel
theorem dX1_init_5 : decode cX1_init 5 = .ok (.bipush 40, 2) := by decide +kernel
theorem dX1_init_7 : decode cX1_init 7 = .ok (.newarray .long, 2) := by decide +kernel
theorem dX1_init_9 : decode cX1_init 9 = .ok (.putfield 9, 3) := by decide +kernel
theorem dX1_init_12 : decode cX1_init 12 = .ok (.aload_n 0, 1) := by decide +kernel
theorem dX1_init_13 : decode cX1_init 13 = .ok (.bipush 40, 2) := by decide +kernel
theorem dX1_init_15 : decode cX1_init 15 = .ok (.newarray .long, 2) := by decide +kernel
theorem dX1_init_17 : decode cX1_init 17 = .ok (.putfield 15, 3) := by decide +kernel
theorem dX1_init_20 : decode cX1_init 20 = .ok (.aload_n 0, 1) := by decide +kernel
theorem dX1_init_21 : decode cX1_init 21 = .ok (.bipush 40, 2) := by decide +kernel
theorem dX1_init_23 : decode cX1_init 23 = .ok (.newarray .int, 2) := by decide +kernel
theorem dX1_init_25 : decode cX1_init 25 = .ok (.putfield 18, 3) := by decide +kernel
theorem dX1_init_28 : decode cX1_init 28 = .ok (.aload_n 0, 1) := by decide +kernel
theorem dX1_init_29 : decode cX1_init 29 = .ok (.bipush 40, 2) := by decide +kernel
theorem dX1_init_31 : decode cX1_init 31 = .ok (.newarray .long, 2) := by decide +kernel
theorem dX1_init_33 : decode cX1_init 33 = .ok (.putfield 22, 3) := by decide +kernel
theorem dX1_init_36 : decode cX1_init 36 = .ok (.aload_n 0, 1) := by decide +kernel
theorem dX1_init_37 : decode cX1_init 37 = .ok (.bipush 40, 2) := by decide +kernel
theorem dX1_init_39 : decode cX1_init 39 = .ok (.newarray .boolean, 2) := by decide +kernel
theorem dX1_init_41 : decode cX1_init 41 = .ok (.putfield 25, 3) := by decide +kernel
theorem dX1_init_44 : decode cX1_init 44 = .ok (.aload_n 0, 1) := by decide +kernel
theorem dX1_init_45 : decode cX1_init 45 = .ok (.bipush 40, 2) := by decide +kernel
theorem dX1_init_47 : decode cX1_init 47 = .ok (.newarray .int, 2) := by decide +kernel
theorem dX1_init_49 : decode cX1_init 49 = .ok (.putfield 29, 3) := by decide +kernel
theorem dX1_init_52 : decode cX1_init 52 = .ok (.aload_n 0, 1) := by decide +kernel
theorem dX1_init_53 : decode cX1_init 53 = .ok (.iconst 0, 1) := by decide +kernel
theorem dX1_init_54 : decode cX1_init 54 = .ok (.putfield 32, 3) := by decide +kernel
theorem dX1_init_57 : decode cX1_init 57 = .ok (.return_, 1) := by decide +kernel
abbrev cX1_add : ByteArray := prog_3_method_2_code
def yX1_add : MethodName := ⟨RX1, "add", "(JJI)I"⟩
def wsX1_add : List Cond := .code yX1_add cX1_add 6 (some .int) :: bT
theorem dX1_add_0 : decode cX1_add 0 = .ok (.aload_n 0, 1) := by decide +kernel
theorem dX1_add_1 : decode cX1_add 1 = .ok (.getfield 32, 3) := by decide +kernel
theorem dX1_add_4 : decode cX1_add 4 = .ok (.bipush 40, 2) := by decide +kernel
theorem dX1_add_6 : decode cX1_add 6 = .ok (.if_icmp .lt (5), 3) := by decide +kernel
theorem dX1_add_9 : decode cX1_add 9 = .ok (.iconst (-1), 1) := by decide +kernel
theorem dX1_add_10 : decode cX1_add 10 = .ok (.ireturn, 1) := by decide +kernel
theorem dX1_add_11 : decode cX1_add 11 = .ok (.aload_n 0, 1) := by decide +kernel
theorem dX1_add_12 : decode cX1_add 12 = .ok (.getfield 9, 3) := by decide +kernel
theorem dX1_add_15 : decode cX1_add 15 = .ok (.aload_n 0, 1) := by decide +kernel
theorem dX1_add_16 : decode cX1_add 16 = .ok (.getfield 32, 3) := by decide +kernel
theorem dX1_add_19 : decode cX1_add 19 = .ok (.lload_n 1, 1) := by decide +kernel
theorem dX1_add_20 : decode cX1_add 20 = .ok (.lastore, 1) := by decide +kernel
theorem dX1_add_21 : decode cX1_add 21 = .ok (.aload_n 0, 1) := by decide +kernel
theorem dX1_add_22 : decode cX1_add 22 = .ok (.getfield 15, 3) := by decide +kernel
theorem dX1_add_25 : decode cX1_add 25 = .ok (.aload_n 0, 1) := by decide +kernel
theorem dX1_add_26 : decode cX1_add 26 = .ok (.getfield 32, 3) := by decide +kernel
theorem dX1_add_29 : decode cX1_add 29 = .ok (.lload_n 3, 1) := by decide +kernel
theorem dX1_add_30 : decode cX1_add 30 = .ok (.lastore, 1) := by decide +kernel
theorem dX1_add_31 : decode cX1_add 31 = .ok (.aload_n 0, 1) := by decide +kernel
theorem dX1_add_32 : decode cX1_add 32 = .ok (.getfield 18, 3) := by decide +kernel
theorem dX1_add_35 : decode cX1_add 35 = .ok (.aload_n 0, 1) := by decide +kernel
theorem dX1_add_36 : decode cX1_add 36 = .ok (.getfield 32, 3) := by decide +kernel
theorem dX1_add_39 : decode cX1_add 39 = .ok (.iload 5, 2) := by decide +kernel
theorem dX1_add_41 : decode cX1_add 41 = .ok (.iastore, 1) := by decide +kernel
theorem dX1_add_42 : decode cX1_add 42 = .ok (.aload_n 0, 1) := by decide +kernel
theorem dX1_add_43 : decode cX1_add 43 = .ok (.getfield 29, 3) := by decide +kernel
theorem dX1_add_46 : decode cX1_add 46 = .ok (.aload_n 0, 1) := by decide +kernel
theorem dX1_add_47 : decode cX1_add 47 = .ok (.getfield 32, 3) := by decide +kernel
theorem dX1_add_50 : decode cX1_add 50 = .ok (.aload_n 0, 1) := by decide +kernel
theorem dX1_add_51 : decode cX1_add 51 = .ok (.getfield 32, 3) := by decide +kernel
theorem dX1_add_54 : decode cX1_add 54 = .ok (.iastore, 1) := by decide +kernel
theorem dX1_add_55 : decode cX1_add 55 = .ok (.aload_n 0, 1) := by decide +kernel
theorem dX1_add_56 : decode cX1_add 56 = .ok (.dup, 1) := by decide +kernel
theorem dX1_add_57 : decode cX1_add 57 = .ok (.getfield 32, 3) := by decide +kernel
theorem dX1_add_60 : decode cX1_add 60 = .ok (.iconst 1, 1) := by decide +kernel
theorem dX1_add_61 : decode cX1_add 61 = .ok (.iadd, 1) := by decide +kernel
theorem dX1_add_62 : decode cX1_add 62 = .ok (.putfield 32, 3) := by decide +kernel
theorem dX1_add_65 : decode cX1_add 65 = .ok (.aload_n 0, 1) := by decide +kernel
theorem dX1_add_66 : decode cX1_add 66 = .ok (.getfield 32, 3) := by decide +kernel
theorem dX1_add_69 : decode cX1_add 69 = .ok (.iconst 1, 1) := by decide +kernel
theorem dX1_add_70 : decode cX1_add 70 = .ok (.isub, 1) := by decide +kernel
theorem dX1_add_71 : decode cX1_add 71 = .ok (.ireturn, 1) := by decide +kernel
abbrev cX2_init : ByteArray := prog_4_method_1_code
def yX2_init : MethodName := ⟨RX2, "<init>", "(LBoardMoves$Parts;)V"⟩
def wsX2_init : List Cond := .code yX2_init cX2_init 2 none :: bT
theorem dX2_init_0 : decode cX2_init 0 = .ok (.aload_n 0, 1) := by decide +kernel
theorem dX2_init_1 : decode cX2_init 1 = .ok (.invokespecial 3, 3) := by decide +kernel
theorem dX2_init_4 : decode cX2_init 4 = .ok (.aload_n 0, 1) := by decide +kernel
theorem dX2_init_5 : decode cX2_init 5 = .ok (.bipush 40, 2) := by decide +kernel
theorem dX2_init_7 : decode cX2_init 7 = .ok (.newarray .long, 2) := by decide +kernel
theorem dX2_init_9 : decode cX2_init 9 = .ok (.putfield 9, 3) := by decide +kernel
theorem dX2_init_12 : decode cX2_init 12 = .ok (.aload_n 0, 1) := by decide +kernel
theorem dX2_init_13 : decode cX2_init 13 = .ok (.bipush 40, 2) := by decide +kernel
theorem dX2_init_15 : decode cX2_init 15 = .ok (.newarray .long, 2) := by decide +kernel
theorem dX2_init_17 : decode cX2_init 17 = .ok (.putfield 15, 3) := by decide +kernel
theorem dX2_init_20 : decode cX2_init 20 = .ok (.aload_n 0, 1) := by decide +kernel
theorem dX2_init_21 : decode cX2_init 21 = .ok (.bipush 40, 2) := by decide +kernel
theorem dX2_init_23 : decode cX2_init 23 = .ok (.newarray .int, 2) := by decide +kernel
theorem dX2_init_25 : decode cX2_init 25 = .ok (.putfield 18, 3) := by decide +kernel
theorem dX2_init_28 : decode cX2_init 28 = .ok (.aload_n 0, 1) := by decide +kernel
theorem dX2_init_29 : decode cX2_init 29 = .ok (.bipush 40, 2) := by decide +kernel
theorem dX2_init_31 : decode cX2_init 31 = .ok (.newarray .boolean, 2) := by decide +kernel
theorem dX2_init_33 : decode cX2_init 33 = .ok (.putfield 22, 3) := by decide +kernel
theorem dX2_init_36 : decode cX2_init 36 = .ok (.aload_n 0, 1) := by decide +kernel
theorem dX2_init_37 : decode cX2_init 37 = .ok (.aload_n 1, 1) := by decide +kernel
theorem dX2_init_38 : decode cX2_init 38 = .ok (.putfield 26, 3) := by decide +kernel
theorem dX2_init_41 : decode cX2_init 41 = .ok (.return_, 1) := by decide +kernel
abbrev cX3_init : ByteArray := prog_5_method_1_code
def yX3_init : MethodName := ⟨RX3, "<init>", "(LBoardMoves$Parts;)V"⟩
def wsX3_init : List Cond := .code yX3_init cX3_init 2 none :: bT
theorem dX3_init_0 : decode cX3_init 0 = .ok (.aload_n 0, 1) := by decide +kernel
theorem dX3_init_1 : decode cX3_init 1 = .ok (.invokespecial 3, 3) := by decide +kernel
theorem dX3_init_4 : decode cX3_init 4 = .ok (.aload_n 0, 1) := by decide +kernel
theorem dX3_init_5 : decode cX3_init 5 = .ok (.bipush 120, 2) := by decide +kernel
theorem dX3_init_7 : decode cX3_init 7 = .ok (.newarray .int, 2) := by decide +kernel
theorem dX3_init_9 : decode cX3_init 9 = .ok (.putfield 9, 3) := by decide +kernel
theorem dX3_init_12 : decode cX3_init 12 = .ok (.aload_n 0, 1) := by decide +kernel
theorem dX3_init_13 : decode cX3_init 13 = .ok (.bipush 120, 2) := by decide +kernel
theorem dX3_init_15 : decode cX3_init 15 = .ok (.newarray .int, 2) := by decide +kernel
theorem dX3_init_17 : decode cX3_init 17 = .ok (.putfield 15, 3) := by decide +kernel
theorem dX3_init_20 : decode cX3_init 20 = .ok (.aload_n 0, 1) := by decide +kernel
theorem dX3_init_21 : decode cX3_init 21 = .ok (.bipush 120, 2) := by decide +kernel
theorem dX3_init_23 : decode cX3_init 23 = .ok (.newarray .long, 2) := by decide +kernel
theorem dX3_init_25 : decode cX3_init 25 = .ok (.putfield 18, 3) := by decide +kernel
theorem dX3_init_28 : decode cX3_init 28 = .ok (.aload_n 0, 1) := by decide +kernel
theorem dX3_init_29 : decode cX3_init 29 = .ok (.bipush 120, 2) := by decide +kernel
theorem dX3_init_31 : decode cX3_init 31 = .ok (.newarray .long, 2) := by decide +kernel
theorem dX3_init_33 : decode cX3_init 33 = .ok (.putfield 22, 3) := by decide +kernel
theorem dX3_init_36 : decode cX3_init 36 = .ok (.aload_n 0, 1) := by decide +kernel
theorem dX3_init_37 : decode cX3_init 37 = .ok (.bipush 40, 2) := by decide +kernel
theorem dX3_init_39 : decode cX3_init 39 = .ok (.newarray .boolean, 2) := by decide +kernel
theorem dX3_init_41 : decode cX3_init 41 = .ok (.putfield 25, 3) := by decide +kernel
theorem dX3_init_44 : decode cX3_init 44 = .ok (.aload_n 0, 1) := by decide +kernel
theorem dX3_init_45 : decode cX3_init 45 = .ok (.bipush 40, 2) := by decide +kernel
theorem dX3_init_47 : decode cX3_init 47 = .ok (.newarray .long, 2) := by decide +kernel
theorem dX3_init_49 : decode cX3_init 49 = .ok (.putfield 29, 3) := by decide +kernel
theorem dX3_init_52 : decode cX3_init 52 = .ok (.aload_n 0, 1) := by decide +kernel
theorem dX3_init_53 : decode cX3_init 53 = .ok (.bipush 40, 2) := by decide +kernel
theorem dX3_init_55 : decode cX3_init 55 = .ok (.newarray .long, 2) := by decide +kernel
theorem dX3_init_57 : decode cX3_init 57 = .ok (.putfield 32, 3) := by decide +kernel
theorem dX3_init_60 : decode cX3_init 60 = .ok (.aload_n 0, 1) := by decide +kernel
theorem dX3_init_61 : decode cX3_init 61 = .ok (.bipush 40, 2) := by decide +kernel
theorem dX3_init_63 : decode cX3_init 63 = .ok (.newarray .long, 2) := by decide +kernel
theorem dX3_init_65 : decode cX3_init 65 = .ok (.putfield 35, 3) := by decide +kernel
theorem dX3_init_68 : decode cX3_init 68 = .ok (.aload_n 0, 1) := by decide +kernel
theorem dX3_init_69 : decode cX3_init 69 = .ok (.bipush 40, 2) := by decide +kernel
theorem dX3_init_71 : decode cX3_init 71 = .ok (.newarray .long, 2) := by decide +kernel
theorem dX3_init_73 : decode cX3_init 73 = .ok (.putfield 38, 3) := by decide +kernel
theorem dX3_init_76 : decode cX3_init 76 = .ok (.aload_n 0, 1) := by decide +kernel
theorem dX3_init_77 : decode cX3_init 77 = .ok (.iconst 0, 1) := by decide +kernel
theorem dX3_init_78 : decode cX3_init 78 = .ok (.putfield 41, 3) := by decide +kernel
theorem dX3_init_81 : decode cX3_init 81 = .ok (.aload_n 0, 1) := by decide +kernel
theorem dX3_init_82 : decode cX3_init 82 = .ok (.iconst 0, 1) := by decide +kernel
theorem dX3_init_83 : decode cX3_init 83 = .ok (.putfield 45, 3) := by decide +kernel
theorem dX3_init_86 : decode cX3_init 86 = .ok (.aload_n 0, 1) := by decide +kernel
theorem dX3_init_87 : decode cX3_init 87 = .ok (.aload_n 1, 1) := by decide +kernel
theorem dX3_init_88 : decode cX3_init 88 = .ok (.putfield 48, 3) := by decide +kernel
theorem dX3_init_91 : decode cX3_init 91 = .ok (.return_, 1) := by decide +kernel
abbrev cX3_addNet : ByteArray := prog_5_method_2_code
def yX3_addNet : MethodName := ⟨RX3, "addNet", "()I"⟩
def wsX3_addNet : List Cond := .code yX3_addNet cX3_addNet 1 (some .int) :: bT
theorem dX3_addNet_0 : decode cX3_addNet 0 = .ok (.aload_n 0, 1) := by decide +kernel
theorem dX3_addNet_1 : decode cX3_addNet 1 = .ok (.getfield 41, 3) := by decide +kernel
theorem dX3_addNet_4 : decode cX3_addNet 4 = .ok (.bipush 40, 2) := by decide +kernel
theorem dX3_addNet_6 : decode cX3_addNet 6 = .ok (.if_icmp .lt (5), 3) := by decide +kernel
theorem dX3_addNet_9 : decode cX3_addNet 9 = .ok (.iconst (-1), 1) := by decide +kernel
theorem dX3_addNet_10 : decode cX3_addNet 10 = .ok (.ireturn, 1) := by decide +kernel
theorem dX3_addNet_11 : decode cX3_addNet 11 = .ok (.aload_n 0, 1) := by decide +kernel
theorem dX3_addNet_12 : decode cX3_addNet 12 = .ok (.dup, 1) := by decide +kernel
theorem dX3_addNet_13 : decode cX3_addNet 13 = .ok (.getfield 41, 3) := by decide +kernel
theorem dX3_addNet_16 : decode cX3_addNet 16 = .ok (.iconst 1, 1) := by decide +kernel
theorem dX3_addNet_17 : decode cX3_addNet 17 = .ok (.iadd, 1) := by decide +kernel
theorem dX3_addNet_18 : decode cX3_addNet 18 = .ok (.putfield 41, 3) := by decide +kernel
theorem dX3_addNet_21 : decode cX3_addNet 21 = .ok (.aload_n 0, 1) := by decide +kernel
theorem dX3_addNet_22 : decode cX3_addNet 22 = .ok (.getfield 41, 3) := by decide +kernel
theorem dX3_addNet_25 : decode cX3_addNet 25 = .ok (.iconst 1, 1) := by decide +kernel
theorem dX3_addNet_26 : decode cX3_addNet 26 = .ok (.isub, 1) := by decide +kernel
theorem dX3_addNet_27 : decode cX3_addNet 27 = .ok (.ireturn, 1) := by decide +kernel
abbrev cL_cell : ByteArray := method_2_code
def yL_cell : MethodName := ⟨RL, "cell", "([II)I"⟩
def wsL_cell : List Cond := .code yL_cell cL_cell 2 (some .int) :: bT
theorem dL_cell_0 : decode cL_cell 0 = .ok (.iload_n 1, 1) := by decide +kernel
theorem dL_cell_1 : decode cL_cell 1 = .ok (.aload_n 0, 1) := by decide +kernel
theorem dL_cell_2 : decode cL_cell 2 = .ok (.arraylength, 1) := by decide +kernel
theorem dL_cell_3 : decode cL_cell 3 = .ok (.if_icmp .ge (9), 3) := by decide +kernel
theorem dL_cell_6 : decode cL_cell 6 = .ok (.aload_n 0, 1) := by decide +kernel
theorem dL_cell_7 : decode cL_cell 7 = .ok (.iload_n 1, 1) := by decide +kernel
theorem dL_cell_8 : decode cL_cell 8 = .ok (.iaload, 1) := by decide +kernel
theorem dL_cell_9 : decode cL_cell 9 = .ok (.goto (4), 3) := by decide +kernel
theorem dL_cell_12 : decode cL_cell 12 = .ok (.iconst 0, 1) := by decide +kernel
theorem dL_cell_13 : decode cL_cell 13 = .ok (.ireturn, 1) := by decide +kernel
abbrev cL_part : ByteArray := method_3_code
def yL_part : MethodName := ⟨RL, "part", "(LBoardMoves;JJI[J)I"⟩
def wsL_part : List Cond := .codeWith yL_part cL_part 8 (some .int) [(0, 13, 16, 13)] :: bT
theorem dL_part_0 : decode cL_part 0 = .ok (.aload 6, 2) := by decide +kernel
theorem dL_part_2 : decode cL_part 2 = .ok (.iconst 0, 1) := by decide +kernel
theorem dL_part_3 : decode cL_part 3 = .ok (.aload_n 0, 1) := by decide +kernel
theorem dL_part_4 : decode cL_part 4 = .ok (.lload_n 1, 1) := by decide +kernel
theorem dL_part_5 : decode cL_part 5 = .ok (.lload_n 3, 1) := by decide +kernel
theorem dL_part_6 : decode cL_part 6 = .ok (.iload 5, 2) := by decide +kernel
theorem dL_part_8 : decode cL_part 8 = .ok (.invokevirtual 7, 3) := by decide +kernel
theorem dL_part_11 : decode cL_part 11 = .ok (.i2l, 1) := by decide +kernel
theorem dL_part_12 : decode cL_part 12 = .ok (.lastore, 1) := by decide +kernel
theorem dL_part_13 : decode cL_part 13 = .ok (.goto (7), 3) := by decide +kernel
theorem dL_part_16 : decode cL_part 16 = .ok (.astore 7, 2) := by decide +kernel
theorem dL_part_18 : decode cL_part 18 = .ok (.iconst 1, 1) := by decide +kernel
theorem dL_part_19 : decode cL_part 19 = .ok (.ireturn, 1) := by decide +kernel
theorem dL_part_20 : decode cL_part 20 = .ok (.iconst 0, 1) := by decide +kernel
theorem dL_part_21 : decode cL_part 21 = .ok (.ireturn, 1) := by decide +kernel
abbrev cL_put : ByteArray := method_4_code
def yL_put : MethodName := ⟨RL, "put", "(LBoardMoves;IJJI[J)I"⟩
def wsL_put : List Cond := .codeWith yL_put cL_put 9 (some .int) [(0, 22, 25, 19), (0, 22, 29, 13)] :: bT
theorem dL_put_0 : decode cL_put 0 = .ok (.aload 7, 2) := by decide +kernel
theorem dL_put_2 : decode cL_put 2 = .ok (.iconst 0, 1) := by decide +kernel
theorem dL_put_3 : decode cL_put 3 = .ok (.aload_n 0, 1) := by decide +kernel
theorem dL_put_4 : decode cL_put 4 = .ok (.iload_n 1, 1) := by decide +kernel
theorem dL_put_5 : decode cL_put 5 = .ok (.lload_n 2, 1) := by decide +kernel
theorem dL_put_6 : decode cL_put 6 = .ok (.lload 4, 2) := by decide +kernel
theorem dL_put_8 : decode cL_put 8 = .ok (.iload 6, 2) := by decide +kernel
theorem dL_put_10 : decode cL_put 10 = .ok (.invokevirtual 15, 3) := by decide +kernel
theorem dL_put_13 : decode cL_put 13 = .ok (.ifCond .eq (7), 3) := by decide +kernel
theorem dL_put_16 : decode cL_put 16 = .ok (.lconst 1, 1) := by decide +kernel
theorem dL_put_17 : decode cL_put 17 = .ok (.goto (4), 3) := by decide +kernel
theorem dL_put_20 : decode cL_put 20 = .ok (.lconst 0, 1) := by decide +kernel
theorem dL_put_21 : decode cL_put 21 = .ok (.lastore, 1) := by decide +kernel
theorem dL_put_22 : decode cL_put 22 = .ok (.goto (11), 3) := by decide +kernel
theorem dL_put_25 : decode cL_put 25 = .ok (.astore 8, 2) := by decide +kernel
theorem dL_put_27 : decode cL_put 27 = .ok (.iconst 1, 1) := by decide +kernel
theorem dL_put_28 : decode cL_put 28 = .ok (.ireturn, 1) := by decide +kernel
theorem dL_put_29 : decode cL_put 29 = .ok (.astore 8, 2) := by decide +kernel
theorem dL_put_31 : decode cL_put 31 = .ok (.iconst 2, 1) := by decide +kernel
theorem dL_put_32 : decode cL_put 32 = .ok (.ireturn, 1) := by decide +kernel
theorem dL_put_33 : decode cL_put 33 = .ok (.iconst 0, 1) := by decide +kernel
theorem dL_put_34 : decode cL_put 34 = .ok (.ireturn, 1) := by decide +kernel
abbrev cL_lock : ByteArray := method_5_code
def yL_lock : MethodName := ⟨RL, "lock", "(LBoardMoves;IZ[J)I"⟩
def wsL_lock : List Cond := .codeWith yL_lock cL_lock 5 (some .int) [(0, 17, 20, 19)] :: bT
theorem dL_lock_0 : decode cL_lock 0 = .ok (.aload_n 3, 1) := by decide +kernel
theorem dL_lock_1 : decode cL_lock 1 = .ok (.iconst 0, 1) := by decide +kernel
theorem dL_lock_2 : decode cL_lock 2 = .ok (.aload_n 0, 1) := by decide +kernel
theorem dL_lock_3 : decode cL_lock 3 = .ok (.iload_n 1, 1) := by decide +kernel
theorem dL_lock_4 : decode cL_lock 4 = .ok (.iload_n 2, 1) := by decide +kernel
theorem dL_lock_5 : decode cL_lock 5 = .ok (.invokevirtual 21, 3) := by decide +kernel
theorem dL_lock_8 : decode cL_lock 8 = .ok (.ifCond .eq (7), 3) := by decide +kernel
theorem dL_lock_11 : decode cL_lock 11 = .ok (.lconst 1, 1) := by decide +kernel
theorem dL_lock_12 : decode cL_lock 12 = .ok (.goto (4), 3) := by decide +kernel
theorem dL_lock_15 : decode cL_lock 15 = .ok (.lconst 0, 1) := by decide +kernel
theorem dL_lock_16 : decode cL_lock 16 = .ok (.lastore, 1) := by decide +kernel
theorem dL_lock_17 : decode cL_lock 17 = .ok (.goto (7), 3) := by decide +kernel
theorem dL_lock_20 : decode cL_lock 20 = .ok (.astore 4, 2) := by decide +kernel
theorem dL_lock_22 : decode cL_lock 22 = .ok (.iconst 1, 1) := by decide +kernel
theorem dL_lock_23 : decode cL_lock 23 = .ok (.ireturn, 1) := by decide +kernel
theorem dL_lock_24 : decode cL_lock 24 = .ok (.iconst 0, 1) := by decide +kernel
theorem dL_lock_25 : decode cL_lock 25 = .ok (.ireturn, 1) := by decide +kernel
abbrev cL_pin : ByteArray := method_6_code
def yL_pin : MethodName := ⟨RL, "pin", "(LBoardMoves;IIJJ[J)I"⟩
def wsL_pin : List Cond := .codeWith yL_pin cL_pin 9 (some .int) [(0, 21, 24, 19), (0, 21, 28, 13)] :: bT
theorem dL_pin_0 : decode cL_pin 0 = .ok (.aload 7, 2) := by decide +kernel
theorem dL_pin_2 : decode cL_pin 2 = .ok (.iconst 0, 1) := by decide +kernel
theorem dL_pin_3 : decode cL_pin 3 = .ok (.aload_n 0, 1) := by decide +kernel
theorem dL_pin_4 : decode cL_pin 4 = .ok (.iload_n 1, 1) := by decide +kernel
theorem dL_pin_5 : decode cL_pin 5 = .ok (.iload_n 2, 1) := by decide +kernel
theorem dL_pin_6 : decode cL_pin 6 = .ok (.lload_n 3, 1) := by decide +kernel
theorem dL_pin_7 : decode cL_pin 7 = .ok (.lload 5, 2) := by decide +kernel
theorem dL_pin_9 : decode cL_pin 9 = .ok (.invokevirtual 25, 3) := by decide +kernel
theorem dL_pin_12 : decode cL_pin 12 = .ok (.ifCond .eq (7), 3) := by decide +kernel
theorem dL_pin_15 : decode cL_pin 15 = .ok (.lconst 1, 1) := by decide +kernel
theorem dL_pin_16 : decode cL_pin 16 = .ok (.goto (4), 3) := by decide +kernel
theorem dL_pin_19 : decode cL_pin 19 = .ok (.lconst 0, 1) := by decide +kernel
theorem dL_pin_20 : decode cL_pin 20 = .ok (.lastore, 1) := by decide +kernel
theorem dL_pin_21 : decode cL_pin 21 = .ok (.goto (11), 3) := by decide +kernel
theorem dL_pin_24 : decode cL_pin 24 = .ok (.astore 8, 2) := by decide +kernel
theorem dL_pin_26 : decode cL_pin 26 = .ok (.iconst 1, 1) := by decide +kernel
theorem dL_pin_27 : decode cL_pin 27 = .ok (.ireturn, 1) := by decide +kernel
theorem dL_pin_28 : decode cL_pin 28 = .ok (.astore 8, 2) := by decide +kernel
theorem dL_pin_30 : decode cL_pin 30 = .ok (.iconst 2, 1) := by decide +kernel
theorem dL_pin_31 : decode cL_pin 31 = .ok (.ireturn, 1) := by decide +kernel
theorem dL_pin_32 : decode cL_pin 32 = .ok (.iconst 0, 1) := by decide +kernel
theorem dL_pin_33 : decode cL_pin 33 = .ok (.ireturn, 1) := by decide +kernel
abbrev cL_push : ByteArray := method_7_code
def yL_push : MethodName := ⟨RL, "push", "(LBoardMoves;IJJ[J)I"⟩
def wsL_push : List Cond := .codeWith yL_push cL_push 8 (some .int) [(0, 13, 16, 19), (0, 13, 20, 33)] :: bT
theorem dL_push_0 : decode cL_push 0 = .ok (.aload 6, 2) := by decide +kernel
theorem dL_push_2 : decode cL_push 2 = .ok (.iconst 0, 1) := by decide +kernel
theorem dL_push_3 : decode cL_push 3 = .ok (.aload_n 0, 1) := by decide +kernel
theorem dL_push_4 : decode cL_push 4 = .ok (.iload_n 1, 1) := by decide +kernel
theorem dL_push_5 : decode cL_push 5 = .ok (.lload_n 2, 1) := by decide +kernel
theorem dL_push_6 : decode cL_push 6 = .ok (.lload 4, 2) := by decide +kernel
theorem dL_push_8 : decode cL_push 8 = .ok (.invokevirtual 29, 3) := by decide +kernel
theorem dL_push_11 : decode cL_push 11 = .ok (.i2l, 1) := by decide +kernel
theorem dL_push_12 : decode cL_push 12 = .ok (.lastore, 1) := by decide +kernel
theorem dL_push_13 : decode cL_push 13 = .ok (.goto (11), 3) := by decide +kernel
theorem dL_push_16 : decode cL_push 16 = .ok (.astore 7, 2) := by decide +kernel
theorem dL_push_18 : decode cL_push 18 = .ok (.iconst 1, 1) := by decide +kernel
theorem dL_push_19 : decode cL_push 19 = .ok (.ireturn, 1) := by decide +kernel
theorem dL_push_20 : decode cL_push 20 = .ok (.astore 7, 2) := by decide +kernel
theorem dL_push_22 : decode cL_push 22 = .ok (.iconst 2, 1) := by decide +kernel
theorem dL_push_23 : decode cL_push 23 = .ok (.ireturn, 1) := by decide +kernel
theorem dL_push_24 : decode cL_push 24 = .ok (.iconst 0, 1) := by decide +kernel
theorem dL_push_25 : decode cL_push 25 = .ok (.ireturn, 1) := by decide +kernel
abbrev cL_at : ByteArray := method_8_code
def yL_at : MethodName := ⟨RL, "at", "(LBoardMoves;II[J)I"⟩
def wsL_at : List Cond := .codeWith yL_at cL_at 5 (some .int) [(0, 9, 12, 19)] :: bT
theorem dL_at_0 : decode cL_at 0 = .ok (.aload_n 3, 1) := by decide +kernel
theorem dL_at_1 : decode cL_at 1 = .ok (.iconst 0, 1) := by decide +kernel
theorem dL_at_2 : decode cL_at 2 = .ok (.aload_n 0, 1) := by decide +kernel
theorem dL_at_3 : decode cL_at 3 = .ok (.iload_n 1, 1) := by decide +kernel
theorem dL_at_4 : decode cL_at 4 = .ok (.iload_n 2, 1) := by decide +kernel
theorem dL_at_5 : decode cL_at 5 = .ok (.invokevirtual 35, 3) := by decide +kernel
theorem dL_at_8 : decode cL_at 8 = .ok (.lastore, 1) := by decide +kernel
theorem dL_at_9 : decode cL_at 9 = .ok (.goto (7), 3) := by decide +kernel
theorem dL_at_12 : decode cL_at 12 = .ok (.astore 4, 2) := by decide +kernel
theorem dL_at_14 : decode cL_at 14 = .ok (.iconst 1, 1) := by decide +kernel
theorem dL_at_15 : decode cL_at 15 = .ok (.ireturn, 1) := by decide +kernel
theorem dL_at_16 : decode cL_at 16 = .ok (.iconst 0, 1) := by decide +kernel
theorem dL_at_17 : decode cL_at 17 = .ok (.ireturn, 1) := by decide +kernel
abbrev cL_run : ByteArray := method_9_code
def yL_run : MethodName := ⟨RL, "run", "(LBoardMoves;J[J)I"⟩
def wsL_run : List Cond := .codeWith yL_run cL_run 5 (some .int) [(0, 9, 12, 13)] :: bT
theorem dL_run_0 : decode cL_run 0 = .ok (.aload_n 3, 1) := by decide +kernel
theorem dL_run_1 : decode cL_run 1 = .ok (.iconst 0, 1) := by decide +kernel
theorem dL_run_2 : decode cL_run 2 = .ok (.aload_n 0, 1) := by decide +kernel
theorem dL_run_3 : decode cL_run 3 = .ok (.lload_n 1, 1) := by decide +kernel
theorem dL_run_4 : decode cL_run 4 = .ok (.invokevirtual 39, 3) := by decide +kernel
theorem dL_run_7 : decode cL_run 7 = .ok (.i2l, 1) := by decide +kernel
theorem dL_run_8 : decode cL_run 8 = .ok (.lastore, 1) := by decide +kernel
theorem dL_run_9 : decode cL_run 9 = .ok (.goto (7), 3) := by decide +kernel
theorem dL_run_12 : decode cL_run 12 = .ok (.astore 4, 2) := by decide +kernel
theorem dL_run_14 : decode cL_run 14 = .ok (.iconst 1, 1) := by decide +kernel
theorem dL_run_15 : decode cL_run 15 = .ok (.ireturn, 1) := by decide +kernel
theorem dL_run_16 : decode cL_run 16 = .ok (.iconst 0, 1) := by decide +kernel
theorem dL_run_17 : decode cL_run 17 = .ok (.ireturn, 1) := by decide +kernel
abbrev cL_near : ByteArray := method_10_code
def yL_near : MethodName := ⟨RL, "near", "(LBoardMoves;IIJ[J)I"⟩
def wsL_near : List Cond := .codeWith yL_near cL_near 7 (some .int) [(0, 19, 22, 19), (0, 19, 26, 13)] :: bT
theorem dL_near_0 : decode cL_near 0 = .ok (.aload 5, 2) := by decide +kernel
theorem dL_near_2 : decode cL_near 2 = .ok (.iconst 0, 1) := by decide +kernel
theorem dL_near_3 : decode cL_near 3 = .ok (.aload_n 0, 1) := by decide +kernel
theorem dL_near_4 : decode cL_near 4 = .ok (.iload_n 1, 1) := by decide +kernel
theorem dL_near_5 : decode cL_near 5 = .ok (.iload_n 2, 1) := by decide +kernel
theorem dL_near_6 : decode cL_near 6 = .ok (.lload_n 3, 1) := by decide +kernel
theorem dL_near_7 : decode cL_near 7 = .ok (.invokevirtual 43, 3) := by decide +kernel
theorem dL_near_10 : decode cL_near 10 = .ok (.ifCond .eq (7), 3) := by decide +kernel
theorem dL_near_13 : decode cL_near 13 = .ok (.lconst 1, 1) := by decide +kernel
theorem dL_near_14 : decode cL_near 14 = .ok (.goto (4), 3) := by decide +kernel
theorem dL_near_17 : decode cL_near 17 = .ok (.lconst 0, 1) := by decide +kernel
theorem dL_near_18 : decode cL_near 18 = .ok (.lastore, 1) := by decide +kernel
theorem dL_near_19 : decode cL_near 19 = .ok (.goto (11), 3) := by decide +kernel
theorem dL_near_22 : decode cL_near 22 = .ok (.astore 6, 2) := by decide +kernel
theorem dL_near_24 : decode cL_near 24 = .ok (.iconst 1, 1) := by decide +kernel
theorem dL_near_25 : decode cL_near 25 = .ok (.ireturn, 1) := by decide +kernel
theorem dL_near_26 : decode cL_near 26 = .ok (.astore 6, 2) := by decide +kernel
theorem dL_near_28 : decode cL_near 28 = .ok (.iconst 2, 1) := by decide +kernel
theorem dL_near_29 : decode cL_near 29 = .ok (.ireturn, 1) := by decide +kernel
theorem dL_near_30 : decode cL_near 30 = .ok (.iconst 0, 1) := by decide +kernel
theorem dL_near_31 : decode cL_near 31 = .ok (.ireturn, 1) := by decide +kernel
abbrev cL_group : ByteArray := method_11_code
def yL_group : MethodName := ⟨RL, "group", "(LBoardMoves;II[J)I"⟩
def wsL_group : List Cond := .codeWith yL_group cL_group 5 (some .int) [(0, 10, 13, 19)] :: bT
theorem dL_group_0 : decode cL_group 0 = .ok (.aload_n 3, 1) := by decide +kernel
theorem dL_group_1 : decode cL_group 1 = .ok (.iconst 0, 1) := by decide +kernel
theorem dL_group_2 : decode cL_group 2 = .ok (.aload_n 0, 1) := by decide +kernel
theorem dL_group_3 : decode cL_group 3 = .ok (.iload_n 1, 1) := by decide +kernel
theorem dL_group_4 : decode cL_group 4 = .ok (.iload_n 2, 1) := by decide +kernel
theorem dL_group_5 : decode cL_group 5 = .ok (.invokevirtual 47, 3) := by decide +kernel
theorem dL_group_8 : decode cL_group 8 = .ok (.i2l, 1) := by decide +kernel
theorem dL_group_9 : decode cL_group 9 = .ok (.lastore, 1) := by decide +kernel
theorem dL_group_10 : decode cL_group 10 = .ok (.goto (7), 3) := by decide +kernel
theorem dL_group_13 : decode cL_group 13 = .ok (.astore 4, 2) := by decide +kernel
theorem dL_group_15 : decode cL_group 15 = .ok (.iconst 1, 1) := by decide +kernel
theorem dL_group_16 : decode cL_group 16 = .ok (.ireturn, 1) := by decide +kernel
theorem dL_group_17 : decode cL_group 17 = .ok (.iconst 0, 1) := by decide +kernel
theorem dL_group_18 : decode cL_group 18 = .ok (.ireturn, 1) := by decide +kernel
abbrev cL_height : ByteArray := method_12_code
def yL_height : MethodName := ⟨RL, "height", "(LBoardMoves;IJ[J)I"⟩
def wsL_height : List Cond := .codeWith yL_height cL_height 6 (some .int) [(0, 18, 21, 19), (0, 18, 25, 13)] :: bT
theorem dL_height_0 : decode cL_height 0 = .ok (.aload 4, 2) := by decide +kernel
theorem dL_height_2 : decode cL_height 2 = .ok (.iconst 0, 1) := by decide +kernel
theorem dL_height_3 : decode cL_height 3 = .ok (.aload_n 0, 1) := by decide +kernel
theorem dL_height_4 : decode cL_height 4 = .ok (.iload_n 1, 1) := by decide +kernel
theorem dL_height_5 : decode cL_height 5 = .ok (.lload_n 2, 1) := by decide +kernel
theorem dL_height_6 : decode cL_height 6 = .ok (.invokevirtual 51, 3) := by decide +kernel
theorem dL_height_9 : decode cL_height 9 = .ok (.ifCond .eq (7), 3) := by decide +kernel
theorem dL_height_12 : decode cL_height 12 = .ok (.lconst 1, 1) := by decide +kernel
theorem dL_height_13 : decode cL_height 13 = .ok (.goto (4), 3) := by decide +kernel
theorem dL_height_16 : decode cL_height 16 = .ok (.lconst 0, 1) := by decide +kernel
theorem dL_height_17 : decode cL_height 17 = .ok (.lastore, 1) := by decide +kernel
theorem dL_height_18 : decode cL_height 18 = .ok (.goto (11), 3) := by decide +kernel
theorem dL_height_21 : decode cL_height 21 = .ok (.astore 5, 2) := by decide +kernel
theorem dL_height_23 : decode cL_height 23 = .ok (.iconst 1, 1) := by decide +kernel
theorem dL_height_24 : decode cL_height 24 = .ok (.ireturn, 1) := by decide +kernel
theorem dL_height_25 : decode cL_height 25 = .ok (.astore 5, 2) := by decide +kernel
theorem dL_height_27 : decode cL_height 27 = .ok (.iconst 2, 1) := by decide +kernel
theorem dL_height_28 : decode cL_height 28 = .ok (.ireturn, 1) := by decide +kernel
theorem dL_height_29 : decode cL_height 29 = .ok (.iconst 0, 1) := by decide +kernel
theorem dL_height_30 : decode cL_height 30 = .ok (.ireturn, 1) := by decide +kernel
abbrev cL_keepOut : ByteArray := method_13_code
def yL_keepOut : MethodName := ⟨RL, "keepOut", "(LBoardMoves;JJJJJ[J)I"⟩
def wsL_keepOut : List Cond := .codeWith yL_keepOut cL_keepOut 13 (some .int) [(0, 24, 27, 13)] :: bT
theorem dL_keepOut_0 : decode cL_keepOut 0 = .ok (.aload 11, 2) := by decide +kernel
theorem dL_keepOut_2 : decode cL_keepOut 2 = .ok (.iconst 0, 1) := by decide +kernel
theorem dL_keepOut_3 : decode cL_keepOut 3 = .ok (.aload_n 0, 1) := by decide +kernel
theorem dL_keepOut_4 : decode cL_keepOut 4 = .ok (.lload_n 1, 1) := by decide +kernel
theorem dL_keepOut_5 : decode cL_keepOut 5 = .ok (.lload_n 3, 1) := by decide +kernel
theorem dL_keepOut_6 : decode cL_keepOut 6 = .ok (.lload 5, 2) := by decide +kernel
theorem dL_keepOut_8 : decode cL_keepOut 8 = .ok (.lload 7, 2) := by decide +kernel
theorem dL_keepOut_10 : decode cL_keepOut 10 = .ok (.lload 9, 2) := by decide +kernel
theorem dL_keepOut_12 : decode cL_keepOut 12 = .ok (.invokevirtual 55, 3) := by decide +kernel
theorem dL_keepOut_15 : decode cL_keepOut 15 = .ok (.ifCond .eq (7), 3) := by decide +kernel
theorem dL_keepOut_18 : decode cL_keepOut 18 = .ok (.lconst 1, 1) := by decide +kernel
theorem dL_keepOut_19 : decode cL_keepOut 19 = .ok (.goto (4), 3) := by decide +kernel
theorem dL_keepOut_22 : decode cL_keepOut 22 = .ok (.lconst 0, 1) := by decide +kernel
theorem dL_keepOut_23 : decode cL_keepOut 23 = .ok (.lastore, 1) := by decide +kernel
theorem dL_keepOut_24 : decode cL_keepOut 24 = .ok (.goto (7), 3) := by decide +kernel
theorem dL_keepOut_27 : decode cL_keepOut 27 = .ok (.astore 12, 2) := by decide +kernel
theorem dL_keepOut_29 : decode cL_keepOut 29 = .ok (.iconst 1, 1) := by decide +kernel
theorem dL_keepOut_30 : decode cL_keepOut 30 = .ok (.ireturn, 1) := by decide +kernel
theorem dL_keepOut_31 : decode cL_keepOut 31 = .ok (.iconst 0, 1) := by decide +kernel
theorem dL_keepOut_32 : decode cL_keepOut 32 = .ok (.ireturn, 1) := by decide +kernel
abbrev cL_side : ByteArray := method_14_code
def yL_side : MethodName := ⟨RL, "side", "(LBoardMoves;I[J)I"⟩
def wsL_side : List Cond := .codeWith yL_side cL_side 4 (some .int) [(0, 9, 12, 19)] :: bT
theorem dL_side_0 : decode cL_side 0 = .ok (.aload_n 2, 1) := by decide +kernel
theorem dL_side_1 : decode cL_side 1 = .ok (.iconst 0, 1) := by decide +kernel
theorem dL_side_2 : decode cL_side 2 = .ok (.aload_n 0, 1) := by decide +kernel
theorem dL_side_3 : decode cL_side 3 = .ok (.iload_n 1, 1) := by decide +kernel
theorem dL_side_4 : decode cL_side 4 = .ok (.invokevirtual 59, 3) := by decide +kernel
theorem dL_side_7 : decode cL_side 7 = .ok (.i2l, 1) := by decide +kernel
theorem dL_side_8 : decode cL_side 8 = .ok (.lastore, 1) := by decide +kernel
theorem dL_side_9 : decode cL_side 9 = .ok (.goto (6), 3) := by decide +kernel
theorem dL_side_12 : decode cL_side 12 = .ok (.astore_n 3, 1) := by decide +kernel
theorem dL_side_13 : decode cL_side 13 = .ok (.iconst 1, 1) := by decide +kernel
theorem dL_side_14 : decode cL_side 14 = .ok (.ireturn, 1) := by decide +kernel
theorem dL_side_15 : decode cL_side 15 = .ok (.iconst 0, 1) := by decide +kernel
theorem dL_side_16 : decode cL_side 16 = .ok (.ireturn, 1) := by decide +kernel
theorem flX1_9 : Cond.fieldLink RX1 9 "BoardMoves$Parts" "w" "[J" ∈ bT := (mB 28 (by decide +kernel))
theorem flX1_15 : Cond.fieldLink RX1 15 "BoardMoves$Parts" "h" "[J" ∈ bT := (mB 32 (by decide +kernel))
theorem flX1_18 : Cond.fieldLink RX1 18 "BoardMoves$Parts" "side" "[I" ∈ bT := (mB 36 (by decide +kernel))
theorem flX1_22 : Cond.fieldLink RX1 22 "BoardMoves$Parts" "tall" "[J" ∈ bT := (mB 39 (by decide +kernel))
theorem flX1_25 : Cond.fieldLink RX1 25 "BoardMoves$Parts" "locked" "[Z" ∈ bT := (mB 42 (by decide +kernel))
theorem clL_75 : Cond.constantLong RL 75 4294967295 ∈ bT := (mB 892 (by decide +kernel))
theorem wcX5_part : Cond.code yX5_part cX5_part 6 (some .int) ∈ bT := (mB 708 (by decide +kernel))
theorem gvL_80 : GoodIn lw_tbl (wsV RL 80 RX5 yX5_part wsX5_part) := gdVL wcX5_part (mB 705 (by decide +kernel)) (mB 706 (by decide +kernel)) (mB 707 (by decide +kernel)) (mB 7 (by decide +kernel))
theorem wcX5_put : Cond.code yX5_put cX5_put 8 (some .boolean) ∈ bT := (mB 715 (by decide +kernel))
theorem gvL_84 : GoodIn lw_tbl (wsV RL 84 RX5 yX5_put wsX5_put) := gdVL wcX5_put (mB 712 (by decide +kernel)) (mB 713 (by decide +kernel)) (mB 714 (by decide +kernel)) (mB 7 (by decide +kernel))
theorem wcX5_lock : Cond.code yX5_lock cX5_lock 4 (some .boolean) ∈ bT := (mB 790 (by decide +kernel))
theorem gvL_88 : GoodIn lw_tbl (wsV RL 88 RX5 yX5_lock wsX5_lock) := gdVL wcX5_lock (mB 787 (by decide +kernel)) (mB 788 (by decide +kernel)) (mB 789 (by decide +kernel)) (mB 7 (by decide +kernel))
theorem wcX4_net : Cond.code yX4_net cX4_net 1 (some .int) ∈ bT := (mB 222 (by decide +kernel))
theorem gvL_89 : GoodIn lw_tbl (wsV RL 89 RX4 yX4_net wsX4_net) := gdVL wcX4_net (mB 219 (by decide +kernel)) (mB 220 (by decide +kernel)) (mB 221 (by decide +kernel)) (mB 1 (by decide +kernel))
theorem wcX5_net : Cond.code yX5_net cX5_net 1 (some .int) ∈ bT := (mB 794 (by decide +kernel))
theorem gvL_93 : GoodIn lw_tbl (wsV RL 93 RX5 yX5_net wsX5_net) := gdVL wcX5_net (mB 791 (by decide +kernel)) (mB 792 (by decide +kernel)) (mB 793 (by decide +kernel)) (mB 7 (by decide +kernel))
theorem wcX5_pin : Cond.code yX5_pin cX5_pin 9 (some .boolean) ∈ bT := (mB 798 (by decide +kernel))
theorem gvL_97 : GoodIn lw_tbl (wsV RL 97 RX5 yX5_pin wsX5_pin) := gdVL wcX5_pin (mB 795 (by decide +kernel)) (mB 796 (by decide +kernel)) (mB 797 (by decide +kernel)) (mB 7 (by decide +kernel))
theorem wcX5_push : Cond.code yX5_push cX5_push 13 (some .int) ∈ bT := (mB 822 (by decide +kernel))
theorem gvL_101 : GoodIn lw_tbl (wsV RL 101 RX5 yX5_push wsX5_push) := gdVL wcX5_push (mB 819 (by decide +kernel)) (mB 820 (by decide +kernel)) (mB 821 (by decide +kernel)) (mB 7 (by decide +kernel))
theorem wcX5_at : Cond.code yX5_at cX5_at 3 (some .long) ∈ bT := (mB 845 (by decide +kernel))
theorem gvL_105 : GoodIn lw_tbl (wsV RL 105 RX5 yX5_at wsX5_at) := gdVL wcX5_at (mB 842 (by decide +kernel)) (mB 843 (by decide +kernel)) (mB 844 (by decide +kernel)) (mB 7 (by decide +kernel))
theorem wcX5_run : Cond.code yX5_run cX5_run 23 (some .int) ∈ bT := (mB 857 (by decide +kernel))
theorem gvL_109 : GoodIn lw_tbl (wsV RL 109 RX5 yX5_run wsX5_run) := gdVL wcX5_run (mB 854 (by decide +kernel)) (mB 855 (by decide +kernel)) (mB 856 (by decide +kernel)) (mB 7 (by decide +kernel))
theorem wcX4_wire : Cond.code yX4_wire cX4_wire 1 (some .long) ∈ bT := (mB 230 (by decide +kernel))
theorem gvL_110 : GoodIn lw_tbl (wsV RL 110 RX4 yX4_wire wsX4_wire) := gdVL wcX4_wire (mB 227 (by decide +kernel)) (mB 228 (by decide +kernel)) (mB 229 (by decide +kernel)) (mB 1 (by decide +kernel))
theorem wcX5_wire : Cond.code yX5_wire cX5_wire 1 (some .long) ∈ bT := (mB 802 (by decide +kernel))
theorem gvL_114 : GoodIn lw_tbl (wsV RL 114 RX5 yX5_wire wsX5_wire) := gdVL wcX5_wire (mB 799 (by decide +kernel)) (mB 800 (by decide +kernel)) (mB 801 (by decide +kernel)) (mB 7 (by decide +kernel))
theorem wcX4_full : Cond.code yX4_full cX4_full 1 (some .long) ∈ bT := (mB 234 (by decide +kernel))
theorem gvL_115 : GoodIn lw_tbl (wsV RL 115 RX4 yX4_full wsX4_full) := gdVL wcX4_full (mB 231 (by decide +kernel)) (mB 232 (by decide +kernel)) (mB 233 (by decide +kernel)) (mB 1 (by decide +kernel))
theorem wcX5_full : Cond.code yX5_full cX5_full 1 (some .long) ∈ bT := (mB 818 (by decide +kernel))
theorem gvL_118 : GoodIn lw_tbl (wsV RL 118 RX5 yX5_full wsX5_full) := gdVL wcX5_full (mB 815 (by decide +kernel)) (mB 816 (by decide +kernel)) (mB 817 (by decide +kernel)) (mB 7 (by decide +kernel))
theorem wcX5_near : Cond.code yX5_near cX5_near 5 (some .boolean) ∈ bT := (mB 879 (by decide +kernel))
theorem gvL_122 : GoodIn lw_tbl (wsV RL 122 RX5 yX5_near wsX5_near) := gdVL wcX5_near (mB 876 (by decide +kernel)) (mB 877 (by decide +kernel)) (mB 878 (by decide +kernel)) (mB 7 (by decide +kernel))
theorem wcX5_group : Cond.code yX5_group cX5_group 7 (some .int) ∈ bT := (mB 883 (by decide +kernel))
theorem gvL_125 : GoodIn lw_tbl (wsV RL 125 RX5 yX5_group wsX5_group) := gdVL wcX5_group (mB 880 (by decide +kernel)) (mB 881 (by decide +kernel)) (mB 882 (by decide +kernel)) (mB 7 (by decide +kernel))
theorem wcX5_height : Cond.code yX5_height cX5_height 6 (some .boolean) ∈ bT := (mB 887 (by decide +kernel))
theorem gvL_129 : GoodIn lw_tbl (wsV RL 129 RX5 yX5_height wsX5_height) := gdVL wcX5_height (mB 884 (by decide +kernel)) (mB 885 (by decide +kernel)) (mB 886 (by decide +kernel)) (mB 7 (by decide +kernel))
theorem wcX5_keepOut : Cond.code yX5_keepOut cX5_keepOut 12 (some .boolean) ∈ bT := (mB 891 (by decide +kernel))
theorem gvL_133 : GoodIn lw_tbl (wsV RL 133 RX5 yX5_keepOut wsX5_keepOut) := gdVL wcX5_keepOut (mB 888 (by decide +kernel)) (mB 889 (by decide +kernel)) (mB 890 (by decide +kernel)) (mB 7 (by decide +kernel))
theorem wcX4_clear2 : Cond.code yX4_clear2 cX4_clear2 1 (some .boolean) ∈ bT := (mB 256 (by decide +kernel))
theorem gvL_134 : GoodIn lw_tbl (wsV RL 134 RX4 yX4_clear2 wsX4_clear2) := gdVL wcX4_clear2 (mB 253 (by decide +kernel)) (mB 254 (by decide +kernel)) (mB 255 (by decide +kernel)) (mB 1 (by decide +kernel))
theorem wcX5_clear2 : Cond.code yX5_clear2 cX5_clear2 1 (some .boolean) ∈ bT := (mB 853 (by decide +kernel))
theorem gvL_138 : GoodIn lw_tbl (wsV RL 138 RX5 yX5_clear2 wsX5_clear2) := gdVL wcX5_clear2 (mB 850 (by decide +kernel)) (mB 851 (by decide +kernel)) (mB 852 (by decide +kernel)) (mB 7 (by decide +kernel))
theorem wcX5_side : Cond.code yX5_side cX5_side 2 (some .int) ∈ bT := (mB 849 (by decide +kernel))
theorem gvL_142 : GoodIn lw_tbl (wsV RL 142 RX5 yX5_side wsX5_side) := gdVL wcX5_side (mB 846 (by decide +kernel)) (mB 847 (by decide +kernel)) (mB 848 (by decide +kernel)) (mB 7 (by decide +kernel))
theorem wcX1_add : Cond.code yX1_add cX1_add 6 (some .int) ∈ bT := (mB 385 (by decide +kernel))
theorem gvX4_82 {a : Cond} : GoodIn (a :: bT) (wsV RX4 82 RX1 yX1_add wsX1_add) := gdV wcX1_add (mB 382 (by decide +kernel)) (mB 383 (by decide +kernel)) (mB 384 (by decide +kernel)) (mB 2 (by decide +kernel))
theorem wcX3_addNet : Cond.code yX3_addNet cX3_addNet 1 (some .int) ∈ bT := (mB 226 (by decide +kernel))
theorem gvX4_135 {a : Cond} : GoodIn (a :: bT) (wsV RX4 135 RX3 yX3_addNet wsX3_addNet) := gdV wcX3_addNet (mB 223 (by decide +kernel)) (mB 224 (by decide +kernel)) (mB 225 (by decide +kernel)) (mB 4 (by decide +kernel))
theorem gvX4_207 {a : Cond} : GoodIn (a :: bT) (wsV RX4 207 RX2 yX2_isNear wsX2_isNear) := gdV wcX2_isNear (mB 563 (by decide +kernel)) (mB 295 (by decide +kernel)) (mB 296 (by decide +kernel)) (mB 5 (by decide +kernel))
theorem wcX0_addNear : Cond.code yX0_addNear cX0_addNear 5 (some .boolean) ∈ bT := (mB 567 (by decide +kernel))
theorem gvX4_211 {a : Cond} : GoodIn (a :: bT) (wsV RX4 211 RX0 yX0_addNear wsX0_addNear) := gdV wcX0_addNear (mB 564 (by decide +kernel)) (mB 565 (by decide +kernel)) (mB 566 (by decide +kernel)) (mB 3 (by decide +kernel))
theorem wcX0_addKeepOut : Cond.code yX0_addKeepOut cX0_addKeepOut 11 (some .boolean) ∈ bT := (mB 601 (by decide +kernel))
theorem gvX4_225 {a : Cond} : GoodIn (a :: bT) (wsV RX4 225 RX0 yX0_addKeepOut wsX0_addKeepOut) := gdV wcX0_addKeepOut (mB 598 (by decide +kernel)) (mB 599 (by decide +kernel)) (mB 600 (by decide +kernel)) (mB 3 (by decide +kernel))
theorem wcX4_allStandWell : Cond.code yX4_allStandWell cX4_allStandWell 2 (some .boolean) ∈ bT := (mB 260 (by decide +kernel))
theorem gvX4_229 {a : Cond} : GoodIn (a :: bT) (wsV RX4 229 RX4 yX4_allStandWell wsX4_allStandWell) := gdV wcX4_allStandWell (mB 257 (by decide +kernel)) (mB 259 (by decide +kernel)) (mS (by decide +kernel)) (mB 1 (by decide +kernel))
theorem wcX0_dropKeepOut : Cond.code yX0_dropKeepOut cX0_dropKeepOut 1 none ∈ bT := (mB 605 (by decide +kernel))
theorem gvX4_232 {a : Cond} : GoodIn (a :: bT) (wsV RX4 232 RX0 yX0_dropKeepOut wsX0_dropKeepOut) := gdV wcX0_dropKeepOut (mB 602 (by decide +kernel)) (mB 603 (by decide +kernel)) (mB 604 (by decide +kernel)) (mB 3 (by decide +kernel))
theorem wcX4_part : Cond.code yX4_part cX4_part 6 (some .int) ∈ bT := (mB 310 (by decide +kernel))
theorem gwL_7 {a : Cond} : GoodIn (a :: bT) (wsV RL 7 RX4 yX4_part wsX4_part) := gdV wcX4_part (mB 307 (by decide +kernel)) (mB 308 (by decide +kernel)) (mB 309 (by decide +kernel)) (mB 1 (by decide +kernel))
theorem wcX4_put : Cond.code yX4_put cX4_put 7 (some .boolean) ∈ bT := (mB 393 (by decide +kernel))
theorem gwL_15 {a : Cond} : GoodIn (a :: bT) (wsV RL 15 RX4 yX4_put wsX4_put) := gdV wcX4_put (mB 390 (by decide +kernel)) (mB 391 (by decide +kernel)) (mB 392 (by decide +kernel)) (mB 1 (by decide +kernel))
theorem wcX4_lock : Cond.code yX4_lock cX4_lock 4 (some .boolean) ∈ bT := (mB 454 (by decide +kernel))
theorem gwL_21 {a : Cond} : GoodIn (a :: bT) (wsV RL 21 RX4 yX4_lock wsX4_lock) := gdV wcX4_lock (mB 451 (by decide +kernel)) (mB 452 (by decide +kernel)) (mB 453 (by decide +kernel)) (mB 1 (by decide +kernel))
theorem wcX4_pin : Cond.code yX4_pin cX4_pin 7 (some .boolean) ∈ bT := (mB 461 (by decide +kernel))
theorem gwL_25 {a : Cond} : GoodIn (a :: bT) (wsV RL 25 RX4 yX4_pin wsX4_pin) := gdV wcX4_pin (mB 458 (by decide +kernel)) (mB 459 (by decide +kernel)) (mB 460 (by decide +kernel)) (mB 1 (by decide +kernel))
theorem wcX4_push : Cond.code yX4_push cX4_push 13 (some .int) ∈ bT := (mB 475 (by decide +kernel))
theorem gwL_29 {a : Cond} : GoodIn (a :: bT) (wsV RL 29 RX4 yX4_push wsX4_push) := gdV wcX4_push (mB 472 (by decide +kernel)) (mB 473 (by decide +kernel)) (mB 474 (by decide +kernel)) (mB 1 (by decide +kernel))
theorem wcX4_at : Cond.code yX4_at cX4_at 3 (some .long) ∈ bT := (mB 523 (by decide +kernel))
theorem gwL_35 {a : Cond} : GoodIn (a :: bT) (wsV RL 35 RX4 yX4_at wsX4_at) := gdV wcX4_at (mB 520 (by decide +kernel)) (mB 521 (by decide +kernel)) (mB 522 (by decide +kernel)) (mB 1 (by decide +kernel))
theorem wcX4_run : Cond.code yX4_run cX4_run 10 (some .int) ∈ bT := (mB 531 (by decide +kernel))
theorem gwL_39 {a : Cond} : GoodIn (a :: bT) (wsV RL 39 RX4 yX4_run wsX4_run) := gdV wcX4_run (mB 528 (by decide +kernel)) (mB 529 (by decide +kernel)) (mB 530 (by decide +kernel)) (mB 1 (by decide +kernel))
theorem wcX4_near : Cond.code yX4_near cX4_near 5 (some .boolean) ∈ bT := (mB 561 (by decide +kernel))
theorem gwL_43 {a : Cond} : GoodIn (a :: bT) (wsV RL 43 RX4 yX4_near wsX4_near) := gdV wcX4_near (mB 558 (by decide +kernel)) (mB 559 (by decide +kernel)) (mB 560 (by decide +kernel)) (mB 1 (by decide +kernel))
theorem wcX4_group : Cond.code yX4_group cX4_group 3 (some .int) ∈ bT := (mB 574 (by decide +kernel))
theorem gwL_47 {a : Cond} : GoodIn (a :: bT) (wsV RL 47 RX4 yX4_group wsX4_group) := gdV wcX4_group (mB 571 (by decide +kernel)) (mB 572 (by decide +kernel)) (mB 573 (by decide +kernel)) (mB 1 (by decide +kernel))
theorem wcX4_height : Cond.code yX4_height cX4_height 6 (some .boolean) ∈ bT := (mB 588 (by decide +kernel))
theorem gwL_51 {a : Cond} : GoodIn (a :: bT) (wsV RL 51 RX4 yX4_height wsX4_height) := gdV wcX4_height (mB 585 (by decide +kernel)) (mB 586 (by decide +kernel)) (mB 587 (by decide +kernel)) (mB 1 (by decide +kernel))
theorem wcX4_keepOut : Cond.code yX4_keepOut cX4_keepOut 11 (some .boolean) ∈ bT := (mB 596 (by decide +kernel))
theorem gwL_55 {a : Cond} : GoodIn (a :: bT) (wsV RL 55 RX4 yX4_keepOut wsX4_keepOut) := gdV wcX4_keepOut (mB 593 (by decide +kernel)) (mB 594 (by decide +kernel)) (mB 595 (by decide +kernel)) (mB 1 (by decide +kernel))
theorem wcX4_side : Cond.code yX4_side cX4_side 2 (some .int) ∈ bT := (mB 612 (by decide +kernel))
theorem gwL_59 {a : Cond} : GoodIn (a :: bT) (wsV RL 59 RX4 yX4_side wsX4_side) := gdV wcX4_side (mB 609 (by decide +kernel)) (mB 610 (by decide +kernel)) (mB 611 (by decide +kernel)) (mB 1 (by decide +kernel))
theorem hvX0_addKeepOut : yX0_addKeepOut.cls = RX0 ∧ yX0_addKeepOut.cls ≠ "java/lang/invoke/MethodHandle" ∧ yX0_addKeepOut.cls ≠ "java/lang/invoke/VarHandle" ∧ (parseMethodDescriptor yX0_addKeepOut.desc).map (fun d => d.parameters.length) = some 5 := by decide +kernel
theorem hvX0_addNear : yX0_addNear.cls = RX0 ∧ yX0_addNear.cls ≠ "java/lang/invoke/MethodHandle" ∧ yX0_addNear.cls ≠ "java/lang/invoke/VarHandle" ∧ (parseMethodDescriptor yX0_addNear.desc).map (fun d => d.parameters.length) = some 3 := by decide +kernel
theorem hvX0_dropKeepOut : yX0_dropKeepOut.cls = RX0 ∧ yX0_dropKeepOut.cls ≠ "java/lang/invoke/MethodHandle" ∧ yX0_dropKeepOut.cls ≠ "java/lang/invoke/VarHandle" ∧ (parseMethodDescriptor yX0_dropKeepOut.desc).map (fun d => d.parameters.length) = some 0 := by decide +kernel
theorem hvX1_add : yX1_add.cls = RX1 ∧ yX1_add.cls ≠ "java/lang/invoke/MethodHandle" ∧ yX1_add.cls ≠ "java/lang/invoke/VarHandle" ∧ (parseMethodDescriptor yX1_add.desc).map (fun d => d.parameters.length) = some 3 := by decide +kernel
theorem hvX3_addNet : yX3_addNet.cls = RX3 ∧ yX3_addNet.cls ≠ "java/lang/invoke/MethodHandle" ∧ yX3_addNet.cls ≠ "java/lang/invoke/VarHandle" ∧ (parseMethodDescriptor yX3_addNet.desc).map (fun d => d.parameters.length) = some 0 := by decide +kernel
theorem hvX4_allStandWell : yX4_allStandWell.cls = RX4 ∧ yX4_allStandWell.cls ≠ "java/lang/invoke/MethodHandle" ∧ yX4_allStandWell.cls ≠ "java/lang/invoke/VarHandle" ∧ (parseMethodDescriptor yX4_allStandWell.desc).map (fun d => d.parameters.length) = some 0 := by decide +kernel
theorem hvX4_at : yX4_at.cls = RX4 ∧ yX4_at.cls ≠ "java/lang/invoke/MethodHandle" ∧ yX4_at.cls ≠ "java/lang/invoke/VarHandle" ∧ (parseMethodDescriptor yX4_at.desc).map (fun d => d.parameters.length) = some 2 := by decide +kernel
theorem hvX4_clear2 : yX4_clear2.cls = RX4 ∧ yX4_clear2.cls ≠ "java/lang/invoke/MethodHandle" ∧ yX4_clear2.cls ≠ "java/lang/invoke/VarHandle" ∧ (parseMethodDescriptor yX4_clear2.desc).map (fun d => d.parameters.length) = some 0 := by decide +kernel
theorem hvX4_full : yX4_full.cls = RX4 ∧ yX4_full.cls ≠ "java/lang/invoke/MethodHandle" ∧ yX4_full.cls ≠ "java/lang/invoke/VarHandle" ∧ (parseMethodDescriptor yX4_full.desc).map (fun d => d.parameters.length) = some 0 := by decide +kernel
theorem hvX4_group : yX4_group.cls = RX4 ∧ yX4_group.cls ≠ "java/lang/invoke/MethodHandle" ∧ yX4_group.cls ≠ "java/lang/invoke/VarHandle" ∧ (parseMethodDescriptor yX4_group.desc).map (fun d => d.parameters.length) = some 2 := by decide +kernel
theorem hvX4_height : yX4_height.cls = RX4 ∧ yX4_height.cls ≠ "java/lang/invoke/MethodHandle" ∧ yX4_height.cls ≠ "java/lang/invoke/VarHandle" ∧ (parseMethodDescriptor yX4_height.desc).map (fun d => d.parameters.length) = some 2 := by decide +kernel
theorem hvX4_keepOut : yX4_keepOut.cls = RX4 ∧ yX4_keepOut.cls ≠ "java/lang/invoke/MethodHandle" ∧ yX4_keepOut.cls ≠ "java/lang/invoke/VarHandle" ∧ (parseMethodDescriptor yX4_keepOut.desc).map (fun d => d.parameters.length) = some 5 := by decide +kernel
theorem hvX4_lock : yX4_lock.cls = RX4 ∧ yX4_lock.cls ≠ "java/lang/invoke/MethodHandle" ∧ yX4_lock.cls ≠ "java/lang/invoke/VarHandle" ∧ (parseMethodDescriptor yX4_lock.desc).map (fun d => d.parameters.length) = some 2 := by decide +kernel
theorem hvX4_near : yX4_near.cls = RX4 ∧ yX4_near.cls ≠ "java/lang/invoke/MethodHandle" ∧ yX4_near.cls ≠ "java/lang/invoke/VarHandle" ∧ (parseMethodDescriptor yX4_near.desc).map (fun d => d.parameters.length) = some 3 := by decide +kernel
theorem hvX4_net : yX4_net.cls = RX4 ∧ yX4_net.cls ≠ "java/lang/invoke/MethodHandle" ∧ yX4_net.cls ≠ "java/lang/invoke/VarHandle" ∧ (parseMethodDescriptor yX4_net.desc).map (fun d => d.parameters.length) = some 0 := by decide +kernel
theorem hvX4_part : yX4_part.cls = RX4 ∧ yX4_part.cls ≠ "java/lang/invoke/MethodHandle" ∧ yX4_part.cls ≠ "java/lang/invoke/VarHandle" ∧ (parseMethodDescriptor yX4_part.desc).map (fun d => d.parameters.length) = some 3 := by decide +kernel
theorem hvX4_pin : yX4_pin.cls = RX4 ∧ yX4_pin.cls ≠ "java/lang/invoke/MethodHandle" ∧ yX4_pin.cls ≠ "java/lang/invoke/VarHandle" ∧ (parseMethodDescriptor yX4_pin.desc).map (fun d => d.parameters.length) = some 4 := by decide +kernel
theorem hvX4_push : yX4_push.cls = RX4 ∧ yX4_push.cls ≠ "java/lang/invoke/MethodHandle" ∧ yX4_push.cls ≠ "java/lang/invoke/VarHandle" ∧ (parseMethodDescriptor yX4_push.desc).map (fun d => d.parameters.length) = some 3 := by decide +kernel
theorem hvX4_put : yX4_put.cls = RX4 ∧ yX4_put.cls ≠ "java/lang/invoke/MethodHandle" ∧ yX4_put.cls ≠ "java/lang/invoke/VarHandle" ∧ (parseMethodDescriptor yX4_put.desc).map (fun d => d.parameters.length) = some 4 := by decide +kernel
theorem hvX4_run : yX4_run.cls = RX4 ∧ yX4_run.cls ≠ "java/lang/invoke/MethodHandle" ∧ yX4_run.cls ≠ "java/lang/invoke/VarHandle" ∧ (parseMethodDescriptor yX4_run.desc).map (fun d => d.parameters.length) = some 1 := by decide +kernel
theorem hvX4_side : yX4_side.cls = RX4 ∧ yX4_side.cls ≠ "java/lang/invoke/MethodHandle" ∧ yX4_side.cls ≠ "java/lang/invoke/VarHandle" ∧ (parseMethodDescriptor yX4_side.desc).map (fun d => d.parameters.length) = some 1 := by decide +kernel
theorem hvX4_wire : yX4_wire.cls = RX4 ∧ yX4_wire.cls ≠ "java/lang/invoke/MethodHandle" ∧ yX4_wire.cls ≠ "java/lang/invoke/VarHandle" ∧ (parseMethodDescriptor yX4_wire.desc).map (fun d => d.parameters.length) = some 0 := by decide +kernel
theorem hvX5_at : yX5_at.cls = RX5 ∧ yX5_at.cls ≠ "java/lang/invoke/MethodHandle" ∧ yX5_at.cls ≠ "java/lang/invoke/VarHandle" ∧ (parseMethodDescriptor yX5_at.desc).map (fun d => d.parameters.length) = some 2 := by decide +kernel
theorem hvX5_clear2 : yX5_clear2.cls = RX5 ∧ yX5_clear2.cls ≠ "java/lang/invoke/MethodHandle" ∧ yX5_clear2.cls ≠ "java/lang/invoke/VarHandle" ∧ (parseMethodDescriptor yX5_clear2.desc).map (fun d => d.parameters.length) = some 0 := by decide +kernel
theorem hvX5_full : yX5_full.cls = RX5 ∧ yX5_full.cls ≠ "java/lang/invoke/MethodHandle" ∧ yX5_full.cls ≠ "java/lang/invoke/VarHandle" ∧ (parseMethodDescriptor yX5_full.desc).map (fun d => d.parameters.length) = some 0 := by decide +kernel
theorem hvX5_group : yX5_group.cls = RX5 ∧ yX5_group.cls ≠ "java/lang/invoke/MethodHandle" ∧ yX5_group.cls ≠ "java/lang/invoke/VarHandle" ∧ (parseMethodDescriptor yX5_group.desc).map (fun d => d.parameters.length) = some 2 := by decide +kernel
theorem hvX5_height : yX5_height.cls = RX5 ∧ yX5_height.cls ≠ "java/lang/invoke/MethodHandle" ∧ yX5_height.cls ≠ "java/lang/invoke/VarHandle" ∧ (parseMethodDescriptor yX5_height.desc).map (fun d => d.parameters.length) = some 2 := by decide +kernel
theorem hvX5_keepOut : yX5_keepOut.cls = RX5 ∧ yX5_keepOut.cls ≠ "java/lang/invoke/MethodHandle" ∧ yX5_keepOut.cls ≠ "java/lang/invoke/VarHandle" ∧ (parseMethodDescriptor yX5_keepOut.desc).map (fun d => d.parameters.length) = some 5 := by decide +kernel
theorem hvX5_lock : yX5_lock.cls = RX5 ∧ yX5_lock.cls ≠ "java/lang/invoke/MethodHandle" ∧ yX5_lock.cls ≠ "java/lang/invoke/VarHandle" ∧ (parseMethodDescriptor yX5_lock.desc).map (fun d => d.parameters.length) = some 2 := by decide +kernel
theorem hvX5_near : yX5_near.cls = RX5 ∧ yX5_near.cls ≠ "java/lang/invoke/MethodHandle" ∧ yX5_near.cls ≠ "java/lang/invoke/VarHandle" ∧ (parseMethodDescriptor yX5_near.desc).map (fun d => d.parameters.length) = some 3 := by decide +kernel
theorem hvX5_net : yX5_net.cls = RX5 ∧ yX5_net.cls ≠ "java/lang/invoke/MethodHandle" ∧ yX5_net.cls ≠ "java/lang/invoke/VarHandle" ∧ (parseMethodDescriptor yX5_net.desc).map (fun d => d.parameters.length) = some 0 := by decide +kernel
theorem hvX5_part : yX5_part.cls = RX5 ∧ yX5_part.cls ≠ "java/lang/invoke/MethodHandle" ∧ yX5_part.cls ≠ "java/lang/invoke/VarHandle" ∧ (parseMethodDescriptor yX5_part.desc).map (fun d => d.parameters.length) = some 3 := by decide +kernel
theorem hvX5_pin : yX5_pin.cls = RX5 ∧ yX5_pin.cls ≠ "java/lang/invoke/MethodHandle" ∧ yX5_pin.cls ≠ "java/lang/invoke/VarHandle" ∧ (parseMethodDescriptor yX5_pin.desc).map (fun d => d.parameters.length) = some 4 := by decide +kernel
theorem hvX5_push : yX5_push.cls = RX5 ∧ yX5_push.cls ≠ "java/lang/invoke/MethodHandle" ∧ yX5_push.cls ≠ "java/lang/invoke/VarHandle" ∧ (parseMethodDescriptor yX5_push.desc).map (fun d => d.parameters.length) = some 3 := by decide +kernel
theorem hvX5_put : yX5_put.cls = RX5 ∧ yX5_put.cls ≠ "java/lang/invoke/MethodHandle" ∧ yX5_put.cls ≠ "java/lang/invoke/VarHandle" ∧ (parseMethodDescriptor yX5_put.desc).map (fun d => d.parameters.length) = some 4 := by decide +kernel
theorem hvX5_run : yX5_run.cls = RX5 ∧ yX5_run.cls ≠ "java/lang/invoke/MethodHandle" ∧ yX5_run.cls ≠ "java/lang/invoke/VarHandle" ∧ (parseMethodDescriptor yX5_run.desc).map (fun d => d.parameters.length) = some 1 := by decide +kernel
theorem hvX5_side : yX5_side.cls = RX5 ∧ yX5_side.cls ≠ "java/lang/invoke/MethodHandle" ∧ yX5_side.cls ≠ "java/lang/invoke/VarHandle" ∧ (parseMethodDescriptor yX5_side.desc).map (fun d => d.parameters.length) = some 1 := by decide +kernel
theorem hvX5_wire : yX5_wire.cls = RX5 ∧ yX5_wire.cls ≠ "java/lang/invoke/MethodHandle" ∧ yX5_wire.cls ≠ "java/lang/invoke/VarHandle" ∧ (parseMethodDescriptor yX5_wire.desc).map (fun d => d.parameters.length) = some 0 := by decide +kernel
