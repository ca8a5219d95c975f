abbrev cX4_part : ByteArray := prog_1_method_2_code
def yX4_part : MethodName := ⟨RX4, "part", "(JJI)I"⟩
def wsX4_part : List Cond := .code yX4_part cX4_part 6 (some .int) :: bT
theorem dX4_part_0 : decode cX4_part 0 = .ok (.lload_n 1, 1) := by decide +kernel
theorem dX4_part_1 : decode cX4_part 1 = .ok (.invokestatic 71, 3) := by decide +kernel
theorem dX4_part_4 : decode cX4_part 4 = .ok (.ifCond .eq (21), 3) := by decide +kernel
theorem dX4_part_7 : decode cX4_part 7 = .ok (.lload_n 3, 1) := by decide +kernel
theorem dX4_part_8 : decode cX4_part 8 = .ok (.invokestatic 71, 3) := by decide +kernel
theorem dX4_part_11 : decode cX4_part 11 = .ok (.ifCond .eq (14), 3) := by decide +kernel
theorem dX4_part_14 : decode cX4_part 14 = .ok (.iload 5, 2) := by decide +kernel
theorem dX4_part_16 : decode cX4_part 16 = .ok (.ifCond .lt (9), 3) := by decide +kernel
theorem dX4_part_19 : decode cX4_part 19 = .ok (.iload 5, 2) := by decide +kernel
theorem dX4_part_21 : decode cX4_part 21 = .ok (.iconst 1, 1) := by decide +kernel
theorem dX4_part_22 : decode cX4_part 22 = .ok (.if_icmp .le (13), 3) := by decide +kernel
theorem dX4_part_25 : decode cX4_part 25 = .ok (.new 75, 3) := by decide +kernel
theorem dX4_part_28 : decode cX4_part 28 = .ok (.dup, 1) := by decide +kernel
theorem dX4_part_29 : decode cX4_part 29 = .ok (.ldc 77, 2) := by decide +kernel
theorem dX4_part_31 : decode cX4_part 31 = .ok (.invokespecial 79, 3) := by decide +kernel
theorem dX4_part_34 : decode cX4_part 34 = .ok (.athrow, 1) := by decide +kernel
abbrev cX4_put : ByteArray := prog_1_method_3_code
def yX4_put : MethodName := ⟨RX4, "put", "(IJJI)Z"⟩
def wsX4_put : List Cond := .code yX4_put cX4_put 7 (some .boolean) :: bT
theorem dX4_put_0 : decode cX4_put 0 = .ok (.aload_n 0, 1) := by decide +kernel
theorem dX4_put_1 : decode cX4_put 1 = .ok (.iload_n 1, 1) := by decide +kernel
theorem dX4_put_2 : decode cX4_put 2 = .ok (.invokevirtual 86, 3) := by decide +kernel
theorem dX4_put_5 : decode cX4_put 5 = .ok (.iload 6, 2) := by decide +kernel
theorem dX4_put_7 : decode cX4_put 7 = .ok (.ifCond .lt (9), 3) := by decide +kernel
theorem dX4_put_10 : decode cX4_put 10 = .ok (.iload 6, 2) := by decide +kernel
theorem dX4_put_12 : decode cX4_put 12 = .ok (.iconst 4, 1) := by decide +kernel
theorem dX4_put_13 : decode cX4_put 13 = .ok (.if_icmp .lt (13), 3) := by decide +kernel
theorem dX4_put_16 : decode cX4_put 16 = .ok (.new 75, 3) := by decide +kernel
theorem dX4_put_19 : decode cX4_put 19 = .ok (.dup, 1) := by decide +kernel
theorem dX4_put_20 : decode cX4_put 20 = .ok (.ldc 90, 2) := by decide +kernel
theorem dX4_put_22 : decode cX4_put 22 = .ok (.invokespecial 79, 3) := by decide +kernel
theorem dX4_put_25 : decode cX4_put 25 = .ok (.athrow, 1) := by decide +kernel
theorem dX4_put_26 : decode cX4_put 26 = .ok (.aload_n 0, 1) := by decide +kernel
theorem dX4_put_27 : decode cX4_put 27 = .ok (.iload_n 1, 1) := by decide +kernel
theorem dX4_put_28 : decode cX4_put 28 = .ok (.lload_n 2, 1) := by decide +kernel
theorem dX4_put_29 : decode cX4_put 29 = .ok (.lload 4, 2) := by decide +kernel
theorem dX4_put_31 : decode cX4_put 31 = .ok (.iload 6, 2) := by decide +kernel
theorem dX4_put_33 : decode cX4_put 33 = .ok (.invokevirtual 92, 3) := by decide +kernel
theorem dX4_put_36 : decode cX4_put 36 = .ok (.ifCond .ne (5), 3) := by decide +kernel
theorem dX4_put_39 : decode cX4_put 39 = .ok (.iconst 0, 1) := by decide +kernel
theorem dX4_put_40 : decode cX4_put 40 = .ok (.ireturn, 1) := by decide +kernel
theorem dX4_put_41 : decode cX4_put 41 = .ok (.aload_n 0, 1) := by decide +kernel
theorem dX4_put_42 : decode cX4_put 42 = .ok (.getfield 37, 3) := by decide +kernel
theorem dX4_put_45 : decode cX4_put 45 = .ok (.getfield 96, 3) := by decide +kernel
theorem dX4_put_48 : decode cX4_put 48 = .ok (.iload_n 1, 1) := by decide +kernel
theorem dX4_put_49 : decode cX4_put 49 = .ok (.baload, 1) := by decide +kernel
theorem dX4_put_50 : decode cX4_put 50 = .ok (.ifCond .eq (30), 3) := by decide +kernel
theorem dX4_put_53 : decode cX4_put 53 = .ok (.iload 6, 2) := by decide +kernel
theorem dX4_put_55 : decode cX4_put 55 = .ok (.aload_n 0, 1) := by decide +kernel
theorem dX4_put_56 : decode cX4_put 56 = .ok (.getfield 37, 3) := by decide +kernel
theorem dX4_put_59 : decode cX4_put 59 = .ok (.getfield 100, 3) := by decide +kernel
theorem dX4_put_62 : decode cX4_put 62 = .ok (.iload_n 1, 1) := by decide +kernel
theorem dX4_put_63 : decode cX4_put 63 = .ok (.iaload, 1) := by decide +kernel
theorem dX4_put_64 : decode cX4_put 64 = .ok (.if_icmp .eq (16), 3) := by decide +kernel
theorem dX4_put_67 : decode cX4_put 67 = .ok (.aload_n 0, 1) := by decide +kernel
theorem dX4_put_68 : decode cX4_put 68 = .ok (.getfield 37, 3) := by decide +kernel
theorem dX4_put_71 : decode cX4_put 71 = .ok (.iload_n 1, 1) := by decide +kernel
theorem dX4_put_72 : decode cX4_put 72 = .ok (.invokevirtual 104, 3) := by decide +kernel
theorem dX4_put_75 : decode cX4_put 75 = .ok (.ifCond .eq (5), 3) := by decide +kernel
theorem dX4_put_78 : decode cX4_put 78 = .ok (.iconst 0, 1) := by decide +kernel
theorem dX4_put_79 : decode cX4_put 79 = .ok (.ireturn, 1) := by decide +kernel
theorem dX4_put_80 : decode cX4_put 80 = .ok (.aload_n 0, 1) := by decide +kernel
theorem dX4_put_81 : decode cX4_put 81 = .ok (.getfield 41, 3) := by decide +kernel
theorem dX4_put_84 : decode cX4_put 84 = .ok (.aload_n 0, 1) := by decide +kernel
theorem dX4_put_85 : decode cX4_put 85 = .ok (.getfield 37, 3) := by decide +kernel
theorem dX4_put_88 : decode cX4_put 88 = .ok (.invokevirtual 108, 3) := by decide +kernel
theorem dX4_put_91 : decode cX4_put 91 = .ok (.aload_n 0, 1) := by decide +kernel
theorem dX4_put_92 : decode cX4_put 92 = .ok (.getfield 37, 3) := by decide +kernel
theorem dX4_put_95 : decode cX4_put 95 = .ok (.getfield 96, 3) := by decide +kernel
theorem dX4_put_98 : decode cX4_put 98 = .ok (.iload_n 1, 1) := by decide +kernel
theorem dX4_put_99 : decode cX4_put 99 = .ok (.baload, 1) := by decide +kernel
theorem dX4_put_100 : decode cX4_put 100 = .ok (.ifCond .eq (48), 3) := by decide +kernel
theorem dX4_put_103 : decode cX4_put 103 = .ok (.aload_n 0, 1) := by decide +kernel
theorem dX4_put_104 : decode cX4_put 104 = .ok (.getfield 37, 3) := by decide +kernel
theorem dX4_put_107 : decode cX4_put 107 = .ok (.iload_n 1, 1) := by decide +kernel
theorem dX4_put_108 : decode cX4_put 108 = .ok (.lload_n 2, 1) := by decide +kernel
theorem dX4_put_109 : decode cX4_put 109 = .ok (.aload_n 0, 1) := by decide +kernel
theorem dX4_put_110 : decode cX4_put 110 = .ok (.getfield 37, 3) := by decide +kernel
theorem dX4_put_113 : decode cX4_put 113 = .ok (.getfield 112, 3) := by decide +kernel
theorem dX4_put_116 : decode cX4_put 116 = .ok (.iload_n 1, 1) := by decide +kernel
theorem dX4_put_117 : decode cX4_put 117 = .ok (.laload, 1) := by decide +kernel
theorem dX4_put_118 : decode cX4_put 118 = .ok (.lsub, 1) := by decide +kernel
theorem dX4_put_119 : decode cX4_put 119 = .ok (.lload 4, 2) := by decide +kernel
theorem dX4_put_121 : decode cX4_put 121 = .ok (.aload_n 0, 1) := by decide +kernel
theorem dX4_put_122 : decode cX4_put 122 = .ok (.getfield 37, 3) := by decide +kernel
theorem dX4_put_125 : decode cX4_put 125 = .ok (.getfield 116, 3) := by decide +kernel
theorem dX4_put_128 : decode cX4_put 128 = .ok (.iload_n 1, 1) := by decide +kernel
theorem dX4_put_129 : decode cX4_put 129 = .ok (.laload, 1) := by decide +kernel
theorem dX4_put_130 : decode cX4_put 130 = .ok (.lsub, 1) := by decide +kernel
theorem dX4_put_131 : decode cX4_put 131 = .ok (.invokevirtual 119, 3) := by decide +kernel
theorem dX4_put_134 : decode cX4_put 134 = .ok (.aload_n 0, 1) := by decide +kernel
theorem dX4_put_135 : decode cX4_put 135 = .ok (.getfield 37, 3) := by decide +kernel
theorem dX4_put_138 : decode cX4_put 138 = .ok (.getfield 100, 3) := by decide +kernel
theorem dX4_put_141 : decode cX4_put 141 = .ok (.iload_n 1, 1) := by decide +kernel
theorem dX4_put_142 : decode cX4_put 142 = .ok (.iload 6, 2) := by decide +kernel
theorem dX4_put_144 : decode cX4_put 144 = .ok (.iastore, 1) := by decide +kernel
theorem dX4_put_145 : decode cX4_put 145 = .ok (.goto (16), 3) := by decide +kernel
theorem dX4_put_148 : decode cX4_put 148 = .ok (.aload_n 0, 1) := by decide +kernel
theorem dX4_put_149 : decode cX4_put 149 = .ok (.getfield 37, 3) := by decide +kernel
theorem dX4_put_152 : decode cX4_put 152 = .ok (.iload_n 1, 1) := by decide +kernel
theorem dX4_put_153 : decode cX4_put 153 = .ok (.lload_n 2, 1) := by decide +kernel
theorem dX4_put_154 : decode cX4_put 154 = .ok (.lload 4, 2) := by decide +kernel
theorem dX4_put_156 : decode cX4_put 156 = .ok (.iload 6, 2) := by decide +kernel
theorem dX4_put_158 : decode cX4_put 158 = .ok (.invokevirtual 123, 3) := by decide +kernel
theorem dX4_put_161 : decode cX4_put 161 = .ok (.aload_n 0, 1) := by decide +kernel
theorem dX4_put_162 : decode cX4_put 162 = .ok (.ldc2_w 127, 3) := by decide +kernel
theorem dX4_put_165 : decode cX4_put 165 = .ok (.invokevirtual 129, 3) := by decide +kernel
theorem dX4_put_168 : decode cX4_put 168 = .ok (.ireturn, 1) := by decide +kernel
abbrev cX4_lock : ByteArray := prog_1_method_4_code
def yX4_lock : MethodName := ⟨RX4, "lock", "(IZ)Z"⟩
def wsX4_lock : List Cond := .code yX4_lock cX4_lock 4 (some .boolean) :: bT
theorem dX4_lock_0 : decode cX4_lock 0 = .ok (.aload_n 0, 1) := by decide +kernel
theorem dX4_lock_1 : decode cX4_lock 1 = .ok (.iload_n 1, 1) := by decide +kernel
theorem dX4_lock_2 : decode cX4_lock 2 = .ok (.invokevirtual 86, 3) := by decide +kernel
theorem dX4_lock_5 : decode cX4_lock 5 = .ok (.aload_n 0, 1) := by decide +kernel
theorem dX4_lock_6 : decode cX4_lock 6 = .ok (.getfield 12, 3) := by decide +kernel
theorem dX4_lock_9 : decode cX4_lock 9 = .ok (.getfield 132, 3) := by decide +kernel
theorem dX4_lock_12 : decode cX4_lock 12 = .ok (.iload_n 1, 1) := by decide +kernel
theorem dX4_lock_13 : decode cX4_lock 13 = .ok (.baload, 1) := by decide +kernel
theorem dX4_lock_14 : decode cX4_lock 14 = .ok (.iload_n 2, 1) := by decide +kernel
theorem dX4_lock_15 : decode cX4_lock 15 = .ok (.if_icmp .eq (7), 3) := by decide +kernel
theorem dX4_lock_18 : decode cX4_lock 18 = .ok (.iconst 1, 1) := by decide +kernel
theorem dX4_lock_19 : decode cX4_lock 19 = .ok (.goto (4), 3) := by decide +kernel
theorem dX4_lock_22 : decode cX4_lock 22 = .ok (.iconst 0, 1) := by decide +kernel
theorem dX4_lock_23 : decode cX4_lock 23 = .ok (.istore_n 3, 1) := by decide +kernel
theorem dX4_lock_24 : decode cX4_lock 24 = .ok (.aload_n 0, 1) := by decide +kernel
theorem dX4_lock_25 : decode cX4_lock 25 = .ok (.getfield 12, 3) := by decide +kernel
theorem dX4_lock_28 : decode cX4_lock 28 = .ok (.getfield 132, 3) := by decide +kernel
theorem dX4_lock_31 : decode cX4_lock 31 = .ok (.iload_n 1, 1) := by decide +kernel
theorem dX4_lock_32 : decode cX4_lock 32 = .ok (.iload_n 2, 1) := by decide +kernel
theorem dX4_lock_33 : decode cX4_lock 33 = .ok (.bastore, 1) := by decide +kernel
theorem dX4_lock_34 : decode cX4_lock 34 = .ok (.iload_n 3, 1) := by decide +kernel
theorem dX4_lock_35 : decode cX4_lock 35 = .ok (.ireturn, 1) := by decide +kernel
abbrev cX4_pin : ByteArray := prog_1_method_6_code
def yX4_pin : MethodName := ⟨RX4, "pin", "(IIJJ)Z"⟩
def wsX4_pin : List Cond := .code yX4_pin cX4_pin 7 (some .boolean) :: bT
theorem dX4_pin_0 : decode cX4_pin 0 = .ok (.iload_n 1, 1) := by decide +kernel
theorem dX4_pin_1 : decode cX4_pin 1 = .ok (.ifCond .lt (14), 3) := by decide +kernel
theorem dX4_pin_4 : decode cX4_pin 4 = .ok (.iload_n 1, 1) := by decide +kernel
theorem dX4_pin_5 : decode cX4_pin 5 = .ok (.aload_n 0, 1) := by decide +kernel
theorem dX4_pin_6 : decode cX4_pin 6 = .ok (.getfield 30, 3) := by decide +kernel
theorem dX4_pin_9 : decode cX4_pin 9 = .ok (.getfield 139, 3) := by decide +kernel
theorem dX4_pin_12 : decode cX4_pin 12 = .ok (.if_icmp .lt (13), 3) := by decide +kernel
theorem dX4_pin_15 : decode cX4_pin 15 = .ok (.new 143, 3) := by decide +kernel
theorem dX4_pin_18 : decode cX4_pin 18 = .ok (.dup, 1) := by decide +kernel
theorem dX4_pin_19 : decode cX4_pin 19 = .ok (.ldc 145, 2) := by decide +kernel
theorem dX4_pin_21 : decode cX4_pin 21 = .ok (.invokespecial 147, 3) := by decide +kernel
theorem dX4_pin_24 : decode cX4_pin 24 = .ok (.athrow, 1) := by decide +kernel
theorem dX4_pin_25 : decode cX4_pin 25 = .ok (.aload_n 0, 1) := by decide +kernel
theorem dX4_pin_26 : decode cX4_pin 26 = .ok (.iload_n 2, 1) := by decide +kernel
theorem dX4_pin_27 : decode cX4_pin 27 = .ok (.invokevirtual 86, 3) := by decide +kernel
theorem dX4_pin_30 : decode cX4_pin 30 = .ok (.lload_n 3, 1) := by decide +kernel
theorem dX4_pin_31 : decode cX4_pin 31 = .ok (.lconst 0, 1) := by decide +kernel
theorem dX4_pin_32 : decode cX4_pin 32 = .ok (.lcmp, 1) := by decide +kernel
theorem dX4_pin_33 : decode cX4_pin 33 = .ok (.ifCond .lt (39), 3) := by decide +kernel
theorem dX4_pin_36 : decode cX4_pin 36 = .ok (.lload_n 3, 1) := by decide +kernel
theorem dX4_pin_37 : decode cX4_pin 37 = .ok (.aload_n 0, 1) := by decide +kernel
theorem dX4_pin_38 : decode cX4_pin 38 = .ok (.getfield 12, 3) := by decide +kernel
theorem dX4_pin_41 : decode cX4_pin 41 = .ok (.getfield 148, 3) := by decide +kernel
theorem dX4_pin_44 : decode cX4_pin 44 = .ok (.iload_n 2, 1) := by decide +kernel
theorem dX4_pin_45 : decode cX4_pin 45 = .ok (.laload, 1) := by decide +kernel
theorem dX4_pin_46 : decode cX4_pin 46 = .ok (.lcmp, 1) := by decide +kernel
theorem dX4_pin_47 : decode cX4_pin 47 = .ok (.ifCond .gt (25), 3) := by decide +kernel
theorem dX4_pin_50 : decode cX4_pin 50 = .ok (.lload 5, 2) := by decide +kernel
theorem dX4_pin_52 : decode cX4_pin 52 = .ok (.lconst 0, 1) := by decide +kernel
theorem dX4_pin_53 : decode cX4_pin 53 = .ok (.lcmp, 1) := by decide +kernel
theorem dX4_pin_54 : decode cX4_pin 54 = .ok (.ifCond .lt (18), 3) := by decide +kernel
theorem dX4_pin_57 : decode cX4_pin 57 = .ok (.lload 5, 2) := by decide +kernel
theorem dX4_pin_59 : decode cX4_pin 59 = .ok (.aload_n 0, 1) := by decide +kernel
theorem dX4_pin_60 : decode cX4_pin 60 = .ok (.getfield 12, 3) := by decide +kernel
theorem dX4_pin_63 : decode cX4_pin 63 = .ok (.getfield 151, 3) := by decide +kernel
theorem dX4_pin_66 : decode cX4_pin 66 = .ok (.iload_n 2, 1) := by decide +kernel
theorem dX4_pin_67 : decode cX4_pin 67 = .ok (.laload, 1) := by decide +kernel
theorem dX4_pin_68 : decode cX4_pin 68 = .ok (.lcmp, 1) := by decide +kernel
theorem dX4_pin_69 : decode cX4_pin 69 = .ok (.ifCond .le (13), 3) := by decide +kernel
theorem dX4_pin_72 : decode cX4_pin 72 = .ok (.new 75, 3) := by decide +kernel
theorem dX4_pin_75 : decode cX4_pin 75 = .ok (.dup, 1) := by decide +kernel
theorem dX4_pin_76 : decode cX4_pin 76 = .ok (.ldc 154, 2) := by decide +kernel
theorem dX4_pin_78 : decode cX4_pin 78 = .ok (.invokespecial 79, 3) := by decide +kernel
theorem dX4_pin_81 : decode cX4_pin 81 = .ok (.athrow, 1) := by decide +kernel
theorem dX4_pin_82 : decode cX4_pin 82 = .ok (.aload_n 0, 1) := by decide +kernel
theorem dX4_pin_83 : decode cX4_pin 83 = .ok (.getfield 30, 3) := by decide +kernel
theorem dX4_pin_86 : decode cX4_pin 86 = .ok (.iload_n 1, 1) := by decide +kernel
theorem dX4_pin_87 : decode cX4_pin 87 = .ok (.iload_n 2, 1) := by decide +kernel
theorem dX4_pin_88 : decode cX4_pin 88 = .ok (.lload_n 3, 1) := by decide +kernel
theorem dX4_pin_89 : decode cX4_pin 89 = .ok (.lload 5, 2) := by decide +kernel
theorem dX4_pin_91 : decode cX4_pin 91 = .ok (.invokevirtual 156, 3) := by decide +kernel
theorem dX4_pin_94 : decode cX4_pin 94 = .ok (.ifCond .ne (5), 3) := by decide +kernel
theorem dX4_pin_97 : decode cX4_pin 97 = .ok (.iconst 0, 1) := by decide +kernel
theorem dX4_pin_98 : decode cX4_pin 98 = .ok (.ireturn, 1) := by decide +kernel
theorem dX4_pin_99 : decode cX4_pin 99 = .ok (.aload_n 0, 1) := by decide +kernel
theorem dX4_pin_100 : decode cX4_pin 100 = .ok (.aload_n 0, 1) := by decide +kernel
theorem dX4_pin_101 : decode cX4_pin 101 = .ok (.getfield 30, 3) := by decide +kernel
theorem dX4_pin_104 : decode cX4_pin 104 = .ok (.aload_n 0, 1) := by decide +kernel
theorem dX4_pin_105 : decode cX4_pin 105 = .ok (.getfield 37, 3) := by decide +kernel
theorem dX4_pin_108 : decode cX4_pin 108 = .ok (.invokevirtual 160, 3) := by decide +kernel
theorem dX4_pin_111 : decode cX4_pin 111 = .ok (.putfield 47, 3) := by decide +kernel
theorem dX4_pin_114 : decode cX4_pin 114 = .ok (.iconst 1, 1) := by decide +kernel
theorem dX4_pin_115 : decode cX4_pin 115 = .ok (.ireturn, 1) := by decide +kernel
abbrev cX4_push : ByteArray := prog_1_method_7_code
def yX4_push : MethodName := ⟨RX4, "push", "(IJJ)I"⟩
def wsX4_push : List Cond := .code yX4_push cX4_push 13 (some .int) :: bT
theorem dX4_push_0 : decode cX4_push 0 = .ok (.aload_n 0, 1) := by decide +kernel
theorem dX4_push_1 : decode cX4_push 1 = .ok (.iload_n 1, 1) := by decide +kernel
theorem dX4_push_2 : decode cX4_push 2 = .ok (.invokevirtual 86, 3) := by decide +kernel
theorem dX4_push_5 : decode cX4_push 5 = .ok (.aload_n 0, 1) := by decide +kernel
theorem dX4_push_6 : decode cX4_push 6 = .ok (.getfield 37, 3) := by decide +kernel
theorem dX4_push_9 : decode cX4_push 9 = .ok (.getfield 96, 3) := by decide +kernel
theorem dX4_push_12 : decode cX4_push 12 = .ok (.iload_n 1, 1) := by decide +kernel
theorem dX4_push_13 : decode cX4_push 13 = .ok (.baload, 1) := by decide +kernel
theorem dX4_push_14 : decode cX4_push 14 = .ok (.ifCond .ne (13), 3) := by decide +kernel
theorem dX4_push_17 : decode cX4_push 17 = .ok (.new 164, 3) := by decide +kernel
theorem dX4_push_20 : decode cX4_push 20 = .ok (.dup, 1) := by decide +kernel
theorem dX4_push_21 : decode cX4_push 21 = .ok (.ldc 166, 2) := by decide +kernel
theorem dX4_push_23 : decode cX4_push 23 = .ok (.invokespecial 168, 3) := by decide +kernel
theorem dX4_push_26 : decode cX4_push 26 = .ok (.athrow, 1) := by decide +kernel
theorem dX4_push_27 : decode cX4_push 27 = .ok (.aload_n 0, 1) := by decide +kernel
theorem dX4_push_28 : decode cX4_push 28 = .ok (.iload_n 1, 1) := by decide +kernel
theorem dX4_push_29 : decode cX4_push 29 = .ok (.lload_n 2, 1) := by decide +kernel
theorem dX4_push_30 : decode cX4_push 30 = .ok (.lload 4, 2) := by decide +kernel
theorem dX4_push_32 : decode cX4_push 32 = .ok (.aload_n 0, 1) := by decide +kernel
theorem dX4_push_33 : decode cX4_push 33 = .ok (.getfield 37, 3) := by decide +kernel
theorem dX4_push_36 : decode cX4_push 36 = .ok (.getfield 100, 3) := by decide +kernel
theorem dX4_push_39 : decode cX4_push 39 = .ok (.iload_n 1, 1) := by decide +kernel
theorem dX4_push_40 : decode cX4_push 40 = .ok (.iaload, 1) := by decide +kernel
theorem dX4_push_41 : decode cX4_push 41 = .ok (.invokevirtual 92, 3) := by decide +kernel
theorem dX4_push_44 : decode cX4_push 44 = .ok (.ifCond .ne (5), 3) := by decide +kernel
theorem dX4_push_47 : decode cX4_push 47 = .ok (.iconst (-1), 1) := by decide +kernel
theorem dX4_push_48 : decode cX4_push 48 = .ok (.ireturn, 1) := by decide +kernel
theorem dX4_push_49 : decode cX4_push 49 = .ok (.aload_n 0, 1) := by decide +kernel
theorem dX4_push_50 : decode cX4_push 50 = .ok (.getfield 41, 3) := by decide +kernel
theorem dX4_push_53 : decode cX4_push 53 = .ok (.aload_n 0, 1) := by decide +kernel
theorem dX4_push_54 : decode cX4_push 54 = .ok (.getfield 37, 3) := by decide +kernel
theorem dX4_push_57 : decode cX4_push 57 = .ok (.invokevirtual 108, 3) := by decide +kernel
theorem dX4_push_60 : decode cX4_push 60 = .ok (.lload_n 2, 1) := by decide +kernel
theorem dX4_push_61 : decode cX4_push 61 = .ok (.aload_n 0, 1) := by decide +kernel
theorem dX4_push_62 : decode cX4_push 62 = .ok (.getfield 37, 3) := by decide +kernel
theorem dX4_push_65 : decode cX4_push 65 = .ok (.getfield 112, 3) := by decide +kernel
theorem dX4_push_68 : decode cX4_push 68 = .ok (.iload_n 1, 1) := by decide +kernel
theorem dX4_push_69 : decode cX4_push 69 = .ok (.laload, 1) := by decide +kernel
theorem dX4_push_70 : decode cX4_push 70 = .ok (.lsub, 1) := by decide +kernel
theorem dX4_push_71 : decode cX4_push 71 = .ok (.lstore 6, 2) := by decide +kernel
theorem dX4_push_73 : decode cX4_push 73 = .ok (.lload 4, 2) := by decide +kernel
theorem dX4_push_75 : decode cX4_push 75 = .ok (.aload_n 0, 1) := by decide +kernel
theorem dX4_push_76 : decode cX4_push 76 = .ok (.getfield 37, 3) := by decide +kernel
theorem dX4_push_79 : decode cX4_push 79 = .ok (.getfield 116, 3) := by decide +kernel
theorem dX4_push_82 : decode cX4_push 82 = .ok (.iload_n 1, 1) := by decide +kernel
theorem dX4_push_83 : decode cX4_push 83 = .ok (.laload, 1) := by decide +kernel
theorem dX4_push_84 : decode cX4_push 84 = .ok (.lsub, 1) := by decide +kernel
theorem dX4_push_85 : decode cX4_push 85 = .ok (.lstore 8, 2) := by decide +kernel
theorem dX4_push_87 : decode cX4_push 87 = .ok (.lload 6, 2) := by decide +kernel
theorem dX4_push_89 : decode cX4_push 89 = .ok (.invokestatic 169, 3) := by decide +kernel
theorem dX4_push_92 : decode cX4_push 92 = .ok (.lload 8, 2) := by decide +kernel
theorem dX4_push_94 : decode cX4_push 94 = .ok (.invokestatic 169, 3) := by decide +kernel
theorem dX4_push_97 : decode cX4_push 97 = .ok (.lcmp, 1) := by decide +kernel
theorem dX4_push_98 : decode cX4_push 98 = .ok (.ifCond .lt (7), 3) := by decide +kernel
theorem dX4_push_101 : decode cX4_push 101 = .ok (.iconst 1, 1) := by decide +kernel
theorem dX4_push_102 : decode cX4_push 102 = .ok (.goto (4), 3) := by decide +kernel
theorem dX4_push_105 : decode cX4_push 105 = .ok (.iconst 0, 1) := by decide +kernel
theorem dX4_push_106 : decode cX4_push 106 = .ok (.istore 10, 2) := by decide +kernel
theorem dX4_push_108 : decode cX4_push 108 = .ok (.iload 10, 2) := by decide +kernel
theorem dX4_push_110 : decode cX4_push 110 = .ok (.ifCond .eq (18), 3) := by decide +kernel
theorem dX4_push_113 : decode cX4_push 113 = .ok (.lload 6, 2) := by decide +kernel
theorem dX4_push_115 : decode cX4_push 115 = .ok (.lconst 0, 1) := by decide +kernel
theorem dX4_push_116 : decode cX4_push 116 = .ok (.lcmp, 1) := by decide +kernel
theorem dX4_push_117 : decode cX4_push 117 = .ok (.ifCond .le (7), 3) := by decide +kernel
theorem dX4_push_120 : decode cX4_push 120 = .ok (.iconst 1, 1) := by decide +kernel
theorem dX4_push_121 : decode cX4_push 121 = .ok (.goto (19), 3) := by decide +kernel
theorem dX4_push_124 : decode cX4_push 124 = .ok (.iconst 0, 1) := by decide +kernel
theorem dX4_push_125 : decode cX4_push 125 = .ok (.goto (15), 3) := by decide +kernel
theorem dX4_push_128 : decode cX4_push 128 = .ok (.lload 8, 2) := by decide +kernel
theorem dX4_push_130 : decode cX4_push 130 = .ok (.lconst 0, 1) := by decide +kernel
theorem dX4_push_131 : decode cX4_push 131 = .ok (.lcmp, 1) := by decide +kernel
theorem dX4_push_132 : decode cX4_push 132 = .ok (.ifCond .le (7), 3) := by decide +kernel
theorem dX4_push_135 : decode cX4_push 135 = .ok (.iconst 1, 1) := by decide +kernel
theorem dX4_push_136 : decode cX4_push 136 = .ok (.goto (4), 3) := by decide +kernel
theorem dX4_push_139 : decode cX4_push 139 = .ok (.iconst 0, 1) := by decide +kernel
theorem dX4_push_140 : decode cX4_push 140 = .ok (.istore 11, 2) := by decide +kernel
theorem dX4_push_142 : decode cX4_push 142 = .ok (.aload_n 0, 1) := by decide +kernel
theorem dX4_push_143 : decode cX4_push 143 = .ok (.getfield 37, 3) := by decide +kernel
theorem dX4_push_146 : decode cX4_push 146 = .ok (.iload_n 1, 1) := by decide +kernel
theorem dX4_push_147 : decode cX4_push 147 = .ok (.lload 6, 2) := by decide +kernel
theorem dX4_push_149 : decode cX4_push 149 = .ok (.lload 8, 2) := by decide +kernel
theorem dX4_push_151 : decode cX4_push 151 = .ok (.invokevirtual 119, 3) := by decide +kernel
theorem dX4_push_154 : decode cX4_push 154 = .ok (.aload_n 0, 1) := by decide +kernel
theorem dX4_push_155 : decode cX4_push 155 = .ok (.iload_n 1, 1) := by decide +kernel
theorem dX4_push_156 : decode cX4_push 156 = .ok (.iload 10, 2) := by decide +kernel
theorem dX4_push_158 : decode cX4_push 158 = .ok (.iload 11, 2) := by decide +kernel
theorem dX4_push_160 : decode cX4_push 160 = .ok (.invokevirtual 173, 3) := by decide +kernel
theorem dX4_push_163 : decode cX4_push 163 = .ok (.ifCond .eq (13), 3) := by decide +kernel
theorem dX4_push_166 : decode cX4_push 166 = .ok (.aload_n 0, 1) := by decide +kernel
theorem dX4_push_167 : decode cX4_push 167 = .ok (.ldc2_w 127, 3) := by decide +kernel
theorem dX4_push_170 : decode cX4_push 170 = .ok (.invokevirtual 129, 3) := by decide +kernel
theorem dX4_push_173 : decode cX4_push 173 = .ok (.goto (7), 3) := by decide +kernel
theorem dX4_push_176 : decode cX4_push 176 = .ok (.aload_n 0, 1) := by decide +kernel
theorem dX4_push_177 : decode cX4_push 177 = .ok (.invokevirtual 177, 3) := by decide +kernel
theorem dX4_push_180 : decode cX4_push 180 = .ok (.istore 12, 2) := by decide +kernel
theorem dX4_push_182 : decode cX4_push 182 = .ok (.iload 12, 2) := by decide +kernel
theorem dX4_push_184 : decode cX4_push 184 = .ok (.ifCond .eq (11), 3) := by decide +kernel
theorem dX4_push_187 : decode cX4_push 187 = .ok (.aload_n 0, 1) := by decide +kernel
theorem dX4_push_188 : decode cX4_push 188 = .ok (.iload_n 1, 1) := by decide +kernel
theorem dX4_push_189 : decode cX4_push 189 = .ok (.invokevirtual 181, 3) := by decide +kernel
theorem dX4_push_192 : decode cX4_push 192 = .ok (.goto (4), 3) := by decide +kernel
theorem dX4_push_195 : decode cX4_push 195 = .ok (.iconst (-1), 1) := by decide +kernel
theorem dX4_push_196 : decode cX4_push 196 = .ok (.ireturn, 1) := by decide +kernel
abbrev cX4_at : ByteArray := prog_1_method_8_code
def yX4_at : MethodName := ⟨RX4, "at", "(II)J"⟩
def wsX4_at : List Cond := .code yX4_at cX4_at 3 (some .long) :: bT
theorem dX4_at_0 : decode cX4_at 0 = .ok (.aload_n 0, 1) := by decide +kernel
theorem dX4_at_1 : decode cX4_at 1 = .ok (.iload_n 1, 1) := by decide +kernel
theorem dX4_at_2 : decode cX4_at 2 = .ok (.invokevirtual 86, 3) := by decide +kernel
theorem dX4_at_5 : decode cX4_at 5 = .ok (.iload_n 2, 1) := by decide +kernel
theorem dX4_at_6 : decode cX4_at 6 = .ok (.tableswitch 130 0 6 #[42, 52, 62, 73, 91, 109, 120], 42) := by decide +kernel
theorem dX4_at_48 : decode cX4_at 48 = .ok (.aload_n 0, 1) := by decide +kernel
theorem dX4_at_49 : decode cX4_at 49 = .ok (.getfield 37, 3) := by decide +kernel
theorem dX4_at_52 : decode cX4_at 52 = .ok (.getfield 112, 3) := by decide +kernel
theorem dX4_at_55 : decode cX4_at 55 = .ok (.iload_n 1, 1) := by decide +kernel
theorem dX4_at_56 : decode cX4_at 56 = .ok (.laload, 1) := by decide +kernel
theorem dX4_at_57 : decode cX4_at 57 = .ok (.lreturn, 1) := by decide +kernel
theorem dX4_at_58 : decode cX4_at 58 = .ok (.aload_n 0, 1) := by decide +kernel
theorem dX4_at_59 : decode cX4_at 59 = .ok (.getfield 37, 3) := by decide +kernel
theorem dX4_at_62 : decode cX4_at 62 = .ok (.getfield 116, 3) := by decide +kernel
theorem dX4_at_65 : decode cX4_at 65 = .ok (.iload_n 1, 1) := by decide +kernel
theorem dX4_at_66 : decode cX4_at 66 = .ok (.laload, 1) := by decide +kernel
theorem dX4_at_67 : decode cX4_at 67 = .ok (.lreturn, 1) := by decide +kernel
theorem dX4_at_68 : decode cX4_at 68 = .ok (.aload_n 0, 1) := by decide +kernel
theorem dX4_at_69 : decode cX4_at 69 = .ok (.getfield 37, 3) := by decide +kernel
theorem dX4_at_72 : decode cX4_at 72 = .ok (.getfield 100, 3) := by decide +kernel
theorem dX4_at_75 : decode cX4_at 75 = .ok (.iload_n 1, 1) := by decide +kernel
theorem dX4_at_76 : decode cX4_at 76 = .ok (.iaload, 1) := by decide +kernel
theorem dX4_at_77 : decode cX4_at 77 = .ok (.i2l, 1) := by decide +kernel
theorem dX4_at_78 : decode cX4_at 78 = .ok (.lreturn, 1) := by decide +kernel
theorem dX4_at_79 : decode cX4_at 79 = .ok (.aload_n 0, 1) := by decide +kernel
theorem dX4_at_80 : decode cX4_at 80 = .ok (.getfield 37, 3) := by decide +kernel
theorem dX4_at_83 : decode cX4_at 83 = .ok (.getfield 96, 3) := by decide +kernel
theorem dX4_at_86 : decode cX4_at 86 = .ok (.iload_n 1, 1) := by decide +kernel
theorem dX4_at_87 : decode cX4_at 87 = .ok (.baload, 1) := by decide +kernel
theorem dX4_at_88 : decode cX4_at 88 = .ok (.ifCond .eq (7), 3) := by decide +kernel
theorem dX4_at_91 : decode cX4_at 91 = .ok (.lconst 1, 1) := by decide +kernel
theorem dX4_at_92 : decode cX4_at 92 = .ok (.goto (4), 3) := by decide +kernel
theorem dX4_at_95 : decode cX4_at 95 = .ok (.lconst 0, 1) := by decide +kernel
theorem dX4_at_96 : decode cX4_at 96 = .ok (.lreturn, 1) := by decide +kernel
theorem dX4_at_97 : decode cX4_at 97 = .ok (.aload_n 0, 1) := by decide +kernel
theorem dX4_at_98 : decode cX4_at 98 = .ok (.getfield 12, 3) := by decide +kernel
theorem dX4_at_101 : decode cX4_at 101 = .ok (.getfield 132, 3) := by decide +kernel
theorem dX4_at_104 : decode cX4_at 104 = .ok (.iload_n 1, 1) := by decide +kernel
theorem dX4_at_105 : decode cX4_at 105 = .ok (.baload, 1) := by decide +kernel
theorem dX4_at_106 : decode cX4_at 106 = .ok (.ifCond .eq (7), 3) := by decide +kernel
theorem dX4_at_109 : decode cX4_at 109 = .ok (.lconst 1, 1) := by decide +kernel
theorem dX4_at_110 : decode cX4_at 110 = .ok (.goto (4), 3) := by decide +kernel
theorem dX4_at_113 : decode cX4_at 113 = .ok (.lconst 0, 1) := by decide +kernel
theorem dX4_at_114 : decode cX4_at 114 = .ok (.lreturn, 1) := by decide +kernel
theorem dX4_at_115 : decode cX4_at 115 = .ok (.aload_n 0, 1) := by decide +kernel
theorem dX4_at_116 : decode cX4_at 116 = .ok (.getfield 12, 3) := by decide +kernel
theorem dX4_at_119 : decode cX4_at 119 = .ok (.getfield 185, 3) := by decide +kernel
theorem dX4_at_122 : decode cX4_at 122 = .ok (.iload_n 1, 1) := by decide +kernel
theorem dX4_at_123 : decode cX4_at 123 = .ok (.iaload, 1) := by decide +kernel
theorem dX4_at_124 : decode cX4_at 124 = .ok (.i2l, 1) := by decide +kernel
theorem dX4_at_125 : decode cX4_at 125 = .ok (.lreturn, 1) := by decide +kernel
theorem dX4_at_126 : decode cX4_at 126 = .ok (.aload_n 0, 1) := by decide +kernel
theorem dX4_at_127 : decode cX4_at 127 = .ok (.getfield 12, 3) := by decide +kernel
theorem dX4_at_130 : decode cX4_at 130 = .ok (.getfield 188, 3) := by decide +kernel
theorem dX4_at_133 : decode cX4_at 133 = .ok (.iload_n 1, 1) := by decide +kernel
theorem dX4_at_134 : decode cX4_at 134 = .ok (.laload, 1) := by decide +kernel
theorem dX4_at_135 : decode cX4_at 135 = .ok (.lreturn, 1) := by decide +kernel
theorem dX4_at_136 : decode cX4_at 136 = .ok (.new 143, 3) := by decide +kernel
theorem dX4_at_139 : decode cX4_at 139 = .ok (.dup, 1) := by decide +kernel
theorem dX4_at_140 : decode cX4_at 140 = .ok (.ldc 191, 2) := by decide +kernel
theorem dX4_at_142 : decode cX4_at 142 = .ok (.invokespecial 147, 3) := by decide +kernel
theorem dX4_at_145 : decode cX4_at 145 = .ok (.athrow, 1) := by decide +kernel
abbrev cX4_run : ByteArray := prog_1_method_9_code
def yX4_run : MethodName := ⟨RX4, "run", "(J)I"⟩
def wsX4_run : List Cond := .code yX4_run cX4_run 10 (some .int) :: bT
theorem dX4_run_0 : decode cX4_run 0 = .ok (.lload_n 1, 1) := by decide +kernel
theorem dX4_run_1 : decode cX4_run 1 = .ok (.lconst 0, 1) := by decide +kernel
theorem dX4_run_2 : decode cX4_run 2 = .ok (.lcmp, 1) := by decide +kernel
theorem dX4_run_3 : decode cX4_run 3 = .ok (.ifCond .lt (11), 3) := by decide +kernel
theorem dX4_run_6 : decode cX4_run 6 = .ok (.lload_n 1, 1) := by decide +kernel
theorem dX4_run_7 : decode cX4_run 7 = .ok (.ldc2_w 193, 3) := by decide +kernel
theorem dX4_run_10 : decode cX4_run 10 = .ok (.lcmp, 1) := by decide +kernel
theorem dX4_run_11 : decode cX4_run 11 = .ok (.ifCond .le (13), 3) := by decide +kernel
theorem dX4_run_14 : decode cX4_run 14 = .ok (.new 75, 3) := by decide +kernel
theorem dX4_run_17 : decode cX4_run 17 = .ok (.dup, 1) := by decide +kernel
theorem dX4_run_18 : decode cX4_run 18 = .ok (.ldc 195, 2) := by decide +kernel
theorem dX4_run_20 : decode cX4_run 20 = .ok (.invokespecial 79, 3) := by decide +kernel
theorem dX4_run_23 : decode cX4_run 23 = .ok (.athrow, 1) := by decide +kernel
theorem dX4_run_24 : decode cX4_run 24 = .ok (.aload_n 0, 1) := by decide +kernel
theorem dX4_run_25 : decode cX4_run 25 = .ok (.getfield 12, 3) := by decide +kernel
theorem dX4_run_28 : decode cX4_run 28 = .ok (.getfield 197, 3) := by decide +kernel
theorem dX4_run_31 : decode cX4_run 31 = .ok (.ifCond .eq (9), 3) := by decide +kernel
theorem dX4_run_34 : decode cX4_run 34 = .ok (.lload_n 1, 1) := by decide +kernel
theorem dX4_run_35 : decode cX4_run 35 = .ok (.lconst 0, 1) := by decide +kernel
theorem dX4_run_36 : decode cX4_run 36 = .ok (.lcmp, 1) := by decide +kernel
theorem dX4_run_37 : decode cX4_run 37 = .ok (.ifCond .ne (5), 3) := by decide +kernel
theorem dX4_run_40 : decode cX4_run 40 = .ok (.iconst 0, 1) := by decide +kernel
theorem dX4_run_41 : decode cX4_run 41 = .ok (.ireturn, 1) := by decide +kernel
theorem dX4_run_42 : decode cX4_run 42 = .ok (.aload_n 0, 1) := by decide +kernel
theorem dX4_run_43 : decode cX4_run 43 = .ok (.getfield 47, 3) := by decide +kernel
theorem dX4_run_46 : decode cX4_run 46 = .ok (.lstore_n 3, 1) := by decide +kernel
theorem dX4_run_47 : decode cX4_run 47 = .ok (.aload_n 0, 1) := by decide +kernel
theorem dX4_run_48 : decode cX4_run 48 = .ok (.getfield 47, 3) := by decide +kernel
theorem dX4_run_51 : decode cX4_run 51 = .ok (.lstore 5, 2) := by decide +kernel
theorem dX4_run_53 : decode cX4_run 53 = .ok (.iconst 0, 1) := by decide +kernel
theorem dX4_run_54 : decode cX4_run 54 = .ok (.istore 7, 2) := by decide +kernel
theorem dX4_run_56 : decode cX4_run 56 = .ok (.aload_n 0, 1) := by decide +kernel
theorem dX4_run_57 : decode cX4_run 57 = .ok (.getfield 44, 3) := by decide +kernel
theorem dX4_run_60 : decode cX4_run 60 = .ok (.aload_n 0, 1) := by decide +kernel
theorem dX4_run_61 : decode cX4_run 61 = .ok (.getfield 37, 3) := by decide +kernel
theorem dX4_run_64 : decode cX4_run 64 = .ok (.invokevirtual 108, 3) := by decide +kernel
theorem dX4_run_67 : decode cX4_run 67 = .ok (.lload_n 1, 1) := by decide +kernel
theorem dX4_run_68 : decode cX4_run 68 = .ok (.lconst 1, 1) := by decide +kernel
theorem dX4_run_69 : decode cX4_run 69 = .ok (.lsub, 1) := by decide +kernel
theorem dX4_run_70 : decode cX4_run 70 = .ok (.lstore 8, 2) := by decide +kernel
theorem dX4_run_72 : decode cX4_run 72 = .ok (.lload 8, 2) := by decide +kernel
theorem dX4_run_74 : decode cX4_run 74 = .ok (.lconst 0, 1) := by decide +kernel
theorem dX4_run_75 : decode cX4_run 75 = .ok (.lcmp, 1) := by decide +kernel
theorem dX4_run_76 : decode cX4_run 76 = .ok (.ifCond .lt (59), 3) := by decide +kernel
theorem dX4_run_79 : decode cX4_run 79 = .ok (.aload_n 0, 1) := by decide +kernel
theorem dX4_run_80 : decode cX4_run 80 = .ok (.lload_n 3, 1) := by decide +kernel
theorem dX4_run_81 : decode cX4_run 81 = .ok (.lload 8, 2) := by decide +kernel
theorem dX4_run_83 : decode cX4_run 83 = .ok (.lmul, 1) := by decide +kernel
theorem dX4_run_84 : decode cX4_run 84 = .ok (.ldc2_w 200, 3) := by decide +kernel
theorem dX4_run_87 : decode cX4_run 87 = .ok (.lload_n 1, 1) := by decide +kernel
theorem dX4_run_88 : decode cX4_run 88 = .ok (.lmul, 1) := by decide +kernel
theorem dX4_run_89 : decode cX4_run 89 = .ok (.ldiv, 1) := by decide +kernel
theorem dX4_run_90 : decode cX4_run 90 = .ok (.invokevirtual 202, 3) := by decide +kernel
theorem dX4_run_93 : decode cX4_run 93 = .ok (.ifCond .eq (33), 3) := by decide +kernel
theorem dX4_run_96 : decode cX4_run 96 = .ok (.iinc 7 1, 3) := by decide +kernel
theorem dX4_run_99 : decode cX4_run 99 = .ok (.aload_n 0, 1) := by decide +kernel
theorem dX4_run_100 : decode cX4_run 100 = .ok (.getfield 47, 3) := by decide +kernel
theorem dX4_run_103 : decode cX4_run 103 = .ok (.lload 5, 2) := by decide +kernel
theorem dX4_run_105 : decode cX4_run 105 = .ok (.lcmp, 1) := by decide +kernel
theorem dX4_run_106 : decode cX4_run 106 = .ok (.ifCond .ge (20), 3) := by decide +kernel
theorem dX4_run_109 : decode cX4_run 109 = .ok (.aload_n 0, 1) := by decide +kernel
theorem dX4_run_110 : decode cX4_run 110 = .ok (.getfield 47, 3) := by decide +kernel
theorem dX4_run_113 : decode cX4_run 113 = .ok (.lstore 5, 2) := by decide +kernel
theorem dX4_run_115 : decode cX4_run 115 = .ok (.aload_n 0, 1) := by decide +kernel
theorem dX4_run_116 : decode cX4_run 116 = .ok (.getfield 44, 3) := by decide +kernel
theorem dX4_run_119 : decode cX4_run 119 = .ok (.aload_n 0, 1) := by decide +kernel
theorem dX4_run_120 : decode cX4_run 120 = .ok (.getfield 37, 3) := by decide +kernel
theorem dX4_run_123 : decode cX4_run 123 = .ok (.invokevirtual 108, 3) := by decide +kernel
theorem dX4_run_126 : decode cX4_run 126 = .ok (.lload 8, 2) := by decide +kernel
theorem dX4_run_128 : decode cX4_run 128 = .ok (.lconst 1, 1) := by decide +kernel
theorem dX4_run_129 : decode cX4_run 129 = .ok (.lsub, 1) := by decide +kernel
theorem dX4_run_130 : decode cX4_run 130 = .ok (.lstore 8, 2) := by decide +kernel
theorem dX4_run_132 : decode cX4_run 132 = .ok (.goto (-60), 3) := by decide +kernel
theorem dX4_run_135 : decode cX4_run 135 = .ok (.aload_n 0, 1) := by decide +kernel
theorem dX4_run_136 : decode cX4_run 136 = .ok (.getfield 37, 3) := by decide +kernel
theorem dX4_run_139 : decode cX4_run 139 = .ok (.aload_n 0, 1) := by decide +kernel
theorem dX4_run_140 : decode cX4_run 140 = .ok (.getfield 44, 3) := by decide +kernel
theorem dX4_run_143 : decode cX4_run 143 = .ok (.invokevirtual 108, 3) := by decide +kernel
theorem dX4_run_146 : decode cX4_run 146 = .ok (.aload_n 0, 1) := by decide +kernel
theorem dX4_run_147 : decode cX4_run 147 = .ok (.lload 5, 2) := by decide +kernel
theorem dX4_run_149 : decode cX4_run 149 = .ok (.putfield 47, 3) := by decide +kernel
theorem dX4_run_152 : decode cX4_run 152 = .ok (.iload 7, 2) := by decide +kernel
theorem dX4_run_154 : decode cX4_run 154 = .ok (.ireturn, 1) := by decide +kernel
abbrev cX4_wire : ByteArray := prog_1_method_10_code
def yX4_wire : MethodName := ⟨RX4, "wire", "()J"⟩
def wsX4_wire : List Cond := .code yX4_wire cX4_wire 1 (some .long) :: bT
theorem dX4_wire_0 : decode cX4_wire 0 = .ok (.aload_n 0, 1) := by decide +kernel
theorem dX4_wire_1 : decode cX4_wire 1 = .ok (.getfield 47, 3) := by decide +kernel
theorem dX4_wire_4 : decode cX4_wire 4 = .ok (.lreturn, 1) := by decide +kernel
abbrev cX4_full : ByteArray := prog_1_method_11_code
def yX4_full : MethodName := ⟨RX4, "full", "()J"⟩
def wsX4_full : List Cond := .code yX4_full cX4_full 1 (some .long) :: bT
theorem dX4_full_0 : decode cX4_full 0 = .ok (.aload_n 0, 1) := by decide +kernel
theorem dX4_full_1 : decode cX4_full 1 = .ok (.getfield 30, 3) := by decide +kernel
theorem dX4_full_4 : decode cX4_full 4 = .ok (.aload_n 0, 1) := by decide +kernel
theorem dX4_full_5 : decode cX4_full 5 = .ok (.getfield 37, 3) := by decide +kernel
theorem dX4_full_8 : decode cX4_full 8 = .ok (.invokevirtual 160, 3) := by decide +kernel
theorem dX4_full_11 : decode cX4_full 11 = .ok (.lreturn, 1) := by decide +kernel
abbrev cX4_near : ByteArray := prog_1_method_12_code
def yX4_near : MethodName := ⟨RX4, "near", "(IIJ)Z"⟩
def wsX4_near : List Cond := .code yX4_near cX4_near 5 (some .boolean) :: bT
theorem dX4_near_0 : decode cX4_near 0 = .ok (.aload_n 0, 1) := by decide +kernel
theorem dX4_near_1 : decode cX4_near 1 = .ok (.iload_n 1, 1) := by decide +kernel
theorem dX4_near_2 : decode cX4_near 2 = .ok (.invokevirtual 86, 3) := by decide +kernel
theorem dX4_near_5 : decode cX4_near 5 = .ok (.aload_n 0, 1) := by decide +kernel
theorem dX4_near_6 : decode cX4_near 6 = .ok (.iload_n 2, 1) := by decide +kernel
theorem dX4_near_7 : decode cX4_near 7 = .ok (.invokevirtual 86, 3) := by decide +kernel
theorem dX4_near_10 : decode cX4_near 10 = .ok (.lload_n 3, 1) := by decide +kernel
theorem dX4_near_11 : decode cX4_near 11 = .ok (.lconst 0, 1) := by decide +kernel
theorem dX4_near_12 : decode cX4_near 12 = .ok (.lcmp, 1) := by decide +kernel
theorem dX4_near_13 : decode cX4_near 13 = .ok (.ifCond .ge (13), 3) := by decide +kernel
theorem dX4_near_16 : decode cX4_near 16 = .ok (.new 75, 3) := by decide +kernel
theorem dX4_near_19 : decode cX4_near 19 = .ok (.dup, 1) := by decide +kernel
theorem dX4_near_20 : decode cX4_near 20 = .ok (.ldc 205, 2) := by decide +kernel
theorem dX4_near_22 : decode cX4_near 22 = .ok (.invokespecial 79, 3) := by decide +kernel
theorem dX4_near_25 : decode cX4_near 25 = .ok (.athrow, 1) := by decide +kernel
abbrev cX4_group : ByteArray := prog_1_method_13_code
def yX4_group : MethodName := ⟨RX4, "group", "(II)I"⟩
def wsX4_group : List Cond := .code yX4_group cX4_group 3 (some .int) :: bT
theorem dX4_group_0 : decode cX4_group 0 = .ok (.aload_n 0, 1) := by decide +kernel
theorem dX4_group_1 : decode cX4_group 1 = .ok (.iload_n 1, 1) := by decide +kernel
theorem dX4_group_2 : decode cX4_group 2 = .ok (.invokevirtual 86, 3) := by decide +kernel
theorem dX4_group_5 : decode cX4_group 5 = .ok (.aload_n 0, 1) := by decide +kernel
theorem dX4_group_6 : decode cX4_group 6 = .ok (.iload_n 2, 1) := by decide +kernel
theorem dX4_group_7 : decode cX4_group 7 = .ok (.invokevirtual 86, 3) := by decide +kernel
theorem dX4_group_10 : decode cX4_group 10 = .ok (.aload_n 0, 1) := by decide +kernel
theorem dX4_group_11 : decode cX4_group 11 = .ok (.getfield 12, 3) := by decide +kernel
theorem dX4_group_14 : decode cX4_group 14 = .ok (.iload_n 1, 1) := by decide +kernel
theorem dX4_group_15 : decode cX4_group 15 = .ok (.iload_n 2, 1) := by decide +kernel
theorem dX4_group_16 : decode cX4_group 16 = .ok (.invokevirtual 214, 3) := by decide +kernel
theorem dX4_group_19 : decode cX4_group 19 = .ok (.ireturn, 1) := by decide +kernel
abbrev cX4_height : ByteArray := prog_1_method_14_code
def yX4_height : MethodName := ⟨RX4, "height", "(IJ)Z"⟩
def wsX4_height : List Cond := .code yX4_height cX4_height 6 (some .boolean) :: bT
theorem dX4_height_0 : decode cX4_height 0 = .ok (.aload_n 0, 1) := by decide +kernel
theorem dX4_height_1 : decode cX4_height 1 = .ok (.iload_n 1, 1) := by decide +kernel
theorem dX4_height_2 : decode cX4_height 2 = .ok (.invokevirtual 86, 3) := by decide +kernel
theorem dX4_height_5 : decode cX4_height 5 = .ok (.lload_n 2, 1) := by decide +kernel
theorem dX4_height_6 : decode cX4_height 6 = .ok (.lconst 0, 1) := by decide +kernel
theorem dX4_height_7 : decode cX4_height 7 = .ok (.lcmp, 1) := by decide +kernel
theorem dX4_height_8 : decode cX4_height 8 = .ok (.ifCond .lt (11), 3) := by decide +kernel
theorem dX4_height_11 : decode cX4_height 11 = .ok (.lload_n 2, 1) := by decide +kernel
theorem dX4_height_12 : decode cX4_height 12 = .ok (.ldc2_w 51, 3) := by decide +kernel
theorem dX4_height_15 : decode cX4_height 15 = .ok (.lcmp, 1) := by decide +kernel
theorem dX4_height_16 : decode cX4_height 16 = .ok (.ifCond .le (13), 3) := by decide +kernel
theorem dX4_height_19 : decode cX4_height 19 = .ok (.new 75, 3) := by decide +kernel
theorem dX4_height_22 : decode cX4_height 22 = .ok (.dup, 1) := by decide +kernel
theorem dX4_height_23 : decode cX4_height 23 = .ok (.ldc 218, 2) := by decide +kernel
theorem dX4_height_25 : decode cX4_height 25 = .ok (.invokespecial 79, 3) := by decide +kernel
theorem dX4_height_28 : decode cX4_height 28 = .ok (.athrow, 1) := by decide +kernel
theorem dX4_height_29 : decode cX4_height 29 = .ok (.aload_n 0, 1) := by decide +kernel
theorem dX4_height_30 : decode cX4_height 30 = .ok (.getfield 12, 3) := by decide +kernel
theorem dX4_height_33 : decode cX4_height 33 = .ok (.getfield 188, 3) := by decide +kernel
theorem dX4_height_36 : decode cX4_height 36 = .ok (.iload_n 1, 1) := by decide +kernel
theorem dX4_height_37 : decode cX4_height 37 = .ok (.laload, 1) := by decide +kernel
theorem dX4_height_38 : decode cX4_height 38 = .ok (.lstore 4, 2) := by decide +kernel
theorem dX4_height_40 : decode cX4_height 40 = .ok (.aload_n 0, 1) := by decide +kernel
theorem dX4_height_41 : decode cX4_height 41 = .ok (.getfield 12, 3) := by decide +kernel
theorem dX4_height_44 : decode cX4_height 44 = .ok (.getfield 188, 3) := by decide +kernel
theorem dX4_height_47 : decode cX4_height 47 = .ok (.iload_n 1, 1) := by decide +kernel
theorem dX4_height_48 : decode cX4_height 48 = .ok (.lload_n 2, 1) := by decide +kernel
theorem dX4_height_49 : decode cX4_height 49 = .ok (.lastore, 1) := by decide +kernel
theorem dX4_height_50 : decode cX4_height 50 = .ok (.aload_n 0, 1) := by decide +kernel
theorem dX4_height_51 : decode cX4_height 51 = .ok (.iload_n 1, 1) := by decide +kernel
theorem dX4_height_52 : decode cX4_height 52 = .ok (.invokevirtual 220, 3) := by decide +kernel
theorem dX4_height_55 : decode cX4_height 55 = .ok (.ifCond .ne (16), 3) := by decide +kernel
theorem dX4_height_58 : decode cX4_height 58 = .ok (.aload_n 0, 1) := by decide +kernel
theorem dX4_height_59 : decode cX4_height 59 = .ok (.getfield 12, 3) := by decide +kernel
theorem dX4_height_62 : decode cX4_height 62 = .ok (.getfield 188, 3) := by decide +kernel
theorem dX4_height_65 : decode cX4_height 65 = .ok (.iload_n 1, 1) := by decide +kernel
theorem dX4_height_66 : decode cX4_height 66 = .ok (.lload 4, 2) := by decide +kernel
theorem dX4_height_68 : decode cX4_height 68 = .ok (.lastore, 1) := by decide +kernel
theorem dX4_height_69 : decode cX4_height 69 = .ok (.iconst 0, 1) := by decide +kernel
theorem dX4_height_70 : decode cX4_height 70 = .ok (.ireturn, 1) := by decide +kernel
theorem dX4_height_71 : decode cX4_height 71 = .ok (.iconst 1, 1) := by decide +kernel
theorem dX4_height_72 : decode cX4_height 72 = .ok (.ireturn, 1) := by decide +kernel
abbrev cX4_keepOut : ByteArray := prog_1_method_15_code
def yX4_keepOut : MethodName := ⟨RX4, "keepOut", "(JJJJJ)Z"⟩
def wsX4_keepOut : List Cond := .code yX4_keepOut cX4_keepOut 11 (some .boolean) :: bT
theorem dX4_keepOut_0 : decode cX4_keepOut 0 = .ok (.lload 9, 2) := by decide +kernel
theorem dX4_keepOut_2 : decode cX4_keepOut 2 = .ok (.lconst 0, 1) := by decide +kernel
theorem dX4_keepOut_3 : decode cX4_keepOut 3 = .ok (.lcmp, 1) := by decide +kernel
theorem dX4_keepOut_4 : decode cX4_keepOut 4 = .ok (.ifCond .ge (13), 3) := by decide +kernel
theorem dX4_keepOut_7 : decode cX4_keepOut 7 = .ok (.new 75, 3) := by decide +kernel
theorem dX4_keepOut_10 : decode cX4_keepOut 10 = .ok (.dup, 1) := by decide +kernel
theorem dX4_keepOut_11 : decode cX4_keepOut 11 = .ok (.ldc 223, 2) := by decide +kernel
theorem dX4_keepOut_13 : decode cX4_keepOut 13 = .ok (.invokespecial 79, 3) := by decide +kernel
theorem dX4_keepOut_16 : decode cX4_keepOut 16 = .ok (.athrow, 1) := by decide +kernel
abbrev cX4_side : ByteArray := prog_1_method_17_code
def yX4_side : MethodName := ⟨RX4, "side", "(I)I"⟩
def wsX4_side : List Cond := .code yX4_side cX4_side 2 (some .int) :: bT
theorem dX4_side_0 : decode cX4_side 0 = .ok (.aload_n 0, 1) := by decide +kernel
theorem dX4_side_1 : decode cX4_side 1 = .ok (.iload_n 1, 1) := by decide +kernel
theorem dX4_side_2 : decode cX4_side 2 = .ok (.invokevirtual 86, 3) := by decide +kernel
theorem dX4_side_5 : decode cX4_side 5 = .ok (.aload_n 0, 1) := by decide +kernel
theorem dX4_side_6 : decode cX4_side 6 = .ok (.getfield 12, 3) := by decide +kernel
theorem dX4_side_9 : decode cX4_side 9 = .ok (.getfield 235, 3) := by decide +kernel
theorem dX4_side_12 : decode cX4_side 12 = .ok (.iload_n 1, 1) := by decide +kernel
theorem dX4_side_13 : decode cX4_side 13 = .ok (.iaload, 1) := by decide +kernel
theorem dX4_side_14 : decode cX4_side 14 = .ok (.ireturn, 1) := by decide +kernel
abbrev cX4_needPart : ByteArray := prog_1_method_19_code
def yX4_needPart : MethodName := ⟨RX4, "needPart", "(I)V"⟩
def wsX4_needPart : List Cond := .code yX4_needPart cX4_needPart 2 none :: bT
theorem dX4_needPart_0 : decode cX4_needPart 0 = .ok (.iload_n 1, 1) := by decide +kernel
theorem dX4_needPart_1 : decode cX4_needPart 1 = .ok (.ifCond .lt (14), 3) := by decide +kernel
theorem dX4_needPart_4 : decode cX4_needPart 4 = .ok (.iload_n 1, 1) := by decide +kernel
theorem dX4_needPart_5 : decode cX4_needPart 5 = .ok (.aload_n 0, 1) := by decide +kernel
theorem dX4_needPart_6 : decode cX4_needPart 6 = .ok (.getfield 12, 3) := by decide +kernel
theorem dX4_needPart_9 : decode cX4_needPart 9 = .ok (.getfield 197, 3) := by decide +kernel
theorem dX4_needPart_12 : decode cX4_needPart 12 = .ok (.if_icmp .lt (13), 3) := by decide +kernel
theorem dX4_needPart_15 : decode cX4_needPart 15 = .ok (.new 143, 3) := by decide +kernel
theorem dX4_needPart_18 : decode cX4_needPart 18 = .ok (.dup, 1) := by decide +kernel
theorem dX4_needPart_19 : decode cX4_needPart 19 = .ok (.ldc 238, 2) := by decide +kernel
theorem dX4_needPart_21 : decode cX4_needPart 21 = .ok (.invokespecial 147, 3) := by decide +kernel
theorem dX4_needPart_24 : decode cX4_needPart 24 = .ok (.athrow, 1) := by decide +kernel
theorem dX4_needPart_25 : decode cX4_needPart 25 = .ok (.return_, 1) := by decide +kernel
abbrev cX5_isSize : ByteArray := prog_7_method_3_code
def yX5_isSize : MethodName := ⟨RX5, "isSize", "(J)Z"⟩
def wsX5_isSize : List Cond := .code yX5_isSize cX5_isSize 2 (some .boolean) :: bT
theorem dX5_isSize_0 : decode cX5_isSize 0 = .ok (.lload_n 0, 1) := by decide +kernel
theorem dX5_isSize_1 : decode cX5_isSize 1 = .ok (.lconst 1, 1) := by decide +kernel
theorem dX5_isSize_2 : decode cX5_isSize 2 = .ok (.lcmp, 1) := by decide +kernel
theorem dX5_isSize_3 : decode cX5_isSize 3 = .ok (.ifCond .lt (15), 3) := by decide +kernel
theorem dX5_isSize_6 : decode cX5_isSize 6 = .ok (.lload_n 0, 1) := by decide +kernel
theorem dX5_isSize_7 : decode cX5_isSize 7 = .ok (.ldc2_w 69, 3) := by decide +kernel
theorem dX5_isSize_10 : decode cX5_isSize 10 = .ok (.lcmp, 1) := by decide +kernel
theorem dX5_isSize_11 : decode cX5_isSize 11 = .ok (.ifCond .gt (7), 3) := by decide +kernel
theorem dX5_isSize_14 : decode cX5_isSize 14 = .ok (.iconst 1, 1) := by decide +kernel
theorem dX5_isSize_15 : decode cX5_isSize 15 = .ok (.goto (4), 3) := by decide +kernel
theorem dX5_isSize_18 : decode cX5_isSize 18 = .ok (.iconst 0, 1) := by decide +kernel
theorem dX5_isSize_19 : decode cX5_isSize 19 = .ok (.ireturn, 1) := by decide +kernel
abbrev cX5_isPart : ByteArray := prog_7_method_4_code
def yX5_isPart : MethodName := ⟨RX5, "isPart", "(I)Z"⟩
def wsX5_isPart : List Cond := .code yX5_isPart cX5_isPart 2 (some .boolean) :: bT
theorem dX5_isPart_0 : decode cX5_isPart 0 = .ok (.iload_n 1, 1) := by decide +kernel
theorem dX5_isPart_1 : decode cX5_isPart 1 = .ok (.ifCond .lt (15), 3) := by decide +kernel
theorem dX5_isPart_4 : decode cX5_isPart 4 = .ok (.iload_n 1, 1) := by decide +kernel
theorem dX5_isPart_5 : decode cX5_isPart 5 = .ok (.aload_n 0, 1) := by decide +kernel
theorem dX5_isPart_6 : decode cX5_isPart 6 = .ok (.getfield 85, 3) := by decide +kernel
theorem dX5_isPart_9 : decode cX5_isPart 9 = .ok (.if_icmp .ge (7), 3) := by decide +kernel
theorem dX5_isPart_12 : decode cX5_isPart 12 = .ok (.iconst 1, 1) := by decide +kernel
theorem dX5_isPart_13 : decode cX5_isPart 13 = .ok (.goto (4), 3) := by decide +kernel
theorem dX5_isPart_16 : decode cX5_isPart 16 = .ok (.iconst 0, 1) := by decide +kernel
theorem dX5_isPart_17 : decode cX5_isPart 17 = .ok (.ireturn, 1) := by decide +kernel
abbrev cX5_part : ByteArray := prog_7_method_5_code
def yX5_part : MethodName := ⟨RX5, "part", "(JJI)I"⟩
def wsX5_part : List Cond := .code yX5_part cX5_part 6 (some .int) :: bT
theorem dX5_part_0 : decode cX5_part 0 = .ok (.aload_n 0, 1) := by decide +kernel
theorem dX5_part_1 : decode cX5_part 1 = .ok (.lload_n 1, 1) := by decide +kernel
theorem dX5_part_2 : decode cX5_part 2 = .ok (.invokestatic 88, 3) := by decide +kernel
theorem dX5_part_5 : decode cX5_part 5 = .ok (.ifCond .eq (25), 3) := by decide +kernel
theorem dX5_part_8 : decode cX5_part 8 = .ok (.lload_n 3, 1) := by decide +kernel
theorem dX5_part_9 : decode cX5_part 9 = .ok (.invokestatic 88, 3) := by decide +kernel
theorem dX5_part_12 : decode cX5_part 12 = .ok (.ifCond .eq (18), 3) := by decide +kernel
theorem dX5_part_15 : decode cX5_part 15 = .ok (.iload 5, 2) := by decide +kernel
theorem dX5_part_17 : decode cX5_part 17 = .ok (.ifCond .eq (9), 3) := by decide +kernel
theorem dX5_part_20 : decode cX5_part 20 = .ok (.iload 5, 2) := by decide +kernel
theorem dX5_part_22 : decode cX5_part 22 = .ok (.iconst 1, 1) := by decide +kernel
theorem dX5_part_23 : decode cX5_part 23 = .ok (.if_icmp .ne (7), 3) := by decide +kernel
theorem dX5_part_26 : decode cX5_part 26 = .ok (.iconst 0, 1) := by decide +kernel
theorem dX5_part_27 : decode cX5_part 27 = .ok (.goto (4), 3) := by decide +kernel
theorem dX5_part_30 : decode cX5_part 30 = .ok (.iconst 1, 1) := by decide +kernel
theorem dX5_part_31 : decode cX5_part 31 = .ok (.putfield 81, 3) := by decide +kernel
theorem dX5_part_34 : decode cX5_part 34 = .ok (.aload_n 0, 1) := by decide +kernel
theorem dX5_part_35 : decode cX5_part 35 = .ok (.getfield 81, 3) := by decide +kernel
theorem dX5_part_38 : decode cX5_part 38 = .ok (.ifCond .eq (5), 3) := by decide +kernel
theorem dX5_part_41 : decode cX5_part 41 = .ok (.iconst 0, 1) := by decide +kernel
theorem dX5_part_42 : decode cX5_part 42 = .ok (.ireturn, 1) := by decide +kernel
theorem dX5_part_43 : decode cX5_part 43 = .ok (.aload_n 0, 1) := by decide +kernel
theorem dX5_part_44 : decode cX5_part 44 = .ok (.getfield 85, 3) := by decide +kernel
theorem dX5_part_47 : decode cX5_part 47 = .ok (.bipush 40, 2) := by decide +kernel
theorem dX5_part_49 : decode cX5_part 49 = .ok (.if_icmp .ne (5), 3) := by decide +kernel
theorem dX5_part_52 : decode cX5_part 52 = .ok (.iconst (-1), 1) := by decide +kernel
theorem dX5_part_53 : decode cX5_part 53 = .ok (.ireturn, 1) := by decide +kernel
theorem dX5_part_54 : decode cX5_part 54 = .ok (.aload_n 0, 1) := by decide +kernel
theorem dX5_part_55 : decode cX5_part 55 = .ok (.getfield 7, 3) := by decide +kernel
theorem dX5_part_58 : decode cX5_part 58 = .ok (.aload_n 0, 1) := by decide +kernel
theorem dX5_part_59 : decode cX5_part 59 = .ok (.getfield 85, 3) := by decide +kernel
theorem dX5_part_62 : decode cX5_part 62 = .ok (.lload_n 1, 1) := by decide +kernel
theorem dX5_part_63 : decode cX5_part 63 = .ok (.lastore, 1) := by decide +kernel
theorem dX5_part_64 : decode cX5_part 64 = .ok (.aload_n 0, 1) := by decide +kernel
theorem dX5_part_65 : decode cX5_part 65 = .ok (.getfield 13, 3) := by decide +kernel
theorem dX5_part_68 : decode cX5_part 68 = .ok (.aload_n 0, 1) := by decide +kernel
theorem dX5_part_69 : decode cX5_part 69 = .ok (.getfield 85, 3) := by decide +kernel
theorem dX5_part_72 : decode cX5_part 72 = .ok (.lload_n 3, 1) := by decide +kernel
theorem dX5_part_73 : decode cX5_part 73 = .ok (.lastore, 1) := by decide +kernel
theorem dX5_part_74 : decode cX5_part 74 = .ok (.aload_n 0, 1) := by decide +kernel
theorem dX5_part_75 : decode cX5_part 75 = .ok (.getfield 16, 3) := by decide +kernel
theorem dX5_part_78 : decode cX5_part 78 = .ok (.aload_n 0, 1) := by decide +kernel
theorem dX5_part_79 : decode cX5_part 79 = .ok (.getfield 85, 3) := by decide +kernel
theorem dX5_part_82 : decode cX5_part 82 = .ok (.iload 5, 2) := by decide +kernel
theorem dX5_part_84 : decode cX5_part 84 = .ok (.iastore, 1) := by decide +kernel
theorem dX5_part_85 : decode cX5_part 85 = .ok (.aload_n 0, 1) := by decide +kernel
theorem dX5_part_86 : decode cX5_part 86 = .ok (.getfield 27, 3) := by decide +kernel
theorem dX5_part_89 : decode cX5_part 89 = .ok (.aload_n 0, 1) := by decide +kernel
theorem dX5_part_90 : decode cX5_part 90 = .ok (.getfield 85, 3) := by decide +kernel
theorem dX5_part_93 : decode cX5_part 93 = .ok (.aload_n 0, 1) := by decide +kernel
theorem dX5_part_94 : decode cX5_part 94 = .ok (.getfield 85, 3) := by decide +kernel
theorem dX5_part_97 : decode cX5_part 97 = .ok (.iastore, 1) := by decide +kernel
theorem dX5_part_98 : decode cX5_part 98 = .ok (.aload_n 0, 1) := by decide +kernel
theorem dX5_part_99 : decode cX5_part 99 = .ok (.dup, 1) := by decide +kernel
theorem dX5_part_100 : decode cX5_part 100 = .ok (.getfield 85, 3) := by decide +kernel
theorem dX5_part_103 : decode cX5_part 103 = .ok (.iconst 1, 1) := by decide +kernel
theorem dX5_part_104 : decode cX5_part 104 = .ok (.iadd, 1) := by decide +kernel
theorem dX5_part_105 : decode cX5_part 105 = .ok (.putfield 85, 3) := by decide +kernel
theorem dX5_part_108 : decode cX5_part 108 = .ok (.aload_n 0, 1) := by decide +kernel
theorem dX5_part_109 : decode cX5_part 109 = .ok (.getfield 85, 3) := by decide +kernel
theorem dX5_part_112 : decode cX5_part 112 = .ok (.iconst 1, 1) := by decide +kernel
theorem dX5_part_113 : decode cX5_part 113 = .ok (.isub, 1) := by decide +kernel
theorem dX5_part_114 : decode cX5_part 114 = .ok (.ireturn, 1) := by decide +kernel
abbrev cX5_put : ByteArray := prog_7_method_23_code
def yX5_put : MethodName := ⟨RX5, "put", "(IJJI)Z"⟩
def wsX5_put : List Cond := .code yX5_put cX5_put 8 (some .boolean) :: bT
theorem dX5_put_0 : decode cX5_put 0 = .ok (.aload_n 0, 1) := by decide +kernel
theorem dX5_put_1 : decode cX5_put 1 = .ok (.aload_n 0, 1) := by decide +kernel
theorem dX5_put_2 : decode cX5_put 2 = .ok (.iload_n 1, 1) := by decide +kernel
theorem dX5_put_3 : decode cX5_put 3 = .ok (.invokevirtual 139, 3) := by decide +kernel
theorem dX5_put_6 : decode cX5_put 6 = .ok (.ifCond .ne (7), 3) := by decide +kernel
theorem dX5_put_9 : decode cX5_put 9 = .ok (.iconst 1, 1) := by decide +kernel
theorem dX5_put_10 : decode cX5_put 10 = .ok (.goto (19), 3) := by decide +kernel
theorem dX5_put_13 : decode cX5_put 13 = .ok (.iload 6, 2) := by decide +kernel
theorem dX5_put_15 : decode cX5_put 15 = .ok (.ifCond .lt (9), 3) := by decide +kernel
theorem dX5_put_18 : decode cX5_put 18 = .ok (.iload 6, 2) := by decide +kernel
theorem dX5_put_20 : decode cX5_put 20 = .ok (.iconst 3, 1) := by decide +kernel
theorem dX5_put_21 : decode cX5_put 21 = .ok (.if_icmp .le (7), 3) := by decide +kernel
theorem dX5_put_24 : decode cX5_put 24 = .ok (.iconst 2, 1) := by decide +kernel
theorem dX5_put_25 : decode cX5_put 25 = .ok (.goto (4), 3) := by decide +kernel
theorem dX5_put_28 : decode cX5_put 28 = .ok (.iconst 0, 1) := by decide +kernel
theorem dX5_put_29 : decode cX5_put 29 = .ok (.putfield 81, 3) := by decide +kernel
theorem dX5_put_32 : decode cX5_put 32 = .ok (.aload_n 0, 1) := by decide +kernel
theorem dX5_put_33 : decode cX5_put 33 = .ok (.getfield 81, 3) := by decide +kernel
theorem dX5_put_36 : decode cX5_put 36 = .ok (.ifCond .eq (5), 3) := by decide +kernel
theorem dX5_put_39 : decode cX5_put 39 = .ok (.iconst 0, 1) := by decide +kernel
theorem dX5_put_40 : decode cX5_put 40 = .ok (.ireturn, 1) := by decide +kernel
theorem dX5_put_41 : decode cX5_put 41 = .ok (.aload_n 0, 1) := by decide +kernel
theorem dX5_put_42 : decode cX5_put 42 = .ok (.invokevirtual 143, 3) := by decide +kernel
theorem dX5_put_45 : decode cX5_put 45 = .ok (.aload_n 0, 1) := by decide +kernel
theorem dX5_put_46 : decode cX5_put 46 = .ok (.getfield 30, 3) := by decide +kernel
theorem dX5_put_49 : decode cX5_put 49 = .ok (.iload_n 1, 1) := by decide +kernel
theorem dX5_put_50 : decode cX5_put 50 = .ok (.baload, 1) := by decide +kernel
theorem dX5_put_51 : decode cX5_put 51 = .ok (.istore 7, 2) := by decide +kernel
theorem dX5_put_53 : decode cX5_put 53 = .ok (.iload 7, 2) := by decide +kernel
theorem dX5_put_55 : decode cX5_put 55 = .ok (.ifCond .eq (49), 3) := by decide +kernel
theorem dX5_put_58 : decode cX5_put 58 = .ok (.iload 6, 2) := by decide +kernel
theorem dX5_put_60 : decode cX5_put 60 = .ok (.aload_n 0, 1) := by decide +kernel
theorem dX5_put_61 : decode cX5_put 61 = .ok (.getfield 39, 3) := by decide +kernel
theorem dX5_put_64 : decode cX5_put 64 = .ok (.iload_n 1, 1) := by decide +kernel
theorem dX5_put_65 : decode cX5_put 65 = .ok (.iaload, 1) := by decide +kernel
theorem dX5_put_66 : decode cX5_put 66 = .ok (.if_icmp .eq (13), 3) := by decide +kernel
theorem dX5_put_69 : decode cX5_put 69 = .ok (.aload_n 0, 1) := by decide +kernel
theorem dX5_put_70 : decode cX5_put 70 = .ok (.iload_n 1, 1) := by decide +kernel
theorem dX5_put_71 : decode cX5_put 71 = .ok (.invokevirtual 146, 3) := by decide +kernel
theorem dX5_put_74 : decode cX5_put 74 = .ok (.ifCond .eq (5), 3) := by decide +kernel
theorem dX5_put_77 : decode cX5_put 77 = .ok (.iconst 0, 1) := by decide +kernel
theorem dX5_put_78 : decode cX5_put 78 = .ok (.ireturn, 1) := by decide +kernel
theorem dX5_put_79 : decode cX5_put 79 = .ok (.aload_n 0, 1) := by decide +kernel
theorem dX5_put_80 : decode cX5_put 80 = .ok (.iload_n 1, 1) := by decide +kernel
theorem dX5_put_81 : decode cX5_put 81 = .ok (.lload_n 2, 1) := by decide +kernel
theorem dX5_put_82 : decode cX5_put 82 = .ok (.aload_n 0, 1) := by decide +kernel
theorem dX5_put_83 : decode cX5_put 83 = .ok (.iconst 0, 1) := by decide +kernel
theorem dX5_put_84 : decode cX5_put 84 = .ok (.iload_n 1, 1) := by decide +kernel
theorem dX5_put_85 : decode cX5_put 85 = .ok (.invokevirtual 92, 3) := by decide +kernel
theorem dX5_put_88 : decode cX5_put 88 = .ok (.lsub, 1) := by decide +kernel
theorem dX5_put_89 : decode cX5_put 89 = .ok (.lload 4, 2) := by decide +kernel
theorem dX5_put_91 : decode cX5_put 91 = .ok (.aload_n 0, 1) := by decide +kernel
theorem dX5_put_92 : decode cX5_put 92 = .ok (.iconst 0, 1) := by decide +kernel
theorem dX5_put_93 : decode cX5_put 93 = .ok (.iload_n 1, 1) := by decide +kernel
theorem dX5_put_94 : decode cX5_put 94 = .ok (.invokevirtual 100, 3) := by decide +kernel
theorem dX5_put_97 : decode cX5_put 97 = .ok (.lsub, 1) := by decide +kernel
theorem dX5_put_98 : decode cX5_put 98 = .ok (.invokevirtual 149, 3) := by decide +kernel
theorem dX5_put_101 : decode cX5_put 101 = .ok (.goto (24), 3) := by decide +kernel
theorem dX5_put_104 : decode cX5_put 104 = .ok (.aload_n 0, 1) := by decide +kernel
theorem dX5_put_105 : decode cX5_put 105 = .ok (.getfield 33, 3) := by decide +kernel
theorem dX5_put_108 : decode cX5_put 108 = .ok (.bipush 40, 2) := by decide +kernel
theorem dX5_put_110 : decode cX5_put 110 = .ok (.iload_n 1, 1) := by decide +kernel
theorem dX5_put_111 : decode cX5_put 111 = .ok (.iadd, 1) := by decide +kernel
theorem dX5_put_112 : decode cX5_put 112 = .ok (.lload_n 2, 1) := by decide +kernel
theorem dX5_put_113 : decode cX5_put 113 = .ok (.lastore, 1) := by decide +kernel
theorem dX5_put_114 : decode cX5_put 114 = .ok (.aload_n 0, 1) := by decide +kernel
theorem dX5_put_115 : decode cX5_put 115 = .ok (.getfield 36, 3) := by decide +kernel
theorem dX5_put_118 : decode cX5_put 118 = .ok (.bipush 40, 2) := by decide +kernel
theorem dX5_put_120 : decode cX5_put 120 = .ok (.iload_n 1, 1) := by decide +kernel
theorem dX5_put_121 : decode cX5_put 121 = .ok (.iadd, 1) := by decide +kernel
theorem dX5_put_122 : decode cX5_put 122 = .ok (.lload 4, 2) := by decide +kernel
theorem dX5_put_124 : decode cX5_put 124 = .ok (.lastore, 1) := by decide +kernel
theorem dX5_put_125 : decode cX5_put 125 = .ok (.aload_n 0, 1) := by decide +kernel
theorem dX5_put_126 : decode cX5_put 126 = .ok (.getfield 39, 3) := by decide +kernel
theorem dX5_put_129 : decode cX5_put 129 = .ok (.bipush 40, 2) := by decide +kernel
theorem dX5_put_131 : decode cX5_put 131 = .ok (.iload_n 1, 1) := by decide +kernel
theorem dX5_put_132 : decode cX5_put 132 = .ok (.iadd, 1) := by decide +kernel
theorem dX5_put_133 : decode cX5_put 133 = .ok (.iload 6, 2) := by decide +kernel
theorem dX5_put_135 : decode cX5_put 135 = .ok (.iastore, 1) := by decide +kernel
theorem dX5_put_136 : decode cX5_put 136 = .ok (.iload 7, 2) := by decide +kernel
theorem dX5_put_138 : decode cX5_put 138 = .ok (.ifCond .eq (12), 3) := by decide +kernel
theorem dX5_put_141 : decode cX5_put 141 = .ok (.aload_n 0, 1) := by decide +kernel
theorem dX5_put_142 : decode cX5_put 142 = .ok (.invokevirtual 153, 3) := by decide +kernel
theorem dX5_put_145 : decode cX5_put 145 = .ok (.ifCond .eq (5), 3) := by decide +kernel
theorem dX5_put_148 : decode cX5_put 148 = .ok (.iconst 0, 1) := by decide +kernel
theorem dX5_put_149 : decode cX5_put 149 = .ok (.ireturn, 1) := by decide +kernel
theorem dX5_put_150 : decode cX5_put 150 = .ok (.aload_n 0, 1) := by decide +kernel
theorem dX5_put_151 : decode cX5_put 151 = .ok (.getfield 30, 3) := by decide +kernel
theorem dX5_put_154 : decode cX5_put 154 = .ok (.iload_n 1, 1) := by decide +kernel
theorem dX5_put_155 : decode cX5_put 155 = .ok (.iconst 1, 1) := by decide +kernel
theorem dX5_put_156 : decode cX5_put 156 = .ok (.bastore, 1) := by decide +kernel
theorem dX5_put_157 : decode cX5_put 157 = .ok (.aload_n 0, 1) := by decide +kernel
theorem dX5_put_158 : decode cX5_put 158 = .ok (.iconst 1, 1) := by decide +kernel
theorem dX5_put_159 : decode cX5_put 159 = .ok (.invokevirtual 157, 3) := by decide +kernel
theorem dX5_put_162 : decode cX5_put 162 = .ok (.ifCond .ne (13), 3) := by decide +kernel
theorem dX5_put_165 : decode cX5_put 165 = .ok (.aload_n 0, 1) := by decide +kernel
theorem dX5_put_166 : decode cX5_put 166 = .ok (.getfield 30, 3) := by decide +kernel
theorem dX5_put_169 : decode cX5_put 169 = .ok (.iload_n 1, 1) := by decide +kernel
theorem dX5_put_170 : decode cX5_put 170 = .ok (.iload 7, 2) := by decide +kernel
theorem dX5_put_172 : decode cX5_put 172 = .ok (.bastore, 1) := by decide +kernel
theorem dX5_put_173 : decode cX5_put 173 = .ok (.iconst 0, 1) := by decide +kernel
theorem dX5_put_174 : decode cX5_put 174 = .ok (.ireturn, 1) := by decide +kernel
theorem dX5_put_175 : decode cX5_put 175 = .ok (.aload_n 0, 1) := by decide +kernel
theorem dX5_put_176 : decode cX5_put 176 = .ok (.iconst 0, 1) := by decide +kernel
theorem dX5_put_177 : decode cX5_put 177 = .ok (.iconst 1, 1) := by decide +kernel
theorem dX5_put_178 : decode cX5_put 178 = .ok (.invokevirtual 132, 3) := by decide +kernel
theorem dX5_put_181 : decode cX5_put 181 = .ok (.iconst 1, 1) := by decide +kernel
theorem dX5_put_182 : decode cX5_put 182 = .ok (.ireturn, 1) := by decide +kernel
abbrev cX5_lock : ByteArray := prog_7_method_24_code
def yX5_lock : MethodName := ⟨RX5, "lock", "(IZ)Z"⟩
def wsX5_lock : List Cond := .code yX5_lock cX5_lock 4 (some .boolean) :: bT
theorem dX5_lock_0 : decode cX5_lock 0 = .ok (.aload_n 0, 1) := by decide +kernel
theorem dX5_lock_1 : decode cX5_lock 1 = .ok (.aload_n 0, 1) := by decide +kernel
theorem dX5_lock_2 : decode cX5_lock 2 = .ok (.iload_n 1, 1) := by decide +kernel
theorem dX5_lock_3 : decode cX5_lock 3 = .ok (.invokevirtual 139, 3) := by decide +kernel
theorem dX5_lock_6 : decode cX5_lock 6 = .ok (.ifCond .eq (7), 3) := by decide +kernel
theorem dX5_lock_9 : decode cX5_lock 9 = .ok (.iconst 0, 1) := by decide +kernel
theorem dX5_lock_10 : decode cX5_lock 10 = .ok (.goto (4), 3) := by decide +kernel
theorem dX5_lock_13 : decode cX5_lock 13 = .ok (.iconst 1, 1) := by decide +kernel
theorem dX5_lock_14 : decode cX5_lock 14 = .ok (.putfield 81, 3) := by decide +kernel
theorem dX5_lock_17 : decode cX5_lock 17 = .ok (.aload_n 0, 1) := by decide +kernel
theorem dX5_lock_18 : decode cX5_lock 18 = .ok (.getfield 81, 3) := by decide +kernel
theorem dX5_lock_21 : decode cX5_lock 21 = .ok (.ifCond .eq (5), 3) := by decide +kernel
theorem dX5_lock_24 : decode cX5_lock 24 = .ok (.iconst 0, 1) := by decide +kernel
theorem dX5_lock_25 : decode cX5_lock 25 = .ok (.ireturn, 1) := by decide +kernel
theorem dX5_lock_26 : decode cX5_lock 26 = .ok (.aload_n 0, 1) := by decide +kernel
theorem dX5_lock_27 : decode cX5_lock 27 = .ok (.getfield 23, 3) := by decide +kernel
theorem dX5_lock_30 : decode cX5_lock 30 = .ok (.iload_n 1, 1) := by decide +kernel
theorem dX5_lock_31 : decode cX5_lock 31 = .ok (.baload, 1) := by decide +kernel
theorem dX5_lock_32 : decode cX5_lock 32 = .ok (.iload_n 2, 1) := by decide +kernel
theorem dX5_lock_33 : decode cX5_lock 33 = .ok (.if_icmp .eq (7), 3) := by decide +kernel
theorem dX5_lock_36 : decode cX5_lock 36 = .ok (.iconst 1, 1) := by decide +kernel
theorem dX5_lock_37 : decode cX5_lock 37 = .ok (.goto (4), 3) := by decide +kernel
theorem dX5_lock_40 : decode cX5_lock 40 = .ok (.iconst 0, 1) := by decide +kernel
theorem dX5_lock_41 : decode cX5_lock 41 = .ok (.istore_n 3, 1) := by decide +kernel
theorem dX5_lock_42 : decode cX5_lock 42 = .ok (.aload_n 0, 1) := by decide +kernel
theorem dX5_lock_43 : decode cX5_lock 43 = .ok (.getfield 23, 3) := by decide +kernel
theorem dX5_lock_46 : decode cX5_lock 46 = .ok (.iload_n 1, 1) := by decide +kernel
theorem dX5_lock_47 : decode cX5_lock 47 = .ok (.iload_n 2, 1) := by decide +kernel
theorem dX5_lock_48 : decode cX5_lock 48 = .ok (.bastore, 1) := by decide +kernel
theorem dX5_lock_49 : decode cX5_lock 49 = .ok (.iload_n 3, 1) := by decide +kernel
theorem dX5_lock_50 : decode cX5_lock 50 = .ok (.ireturn, 1) := by decide +kernel
abbrev cX5_pin : ByteArray := prog_7_method_26_code
def yX5_pin : MethodName := ⟨RX5, "pin", "(IIJJ)Z"⟩
def wsX5_pin : List Cond := .code yX5_pin cX5_pin 9 (some .boolean) :: bT
theorem dX5_pin_0 : decode cX5_pin 0 = .ok (.iload_n 1, 1) := by decide +kernel
theorem dX5_pin_1 : decode cX5_pin 1 = .ok (.ifCond .lt (23), 3) := by decide +kernel
theorem dX5_pin_4 : decode cX5_pin 4 = .ok (.iload_n 1, 1) := by decide +kernel
theorem dX5_pin_5 : decode cX5_pin 5 = .ok (.aload_n 0, 1) := by decide +kernel
theorem dX5_pin_6 : decode cX5_pin 6 = .ok (.getfield 160, 3) := by decide +kernel
theorem dX5_pin_9 : decode cX5_pin 9 = .ok (.if_icmp .ge (15), 3) := by decide +kernel
theorem dX5_pin_12 : decode cX5_pin 12 = .ok (.aload_n 0, 1) := by decide +kernel
theorem dX5_pin_13 : decode cX5_pin 13 = .ok (.iload_n 2, 1) := by decide +kernel
theorem dX5_pin_14 : decode cX5_pin 14 = .ok (.invokevirtual 139, 3) := by decide +kernel
theorem dX5_pin_17 : decode cX5_pin 17 = .ok (.ifCond .eq (7), 3) := by decide +kernel
theorem dX5_pin_20 : decode cX5_pin 20 = .ok (.iconst 1, 1) := by decide +kernel
theorem dX5_pin_21 : decode cX5_pin 21 = .ok (.goto (4), 3) := by decide +kernel
theorem dX5_pin_24 : decode cX5_pin 24 = .ok (.iconst 0, 1) := by decide +kernel
theorem dX5_pin_25 : decode cX5_pin 25 = .ok (.istore 7, 2) := by decide +kernel
theorem dX5_pin_27 : decode cX5_pin 27 = .ok (.iload 7, 2) := by decide +kernel
theorem dX5_pin_29 : decode cX5_pin 29 = .ok (.ifCond .eq (43), 3) := by decide +kernel
theorem dX5_pin_32 : decode cX5_pin 32 = .ok (.lload_n 3, 1) := by decide +kernel
theorem dX5_pin_33 : decode cX5_pin 33 = .ok (.lconst 0, 1) := by decide +kernel
theorem dX5_pin_34 : decode cX5_pin 34 = .ok (.lcmp, 1) := by decide +kernel
theorem dX5_pin_35 : decode cX5_pin 35 = .ok (.ifCond .lt (37), 3) := by decide +kernel
theorem dX5_pin_38 : decode cX5_pin 38 = .ok (.lload_n 3, 1) := by decide +kernel
theorem dX5_pin_39 : decode cX5_pin 39 = .ok (.aload_n 0, 1) := by decide +kernel
theorem dX5_pin_40 : decode cX5_pin 40 = .ok (.getfield 7, 3) := by decide +kernel
theorem dX5_pin_43 : decode cX5_pin 43 = .ok (.iload_n 2, 1) := by decide +kernel
theorem dX5_pin_44 : decode cX5_pin 44 = .ok (.laload, 1) := by decide +kernel
theorem dX5_pin_45 : decode cX5_pin 45 = .ok (.lcmp, 1) := by decide +kernel
theorem dX5_pin_46 : decode cX5_pin 46 = .ok (.ifCond .gt (26), 3) := by decide +kernel
theorem dX5_pin_49 : decode cX5_pin 49 = .ok (.lload 5, 2) := by decide +kernel
theorem dX5_pin_51 : decode cX5_pin 51 = .ok (.lconst 0, 1) := by decide +kernel
theorem dX5_pin_52 : decode cX5_pin 52 = .ok (.lcmp, 1) := by decide +kernel
theorem dX5_pin_53 : decode cX5_pin 53 = .ok (.ifCond .lt (19), 3) := by decide +kernel
theorem dX5_pin_56 : decode cX5_pin 56 = .ok (.lload 5, 2) := by decide +kernel
theorem dX5_pin_58 : decode cX5_pin 58 = .ok (.aload_n 0, 1) := by decide +kernel
theorem dX5_pin_59 : decode cX5_pin 59 = .ok (.getfield 13, 3) := by decide +kernel
theorem dX5_pin_62 : decode cX5_pin 62 = .ok (.iload_n 2, 1) := by decide +kernel
theorem dX5_pin_63 : decode cX5_pin 63 = .ok (.laload, 1) := by decide +kernel
theorem dX5_pin_64 : decode cX5_pin 64 = .ok (.lcmp, 1) := by decide +kernel
theorem dX5_pin_65 : decode cX5_pin 65 = .ok (.ifCond .gt (7), 3) := by decide +kernel
theorem dX5_pin_68 : decode cX5_pin 68 = .ok (.iconst 1, 1) := by decide +kernel
theorem dX5_pin_69 : decode cX5_pin 69 = .ok (.goto (4), 3) := by decide +kernel
theorem dX5_pin_72 : decode cX5_pin 72 = .ok (.iconst 0, 1) := by decide +kernel
theorem dX5_pin_73 : decode cX5_pin 73 = .ok (.istore 8, 2) := by decide +kernel
theorem dX5_pin_75 : decode cX5_pin 75 = .ok (.aload_n 0, 1) := by decide +kernel
theorem dX5_pin_76 : decode cX5_pin 76 = .ok (.iload 7, 2) := by decide +kernel
theorem dX5_pin_78 : decode cX5_pin 78 = .ok (.ifCond .ne (7), 3) := by decide +kernel
theorem dX5_pin_81 : decode cX5_pin 81 = .ok (.iconst 1, 1) := by decide +kernel
theorem dX5_pin_82 : decode cX5_pin 82 = .ok (.goto (13), 3) := by decide +kernel
theorem dX5_pin_85 : decode cX5_pin 85 = .ok (.iload 8, 2) := by decide +kernel
theorem dX5_pin_87 : decode cX5_pin 87 = .ok (.ifCond .eq (7), 3) := by decide +kernel
theorem dX5_pin_90 : decode cX5_pin 90 = .ok (.iconst 0, 1) := by decide +kernel
theorem dX5_pin_91 : decode cX5_pin 91 = .ok (.goto (4), 3) := by decide +kernel
theorem dX5_pin_94 : decode cX5_pin 94 = .ok (.iconst 2, 1) := by decide +kernel
theorem dX5_pin_95 : decode cX5_pin 95 = .ok (.putfield 81, 3) := by decide +kernel
theorem dX5_pin_98 : decode cX5_pin 98 = .ok (.aload_n 0, 1) := by decide +kernel
theorem dX5_pin_99 : decode cX5_pin 99 = .ok (.getfield 81, 3) := by decide +kernel
theorem dX5_pin_102 : decode cX5_pin 102 = .ok (.ifCond .ne (12), 3) := by decide +kernel
theorem dX5_pin_105 : decode cX5_pin 105 = .ok (.aload_n 0, 1) := by decide +kernel
theorem dX5_pin_106 : decode cX5_pin 106 = .ok (.getfield 163, 3) := by decide +kernel
theorem dX5_pin_109 : decode cX5_pin 109 = .ok (.bipush 120, 2) := by decide +kernel
theorem dX5_pin_111 : decode cX5_pin 111 = .ok (.if_icmp .ne (5), 3) := by decide +kernel
theorem dX5_pin_114 : decode cX5_pin 114 = .ok (.iconst 0, 1) := by decide +kernel
theorem dX5_pin_115 : decode cX5_pin 115 = .ok (.ireturn, 1) := by decide +kernel
theorem dX5_pin_116 : decode cX5_pin 116 = .ok (.aload_n 0, 1) := by decide +kernel
theorem dX5_pin_117 : decode cX5_pin 117 = .ok (.getfield 54, 3) := by decide +kernel
theorem dX5_pin_120 : decode cX5_pin 120 = .ok (.aload_n 0, 1) := by decide +kernel
theorem dX5_pin_121 : decode cX5_pin 121 = .ok (.getfield 163, 3) := by decide +kernel
theorem dX5_pin_124 : decode cX5_pin 124 = .ok (.iload_n 1, 1) := by decide +kernel
theorem dX5_pin_125 : decode cX5_pin 125 = .ok (.iastore, 1) := by decide +kernel
theorem dX5_pin_126 : decode cX5_pin 126 = .ok (.aload_n 0, 1) := by decide +kernel
theorem dX5_pin_127 : decode cX5_pin 127 = .ok (.getfield 57, 3) := by decide +kernel
theorem dX5_pin_130 : decode cX5_pin 130 = .ok (.aload_n 0, 1) := by decide +kernel
theorem dX5_pin_131 : decode cX5_pin 131 = .ok (.getfield 163, 3) := by decide +kernel
theorem dX5_pin_134 : decode cX5_pin 134 = .ok (.iload_n 2, 1) := by decide +kernel
theorem dX5_pin_135 : decode cX5_pin 135 = .ok (.iastore, 1) := by decide +kernel
theorem dX5_pin_136 : decode cX5_pin 136 = .ok (.aload_n 0, 1) := by decide +kernel
theorem dX5_pin_137 : decode cX5_pin 137 = .ok (.getfield 60, 3) := by decide +kernel
theorem dX5_pin_140 : decode cX5_pin 140 = .ok (.aload_n 0, 1) := by decide +kernel
theorem dX5_pin_141 : decode cX5_pin 141 = .ok (.getfield 163, 3) := by decide +kernel
theorem dX5_pin_144 : decode cX5_pin 144 = .ok (.lload_n 3, 1) := by decide +kernel
theorem dX5_pin_145 : decode cX5_pin 145 = .ok (.lastore, 1) := by decide +kernel
theorem dX5_pin_146 : decode cX5_pin 146 = .ok (.aload_n 0, 1) := by decide +kernel
theorem dX5_pin_147 : decode cX5_pin 147 = .ok (.getfield 63, 3) := by decide +kernel
theorem dX5_pin_150 : decode cX5_pin 150 = .ok (.aload_n 0, 1) := by decide +kernel
theorem dX5_pin_151 : decode cX5_pin 151 = .ok (.getfield 163, 3) := by decide +kernel
theorem dX5_pin_154 : decode cX5_pin 154 = .ok (.lload 5, 2) := by decide +kernel
theorem dX5_pin_156 : decode cX5_pin 156 = .ok (.lastore, 1) := by decide +kernel
theorem dX5_pin_157 : decode cX5_pin 157 = .ok (.aload_n 0, 1) := by decide +kernel
theorem dX5_pin_158 : decode cX5_pin 158 = .ok (.dup, 1) := by decide +kernel
theorem dX5_pin_159 : decode cX5_pin 159 = .ok (.getfield 163, 3) := by decide +kernel
theorem dX5_pin_162 : decode cX5_pin 162 = .ok (.iconst 1, 1) := by decide +kernel
theorem dX5_pin_163 : decode cX5_pin 163 = .ok (.iadd, 1) := by decide +kernel
theorem dX5_pin_164 : decode cX5_pin 164 = .ok (.putfield 163, 3) := by decide +kernel
theorem dX5_pin_167 : decode cX5_pin 167 = .ok (.iconst 1, 1) := by decide +kernel
theorem dX5_pin_168 : decode cX5_pin 168 = .ok (.ireturn, 1) := by decide +kernel
abbrev cX5_wire : ByteArray := prog_7_method_30_code
def yX5_wire : MethodName := ⟨RX5, "wire", "()J"⟩
def wsX5_wire : List Cond := .code yX5_wire cX5_wire 1 (some .long) :: bT
theorem dX5_wire_0 : decode cX5_wire 0 = .ok (.aload_n 0, 1) := by decide +kernel
theorem dX5_wire_1 : decode cX5_wire 1 = .ok (.iconst 0, 1) := by decide +kernel
theorem dX5_wire_2 : decode cX5_wire 2 = .ok (.putfield 81, 3) := by decide +kernel
theorem dX5_wire_5 : decode cX5_wire 5 = .ok (.aload_n 0, 1) := by decide +kernel
theorem dX5_wire_6 : decode cX5_wire 6 = .ok (.iconst 0, 1) := by decide +kernel
theorem dX5_wire_7 : decode cX5_wire 7 = .ok (.invokevirtual 173, 3) := by decide +kernel
theorem dX5_wire_10 : decode cX5_wire 10 = .ok (.lreturn, 1) := by decide +kernel
abbrev cX5_full : ByteArray := prog_7_method_31_code
def yX5_full : MethodName := ⟨RX5, "full", "()J"⟩
def wsX5_full : List Cond := .code yX5_full cX5_full 1 (some .long) :: bT
theorem dX5_full_0 : decode cX5_full 0 = .ok (.aload_n 0, 1) := by decide +kernel
theorem dX5_full_1 : decode cX5_full 1 = .ok (.iconst 0, 1) := by decide +kernel
theorem dX5_full_2 : decode cX5_full 2 = .ok (.putfield 81, 3) := by decide +kernel
theorem dX5_full_5 : decode cX5_full 5 = .ok (.aload_n 0, 1) := by decide +kernel
theorem dX5_full_6 : decode cX5_full 6 = .ok (.iconst 0, 1) := by decide +kernel
theorem dX5_full_7 : decode cX5_full 7 = .ok (.invokevirtual 173, 3) := by decide +kernel
theorem dX5_full_10 : decode cX5_full 10 = .ok (.lreturn, 1) := by decide +kernel
abbrev cX5_size : ByteArray := prog_7_method_32_code
def yX5_size : MethodName := ⟨RX5, "size", "(J)J"⟩
def wsX5_size : List Cond := .code yX5_size cX5_size 2 (some .long) :: bT
theorem dX5_size_0 : decode cX5_size 0 = .ok (.lload_n 0, 1) := by decide +kernel
theorem dX5_size_1 : decode cX5_size 1 = .ok (.lconst 0, 1) := by decide +kernel
theorem dX5_size_2 : decode cX5_size 2 = .ok (.lcmp, 1) := by decide +kernel
theorem dX5_size_3 : decode cX5_size 3 = .ok (.ifCond .ge (9), 3) := by decide +kernel
theorem dX5_size_6 : decode cX5_size 6 = .ok (.lconst 0, 1) := by decide +kernel
theorem dX5_size_7 : decode cX5_size 7 = .ok (.lload_n 0, 1) := by decide +kernel
theorem dX5_size_8 : decode cX5_size 8 = .ok (.lsub, 1) := by decide +kernel
theorem dX5_size_9 : decode cX5_size 9 = .ok (.goto (4), 3) := by decide +kernel
theorem dX5_size_12 : decode cX5_size 12 = .ok (.lload_n 0, 1) := by decide +kernel
theorem dX5_size_13 : decode cX5_size 13 = .ok (.lreturn, 1) := by decide +kernel
abbrev cX5_push : ByteArray := prog_7_method_37_code
def yX5_push : MethodName := ⟨RX5, "push", "(IJJ)I"⟩
def wsX5_push : List Cond := .code yX5_push cX5_push 13 (some .int) :: bT
theorem dX5_push_0 : decode cX5_push 0 = .ok (.aload_n 0, 1) := by decide +kernel
theorem dX5_push_1 : decode cX5_push 1 = .ok (.aload_n 0, 1) := by decide +kernel
theorem dX5_push_2 : decode cX5_push 2 = .ok (.iload_n 1, 1) := by decide +kernel
theorem dX5_push_3 : decode cX5_push 3 = .ok (.invokevirtual 139, 3) := by decide +kernel
theorem dX5_push_6 : decode cX5_push 6 = .ok (.ifCond .ne (7), 3) := by decide +kernel
theorem dX5_push_9 : decode cX5_push 9 = .ok (.iconst 1, 1) := by decide +kernel
theorem dX5_push_10 : decode cX5_push 10 = .ok (.goto (17), 3) := by decide +kernel
theorem dX5_push_13 : decode cX5_push 13 = .ok (.aload_n 0, 1) := by decide +kernel
theorem dX5_push_14 : decode cX5_push 14 = .ok (.getfield 30, 3) := by decide +kernel
theorem dX5_push_17 : decode cX5_push 17 = .ok (.iload_n 1, 1) := by decide +kernel
theorem dX5_push_18 : decode cX5_push 18 = .ok (.baload, 1) := by decide +kernel
theorem dX5_push_19 : decode cX5_push 19 = .ok (.ifCond .eq (7), 3) := by decide +kernel
theorem dX5_push_22 : decode cX5_push 22 = .ok (.iconst 0, 1) := by decide +kernel
theorem dX5_push_23 : decode cX5_push 23 = .ok (.goto (4), 3) := by decide +kernel
theorem dX5_push_26 : decode cX5_push 26 = .ok (.iconst 2, 1) := by decide +kernel
theorem dX5_push_27 : decode cX5_push 27 = .ok (.putfield 81, 3) := by decide +kernel
theorem dX5_push_30 : decode cX5_push 30 = .ok (.aload_n 0, 1) := by decide +kernel
theorem dX5_push_31 : decode cX5_push 31 = .ok (.getfield 81, 3) := by decide +kernel
theorem dX5_push_34 : decode cX5_push 34 = .ok (.ifCond .eq (5), 3) := by decide +kernel
theorem dX5_push_37 : decode cX5_push 37 = .ok (.iconst 0, 1) := by decide +kernel
theorem dX5_push_38 : decode cX5_push 38 = .ok (.ireturn, 1) := by decide +kernel
theorem dX5_push_39 : decode cX5_push 39 = .ok (.lload_n 2, 1) := by decide +kernel
theorem dX5_push_40 : decode cX5_push 40 = .ok (.lconst 0, 1) := by decide +kernel
theorem dX5_push_41 : decode cX5_push 41 = .ok (.lcmp, 1) := by decide +kernel
theorem dX5_push_42 : decode cX5_push 42 = .ok (.ifCond .lt (29), 3) := by decide +kernel
theorem dX5_push_45 : decode cX5_push 45 = .ok (.lload_n 2, 1) := by decide +kernel
theorem dX5_push_46 : decode cX5_push 46 = .ok (.aload_n 0, 1) := by decide +kernel
theorem dX5_push_47 : decode cX5_push 47 = .ok (.getfield 71, 3) := by decide +kernel
theorem dX5_push_50 : decode cX5_push 50 = .ok (.lcmp, 1) := by decide +kernel
theorem dX5_push_51 : decode cX5_push 51 = .ok (.ifCond .gt (20), 3) := by decide +kernel
theorem dX5_push_54 : decode cX5_push 54 = .ok (.lload 4, 2) := by decide +kernel
theorem dX5_push_56 : decode cX5_push 56 = .ok (.lconst 0, 1) := by decide +kernel
theorem dX5_push_57 : decode cX5_push 57 = .ok (.lcmp, 1) := by decide +kernel
theorem dX5_push_58 : decode cX5_push 58 = .ok (.ifCond .lt (13), 3) := by decide +kernel
theorem dX5_push_61 : decode cX5_push 61 = .ok (.lload 4, 2) := by decide +kernel
theorem dX5_push_63 : decode cX5_push 63 = .ok (.aload_n 0, 1) := by decide +kernel
theorem dX5_push_64 : decode cX5_push 64 = .ok (.getfield 75, 3) := by decide +kernel
theorem dX5_push_67 : decode cX5_push 67 = .ok (.lcmp, 1) := by decide +kernel
theorem dX5_push_68 : decode cX5_push 68 = .ok (.ifCond .le (5), 3) := by decide +kernel
theorem dX5_push_71 : decode cX5_push 71 = .ok (.iconst (-1), 1) := by decide +kernel
theorem dX5_push_72 : decode cX5_push 72 = .ok (.ireturn, 1) := by decide +kernel
theorem dX5_push_73 : decode cX5_push 73 = .ok (.aload_n 0, 1) := by decide +kernel
theorem dX5_push_74 : decode cX5_push 74 = .ok (.invokevirtual 143, 3) := by decide +kernel
theorem dX5_push_77 : decode cX5_push 77 = .ok (.lload_n 2, 1) := by decide +kernel
theorem dX5_push_78 : decode cX5_push 78 = .ok (.aload_n 0, 1) := by decide +kernel
theorem dX5_push_79 : decode cX5_push 79 = .ok (.iconst 0, 1) := by decide +kernel
theorem dX5_push_80 : decode cX5_push 80 = .ok (.iload_n 1, 1) := by decide +kernel
theorem dX5_push_81 : decode cX5_push 81 = .ok (.invokevirtual 92, 3) := by decide +kernel
theorem dX5_push_84 : decode cX5_push 84 = .ok (.lsub, 1) := by decide +kernel
theorem dX5_push_85 : decode cX5_push 85 = .ok (.lstore 6, 2) := by decide +kernel
theorem dX5_push_87 : decode cX5_push 87 = .ok (.lload 4, 2) := by decide +kernel
theorem dX5_push_89 : decode cX5_push 89 = .ok (.aload_n 0, 1) := by decide +kernel
theorem dX5_push_90 : decode cX5_push 90 = .ok (.iconst 0, 1) := by decide +kernel
theorem dX5_push_91 : decode cX5_push 91 = .ok (.iload_n 1, 1) := by decide +kernel
theorem dX5_push_92 : decode cX5_push 92 = .ok (.invokevirtual 100, 3) := by decide +kernel
theorem dX5_push_95 : decode cX5_push 95 = .ok (.lsub, 1) := by decide +kernel
theorem dX5_push_96 : decode cX5_push 96 = .ok (.lstore 8, 2) := by decide +kernel
theorem dX5_push_98 : decode cX5_push 98 = .ok (.lload 6, 2) := by decide +kernel
theorem dX5_push_100 : decode cX5_push 100 = .ok (.invokestatic 188, 3) := by decide +kernel
theorem dX5_push_103 : decode cX5_push 103 = .ok (.lload 8, 2) := by decide +kernel
theorem dX5_push_105 : decode cX5_push 105 = .ok (.invokestatic 188, 3) := by decide +kernel
theorem dX5_push_108 : decode cX5_push 108 = .ok (.lcmp, 1) := by decide +kernel
theorem dX5_push_109 : decode cX5_push 109 = .ok (.ifCond .lt (18), 3) := by decide +kernel
theorem dX5_push_112 : decode cX5_push 112 = .ok (.lload 6, 2) := by decide +kernel
theorem dX5_push_114 : decode cX5_push 114 = .ok (.lconst 0, 1) := by decide +kernel
theorem dX5_push_115 : decode cX5_push 115 = .ok (.lcmp, 1) := by decide +kernel
theorem dX5_push_116 : decode cX5_push 116 = .ok (.ifCond .lt (7), 3) := by decide +kernel
theorem dX5_push_119 : decode cX5_push 119 = .ok (.iconst 0, 1) := by decide +kernel
theorem dX5_push_120 : decode cX5_push 120 = .ok (.goto (19), 3) := by decide +kernel
theorem dX5_push_123 : decode cX5_push 123 = .ok (.iconst 1, 1) := by decide +kernel
theorem dX5_push_124 : decode cX5_push 124 = .ok (.goto (15), 3) := by decide +kernel
theorem dX5_push_127 : decode cX5_push 127 = .ok (.lload 8, 2) := by decide +kernel
theorem dX5_push_129 : decode cX5_push 129 = .ok (.lconst 0, 1) := by decide +kernel
theorem dX5_push_130 : decode cX5_push 130 = .ok (.lcmp, 1) := by decide +kernel
theorem dX5_push_131 : decode cX5_push 131 = .ok (.ifCond .lt (7), 3) := by decide +kernel
theorem dX5_push_134 : decode cX5_push 134 = .ok (.iconst 2, 1) := by decide +kernel
theorem dX5_push_135 : decode cX5_push 135 = .ok (.goto (4), 3) := by decide +kernel
theorem dX5_push_138 : decode cX5_push 138 = .ok (.iconst 3, 1) := by decide +kernel
theorem dX5_push_139 : decode cX5_push 139 = .ok (.istore 10, 2) := by decide +kernel
theorem dX5_push_141 : decode cX5_push 141 = .ok (.aload_n 0, 1) := by decide +kernel
theorem dX5_push_142 : decode cX5_push 142 = .ok (.iload_n 1, 1) := by decide +kernel
theorem dX5_push_143 : decode cX5_push 143 = .ok (.lload 6, 2) := by decide +kernel
theorem dX5_push_145 : decode cX5_push 145 = .ok (.lload 8, 2) := by decide +kernel
theorem dX5_push_147 : decode cX5_push 147 = .ok (.invokevirtual 149, 3) := by decide +kernel
theorem dX5_push_150 : decode cX5_push 150 = .ok (.aload_n 0, 1) := by decide +kernel
theorem dX5_push_151 : decode cX5_push 151 = .ok (.iload_n 1, 1) := by decide +kernel
theorem dX5_push_152 : decode cX5_push 152 = .ok (.iload 10, 2) := by decide +kernel
theorem dX5_push_154 : decode cX5_push 154 = .ok (.invokevirtual 192, 3) := by decide +kernel
theorem dX5_push_157 : decode cX5_push 157 = .ok (.ifCond .eq (18), 3) := by decide +kernel
theorem dX5_push_160 : decode cX5_push 160 = .ok (.aload_n 0, 1) := by decide +kernel
theorem dX5_push_161 : decode cX5_push 161 = .ok (.invokevirtual 153, 3) := by decide +kernel
theorem dX5_push_164 : decode cX5_push 164 = .ok (.ifCond .ne (11), 3) := by decide +kernel
theorem dX5_push_167 : decode cX5_push 167 = .ok (.aload_n 0, 1) := by decide +kernel
theorem dX5_push_168 : decode cX5_push 168 = .ok (.iconst 1, 1) := by decide +kernel
theorem dX5_push_169 : decode cX5_push 169 = .ok (.invokevirtual 157, 3) := by decide +kernel
theorem dX5_push_172 : decode cX5_push 172 = .ok (.ifCond .ne (5), 3) := by decide +kernel
theorem dX5_push_175 : decode cX5_push 175 = .ok (.iconst (-1), 1) := by decide +kernel
theorem dX5_push_176 : decode cX5_push 176 = .ok (.ireturn, 1) := by decide +kernel
theorem dX5_push_177 : decode cX5_push 177 = .ok (.iconst 0, 1) := by decide +kernel
theorem dX5_push_178 : decode cX5_push 178 = .ok (.istore 11, 2) := by decide +kernel
theorem dX5_push_180 : decode cX5_push 180 = .ok (.iconst 0, 1) := by decide +kernel
theorem dX5_push_181 : decode cX5_push 181 = .ok (.istore 12, 2) := by decide +kernel
theorem dX5_push_183 : decode cX5_push 183 = .ok (.iload 12, 2) := by decide +kernel
theorem dX5_push_185 : decode cX5_push 185 = .ok (.aload_n 0, 1) := by decide +kernel
theorem dX5_push_186 : decode cX5_push 186 = .ok (.getfield 85, 3) := by decide +kernel
theorem dX5_push_189 : decode cX5_push 189 = .ok (.if_icmp .ge (45), 3) := by decide +kernel
theorem dX5_push_192 : decode cX5_push 192 = .ok (.iload 11, 2) := by decide +kernel
theorem dX5_push_194 : decode cX5_push 194 = .ok (.iload 12, 2) := by decide +kernel
theorem dX5_push_196 : decode cX5_push 196 = .ok (.iload_n 1, 1) := by decide +kernel
theorem dX5_push_197 : decode cX5_push 197 = .ok (.if_icmp .eq (27), 3) := by decide +kernel
theorem dX5_push_200 : decode cX5_push 200 = .ok (.aload_n 0, 1) := by decide +kernel
theorem dX5_push_201 : decode cX5_push 201 = .ok (.getfield 30, 3) := by decide +kernel
theorem dX5_push_204 : decode cX5_push 204 = .ok (.iload 12, 2) := by decide +kernel
theorem dX5_push_206 : decode cX5_push 206 = .ok (.baload, 1) := by decide +kernel
theorem dX5_push_207 : decode cX5_push 207 = .ok (.ifCond .eq (17), 3) := by decide +kernel
theorem dX5_push_210 : decode cX5_push 210 = .ok (.aload_n 0, 1) := by decide +kernel
theorem dX5_push_211 : decode cX5_push 211 = .ok (.iconst 1, 1) := by decide +kernel
theorem dX5_push_212 : decode cX5_push 212 = .ok (.iload 12, 2) := by decide +kernel
theorem dX5_push_214 : decode cX5_push 214 = .ok (.invokevirtual 136, 3) := by decide +kernel
theorem dX5_push_217 : decode cX5_push 217 = .ok (.ifCond .ne (7), 3) := by decide +kernel
theorem dX5_push_220 : decode cX5_push 220 = .ok (.iconst 1, 1) := by decide +kernel
theorem dX5_push_221 : decode cX5_push 221 = .ok (.goto (4), 3) := by decide +kernel
theorem dX5_push_224 : decode cX5_push 224 = .ok (.iconst 0, 1) := by decide +kernel
theorem dX5_push_225 : decode cX5_push 225 = .ok (.iadd, 1) := by decide +kernel
theorem dX5_push_226 : decode cX5_push 226 = .ok (.istore 11, 2) := by decide +kernel
theorem dX5_push_228 : decode cX5_push 228 = .ok (.iinc 12 1, 3) := by decide +kernel
theorem dX5_push_231 : decode cX5_push 231 = .ok (.goto (-48), 3) := by decide +kernel
theorem dX5_push_234 : decode cX5_push 234 = .ok (.aload_n 0, 1) := by decide +kernel
theorem dX5_push_235 : decode cX5_push 235 = .ok (.iconst 0, 1) := by decide +kernel
theorem dX5_push_236 : decode cX5_push 236 = .ok (.iconst 1, 1) := by decide +kernel
theorem dX5_push_237 : decode cX5_push 237 = .ok (.invokevirtual 132, 3) := by decide +kernel
theorem dX5_push_240 : decode cX5_push 240 = .ok (.iload 11, 2) := by decide +kernel
theorem dX5_push_242 : decode cX5_push 242 = .ok (.ireturn, 1) := by decide +kernel
abbrev cX5_at : ByteArray := prog_7_method_38_code
def yX5_at : MethodName := ⟨RX5, "at", "(II)J"⟩
def wsX5_at : List Cond := .code yX5_at cX5_at 3 (some .long) :: bT
theorem dX5_at_0 : decode cX5_at 0 = .ok (.aload_n 0, 1) := by decide +kernel
theorem dX5_at_1 : decode cX5_at 1 = .ok (.aload_n 0, 1) := by decide +kernel
theorem dX5_at_2 : decode cX5_at 2 = .ok (.iload_n 1, 1) := by decide +kernel
theorem dX5_at_3 : decode cX5_at 3 = .ok (.invokevirtual 139, 3) := by decide +kernel
theorem dX5_at_6 : decode cX5_at 6 = .ok (.ifCond .eq (17), 3) := by decide +kernel
theorem dX5_at_9 : decode cX5_at 9 = .ok (.iload_n 2, 1) := by decide +kernel
theorem dX5_at_10 : decode cX5_at 10 = .ok (.ifCond .lt (13), 3) := by decide +kernel
theorem dX5_at_13 : decode cX5_at 13 = .ok (.iload_n 2, 1) := by decide +kernel
theorem dX5_at_14 : decode cX5_at 14 = .ok (.bipush 7, 2) := by decide +kernel
theorem dX5_at_16 : decode cX5_at 16 = .ok (.if_icmp .ge (7), 3) := by decide +kernel
theorem dX5_at_19 : decode cX5_at 19 = .ok (.iconst 0, 1) := by decide +kernel
theorem dX5_at_20 : decode cX5_at 20 = .ok (.goto (4), 3) := by decide +kernel
theorem dX5_at_23 : decode cX5_at 23 = .ok (.iconst 1, 1) := by decide +kernel
theorem dX5_at_24 : decode cX5_at 24 = .ok (.putfield 81, 3) := by decide +kernel
theorem dX5_at_27 : decode cX5_at 27 = .ok (.aload_n 0, 1) := by decide +kernel
theorem dX5_at_28 : decode cX5_at 28 = .ok (.getfield 81, 3) := by decide +kernel
theorem dX5_at_31 : decode cX5_at 31 = .ok (.ifCond .eq (5), 3) := by decide +kernel
theorem dX5_at_34 : decode cX5_at 34 = .ok (.lconst 0, 1) := by decide +kernel
theorem dX5_at_35 : decode cX5_at 35 = .ok (.lreturn, 1) := by decide +kernel
theorem dX5_at_36 : decode cX5_at 36 = .ok (.iload_n 2, 1) := by decide +kernel
theorem dX5_at_37 : decode cX5_at 37 = .ok (.tableswitch 138 0 5 #[39, 59, 79, 100, 115, 130], 39) := by decide +kernel
theorem dX5_at_76 : decode cX5_at 76 = .ok (.aload_n 0, 1) := by decide +kernel
theorem dX5_at_77 : decode cX5_at 77 = .ok (.getfield 30, 3) := by decide +kernel
theorem dX5_at_80 : decode cX5_at 80 = .ok (.iload_n 1, 1) := by decide +kernel
theorem dX5_at_81 : decode cX5_at 81 = .ok (.baload, 1) := by decide +kernel
theorem dX5_at_82 : decode cX5_at 82 = .ok (.ifCond .eq (12), 3) := by decide +kernel
theorem dX5_at_85 : decode cX5_at 85 = .ok (.aload_n 0, 1) := by decide +kernel
theorem dX5_at_86 : decode cX5_at 86 = .ok (.iconst 0, 1) := by decide +kernel
theorem dX5_at_87 : decode cX5_at 87 = .ok (.iload_n 1, 1) := by decide +kernel
theorem dX5_at_88 : decode cX5_at 88 = .ok (.invokevirtual 92, 3) := by decide +kernel
theorem dX5_at_91 : decode cX5_at 91 = .ok (.goto (4), 3) := by decide +kernel
theorem dX5_at_94 : decode cX5_at 94 = .ok (.lconst 0, 1) := by decide +kernel
theorem dX5_at_95 : decode cX5_at 95 = .ok (.lreturn, 1) := by decide +kernel
theorem dX5_at_96 : decode cX5_at 96 = .ok (.aload_n 0, 1) := by decide +kernel
theorem dX5_at_97 : decode cX5_at 97 = .ok (.getfield 30, 3) := by decide +kernel
theorem dX5_at_100 : decode cX5_at 100 = .ok (.iload_n 1, 1) := by decide +kernel
theorem dX5_at_101 : decode cX5_at 101 = .ok (.baload, 1) := by decide +kernel
theorem dX5_at_102 : decode cX5_at 102 = .ok (.ifCond .eq (12), 3) := by decide +kernel
theorem dX5_at_105 : decode cX5_at 105 = .ok (.aload_n 0, 1) := by decide +kernel
theorem dX5_at_106 : decode cX5_at 106 = .ok (.iconst 0, 1) := by decide +kernel
theorem dX5_at_107 : decode cX5_at 107 = .ok (.iload_n 1, 1) := by decide +kernel
theorem dX5_at_108 : decode cX5_at 108 = .ok (.invokevirtual 100, 3) := by decide +kernel
theorem dX5_at_111 : decode cX5_at 111 = .ok (.goto (4), 3) := by decide +kernel
theorem dX5_at_114 : decode cX5_at 114 = .ok (.lconst 0, 1) := by decide +kernel
theorem dX5_at_115 : decode cX5_at 115 = .ok (.lreturn, 1) := by decide +kernel
theorem dX5_at_116 : decode cX5_at 116 = .ok (.aload_n 0, 1) := by decide +kernel
theorem dX5_at_117 : decode cX5_at 117 = .ok (.getfield 30, 3) := by decide +kernel
theorem dX5_at_120 : decode cX5_at 120 = .ok (.iload_n 1, 1) := by decide +kernel
theorem dX5_at_121 : decode cX5_at 121 = .ok (.baload, 1) := by decide +kernel
theorem dX5_at_122 : decode cX5_at 122 = .ok (.ifCond .eq (13), 3) := by decide +kernel
theorem dX5_at_125 : decode cX5_at 125 = .ok (.aload_n 0, 1) := by decide +kernel
theorem dX5_at_126 : decode cX5_at 126 = .ok (.getfield 39, 3) := by decide +kernel
theorem dX5_at_129 : decode cX5_at 129 = .ok (.iload_n 1, 1) := by decide +kernel
theorem dX5_at_130 : decode cX5_at 130 = .ok (.iaload, 1) := by decide +kernel
theorem dX5_at_131 : decode cX5_at 131 = .ok (.i2l, 1) := by decide +kernel
theorem dX5_at_132 : decode cX5_at 132 = .ok (.goto (4), 3) := by decide +kernel
theorem dX5_at_135 : decode cX5_at 135 = .ok (.lconst 0, 1) := by decide +kernel
theorem dX5_at_136 : decode cX5_at 136 = .ok (.lreturn, 1) := by decide +kernel
theorem dX5_at_137 : decode cX5_at 137 = .ok (.aload_n 0, 1) := by decide +kernel
theorem dX5_at_138 : decode cX5_at 138 = .ok (.getfield 30, 3) := by decide +kernel
theorem dX5_at_141 : decode cX5_at 141 = .ok (.iload_n 1, 1) := by decide +kernel
theorem dX5_at_142 : decode cX5_at 142 = .ok (.baload, 1) := by decide +kernel
theorem dX5_at_143 : decode cX5_at 143 = .ok (.ifCond .eq (7), 3) := by decide +kernel
theorem dX5_at_146 : decode cX5_at 146 = .ok (.lconst 1, 1) := by decide +kernel
theorem dX5_at_147 : decode cX5_at 147 = .ok (.goto (4), 3) := by decide +kernel
theorem dX5_at_150 : decode cX5_at 150 = .ok (.lconst 0, 1) := by decide +kernel
theorem dX5_at_151 : decode cX5_at 151 = .ok (.lreturn, 1) := by decide +kernel
theorem dX5_at_152 : decode cX5_at 152 = .ok (.aload_n 0, 1) := by decide +kernel
theorem dX5_at_153 : decode cX5_at 153 = .ok (.getfield 23, 3) := by decide +kernel
theorem dX5_at_156 : decode cX5_at 156 = .ok (.iload_n 1, 1) := by decide +kernel
theorem dX5_at_157 : decode cX5_at 157 = .ok (.baload, 1) := by decide +kernel
theorem dX5_at_158 : decode cX5_at 158 = .ok (.ifCond .eq (7), 3) := by decide +kernel
theorem dX5_at_161 : decode cX5_at 161 = .ok (.lconst 1, 1) := by decide +kernel
theorem dX5_at_162 : decode cX5_at 162 = .ok (.goto (4), 3) := by decide +kernel
theorem dX5_at_165 : decode cX5_at 165 = .ok (.lconst 0, 1) := by decide +kernel
theorem dX5_at_166 : decode cX5_at 166 = .ok (.lreturn, 1) := by decide +kernel
theorem dX5_at_167 : decode cX5_at 167 = .ok (.aload_n 0, 1) := by decide +kernel
theorem dX5_at_168 : decode cX5_at 168 = .ok (.getfield 27, 3) := by decide +kernel
theorem dX5_at_171 : decode cX5_at 171 = .ok (.iload_n 1, 1) := by decide +kernel
theorem dX5_at_172 : decode cX5_at 172 = .ok (.iaload, 1) := by decide +kernel
theorem dX5_at_173 : decode cX5_at 173 = .ok (.i2l, 1) := by decide +kernel
theorem dX5_at_174 : decode cX5_at 174 = .ok (.lreturn, 1) := by decide +kernel
theorem dX5_at_175 : decode cX5_at 175 = .ok (.aload_n 0, 1) := by decide +kernel
theorem dX5_at_176 : decode cX5_at 176 = .ok (.getfield 20, 3) := by decide +kernel
theorem dX5_at_179 : decode cX5_at 179 = .ok (.iload_n 1, 1) := by decide +kernel
theorem dX5_at_180 : decode cX5_at 180 = .ok (.laload, 1) := by decide +kernel
theorem dX5_at_181 : decode cX5_at 181 = .ok (.lreturn, 1) := by decide +kernel
abbrev cX5_side : ByteArray := prog_7_method_39_code
def yX5_side : MethodName := ⟨RX5, "side", "(I)I"⟩
def wsX5_side : List Cond := .code yX5_side cX5_side 2 (some .int) :: bT
theorem dX5_side_0 : decode cX5_side 0 = .ok (.aload_n 0, 1) := by decide +kernel
theorem dX5_side_1 : decode cX5_side 1 = .ok (.aload_n 0, 1) := by decide +kernel
theorem dX5_side_2 : decode cX5_side 2 = .ok (.iload_n 1, 1) := by decide +kernel
theorem dX5_side_3 : decode cX5_side 3 = .ok (.invokevirtual 139, 3) := by decide +kernel
theorem dX5_side_6 : decode cX5_side 6 = .ok (.ifCond .eq (7), 3) := by decide +kernel
theorem dX5_side_9 : decode cX5_side 9 = .ok (.iconst 0, 1) := by decide +kernel
theorem dX5_side_10 : decode cX5_side 10 = .ok (.goto (4), 3) := by decide +kernel
theorem dX5_side_13 : decode cX5_side 13 = .ok (.iconst 1, 1) := by decide +kernel
theorem dX5_side_14 : decode cX5_side 14 = .ok (.putfield 81, 3) := by decide +kernel
theorem dX5_side_17 : decode cX5_side 17 = .ok (.aload_n 0, 1) := by decide +kernel
theorem dX5_side_18 : decode cX5_side 18 = .ok (.getfield 81, 3) := by decide +kernel
theorem dX5_side_21 : decode cX5_side 21 = .ok (.ifCond .ne (12), 3) := by decide +kernel
theorem dX5_side_24 : decode cX5_side 24 = .ok (.aload_n 0, 1) := by decide +kernel
theorem dX5_side_25 : decode cX5_side 25 = .ok (.getfield 16, 3) := by decide +kernel
theorem dX5_side_28 : decode cX5_side 28 = .ok (.iload_n 1, 1) := by decide +kernel
theorem dX5_side_29 : decode cX5_side 29 = .ok (.iaload, 1) := by decide +kernel
theorem dX5_side_30 : decode cX5_side 30 = .ok (.goto (4), 3) := by decide +kernel
theorem dX5_side_33 : decode cX5_side 33 = .ok (.iconst 0, 1) := by decide +kernel
theorem dX5_side_34 : decode cX5_side 34 = .ok (.ireturn, 1) := by decide +kernel
abbrev cX5_run : ByteArray := prog_7_method_44_code
def yX5_run : MethodName := ⟨RX5, "run", "(J)I"⟩
def wsX5_run : List Cond := .code yX5_run cX5_run 23 (some .int) :: bT
theorem dX5_run_0 : decode cX5_run 0 = .ok (.aload_n 0, 1) := by decide +kernel
theorem dX5_run_1 : decode cX5_run 1 = .ok (.lload_n 1, 1) := by decide +kernel
theorem dX5_run_2 : decode cX5_run 2 = .ok (.lconst 0, 1) := by decide +kernel
theorem dX5_run_3 : decode cX5_run 3 = .ok (.lcmp, 1) := by decide +kernel
theorem dX5_run_4 : decode cX5_run 4 = .ok (.ifCond .lt (15), 3) := by decide +kernel
theorem dX5_run_7 : decode cX5_run 7 = .ok (.lload_n 1, 1) := by decide +kernel
theorem dX5_run_8 : decode cX5_run 8 = .ok (.ldc2_w 203, 3) := by decide +kernel
theorem dX5_run_11 : decode cX5_run 11 = .ok (.lcmp, 1) := by decide +kernel
theorem dX5_run_12 : decode cX5_run 12 = .ok (.ifCond .gt (7), 3) := by decide +kernel
theorem dX5_run_15 : decode cX5_run 15 = .ok (.iconst 0, 1) := by decide +kernel
theorem dX5_run_16 : decode cX5_run 16 = .ok (.goto (4), 3) := by decide +kernel
theorem dX5_run_19 : decode cX5_run 19 = .ok (.iconst 1, 1) := by decide +kernel
theorem dX5_run_20 : decode cX5_run 20 = .ok (.putfield 81, 3) := by decide +kernel
theorem dX5_run_23 : decode cX5_run 23 = .ok (.aload_n 0, 1) := by decide +kernel
theorem dX5_run_24 : decode cX5_run 24 = .ok (.getfield 81, 3) := by decide +kernel
theorem dX5_run_27 : decode cX5_run 27 = .ok (.ifCond .ne (10), 3) := by decide +kernel
theorem dX5_run_30 : decode cX5_run 30 = .ok (.aload_n 0, 1) := by decide +kernel
theorem dX5_run_31 : decode cX5_run 31 = .ok (.getfield 85, 3) := by decide +kernel
theorem dX5_run_34 : decode cX5_run 34 = .ok (.ifCond .ne (5), 3) := by decide +kernel
theorem dX5_run_37 : decode cX5_run 37 = .ok (.iconst 0, 1) := by decide +kernel
theorem dX5_run_38 : decode cX5_run 38 = .ok (.ireturn, 1) := by decide +kernel
theorem dX5_run_39 : decode cX5_run 39 = .ok (.aload_n 0, 1) := by decide +kernel
theorem dX5_run_40 : decode cX5_run 40 = .ok (.iconst 0, 1) := by decide +kernel
theorem dX5_run_41 : decode cX5_run 41 = .ok (.invokevirtual 173, 3) := by decide +kernel
theorem dX5_run_44 : decode cX5_run 44 = .ok (.lstore_n 3, 1) := by decide +kernel
theorem dX5_run_45 : decode cX5_run 45 = .ok (.lload_n 3, 1) := by decide +kernel
theorem dX5_run_46 : decode cX5_run 46 = .ok (.lstore 5, 2) := by decide +kernel
theorem dX5_run_48 : decode cX5_run 48 = .ok (.aload_n 0, 1) := by decide +kernel
theorem dX5_run_49 : decode cX5_run 49 = .ok (.iconst 2, 1) := by decide +kernel
theorem dX5_run_50 : decode cX5_run 50 = .ok (.iconst 0, 1) := by decide +kernel
theorem dX5_run_51 : decode cX5_run 51 = .ok (.invokevirtual 132, 3) := by decide +kernel
theorem dX5_run_54 : decode cX5_run 54 = .ok (.iconst 0, 1) := by decide +kernel
theorem dX5_run_55 : decode cX5_run 55 = .ok (.istore 7, 2) := by decide +kernel
theorem dX5_run_57 : decode cX5_run 57 = .ok (.lconst 0, 1) := by decide +kernel
theorem dX5_run_58 : decode cX5_run 58 = .ok (.lstore 8, 2) := by decide +kernel
theorem dX5_run_60 : decode cX5_run 60 = .ok (.lload 8, 2) := by decide +kernel
theorem dX5_run_62 : decode cX5_run 62 = .ok (.lload_n 1, 1) := by decide +kernel
theorem dX5_run_63 : decode cX5_run 63 = .ok (.lcmp, 1) := by decide +kernel
theorem dX5_run_64 : decode cX5_run 64 = .ok (.ifCond .ge (153), 3) := by decide +kernel
theorem dX5_run_67 : decode cX5_run 67 = .ok (.aload_n 0, 1) := by decide +kernel
theorem dX5_run_68 : decode cX5_run 68 = .ok (.invokevirtual 205, 3) := by decide +kernel
theorem dX5_run_71 : decode cX5_run 71 = .ok (.lstore 10, 2) := by decide +kernel
theorem dX5_run_73 : decode cX5_run 73 = .ok (.aload_n 0, 1) := by decide +kernel
theorem dX5_run_74 : decode cX5_run 74 = .ok (.invokevirtual 205, 3) := by decide +kernel
theorem dX5_run_77 : decode cX5_run 77 = .ok (.lstore 12, 2) := by decide +kernel
theorem dX5_run_79 : decode cX5_run 79 = .ok (.aload_n 0, 1) := by decide +kernel
theorem dX5_run_80 : decode cX5_run 80 = .ok (.invokevirtual 205, 3) := by decide +kernel
theorem dX5_run_83 : decode cX5_run 83 = .ok (.lstore 14, 2) := by decide +kernel
theorem dX5_run_85 : decode cX5_run 85 = .ok (.aload_n 0, 1) := by decide +kernel
theorem dX5_run_86 : decode cX5_run 86 = .ok (.invokevirtual 205, 3) := by decide +kernel
theorem dX5_run_89 : decode cX5_run 89 = .ok (.lstore 16, 2) := by decide +kernel
theorem dX5_run_91 : decode cX5_run 91 = .ok (.aload_n 0, 1) := by decide +kernel
theorem dX5_run_92 : decode cX5_run 92 = .ok (.invokevirtual 143, 3) := by decide +kernel
theorem dX5_run_95 : decode cX5_run 95 = .ok (.aload_n 0, 1) := by decide +kernel
theorem dX5_run_96 : decode cX5_run 96 = .ok (.lload 10, 2) := by decide +kernel
theorem dX5_run_98 : decode cX5_run 98 = .ok (.lload 12, 2) := by decide +kernel
theorem dX5_run_100 : decode cX5_run 100 = .ok (.lload 14, 2) := by decide +kernel
theorem dX5_run_102 : decode cX5_run 102 = .ok (.lload 16, 2) := by decide +kernel
theorem dX5_run_104 : decode cX5_run 104 = .ok (.invokevirtual 209, 3) := by decide +kernel
theorem dX5_run_107 : decode cX5_run 107 = .ok (.aload_n 0, 1) := by decide +kernel
theorem dX5_run_108 : decode cX5_run 108 = .ok (.iconst 0, 1) := by decide +kernel
theorem dX5_run_109 : decode cX5_run 109 = .ok (.invokevirtual 173, 3) := by decide +kernel
theorem dX5_run_112 : decode cX5_run 112 = .ok (.lload_n 3, 1) := by decide +kernel
theorem dX5_run_113 : decode cX5_run 113 = .ok (.lload_n 1, 1) := by decide +kernel
theorem dX5_run_114 : decode cX5_run 114 = .ok (.lconst 1, 1) := by decide +kernel
theorem dX5_run_115 : decode cX5_run 115 = .ok (.lsub, 1) := by decide +kernel
theorem dX5_run_116 : decode cX5_run 116 = .ok (.lload 8, 2) := by decide +kernel
theorem dX5_run_118 : decode cX5_run 118 = .ok (.lsub, 1) := by decide +kernel
theorem dX5_run_119 : decode cX5_run 119 = .ok (.lmul, 1) := by decide +kernel
theorem dX5_run_120 : decode cX5_run 120 = .ok (.ldc2_w 213, 3) := by decide +kernel
theorem dX5_run_123 : decode cX5_run 123 = .ok (.lload_n 1, 1) := by decide +kernel
theorem dX5_run_124 : decode cX5_run 124 = .ok (.lmul, 1) := by decide +kernel
theorem dX5_run_125 : decode cX5_run 125 = .ok (.ldiv, 1) := by decide +kernel
theorem dX5_run_126 : decode cX5_run 126 = .ok (.ladd, 1) := by decide +kernel
theorem dX5_run_127 : decode cX5_run 127 = .ok (.lstore 18, 2) := by decide +kernel
theorem dX5_run_129 : decode cX5_run 129 = .ok (.aload_n 0, 1) := by decide +kernel
theorem dX5_run_130 : decode cX5_run 130 = .ok (.invokevirtual 215, 3) := by decide +kernel
theorem dX5_run_133 : decode cX5_run 133 = .ok (.ifCond .eq (33), 3) := by decide +kernel
theorem dX5_run_136 : decode cX5_run 136 = .ok (.aload_n 0, 1) := by decide +kernel
theorem dX5_run_137 : decode cX5_run 137 = .ok (.invokevirtual 153, 3) := by decide +kernel
theorem dX5_run_140 : decode cX5_run 140 = .ok (.ifCond .ne (26), 3) := by decide +kernel
theorem dX5_run_143 : decode cX5_run 143 = .ok (.aload_n 0, 1) := by decide +kernel
theorem dX5_run_144 : decode cX5_run 144 = .ok (.iconst 1, 1) := by decide +kernel
theorem dX5_run_145 : decode cX5_run 145 = .ok (.invokevirtual 157, 3) := by decide +kernel
theorem dX5_run_148 : decode cX5_run 148 = .ok (.ifCond .eq (18), 3) := by decide +kernel
theorem dX5_run_151 : decode cX5_run 151 = .ok (.aload_n 0, 1) := by decide +kernel
theorem dX5_run_152 : decode cX5_run 152 = .ok (.iconst 1, 1) := by decide +kernel
theorem dX5_run_153 : decode cX5_run 153 = .ok (.invokevirtual 173, 3) := by decide +kernel
theorem dX5_run_156 : decode cX5_run 156 = .ok (.lload 18, 2) := by decide +kernel
theorem dX5_run_158 : decode cX5_run 158 = .ok (.lcmp, 1) := by decide +kernel
theorem dX5_run_159 : decode cX5_run 159 = .ok (.ifCond .gt (7), 3) := by decide +kernel
theorem dX5_run_162 : decode cX5_run 162 = .ok (.iconst 1, 1) := by decide +kernel
theorem dX5_run_163 : decode cX5_run 163 = .ok (.goto (4), 3) := by decide +kernel
theorem dX5_run_166 : decode cX5_run 166 = .ok (.iconst 0, 1) := by decide +kernel
theorem dX5_run_167 : decode cX5_run 167 = .ok (.istore 20, 2) := by decide +kernel
theorem dX5_run_169 : decode cX5_run 169 = .ok (.iload 20, 2) := by decide +kernel
theorem dX5_run_171 : decode cX5_run 171 = .ok (.ifCond .eq (37), 3) := by decide +kernel
theorem dX5_run_174 : decode cX5_run 174 = .ok (.aload_n 0, 1) := by decide +kernel
theorem dX5_run_175 : decode cX5_run 175 = .ok (.iconst 0, 1) := by decide +kernel
theorem dX5_run_176 : decode cX5_run 176 = .ok (.iconst 1, 1) := by decide +kernel
theorem dX5_run_177 : decode cX5_run 177 = .ok (.invokevirtual 132, 3) := by decide +kernel
theorem dX5_run_180 : decode cX5_run 180 = .ok (.iinc 7 1, 3) := by decide +kernel
theorem dX5_run_183 : decode cX5_run 183 = .ok (.aload_n 0, 1) := by decide +kernel
theorem dX5_run_184 : decode cX5_run 184 = .ok (.iconst 0, 1) := by decide +kernel
theorem dX5_run_185 : decode cX5_run 185 = .ok (.invokevirtual 173, 3) := by decide +kernel
theorem dX5_run_188 : decode cX5_run 188 = .ok (.lstore 21, 2) := by decide +kernel
theorem dX5_run_190 : decode cX5_run 190 = .ok (.lload 21, 2) := by decide +kernel
theorem dX5_run_192 : decode cX5_run 192 = .ok (.lload 5, 2) := by decide +kernel
theorem dX5_run_194 : decode cX5_run 194 = .ok (.lcmp, 1) := by decide +kernel
theorem dX5_run_195 : decode cX5_run 195 = .ok (.ifCond .ge (13), 3) := by decide +kernel
theorem dX5_run_198 : decode cX5_run 198 = .ok (.lload 21, 2) := by decide +kernel
theorem dX5_run_200 : decode cX5_run 200 = .ok (.lstore 5, 2) := by decide +kernel
theorem dX5_run_202 : decode cX5_run 202 = .ok (.aload_n 0, 1) := by decide +kernel
theorem dX5_run_203 : decode cX5_run 203 = .ok (.iconst 2, 1) := by decide +kernel
theorem dX5_run_204 : decode cX5_run 204 = .ok (.iconst 0, 1) := by decide +kernel
theorem dX5_run_205 : decode cX5_run 205 = .ok (.invokevirtual 132, 3) := by decide +kernel
theorem dX5_run_208 : decode cX5_run 208 = .ok (.lload 8, 2) := by decide +kernel
theorem dX5_run_210 : decode cX5_run 210 = .ok (.lconst 1, 1) := by decide +kernel
theorem dX5_run_211 : decode cX5_run 211 = .ok (.ladd, 1) := by decide +kernel
theorem dX5_run_212 : decode cX5_run 212 = .ok (.lstore 8, 2) := by decide +kernel
theorem dX5_run_214 : decode cX5_run 214 = .ok (.goto (-154), 3) := by decide +kernel
theorem dX5_run_217 : decode cX5_run 217 = .ok (.aload_n 0, 1) := by decide +kernel
theorem dX5_run_218 : decode cX5_run 218 = .ok (.iconst 0, 1) := by decide +kernel
theorem dX5_run_219 : decode cX5_run 219 = .ok (.iconst 2, 1) := by decide +kernel
theorem dX5_run_220 : decode cX5_run 220 = .ok (.invokevirtual 132, 3) := by decide +kernel
theorem dX5_run_223 : decode cX5_run 223 = .ok (.iload 7, 2) := by decide +kernel
theorem dX5_run_225 : decode cX5_run 225 = .ok (.ireturn, 1) := by decide +kernel
abbrev cX5_near : ByteArray := prog_7_method_45_code
def yX5_near : MethodName := ⟨RX5, "near", "(IIJ)Z"⟩
def wsX5_near : List Cond := .code yX5_near cX5_near 5 (some .boolean) :: bT
theorem dX5_near_0 : decode cX5_near 0 = .ok (.aload_n 0, 1) := by decide +kernel
theorem dX5_near_1 : decode cX5_near 1 = .ok (.aload_n 0, 1) := by decide +kernel
theorem dX5_near_2 : decode cX5_near 2 = .ok (.iload_n 1, 1) := by decide +kernel
theorem dX5_near_3 : decode cX5_near 3 = .ok (.invokevirtual 139, 3) := by decide +kernel
theorem dX5_near_6 : decode cX5_near 6 = .ok (.ifCond .eq (11), 3) := by decide +kernel
theorem dX5_near_9 : decode cX5_near 9 = .ok (.aload_n 0, 1) := by decide +kernel
theorem dX5_near_10 : decode cX5_near 10 = .ok (.iload_n 2, 1) := by decide +kernel
theorem dX5_near_11 : decode cX5_near 11 = .ok (.invokevirtual 139, 3) := by decide +kernel
theorem dX5_near_14 : decode cX5_near 14 = .ok (.ifCond .ne (7), 3) := by decide +kernel
theorem dX5_near_17 : decode cX5_near 17 = .ok (.iconst 1, 1) := by decide +kernel
theorem dX5_near_18 : decode cX5_near 18 = .ok (.goto (14), 3) := by decide +kernel
theorem dX5_near_21 : decode cX5_near 21 = .ok (.lload_n 3, 1) := by decide +kernel
theorem dX5_near_22 : decode cX5_near 22 = .ok (.lconst 0, 1) := by decide +kernel
theorem dX5_near_23 : decode cX5_near 23 = .ok (.lcmp, 1) := by decide +kernel
theorem dX5_near_24 : decode cX5_near 24 = .ok (.ifCond .ge (7), 3) := by decide +kernel
theorem dX5_near_27 : decode cX5_near 27 = .ok (.iconst 2, 1) := by decide +kernel
theorem dX5_near_28 : decode cX5_near 28 = .ok (.goto (4), 3) := by decide +kernel
theorem dX5_near_31 : decode cX5_near 31 = .ok (.iconst 0, 1) := by decide +kernel
theorem dX5_near_32 : decode cX5_near 32 = .ok (.putfield 81, 3) := by decide +kernel
theorem dX5_near_35 : decode cX5_near 35 = .ok (.aload_n 0, 1) := by decide +kernel
theorem dX5_near_36 : decode cX5_near 36 = .ok (.getfield 81, 3) := by decide +kernel
theorem dX5_near_39 : decode cX5_near 39 = .ok (.ifCond .ne (17), 3) := by decide +kernel
theorem dX5_near_42 : decode cX5_near 42 = .ok (.aload_n 0, 1) := by decide +kernel
theorem dX5_near_43 : decode cX5_near 43 = .ok (.getfield 126, 3) := by decide +kernel
theorem dX5_near_46 : decode cX5_near 46 = .ok (.bipush 20, 2) := by decide +kernel
theorem dX5_near_48 : decode cX5_near 48 = .ok (.if_icmp .eq (8), 3) := by decide +kernel
theorem dX5_near_51 : decode cX5_near 51 = .ok (.iload_n 1, 1) := by decide +kernel
theorem dX5_near_52 : decode cX5_near 52 = .ok (.iload_n 2, 1) := by decide +kernel
theorem dX5_near_53 : decode cX5_near 53 = .ok (.if_icmp .ne (5), 3) := by decide +kernel
theorem dX5_near_56 : decode cX5_near 56 = .ok (.iconst 0, 1) := by decide +kernel
theorem dX5_near_57 : decode cX5_near 57 = .ok (.ireturn, 1) := by decide +kernel
theorem dX5_near_58 : decode cX5_near 58 = .ok (.aload_n 0, 1) := by decide +kernel
theorem dX5_near_59 : decode cX5_near 59 = .ok (.getfield 45, 3) := by decide +kernel
theorem dX5_near_62 : decode cX5_near 62 = .ok (.aload_n 0, 1) := by decide +kernel
theorem dX5_near_63 : decode cX5_near 63 = .ok (.getfield 126, 3) := by decide +kernel
theorem dX5_near_66 : decode cX5_near 66 = .ok (.iload_n 1, 1) := by decide +kernel
theorem dX5_near_67 : decode cX5_near 67 = .ok (.iastore, 1) := by decide +kernel
theorem dX5_near_68 : decode cX5_near 68 = .ok (.aload_n 0, 1) := by decide +kernel
theorem dX5_near_69 : decode cX5_near 69 = .ok (.getfield 48, 3) := by decide +kernel
theorem dX5_near_72 : decode cX5_near 72 = .ok (.aload_n 0, 1) := by decide +kernel
theorem dX5_near_73 : decode cX5_near 73 = .ok (.getfield 126, 3) := by decide +kernel
theorem dX5_near_76 : decode cX5_near 76 = .ok (.iload_n 2, 1) := by decide +kernel
theorem dX5_near_77 : decode cX5_near 77 = .ok (.iastore, 1) := by decide +kernel
theorem dX5_near_78 : decode cX5_near 78 = .ok (.aload_n 0, 1) := by decide +kernel
theorem dX5_near_79 : decode cX5_near 79 = .ok (.getfield 51, 3) := by decide +kernel
theorem dX5_near_82 : decode cX5_near 82 = .ok (.aload_n 0, 1) := by decide +kernel
theorem dX5_near_83 : decode cX5_near 83 = .ok (.getfield 126, 3) := by decide +kernel
theorem dX5_near_86 : decode cX5_near 86 = .ok (.lload_n 3, 1) := by decide +kernel
theorem dX5_near_87 : decode cX5_near 87 = .ok (.lastore, 1) := by decide +kernel
theorem dX5_near_88 : decode cX5_near 88 = .ok (.aload_n 0, 1) := by decide +kernel
theorem dX5_near_89 : decode cX5_near 89 = .ok (.dup, 1) := by decide +kernel
theorem dX5_near_90 : decode cX5_near 90 = .ok (.getfield 126, 3) := by decide +kernel
theorem dX5_near_93 : decode cX5_near 93 = .ok (.iconst 1, 1) := by decide +kernel
theorem dX5_near_94 : decode cX5_near 94 = .ok (.iadd, 1) := by decide +kernel
theorem dX5_near_95 : decode cX5_near 95 = .ok (.putfield 126, 3) := by decide +kernel
theorem dX5_near_98 : decode cX5_near 98 = .ok (.aload_n 0, 1) := by decide +kernel
theorem dX5_near_99 : decode cX5_near 99 = .ok (.iconst 0, 1) := by decide +kernel
theorem dX5_near_100 : decode cX5_near 100 = .ok (.invokevirtual 157, 3) := by decide +kernel
theorem dX5_near_103 : decode cX5_near 103 = .ok (.ifCond .eq (5), 3) := by decide +kernel
theorem dX5_near_106 : decode cX5_near 106 = .ok (.iconst 1, 1) := by decide +kernel
theorem dX5_near_107 : decode cX5_near 107 = .ok (.ireturn, 1) := by decide +kernel
theorem dX5_near_108 : decode cX5_near 108 = .ok (.aload_n 0, 1) := by decide +kernel
theorem dX5_near_109 : decode cX5_near 109 = .ok (.dup, 1) := by decide +kernel
theorem dX5_near_110 : decode cX5_near 110 = .ok (.getfield 126, 3) := by decide +kernel
theorem dX5_near_113 : decode cX5_near 113 = .ok (.iconst 1, 1) := by decide +kernel
theorem dX5_near_114 : decode cX5_near 114 = .ok (.isub, 1) := by decide +kernel
theorem dX5_near_115 : decode cX5_near 115 = .ok (.putfield 126, 3) := by decide +kernel
theorem dX5_near_118 : decode cX5_near 118 = .ok (.iconst 0, 1) := by decide +kernel
theorem dX5_near_119 : decode cX5_near 119 = .ok (.ireturn, 1) := by decide +kernel
abbrev cX5_group : ByteArray := prog_7_method_46_code
def yX5_group : MethodName := ⟨RX5, "group", "(II)I"⟩
def wsX5_group : List Cond := .code yX5_group cX5_group 7 (some .int) :: bT
theorem dX5_group_0 : decode cX5_group 0 = .ok (.aload_n 0, 1) := by decide +kernel
theorem dX5_group_1 : decode cX5_group 1 = .ok (.aload_n 0, 1) := by decide +kernel
theorem dX5_group_2 : decode cX5_group 2 = .ok (.iload_n 1, 1) := by decide +kernel
theorem dX5_group_3 : decode cX5_group 3 = .ok (.invokevirtual 139, 3) := by decide +kernel
theorem dX5_group_6 : decode cX5_group 6 = .ok (.ifCond .eq (15), 3) := by decide +kernel
theorem dX5_group_9 : decode cX5_group 9 = .ok (.aload_n 0, 1) := by decide +kernel
theorem dX5_group_10 : decode cX5_group 10 = .ok (.iload_n 2, 1) := by decide +kernel
theorem dX5_group_11 : decode cX5_group 11 = .ok (.invokevirtual 139, 3) := by decide +kernel
theorem dX5_group_14 : decode cX5_group 14 = .ok (.ifCond .eq (7), 3) := by decide +kernel
theorem dX5_group_17 : decode cX5_group 17 = .ok (.iconst 0, 1) := by decide +kernel
theorem dX5_group_18 : decode cX5_group 18 = .ok (.goto (4), 3) := by decide +kernel
theorem dX5_group_21 : decode cX5_group 21 = .ok (.iconst 1, 1) := by decide +kernel
theorem dX5_group_22 : decode cX5_group 22 = .ok (.putfield 81, 3) := by decide +kernel
theorem dX5_group_25 : decode cX5_group 25 = .ok (.aload_n 0, 1) := by decide +kernel
theorem dX5_group_26 : decode cX5_group 26 = .ok (.getfield 81, 3) := by decide +kernel
theorem dX5_group_29 : decode cX5_group 29 = .ok (.ifCond .eq (5), 3) := by decide +kernel
theorem dX5_group_32 : decode cX5_group 32 = .ok (.iconst 0, 1) := by decide +kernel
theorem dX5_group_33 : decode cX5_group 33 = .ok (.ireturn, 1) := by decide +kernel
theorem dX5_group_34 : decode cX5_group 34 = .ok (.aload_n 0, 1) := by decide +kernel
theorem dX5_group_35 : decode cX5_group 35 = .ok (.getfield 27, 3) := by decide +kernel
theorem dX5_group_38 : decode cX5_group 38 = .ok (.iload_n 1, 1) := by decide +kernel
theorem dX5_group_39 : decode cX5_group 39 = .ok (.iaload, 1) := by decide +kernel
theorem dX5_group_40 : decode cX5_group 40 = .ok (.aload_n 0, 1) := by decide +kernel
theorem dX5_group_41 : decode cX5_group 41 = .ok (.getfield 27, 3) := by decide +kernel
theorem dX5_group_44 : decode cX5_group 44 = .ok (.iload_n 2, 1) := by decide +kernel
theorem dX5_group_45 : decode cX5_group 45 = .ok (.iaload, 1) := by decide +kernel
theorem dX5_group_46 : decode cX5_group 46 = .ok (.if_icmp .ge (12), 3) := by decide +kernel
theorem dX5_group_49 : decode cX5_group 49 = .ok (.aload_n 0, 1) := by decide +kernel
theorem dX5_group_50 : decode cX5_group 50 = .ok (.getfield 27, 3) := by decide +kernel
theorem dX5_group_53 : decode cX5_group 53 = .ok (.iload_n 1, 1) := by decide +kernel
theorem dX5_group_54 : decode cX5_group 54 = .ok (.iaload, 1) := by decide +kernel
theorem dX5_group_55 : decode cX5_group 55 = .ok (.goto (9), 3) := by decide +kernel
theorem dX5_group_58 : decode cX5_group 58 = .ok (.aload_n 0, 1) := by decide +kernel
theorem dX5_group_59 : decode cX5_group 59 = .ok (.getfield 27, 3) := by decide +kernel
theorem dX5_group_62 : decode cX5_group 62 = .ok (.iload_n 2, 1) := by decide +kernel
theorem dX5_group_63 : decode cX5_group 63 = .ok (.iaload, 1) := by decide +kernel
theorem dX5_group_64 : decode cX5_group 64 = .ok (.istore_n 3, 1) := by decide +kernel
theorem dX5_group_65 : decode cX5_group 65 = .ok (.aload_n 0, 1) := by decide +kernel
theorem dX5_group_66 : decode cX5_group 66 = .ok (.getfield 27, 3) := by decide +kernel
theorem dX5_group_69 : decode cX5_group 69 = .ok (.iload_n 1, 1) := by decide +kernel
theorem dX5_group_70 : decode cX5_group 70 = .ok (.iaload, 1) := by decide +kernel
theorem dX5_group_71 : decode cX5_group 71 = .ok (.aload_n 0, 1) := by decide +kernel
theorem dX5_group_72 : decode cX5_group 72 = .ok (.getfield 27, 3) := by decide +kernel
theorem dX5_group_75 : decode cX5_group 75 = .ok (.iload_n 2, 1) := by decide +kernel
theorem dX5_group_76 : decode cX5_group 76 = .ok (.iaload, 1) := by decide +kernel
theorem dX5_group_77 : decode cX5_group 77 = .ok (.if_icmp .ge (12), 3) := by decide +kernel
theorem dX5_group_80 : decode cX5_group 80 = .ok (.aload_n 0, 1) := by decide +kernel
theorem dX5_group_81 : decode cX5_group 81 = .ok (.getfield 27, 3) := by decide +kernel
theorem dX5_group_84 : decode cX5_group 84 = .ok (.iload_n 2, 1) := by decide +kernel
theorem dX5_group_85 : decode cX5_group 85 = .ok (.iaload, 1) := by decide +kernel
theorem dX5_group_86 : decode cX5_group 86 = .ok (.goto (9), 3) := by decide +kernel
theorem dX5_group_89 : decode cX5_group 89 = .ok (.aload_n 0, 1) := by decide +kernel
theorem dX5_group_90 : decode cX5_group 90 = .ok (.getfield 27, 3) := by decide +kernel
theorem dX5_group_93 : decode cX5_group 93 = .ok (.iload_n 1, 1) := by decide +kernel
theorem dX5_group_94 : decode cX5_group 94 = .ok (.iaload, 1) := by decide +kernel
theorem dX5_group_95 : decode cX5_group 95 = .ok (.istore 4, 2) := by decide +kernel
theorem dX5_group_97 : decode cX5_group 97 = .ok (.iconst 0, 1) := by decide +kernel
theorem dX5_group_98 : decode cX5_group 98 = .ok (.istore 5, 2) := by decide +kernel
theorem dX5_group_100 : decode cX5_group 100 = .ok (.iconst 0, 1) := by decide +kernel
theorem dX5_group_101 : decode cX5_group 101 = .ok (.istore 6, 2) := by decide +kernel
theorem dX5_group_103 : decode cX5_group 103 = .ok (.iload 6, 2) := by decide +kernel
theorem dX5_group_105 : decode cX5_group 105 = .ok (.aload_n 0, 1) := by decide +kernel
theorem dX5_group_106 : decode cX5_group 106 = .ok (.getfield 85, 3) := by decide +kernel
theorem dX5_group_109 : decode cX5_group 109 = .ok (.if_icmp .ge (50), 3) := by decide +kernel
theorem dX5_group_112 : decode cX5_group 112 = .ok (.aload_n 0, 1) := by decide +kernel
theorem dX5_group_113 : decode cX5_group 113 = .ok (.getfield 27, 3) := by decide +kernel
theorem dX5_group_116 : decode cX5_group 116 = .ok (.iload 6, 2) := by decide +kernel
theorem dX5_group_118 : decode cX5_group 118 = .ok (.iaload, 1) := by decide +kernel
theorem dX5_group_119 : decode cX5_group 119 = .ok (.iload 4, 2) := by decide +kernel
theorem dX5_group_121 : decode cX5_group 121 = .ok (.if_icmp .ne (11), 3) := by decide +kernel
theorem dX5_group_124 : decode cX5_group 124 = .ok (.aload_n 0, 1) := by decide +kernel
theorem dX5_group_125 : decode cX5_group 125 = .ok (.getfield 27, 3) := by decide +kernel
theorem dX5_group_128 : decode cX5_group 128 = .ok (.iload 6, 2) := by decide +kernel
theorem dX5_group_130 : decode cX5_group 130 = .ok (.iload_n 3, 1) := by decide +kernel
theorem dX5_group_131 : decode cX5_group 131 = .ok (.iastore, 1) := by decide +kernel
theorem dX5_group_132 : decode cX5_group 132 = .ok (.iload 5, 2) := by decide +kernel
theorem dX5_group_134 : decode cX5_group 134 = .ok (.aload_n 0, 1) := by decide +kernel
theorem dX5_group_135 : decode cX5_group 135 = .ok (.getfield 27, 3) := by decide +kernel
theorem dX5_group_138 : decode cX5_group 138 = .ok (.iload 6, 2) := by decide +kernel
theorem dX5_group_140 : decode cX5_group 140 = .ok (.iaload, 1) := by decide +kernel
theorem dX5_group_141 : decode cX5_group 141 = .ok (.iload_n 3, 1) := by decide +kernel
theorem dX5_group_142 : decode cX5_group 142 = .ok (.if_icmp .ne (7), 3) := by decide +kernel
theorem dX5_group_145 : decode cX5_group 145 = .ok (.iconst 1, 1) := by decide +kernel
theorem dX5_group_146 : decode cX5_group 146 = .ok (.goto (4), 3) := by decide +kernel
theorem dX5_group_149 : decode cX5_group 149 = .ok (.iconst 0, 1) := by decide +kernel
theorem dX5_group_150 : decode cX5_group 150 = .ok (.iadd, 1) := by decide +kernel
theorem dX5_group_151 : decode cX5_group 151 = .ok (.istore 5, 2) := by decide +kernel
theorem dX5_group_153 : decode cX5_group 153 = .ok (.iinc 6 1, 3) := by decide +kernel
theorem dX5_group_156 : decode cX5_group 156 = .ok (.goto (-53), 3) := by decide +kernel
theorem dX5_group_159 : decode cX5_group 159 = .ok (.iload 5, 2) := by decide +kernel
theorem dX5_group_161 : decode cX5_group 161 = .ok (.ireturn, 1) := by decide +kernel
abbrev cX5_height : ByteArray := prog_7_method_47_code
def yX5_height : MethodName := ⟨RX5, "height", "(IJ)Z"⟩
def wsX5_height : List Cond := .code yX5_height cX5_height 6 (some .boolean) :: bT
theorem dX5_height_0 : decode cX5_height 0 = .ok (.aload_n 0, 1) := by decide +kernel
theorem dX5_height_1 : decode cX5_height 1 = .ok (.aload_n 0, 1) := by decide +kernel
theorem dX5_height_2 : decode cX5_height 2 = .ok (.iload_n 1, 1) := by decide +kernel
theorem dX5_height_3 : decode cX5_height 3 = .ok (.invokevirtual 139, 3) := by decide +kernel
theorem dX5_height_6 : decode cX5_height 6 = .ok (.ifCond .ne (7), 3) := by decide +kernel
theorem dX5_height_9 : decode cX5_height 9 = .ok (.iconst 1, 1) := by decide +kernel
theorem dX5_height_10 : decode cX5_height 10 = .ok (.goto (22), 3) := by decide +kernel
theorem dX5_height_13 : decode cX5_height 13 = .ok (.lload_n 2, 1) := by decide +kernel
theorem dX5_height_14 : decode cX5_height 14 = .ok (.lconst 0, 1) := by decide +kernel
theorem dX5_height_15 : decode cX5_height 15 = .ok (.lcmp, 1) := by decide +kernel
theorem dX5_height_16 : decode cX5_height 16 = .ok (.ifCond .lt (11), 3) := by decide +kernel
theorem dX5_height_19 : decode cX5_height 19 = .ok (.lload_n 2, 1) := by decide +kernel
theorem dX5_height_20 : decode cX5_height 20 = .ok (.ldc2_w 69, 3) := by decide +kernel
theorem dX5_height_23 : decode cX5_height 23 = .ok (.lcmp, 1) := by decide +kernel
theorem dX5_height_24 : decode cX5_height 24 = .ok (.ifCond .le (7), 3) := by decide +kernel
theorem dX5_height_27 : decode cX5_height 27 = .ok (.iconst 2, 1) := by decide +kernel
theorem dX5_height_28 : decode cX5_height 28 = .ok (.goto (4), 3) := by decide +kernel
theorem dX5_height_31 : decode cX5_height 31 = .ok (.iconst 0, 1) := by decide +kernel
theorem dX5_height_32 : decode cX5_height 32 = .ok (.putfield 81, 3) := by decide +kernel
theorem dX5_height_35 : decode cX5_height 35 = .ok (.aload_n 0, 1) := by decide +kernel
theorem dX5_height_36 : decode cX5_height 36 = .ok (.getfield 81, 3) := by decide +kernel
theorem dX5_height_39 : decode cX5_height 39 = .ok (.ifCond .eq (5), 3) := by decide +kernel
theorem dX5_height_42 : decode cX5_height 42 = .ok (.iconst 0, 1) := by decide +kernel
theorem dX5_height_43 : decode cX5_height 43 = .ok (.ireturn, 1) := by decide +kernel
theorem dX5_height_44 : decode cX5_height 44 = .ok (.aload_n 0, 1) := by decide +kernel
theorem dX5_height_45 : decode cX5_height 45 = .ok (.getfield 20, 3) := by decide +kernel
theorem dX5_height_48 : decode cX5_height 48 = .ok (.iload_n 1, 1) := by decide +kernel
theorem dX5_height_49 : decode cX5_height 49 = .ok (.laload, 1) := by decide +kernel
theorem dX5_height_50 : decode cX5_height 50 = .ok (.lstore 4, 2) := by decide +kernel
theorem dX5_height_52 : decode cX5_height 52 = .ok (.aload_n 0, 1) := by decide +kernel
theorem dX5_height_53 : decode cX5_height 53 = .ok (.getfield 20, 3) := by decide +kernel
theorem dX5_height_56 : decode cX5_height 56 = .ok (.iload_n 1, 1) := by decide +kernel
theorem dX5_height_57 : decode cX5_height 57 = .ok (.lload_n 2, 1) := by decide +kernel
theorem dX5_height_58 : decode cX5_height 58 = .ok (.lastore, 1) := by decide +kernel
theorem dX5_height_59 : decode cX5_height 59 = .ok (.aload_n 0, 1) := by decide +kernel
theorem dX5_height_60 : decode cX5_height 60 = .ok (.iconst 0, 1) := by decide +kernel
theorem dX5_height_61 : decode cX5_height 61 = .ok (.invokevirtual 157, 3) := by decide +kernel
theorem dX5_height_64 : decode cX5_height 64 = .ok (.ifCond .eq (5), 3) := by decide +kernel
theorem dX5_height_67 : decode cX5_height 67 = .ok (.iconst 1, 1) := by decide +kernel
theorem dX5_height_68 : decode cX5_height 68 = .ok (.ireturn, 1) := by decide +kernel
theorem dX5_height_69 : decode cX5_height 69 = .ok (.aload_n 0, 1) := by decide +kernel
theorem dX5_height_70 : decode cX5_height 70 = .ok (.getfield 20, 3) := by decide +kernel
theorem dX5_height_73 : decode cX5_height 73 = .ok (.iload_n 1, 1) := by decide +kernel
theorem dX5_height_74 : decode cX5_height 74 = .ok (.lload 4, 2) := by decide +kernel
theorem dX5_height_76 : decode cX5_height 76 = .ok (.lastore, 1) := by decide +kernel
theorem dX5_height_77 : decode cX5_height 77 = .ok (.iconst 0, 1) := by decide +kernel
theorem dX5_height_78 : decode cX5_height 78 = .ok (.ireturn, 1) := by decide +kernel
abbrev cX5_keepOut : ByteArray := prog_7_method_48_code
def yX5_keepOut : MethodName := ⟨RX5, "keepOut", "(JJJJJ)Z"⟩
def wsX5_keepOut : List Cond := .code yX5_keepOut cX5_keepOut 12 (some .boolean) :: bT
theorem dX5_keepOut_0 : decode cX5_keepOut 0 = .ok (.aload_n 0, 1) := by decide +kernel
theorem dX5_keepOut_1 : decode cX5_keepOut 1 = .ok (.lload 9, 2) := by decide +kernel
theorem dX5_keepOut_3 : decode cX5_keepOut 3 = .ok (.lconst 0, 1) := by decide +kernel
theorem dX5_keepOut_4 : decode cX5_keepOut 4 = .ok (.lcmp, 1) := by decide +kernel
theorem dX5_keepOut_5 : decode cX5_keepOut 5 = .ok (.ifCond .ge (7), 3) := by decide +kernel
theorem dX5_keepOut_8 : decode cX5_keepOut 8 = .ok (.iconst 1, 1) := by decide +kernel
theorem dX5_keepOut_9 : decode cX5_keepOut 9 = .ok (.goto (4), 3) := by decide +kernel
theorem dX5_keepOut_12 : decode cX5_keepOut 12 = .ok (.iconst 0, 1) := by decide +kernel
theorem dX5_keepOut_13 : decode cX5_keepOut 13 = .ok (.putfield 81, 3) := by decide +kernel
theorem dX5_keepOut_16 : decode cX5_keepOut 16 = .ok (.aload_n 0, 1) := by decide +kernel
theorem dX5_keepOut_17 : decode cX5_keepOut 17 = .ok (.getfield 81, 3) := by decide +kernel
theorem dX5_keepOut_20 : decode cX5_keepOut 20 = .ok (.ifCond .ne (26), 3) := by decide +kernel
theorem dX5_keepOut_23 : decode cX5_keepOut 23 = .ok (.aload_n 0, 1) := by decide +kernel
theorem dX5_keepOut_24 : decode cX5_keepOut 24 = .ok (.getfield 109, 3) := by decide +kernel
theorem dX5_keepOut_27 : decode cX5_keepOut 27 = .ok (.bipush 10, 2) := by decide +kernel
theorem dX5_keepOut_29 : decode cX5_keepOut 29 = .ok (.if_icmp .eq (17), 3) := by decide +kernel
theorem dX5_keepOut_32 : decode cX5_keepOut 32 = .ok (.lload_n 1, 1) := by decide +kernel
theorem dX5_keepOut_33 : decode cX5_keepOut 33 = .ok (.lload 5, 2) := by decide +kernel
theorem dX5_keepOut_35 : decode cX5_keepOut 35 = .ok (.lcmp, 1) := by decide +kernel
theorem dX5_keepOut_36 : decode cX5_keepOut 36 = .ok (.ifCond .ge (10), 3) := by decide +kernel
theorem dX5_keepOut_39 : decode cX5_keepOut 39 = .ok (.lload_n 3, 1) := by decide +kernel
theorem dX5_keepOut_40 : decode cX5_keepOut 40 = .ok (.lload 7, 2) := by decide +kernel
theorem dX5_keepOut_42 : decode cX5_keepOut 42 = .ok (.lcmp, 1) := by decide +kernel
theorem dX5_keepOut_43 : decode cX5_keepOut 43 = .ok (.ifCond .lt (5), 3) := by decide +kernel
theorem dX5_keepOut_46 : decode cX5_keepOut 46 = .ok (.iconst 0, 1) := by decide +kernel
theorem dX5_keepOut_47 : decode cX5_keepOut 47 = .ok (.ireturn, 1) := by decide +kernel
theorem dX5_keepOut_48 : decode cX5_keepOut 48 = .ok (.iconst 5, 1) := by decide +kernel
theorem dX5_keepOut_49 : decode cX5_keepOut 49 = .ok (.aload_n 0, 1) := by decide +kernel
theorem dX5_keepOut_50 : decode cX5_keepOut 50 = .ok (.getfield 109, 3) := by decide +kernel
theorem dX5_keepOut_53 : decode cX5_keepOut 53 = .ok (.imul, 1) := by decide +kernel
theorem dX5_keepOut_54 : decode cX5_keepOut 54 = .ok (.istore 11, 2) := by decide +kernel
theorem dX5_keepOut_56 : decode cX5_keepOut 56 = .ok (.aload_n 0, 1) := by decide +kernel
theorem dX5_keepOut_57 : decode cX5_keepOut 57 = .ok (.getfield 42, 3) := by decide +kernel
theorem dX5_keepOut_60 : decode cX5_keepOut 60 = .ok (.iload 11, 2) := by decide +kernel
theorem dX5_keepOut_62 : decode cX5_keepOut 62 = .ok (.lload_n 1, 1) := by decide +kernel
theorem dX5_keepOut_63 : decode cX5_keepOut 63 = .ok (.lastore, 1) := by decide +kernel
theorem dX5_keepOut_64 : decode cX5_keepOut 64 = .ok (.aload_n 0, 1) := by decide +kernel
theorem dX5_keepOut_65 : decode cX5_keepOut 65 = .ok (.getfield 42, 3) := by decide +kernel
theorem dX5_keepOut_68 : decode cX5_keepOut 68 = .ok (.iload 11, 2) := by decide +kernel
theorem dX5_keepOut_70 : decode cX5_keepOut 70 = .ok (.iconst 1, 1) := by decide +kernel
theorem dX5_keepOut_71 : decode cX5_keepOut 71 = .ok (.iadd, 1) := by decide +kernel
theorem dX5_keepOut_72 : decode cX5_keepOut 72 = .ok (.lload_n 3, 1) := by decide +kernel
theorem dX5_keepOut_73 : decode cX5_keepOut 73 = .ok (.lastore, 1) := by decide +kernel
theorem dX5_keepOut_74 : decode cX5_keepOut 74 = .ok (.aload_n 0, 1) := by decide +kernel
theorem dX5_keepOut_75 : decode cX5_keepOut 75 = .ok (.getfield 42, 3) := by decide +kernel
theorem dX5_keepOut_78 : decode cX5_keepOut 78 = .ok (.iload 11, 2) := by decide +kernel
theorem dX5_keepOut_80 : decode cX5_keepOut 80 = .ok (.iconst 2, 1) := by decide +kernel
theorem dX5_keepOut_81 : decode cX5_keepOut 81 = .ok (.iadd, 1) := by decide +kernel
theorem dX5_keepOut_82 : decode cX5_keepOut 82 = .ok (.lload 5, 2) := by decide +kernel
theorem dX5_keepOut_84 : decode cX5_keepOut 84 = .ok (.lastore, 1) := by decide +kernel
theorem dX5_keepOut_85 : decode cX5_keepOut 85 = .ok (.aload_n 0, 1) := by decide +kernel
theorem dX5_keepOut_86 : decode cX5_keepOut 86 = .ok (.getfield 42, 3) := by decide +kernel
theorem dX5_keepOut_89 : decode cX5_keepOut 89 = .ok (.iload 11, 2) := by decide +kernel
theorem dX5_keepOut_91 : decode cX5_keepOut 91 = .ok (.iconst 3, 1) := by decide +kernel
theorem dX5_keepOut_92 : decode cX5_keepOut 92 = .ok (.iadd, 1) := by decide +kernel
theorem dX5_keepOut_93 : decode cX5_keepOut 93 = .ok (.lload 7, 2) := by decide +kernel
theorem dX5_keepOut_95 : decode cX5_keepOut 95 = .ok (.lastore, 1) := by decide +kernel
theorem dX5_keepOut_96 : decode cX5_keepOut 96 = .ok (.aload_n 0, 1) := by decide +kernel
theorem dX5_keepOut_97 : decode cX5_keepOut 97 = .ok (.getfield 42, 3) := by decide +kernel
theorem dX5_keepOut_100 : decode cX5_keepOut 100 = .ok (.iload 11, 2) := by decide +kernel
theorem dX5_keepOut_102 : decode cX5_keepOut 102 = .ok (.iconst 4, 1) := by decide +kernel
theorem dX5_keepOut_103 : decode cX5_keepOut 103 = .ok (.iadd, 1) := by decide +kernel
theorem dX5_keepOut_104 : decode cX5_keepOut 104 = .ok (.lload 9, 2) := by decide +kernel
theorem dX5_keepOut_106 : decode cX5_keepOut 106 = .ok (.lastore, 1) := by decide +kernel
theorem dX5_keepOut_107 : decode cX5_keepOut 107 = .ok (.aload_n 0, 1) := by decide +kernel
theorem dX5_keepOut_108 : decode cX5_keepOut 108 = .ok (.dup, 1) := by decide +kernel
theorem dX5_keepOut_109 : decode cX5_keepOut 109 = .ok (.getfield 109, 3) := by decide +kernel
theorem dX5_keepOut_112 : decode cX5_keepOut 112 = .ok (.iconst 1, 1) := by decide +kernel
theorem dX5_keepOut_113 : decode cX5_keepOut 113 = .ok (.iadd, 1) := by decide +kernel
theorem dX5_keepOut_114 : decode cX5_keepOut 114 = .ok (.putfield 109, 3) := by decide +kernel
theorem dX5_keepOut_117 : decode cX5_keepOut 117 = .ok (.aload_n 0, 1) := by decide +kernel
theorem dX5_keepOut_118 : decode cX5_keepOut 118 = .ok (.iconst 0, 1) := by decide +kernel
theorem dX5_keepOut_119 : decode cX5_keepOut 119 = .ok (.invokevirtual 157, 3) := by decide +kernel
theorem dX5_keepOut_122 : decode cX5_keepOut 122 = .ok (.ifCond .eq (5), 3) := by decide +kernel
theorem dX5_keepOut_125 : decode cX5_keepOut 125 = .ok (.iconst 1, 1) := by decide +kernel
theorem dX5_keepOut_126 : decode cX5_keepOut 126 = .ok (.ireturn, 1) := by decide +kernel
theorem dX5_keepOut_127 : decode cX5_keepOut 127 = .ok (.aload_n 0, 1) := by decide +kernel
theorem dX5_keepOut_128 : decode cX5_keepOut 128 = .ok (.dup, 1) := by decide +kernel
theorem dX5_keepOut_129 : decode cX5_keepOut 129 = .ok (.getfield 109, 3) := by decide +kernel
theorem dX5_keepOut_132 : decode cX5_keepOut 132 = .ok (.iconst 1, 1) := by decide +kernel
theorem dX5_keepOut_133 : decode cX5_keepOut 133 = .ok (.isub, 1) := by decide +kernel
theorem dX5_keepOut_134 : decode cX5_keepOut 134 = .ok (.putfield 109, 3) := by decide +kernel
theorem dX5_keepOut_137 : decode cX5_keepOut 137 = .ok (.iconst 0, 1) := by decide +kernel
theorem dX5_keepOut_138 : decode cX5_keepOut 138 = .ok (.ireturn, 1) := by decide +kernel
theorem flX4_44 : Cond.fieldLink RX4 44 "BoardMoves" "best" "LBoardMoves$Placement;" ∈ bT := (mB 195 (by decide +kernel))
theorem flX4_139 : Cond.fieldLink RX4 139 "BoardMoves$Wiring" "nets" "I" ∈ bT := (mB 124 (by decide +kernel))
theorem flX4_185 : Cond.fieldLink RX4 185 "BoardMoves$Parts" "lowest" "[I" ∈ bT := (mB 45 (by decide +kernel))
theorem flX4_188 : Cond.fieldLink RX4 188 "BoardMoves$Parts" "tall" "[J" ∈ bT := (mB 41 (by decide +kernel))
theorem flX4_235 : Cond.fieldLink RX4 235 "BoardMoves$Parts" "side" "[I" ∈ bT := (mB 38 (by decide +kernel))
theorem flX5_81 : Cond.fieldLink RX5 81 "BoardMovesModel" "thrown" "I" ∈ bT := (mB 620 (by decide +kernel))
theorem clX4_127 : Cond.constantLong RX4 127 9223372036854775807 ∈ bT := (mB 435 (by decide +kernel))
theorem clX4_193 : Cond.constantLong RX4 193 2000 ∈ bT := (mB 532 (by decide +kernel))
theorem clX4_200 : Cond.constantLong RX4 200 8 ∈ bT := (mB 534 (by decide +kernel))
theorem clX5_69 : Cond.constantLong RX5 69 65536 ∈ bT := (mB 619 (by decide +kernel))
theorem clX5_203 : Cond.constantLong RX5 203 2000 ∈ bT := (mB 858 (by decide +kernel))
theorem clX5_213 : Cond.constantLong RX5 213 8 ∈ bT := (mB 871 (by decide +kernel))
theorem wcX4_isLength : Cond.code yX4_isLength cX4_isLength 2 (some .boolean) ∈ bT := (mB 313 (by decide +kernel))
theorem gsX4_71 {a : Cond} : GoodIn (a :: bT) (wsS RX4 71 yX4_isLength wsX4_isLength) := gdS wcX4_isLength (mB 311 (by decide +kernel)) (mB 312 (by decide +kernel)) (mB 1 (by decide +kernel))
theorem wcX5_isSize : Cond.code yX5_isSize cX5_isSize 2 (some .boolean) ∈ bT := (mB 711 (by decide +kernel))
theorem gsX5_88 {a : Cond} : GoodIn (a :: bT) (wsS RX5 88 yX5_isSize wsX5_isSize) := gdS wcX5_isSize (mB 709 (by decide +kernel)) (mB 710 (by decide +kernel)) (mB 7 (by decide +kernel))
theorem wcX5_size : Cond.code yX5_size cX5_size 2 (some .long) ∈ bT := (mB 825 (by decide +kernel))
theorem gsX5_188 {a : Cond} : GoodIn (a :: bT) (wsS RX5 188 yX5_size wsX5_size) := gdS wcX5_size (mB 823 (by decide +kernel)) (mB 824 (by decide +kernel)) (mB 7 (by decide +kernel))
theorem wcX4_needPart : Cond.code yX4_needPart cX4_needPart 2 none ∈ bT := (mB 397 (by decide +kernel))
theorem gvX4_86 {a : Cond} : GoodIn (a :: bT) (wsV RX4 86 RX4 yX4_needPart wsX4_needPart) := gdV wcX4_needPart (mB 394 (by decide +kernel)) (mB 396 (by decide +kernel)) (mS (by decide +kernel)) (mB 1 (by decide +kernel))
theorem wcX2_place : Cond.code yX2_place cX2_place 7 none ∈ bT := (mB 434 (by decide +kernel))
theorem gvX4_123 {a : Cond} : GoodIn (a :: bT) (wsV RX4 123 RX2 yX2_place wsX2_place) := gdV wcX2_place (mB 431 (by decide +kernel)) (mB 432 (by decide +kernel)) (mB 433 (by decide +kernel)) (mB 5 (by decide +kernel))
theorem wcX3_addPin : Cond.code yX3_addPin cX3_addPin 7 (some .boolean) ∈ bT := (mB 467 (by decide +kernel))
theorem gvX4_156 {a : Cond} : GoodIn (a :: bT) (wsV RX4 156 RX3 yX3_addPin wsX3_addPin) := gdV wcX3_addPin (mB 464 (by decide +kernel)) (mB 465 (by decide +kernel)) (mB 466 (by decide +kernel)) (mB 4 (by decide +kernel))
theorem wcX4_clearTheWay : Cond.code yX4_clearTheWay cX4_clearTheWay 12 (some .boolean) ∈ bT := (mB 498 (by decide +kernel))
theorem gvX4_173 {a : Cond} : GoodIn (a :: bT) (wsV RX4 173 RX4 yX4_clearTheWay wsX4_clearTheWay) := gdV wcX4_clearTheWay (mB 495 (by decide +kernel)) (mB 497 (by decide +kernel)) (mS (by decide +kernel)) (mB 1 (by decide +kernel))
theorem wcX4_step : Cond.code yX4_step cX4_step 13 (some .boolean) ∈ bT := (mB 538 (by decide +kernel))
theorem gvX4_202 {a : Cond} : GoodIn (a :: bT) (wsV RX4 202 RX4 yX4_step wsX4_step) := gdV wcX4_step (mB 535 (by decide +kernel)) (mB 537 (by decide +kernel)) (mS (by decide +kernel)) (mB 1 (by decide +kernel))
theorem wcX1_join : Cond.code yX1_join cX1_join 8 (some .int) ∈ bT := (mB 578 (by decide +kernel))
theorem gvX4_214 {a : Cond} : GoodIn (a :: bT) (wsV RX4 214 RX1 yX1_join wsX1_join) := gdV wcX1_join (mB 575 (by decide +kernel)) (mB 576 (by decide +kernel)) (mB 577 (by decide +kernel)) (mB 2 (by decide +kernel))
theorem wcX5_isPart : Cond.code yX5_isPart cX5_isPart 2 (some .boolean) ∈ bT := (mB 719 (by decide +kernel))
theorem gvX5_139 {a : Cond} : GoodIn (a :: bT) (wsV RX5 139 RX5 yX5_isPart wsX5_isPart) := gdV wcX5_isPart (mB 716 (by decide +kernel)) (mB 718 (by decide +kernel)) (mS (by decide +kernel)) (mB 7 (by decide +kernel))
theorem wcX5_begin : Cond.code yX5_begin cX5_begin 2 none ∈ bT := (mB 723 (by decide +kernel))
theorem gvX5_143 {a : Cond} : GoodIn (a :: bT) (wsV RX5 143 RX5 yX5_begin wsX5_begin) := gdV wcX5_begin (mB 720 (by decide +kernel)) (mB 722 (by decide +kernel)) (mS (by decide +kernel)) (mB 7 (by decide +kernel))
theorem wcX5_movesLocked : Cond.code yX5_movesLocked cX5_movesLocked 3 (some .boolean) ∈ bT := (mB 747 (by decide +kernel))
theorem gvX5_153 {a : Cond} : GoodIn (a :: bT) (wsV RX5 153 RX5 yX5_movesLocked wsX5_movesLocked) := gdV wcX5_movesLocked (mB 744 (by decide +kernel)) (mB 746 (by decide +kernel)) (mS (by decide +kernel)) (mB 7 (by decide +kernel))
theorem wcX5_isWell : Cond.code yX5_isWell cX5_isWell 4 (some .boolean) ∈ bT := (mB 755 (by decide +kernel))
theorem gvX5_157 {a : Cond} : GoodIn (a :: bT) (wsV RX5 157 RX5 yX5_isWell wsX5_isWell) := gdV wcX5_isWell (mB 752 (by decide +kernel)) (mB 754 (by decide +kernel)) (mS (by decide +kernel)) (mB 7 (by decide +kernel))
theorem wcX5_wireOf : Cond.code yX5_wireOf cX5_wireOf 5 (some .long) ∈ bT := (mB 806 (by decide +kernel))
theorem gvX5_173 {a : Cond} : GoodIn (a :: bT) (wsV RX5 173 RX5 yX5_wireOf wsX5_wireOf) := gdV wcX5_wireOf (mB 803 (by decide +kernel)) (mB 805 (by decide +kernel)) (mS (by decide +kernel)) (mB 7 (by decide +kernel))
theorem wcX5_shove : Cond.code yX5_shove cX5_shove 8 (some .boolean) ∈ bT := (mB 829 (by decide +kernel))
theorem gvX5_192 {a : Cond} : GoodIn (a :: bT) (wsV RX5 192 RX5 yX5_shove wsX5_shove) := gdV wcX5_shove (mB 826 (by decide +kernel)) (mB 828 (by decide +kernel)) (mS (by decide +kernel)) (mB 7 (by decide +kernel))
theorem wcX5_draw : Cond.code yX5_draw cX5_draw 1 (some .long) ∈ bT := (mB 862 (by decide +kernel))
theorem gvX5_205 {a : Cond} : GoodIn (a :: bT) (wsV RX5 205 RX5 yX5_draw wsX5_draw) := gdV wcX5_draw (mB 859 (by decide +kernel)) (mB 861 (by decide +kernel)) (mS (by decide +kernel)) (mB 7 (by decide +kernel))
theorem wcX5_step : Cond.code yX5_step cX5_step 15 none ∈ bT := (mB 868 (by decide +kernel))
theorem gvX5_209 {a : Cond} : GoodIn (a :: bT) (wsV RX5 209 RX5 yX5_step wsX5_step) := gdV wcX5_step (mB 865 (by decide +kernel)) (mB 867 (by decide +kernel)) (mS (by decide +kernel)) (mB 7 (by decide +kernel))
theorem wcX5_changes : Cond.code yX5_changes cX5_changes 3 (some .boolean) ∈ bT := (mB 875 (by decide +kernel))
theorem gvX5_215 {a : Cond} : GoodIn (a :: bT) (wsV RX5 215 RX5 yX5_changes wsX5_changes) := gdV wcX5_changes (mB 872 (by decide +kernel)) (mB 874 (by decide +kernel)) (mS (by decide +kernel)) (mB 7 (by decide +kernel))
theorem hsX4_isLength : yX4_isLength.cls = RX4 ∧ yX4_isLength.cls ≠ "java/lang/invoke/MethodHandle" ∧ yX4_isLength.cls ≠ "java/lang/invoke/VarHandle" ∧ (parseMethodDescriptor yX4_isLength.desc).map (fun d => d.parameters.length) = some 1 := by decide +kernel
theorem hsX5_isSize : yX5_isSize.cls = RX5 ∧ yX5_isSize.cls ≠ "java/lang/invoke/MethodHandle" ∧ yX5_isSize.cls ≠ "java/lang/invoke/VarHandle" ∧ (parseMethodDescriptor yX5_isSize.desc).map (fun d => d.parameters.length) = some 1 := by decide +kernel
theorem hsX5_size : yX5_size.cls = RX5 ∧ yX5_size.cls ≠ "java/lang/invoke/MethodHandle" ∧ yX5_size.cls ≠ "java/lang/invoke/VarHandle" ∧ (parseMethodDescriptor yX5_size.desc).map (fun d => d.parameters.length) = some 1 := by decide +kernel
theorem hvX1_join : yX1_join.cls = RX1 ∧ yX1_join.cls ≠ "java/lang/invoke/MethodHandle" ∧ yX1_join.cls ≠ "java/lang/invoke/VarHandle" ∧ (parseMethodDescriptor yX1_join.desc).map (fun d => d.parameters.length) = some 2 := by decide +kernel
theorem hvX2_place : yX2_place.cls = RX2 ∧ yX2_place.cls ≠ "java/lang/invoke/MethodHandle" ∧ yX2_place.cls ≠ "java/lang/invoke/VarHandle" ∧ (parseMethodDescriptor yX2_place.desc).map (fun d => d.parameters.length) = some 4 := by decide +kernel
theorem hvX3_addPin : yX3_addPin.cls = RX3 ∧ yX3_addPin.cls ≠ "java/lang/invoke/MethodHandle" ∧ yX3_addPin.cls ≠ "java/lang/invoke/VarHandle" ∧ (parseMethodDescriptor yX3_addPin.desc).map (fun d => d.parameters.length) = some 4 := by decide +kernel
theorem hvX4_clearTheWay : yX4_clearTheWay.cls = RX4 ∧ yX4_clearTheWay.cls ≠ "java/lang/invoke/MethodHandle" ∧ yX4_clearTheWay.cls ≠ "java/lang/invoke/VarHandle" ∧ (parseMethodDescriptor yX4_clearTheWay.desc).map (fun d => d.parameters.length) = some 3 := by decide +kernel
theorem hvX4_needPart : yX4_needPart.cls = RX4 ∧ yX4_needPart.cls ≠ "java/lang/invoke/MethodHandle" ∧ yX4_needPart.cls ≠ "java/lang/invoke/VarHandle" ∧ (parseMethodDescriptor yX4_needPart.desc).map (fun d => d.parameters.length) = some 1 := by decide +kernel
theorem hvX4_step : yX4_step.cls = RX4 ∧ yX4_step.cls ≠ "java/lang/invoke/MethodHandle" ∧ yX4_step.cls ≠ "java/lang/invoke/VarHandle" ∧ (parseMethodDescriptor yX4_step.desc).map (fun d => d.parameters.length) = some 1 := by decide +kernel
theorem hvX5_begin : yX5_begin.cls = RX5 ∧ yX5_begin.cls ≠ "java/lang/invoke/MethodHandle" ∧ yX5_begin.cls ≠ "java/lang/invoke/VarHandle" ∧ (parseMethodDescriptor yX5_begin.desc).map (fun d => d.parameters.length) = some 0 := by decide +kernel
theorem hvX5_changes : yX5_changes.cls = RX5 ∧ yX5_changes.cls ≠ "java/lang/invoke/MethodHandle" ∧ yX5_changes.cls ≠ "java/lang/invoke/VarHandle" ∧ (parseMethodDescriptor yX5_changes.desc).map (fun d => d.parameters.length) = some 0 := by decide +kernel
theorem hvX5_draw : yX5_draw.cls = RX5 ∧ yX5_draw.cls ≠ "java/lang/invoke/MethodHandle" ∧ yX5_draw.cls ≠ "java/lang/invoke/VarHandle" ∧ (parseMethodDescriptor yX5_draw.desc).map (fun d => d.parameters.length) = some 0 := by decide +kernel
theorem hvX5_isPart : yX5_isPart.cls = RX5 ∧ yX5_isPart.cls ≠ "java/lang/invoke/MethodHandle" ∧ yX5_isPart.cls ≠ "java/lang/invoke/VarHandle" ∧ (parseMethodDescriptor yX5_isPart.desc).map (fun d => d.parameters.length) = some 1 := by decide +kernel
theorem hvX5_isWell : yX5_isWell.cls = RX5 ∧ yX5_isWell.cls ≠ "java/lang/invoke/MethodHandle" ∧ yX5_isWell.cls ≠ "java/lang/invoke/VarHandle" ∧ (parseMethodDescriptor yX5_isWell.desc).map (fun d => d.parameters.length) = some 1 := by decide +kernel
theorem hvX5_movesLocked : yX5_movesLocked.cls = RX5 ∧ yX5_movesLocked.cls ≠ "java/lang/invoke/MethodHandle" ∧ yX5_movesLocked.cls ≠ "java/lang/invoke/VarHandle" ∧ (parseMethodDescriptor yX5_movesLocked.desc).map (fun d => d.parameters.length) = some 0 := by decide +kernel
theorem hvX5_shove : yX5_shove.cls = RX5 ∧ yX5_shove.cls ≠ "java/lang/invoke/MethodHandle" ∧ yX5_shove.cls ≠ "java/lang/invoke/VarHandle" ∧ (parseMethodDescriptor yX5_shove.desc).map (fun d => d.parameters.length) = some 2 := by decide +kernel
theorem hvX5_step : yX5_step.cls = RX5 ∧ yX5_step.cls ≠ "java/lang/invoke/MethodHandle" ∧ yX5_step.cls ≠ "java/lang/invoke/VarHandle" ∧ (parseMethodDescriptor yX5_step.desc).map (fun d => d.parameters.length) = some 4 := by decide +kernel
theorem hvX5_wireOf : yX5_wireOf.cls = RX5 ∧ yX5_wireOf.cls ≠ "java/lang/invoke/MethodHandle" ∧ yX5_wireOf.cls ≠ "java/lang/invoke/VarHandle" ∧ (parseMethodDescriptor yX5_wireOf.desc).map (fun d => d.parameters.length) = some 1 := by decide +kernel
