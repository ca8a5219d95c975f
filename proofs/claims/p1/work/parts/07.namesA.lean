abbrev cX4_init : ByteArray := prog_1_method_1_code
def yX4_init : MethodName := ⟨RX4, "<init>", "(JJJ)V"⟩
def wsX4_init : List Cond := .code yX4_init cX4_init 7 none :: bT
theorem dX4_init_0 : decode cX4_init 0 = .ok (.aload_n 0, 1) := by decide +kernel
theorem dX4_init_1 : decode cX4_init 1 = .ok (.invokespecial 3, 3) := by decide +kernel
theorem dX4_init_4 : decode cX4_init 4 = .ok (.aload_n 0, 1) := by decide +kernel
theorem dX4_init_5 : decode cX4_init 5 = .ok (.new 9, 3) := by decide +kernel
theorem dX4_init_8 : decode cX4_init 8 = .ok (.dup, 1) := by decide +kernel
theorem dX4_init_9 : decode cX4_init 9 = .ok (.invokespecial 11, 3) := by decide +kernel
theorem dX4_init_12 : decode cX4_init 12 = .ok (.putfield 12, 3) := by decide +kernel
theorem dX4_init_15 : decode cX4_init 15 = .ok (.aload_n 0, 1) := by decide +kernel
theorem dX4_init_16 : decode cX4_init 16 = .ok (.new 18, 3) := by decide +kernel
theorem dX4_init_19 : decode cX4_init 19 = .ok (.dup, 1) := by decide +kernel
theorem dX4_init_20 : decode cX4_init 20 = .ok (.aload_n 0, 1) := by decide +kernel
theorem dX4_init_21 : decode cX4_init 21 = .ok (.getfield 12, 3) := by decide +kernel
theorem dX4_init_24 : decode cX4_init 24 = .ok (.invokespecial 20, 3) := by decide +kernel
theorem dX4_init_27 : decode cX4_init 27 = .ok (.putfield 23, 3) := by decide +kernel
theorem dX4_init_30 : decode cX4_init 30 = .ok (.aload_n 0, 1) := by decide +kernel
theorem dX4_init_31 : decode cX4_init 31 = .ok (.new 27, 3) := by decide +kernel
theorem dX4_init_34 : decode cX4_init 34 = .ok (.dup, 1) := by decide +kernel
theorem dX4_init_35 : decode cX4_init 35 = .ok (.aload_n 0, 1) := by decide +kernel
theorem dX4_init_36 : decode cX4_init 36 = .ok (.getfield 12, 3) := by decide +kernel
theorem dX4_init_39 : decode cX4_init 39 = .ok (.invokespecial 29, 3) := by decide +kernel
theorem dX4_init_42 : decode cX4_init 42 = .ok (.putfield 30, 3) := by decide +kernel
theorem dX4_init_45 : decode cX4_init 45 = .ok (.aload_n 0, 1) := by decide +kernel
theorem dX4_init_46 : decode cX4_init 46 = .ok (.new 34, 3) := by decide +kernel
theorem dX4_init_49 : decode cX4_init 49 = .ok (.dup, 1) := by decide +kernel
theorem dX4_init_50 : decode cX4_init 50 = .ok (.aload_n 0, 1) := by decide +kernel
theorem dX4_init_51 : decode cX4_init 51 = .ok (.getfield 12, 3) := by decide +kernel
theorem dX4_init_54 : decode cX4_init 54 = .ok (.invokespecial 36, 3) := by decide +kernel
theorem dX4_init_57 : decode cX4_init 57 = .ok (.putfield 37, 3) := by decide +kernel
theorem dX4_init_60 : decode cX4_init 60 = .ok (.aload_n 0, 1) := by decide +kernel
theorem dX4_init_61 : decode cX4_init 61 = .ok (.new 34, 3) := by decide +kernel
theorem dX4_init_64 : decode cX4_init 64 = .ok (.dup, 1) := by decide +kernel
theorem dX4_init_65 : decode cX4_init 65 = .ok (.aload_n 0, 1) := by decide +kernel
theorem dX4_init_66 : decode cX4_init 66 = .ok (.getfield 12, 3) := by decide +kernel
theorem dX4_init_69 : decode cX4_init 69 = .ok (.invokespecial 36, 3) := by decide +kernel
theorem dX4_init_72 : decode cX4_init 72 = .ok (.putfield 41, 3) := by decide +kernel
theorem dX4_init_75 : decode cX4_init 75 = .ok (.aload_n 0, 1) := by decide +kernel
theorem dX4_init_76 : decode cX4_init 76 = .ok (.new 34, 3) := by decide +kernel
theorem dX4_init_79 : decode cX4_init 79 = .ok (.dup, 1) := by decide +kernel
theorem dX4_init_80 : decode cX4_init 80 = .ok (.aload_n 0, 1) := by decide +kernel
theorem dX4_init_81 : decode cX4_init 81 = .ok (.getfield 12, 3) := by decide +kernel
theorem dX4_init_84 : decode cX4_init 84 = .ok (.invokespecial 36, 3) := by decide +kernel
theorem dX4_init_87 : decode cX4_init 87 = .ok (.putfield 44, 3) := by decide +kernel
theorem dX4_init_90 : decode cX4_init 90 = .ok (.aload_n 0, 1) := by decide +kernel
theorem dX4_init_91 : decode cX4_init 91 = .ok (.lconst 0, 1) := by decide +kernel
theorem dX4_init_92 : decode cX4_init 92 = .ok (.putfield 47, 3) := by decide +kernel
theorem dX4_init_95 : decode cX4_init 95 = .ok (.aload_n 0, 1) := by decide +kernel
theorem dX4_init_96 : decode cX4_init 96 = .ok (.lconst 1, 1) := by decide +kernel
theorem dX4_init_97 : decode cX4_init 97 = .ok (.ldc2_w 51, 3) := by decide +kernel
theorem dX4_init_100 : decode cX4_init 100 = .ok (.lload_n 1, 1) := by decide +kernel
theorem dX4_init_101 : decode cX4_init 101 = .ok (.invokestatic 53, 3) := by decide +kernel
theorem dX4_init_104 : decode cX4_init 104 = .ok (.invokestatic 59, 3) := by decide +kernel
theorem dX4_init_107 : decode cX4_init 107 = .ok (.putfield 62, 3) := by decide +kernel
theorem dX4_init_110 : decode cX4_init 110 = .ok (.aload_n 0, 1) := by decide +kernel
theorem dX4_init_111 : decode cX4_init 111 = .ok (.lconst 1, 1) := by decide +kernel
theorem dX4_init_112 : decode cX4_init 112 = .ok (.ldc2_w 51, 3) := by decide +kernel
theorem dX4_init_115 : decode cX4_init 115 = .ok (.lload_n 3, 1) := by decide +kernel
theorem dX4_init_116 : decode cX4_init 116 = .ok (.invokestatic 53, 3) := by decide +kernel
theorem dX4_init_119 : decode cX4_init 119 = .ok (.invokestatic 59, 3) := by decide +kernel
theorem dX4_init_122 : decode cX4_init 122 = .ok (.putfield 65, 3) := by decide +kernel
theorem dX4_init_125 : decode cX4_init 125 = .ok (.aload_n 0, 1) := by decide +kernel
theorem dX4_init_126 : decode cX4_init 126 = .ok (.lload 5, 2) := by decide +kernel
theorem dX4_init_128 : decode cX4_init 128 = .ok (.putfield 68, 3) := by decide +kernel
theorem dX4_init_131 : decode cX4_init 131 = .ok (.return_, 1) := by decide +kernel
abbrev cX4_part : ByteArray := prog_1_method_2_code
def yX4_part : MethodName := ⟨RX4, "part", "(JJI)I"⟩
def wsX4_part : List Cond := .code yX4_part cX4_part 6 (some .int) :: bT
theorem dX4_part_0 : decode cX4_part 0 = .ok (.lload_n 1, 1) := by decide +kernel
theorem dX4_part_1 : decode cX4_part 1 = .ok (.invokestatic 71, 3) := by decide +kernel
theorem dX4_part_4 : decode cX4_part 4 = .ok (.ifCond .eq (21), 3) := by decide +kernel
theorem dX4_part_7 : decode cX4_part 7 = .ok (.lload_n 3, 1) := by decide +kernel
theorem dX4_part_8 : decode cX4_part 8 = .ok (.invokestatic 71, 3) := by decide +kernel
theorem dX4_part_11 : decode cX4_part 11 = .ok (.ifCond .eq (14), 3) := by decide +kernel
theorem dX4_part_14 : decode cX4_part 14 = .ok (.iload 5, 2) := by decide +kernel
theorem dX4_part_16 : decode cX4_part 16 = .ok (.ifCond .lt (9), 3) := by decide +kernel
theorem dX4_part_19 : decode cX4_part 19 = .ok (.iload 5, 2) := by decide +kernel
theorem dX4_part_21 : decode cX4_part 21 = .ok (.iconst 1, 1) := by decide +kernel
theorem dX4_part_22 : decode cX4_part 22 = .ok (.if_icmp .le (13), 3) := by decide +kernel
theorem dX4_part_25 : decode cX4_part 25 = .ok (.new 75, 3) := by decide +kernel
theorem dX4_part_28 : decode cX4_part 28 = .ok (.dup, 1) := by decide +kernel
theorem dX4_part_29 : decode cX4_part 29 = .ok (.ldc 77, 2) := by decide +kernel
theorem dX4_part_31 : decode cX4_part 31 = .ok (.invokespecial 79, 3) := by decide +kernel
theorem dX4_part_34 : decode cX4_part 34 = .ok (.athrow, 1) := by decide +kernel
theorem dX4_part_35 : decode cX4_part 35 = .ok (.aload_n 0, 1) := by decide +kernel
theorem dX4_part_36 : decode cX4_part 36 = .ok (.getfield 12, 3) := by decide +kernel
theorem dX4_part_39 : decode cX4_part 39 = .ok (.lload_n 1, 1) := by decide +kernel
theorem dX4_part_40 : decode cX4_part 40 = .ok (.lload_n 3, 1) := by decide +kernel
theorem dX4_part_41 : decode cX4_part 41 = .ok (.iload 5, 2) := by decide +kernel
theorem dX4_part_43 : decode cX4_part 43 = .ok (.invokevirtual 82, 3) := by decide +kernel
theorem dX4_part_46 : decode cX4_part 46 = .ok (.ireturn, 1) := by decide +kernel
abbrev cX4_put : ByteArray := prog_1_method_3_code
def yX4_put : MethodName := ⟨RX4, "put", "(IJJI)Z"⟩
def wsX4_put : List Cond := .code yX4_put cX4_put 7 (some .boolean) :: bT
theorem dX4_put_0 : decode cX4_put 0 = .ok (.aload_n 0, 1) := by decide +kernel
theorem dX4_put_1 : decode cX4_put 1 = .ok (.iload_n 1, 1) := by decide +kernel
theorem dX4_put_2 : decode cX4_put 2 = .ok (.invokevirtual 86, 3) := by decide +kernel
abbrev cX4_lock : ByteArray := prog_1_method_4_code
def yX4_lock : MethodName := ⟨RX4, "lock", "(IZ)Z"⟩
def wsX4_lock : List Cond := .code yX4_lock cX4_lock 4 (some .boolean) :: bT
theorem dX4_lock_0 : decode cX4_lock 0 = .ok (.aload_n 0, 1) := by decide +kernel
theorem dX4_lock_1 : decode cX4_lock 1 = .ok (.iload_n 1, 1) := by decide +kernel
theorem dX4_lock_2 : decode cX4_lock 2 = .ok (.invokevirtual 86, 3) := by decide +kernel
abbrev cX4_net : ByteArray := prog_1_method_5_code
def yX4_net : MethodName := ⟨RX4, "net", "()I"⟩
def wsX4_net : List Cond := .code yX4_net cX4_net 1 (some .int) :: bT
theorem dX4_net_0 : decode cX4_net 0 = .ok (.aload_n 0, 1) := by decide +kernel
theorem dX4_net_1 : decode cX4_net 1 = .ok (.getfield 30, 3) := by decide +kernel
theorem dX4_net_4 : decode cX4_net 4 = .ok (.invokevirtual 135, 3) := by decide +kernel
theorem dX4_net_7 : decode cX4_net 7 = .ok (.ireturn, 1) := by decide +kernel
abbrev cX4_pin : ByteArray := prog_1_method_6_code
def yX4_pin : MethodName := ⟨RX4, "pin", "(IIJJ)Z"⟩
def wsX4_pin : List Cond := .code yX4_pin cX4_pin 7 (some .boolean) :: bT
theorem dX4_pin_0 : decode cX4_pin 0 = .ok (.iload_n 1, 1) := by decide +kernel
theorem dX4_pin_1 : decode cX4_pin 1 = .ok (.ifCond .lt (14), 3) := by decide +kernel
theorem dX4_pin_4 : decode cX4_pin 4 = .ok (.iload_n 1, 1) := by decide +kernel
theorem dX4_pin_5 : decode cX4_pin 5 = .ok (.aload_n 0, 1) := by decide +kernel
theorem dX4_pin_6 : decode cX4_pin 6 = .ok (.getfield 30, 3) := by decide +kernel
theorem dX4_pin_9 : decode cX4_pin 9 = .ok (.getfield 139, 3) := by decide +kernel
theorem dX4_pin_12 : decode cX4_pin 12 = .ok (.if_icmp .lt (13), 3) := by decide +kernel
theorem dX4_pin_15 : decode cX4_pin 15 = .ok (.new 143, 3) := by decide +kernel
theorem dX4_pin_18 : decode cX4_pin 18 = .ok (.dup, 1) := by decide +kernel
theorem dX4_pin_19 : decode cX4_pin 19 = .ok (.ldc 145, 2) := by decide +kernel
theorem dX4_pin_21 : decode cX4_pin 21 = .ok (.invokespecial 147, 3) := by decide +kernel
theorem dX4_pin_24 : decode cX4_pin 24 = .ok (.athrow, 1) := by decide +kernel
abbrev cX4_push : ByteArray := prog_1_method_7_code
def yX4_push : MethodName := ⟨RX4, "push", "(IJJ)I"⟩
def wsX4_push : List Cond := .code yX4_push cX4_push 13 (some .int) :: bT
theorem dX4_push_0 : decode cX4_push 0 = .ok (.aload_n 0, 1) := by decide +kernel
theorem dX4_push_1 : decode cX4_push 1 = .ok (.iload_n 1, 1) := by decide +kernel
theorem dX4_push_2 : decode cX4_push 2 = .ok (.invokevirtual 86, 3) := by decide +kernel
abbrev cX4_at : ByteArray := prog_1_method_8_code
def yX4_at : MethodName := ⟨RX4, "at", "(II)J"⟩
def wsX4_at : List Cond := .code yX4_at cX4_at 3 (some .long) :: bT
theorem dX4_at_0 : decode cX4_at 0 = .ok (.aload_n 0, 1) := by decide +kernel
theorem dX4_at_1 : decode cX4_at 1 = .ok (.iload_n 1, 1) := by decide +kernel
theorem dX4_at_2 : decode cX4_at 2 = .ok (.invokevirtual 86, 3) := by decide +kernel
abbrev cX4_run : ByteArray := prog_1_method_9_code
def yX4_run : MethodName := ⟨RX4, "run", "(J)I"⟩
def wsX4_run : List Cond := .code yX4_run cX4_run 10 (some .int) :: bT
theorem dX4_run_0 : decode cX4_run 0 = .ok (.lload_n 1, 1) := by decide +kernel
theorem dX4_run_1 : decode cX4_run 1 = .ok (.lconst 0, 1) := by decide +kernel
theorem dX4_run_2 : decode cX4_run 2 = .ok (.lcmp, 1) := by decide +kernel
theorem dX4_run_3 : decode cX4_run 3 = .ok (.ifCond .lt (11), 3) := by decide +kernel
theorem dX4_run_6 : decode cX4_run 6 = .ok (.lload_n 1, 1) := by decide +kernel
theorem dX4_run_7 : decode cX4_run 7 = .ok (.ldc2_w 193, 3) := by decide +kernel
theorem dX4_run_10 : decode cX4_run 10 = .ok (.lcmp, 1) := by decide +kernel
theorem dX4_run_11 : decode cX4_run 11 = .ok (.ifCond .le (13), 3) := by decide +kernel
theorem dX4_run_14 : decode cX4_run 14 = .ok (.new 75, 3) := by decide +kernel
theorem dX4_run_17 : decode cX4_run 17 = .ok (.dup, 1) := by decide +kernel
theorem dX4_run_18 : decode cX4_run 18 = .ok (.ldc 195, 2) := by decide +kernel
theorem dX4_run_20 : decode cX4_run 20 = .ok (.invokespecial 79, 3) := by decide +kernel
theorem dX4_run_23 : decode cX4_run 23 = .ok (.athrow, 1) := by decide +kernel
theorem dX4_run_24 : decode cX4_run 24 = .ok (.aload_n 0, 1) := by decide +kernel
theorem dX4_run_25 : decode cX4_run 25 = .ok (.getfield 12, 3) := by decide +kernel
theorem dX4_run_28 : decode cX4_run 28 = .ok (.getfield 197, 3) := by decide +kernel
theorem dX4_run_31 : decode cX4_run 31 = .ok (.ifCond .eq (9), 3) := by decide +kernel
theorem dX4_run_40 : decode cX4_run 40 = .ok (.iconst 0, 1) := by decide +kernel
theorem dX4_run_41 : decode cX4_run 41 = .ok (.ireturn, 1) := by decide +kernel
abbrev cX4_wire : ByteArray := prog_1_method_10_code
def yX4_wire : MethodName := ⟨RX4, "wire", "()J"⟩
def wsX4_wire : List Cond := .code yX4_wire cX4_wire 1 (some .long) :: bT
theorem dX4_wire_0 : decode cX4_wire 0 = .ok (.aload_n 0, 1) := by decide +kernel
theorem dX4_wire_1 : decode cX4_wire 1 = .ok (.getfield 47, 3) := by decide +kernel
theorem dX4_wire_4 : decode cX4_wire 4 = .ok (.lreturn, 1) := by decide +kernel
abbrev cX4_full : ByteArray := prog_1_method_11_code
def yX4_full : MethodName := ⟨RX4, "full", "()J"⟩
def wsX4_full : List Cond := .code yX4_full cX4_full 1 (some .long) :: bT
theorem dX4_full_0 : decode cX4_full 0 = .ok (.aload_n 0, 1) := by decide +kernel
theorem dX4_full_1 : decode cX4_full 1 = .ok (.getfield 30, 3) := by decide +kernel
theorem dX4_full_4 : decode cX4_full 4 = .ok (.aload_n 0, 1) := by decide +kernel
theorem dX4_full_5 : decode cX4_full 5 = .ok (.getfield 37, 3) := by decide +kernel
theorem dX4_full_8 : decode cX4_full 8 = .ok (.invokevirtual 160, 3) := by decide +kernel
theorem dX4_full_11 : decode cX4_full 11 = .ok (.lreturn, 1) := by decide +kernel
abbrev cX4_near : ByteArray := prog_1_method_12_code
def yX4_near : MethodName := ⟨RX4, "near", "(IIJ)Z"⟩
def wsX4_near : List Cond := .code yX4_near cX4_near 5 (some .boolean) :: bT
theorem dX4_near_0 : decode cX4_near 0 = .ok (.aload_n 0, 1) := by decide +kernel
theorem dX4_near_1 : decode cX4_near 1 = .ok (.iload_n 1, 1) := by decide +kernel
theorem dX4_near_2 : decode cX4_near 2 = .ok (.invokevirtual 86, 3) := by decide +kernel
abbrev cX4_group : ByteArray := prog_1_method_13_code
def yX4_group : MethodName := ⟨RX4, "group", "(II)I"⟩
def wsX4_group : List Cond := .code yX4_group cX4_group 3 (some .int) :: bT
theorem dX4_group_0 : decode cX4_group 0 = .ok (.aload_n 0, 1) := by decide +kernel
theorem dX4_group_1 : decode cX4_group 1 = .ok (.iload_n 1, 1) := by decide +kernel
theorem dX4_group_2 : decode cX4_group 2 = .ok (.invokevirtual 86, 3) := by decide +kernel
abbrev cX4_height : ByteArray := prog_1_method_14_code
def yX4_height : MethodName := ⟨RX4, "height", "(IJ)Z"⟩
def wsX4_height : List Cond := .code yX4_height cX4_height 6 (some .boolean) :: bT
theorem dX4_height_0 : decode cX4_height 0 = .ok (.aload_n 0, 1) := by decide +kernel
theorem dX4_height_1 : decode cX4_height 1 = .ok (.iload_n 1, 1) := by decide +kernel
theorem dX4_height_2 : decode cX4_height 2 = .ok (.invokevirtual 86, 3) := by decide +kernel
abbrev cX4_keepOut : ByteArray := prog_1_method_15_code
def yX4_keepOut : MethodName := ⟨RX4, "keepOut", "(JJJJJ)Z"⟩
def wsX4_keepOut : List Cond := .code yX4_keepOut cX4_keepOut 11 (some .boolean) :: bT
theorem dX4_keepOut_0 : decode cX4_keepOut 0 = .ok (.lload 9, 2) := by decide +kernel
theorem dX4_keepOut_2 : decode cX4_keepOut 2 = .ok (.lconst 0, 1) := by decide +kernel
theorem dX4_keepOut_3 : decode cX4_keepOut 3 = .ok (.lcmp, 1) := by decide +kernel
theorem dX4_keepOut_4 : decode cX4_keepOut 4 = .ok (.ifCond .ge (13), 3) := by decide +kernel
theorem dX4_keepOut_7 : decode cX4_keepOut 7 = .ok (.new 75, 3) := by decide +kernel
theorem dX4_keepOut_10 : decode cX4_keepOut 10 = .ok (.dup, 1) := by decide +kernel
theorem dX4_keepOut_11 : decode cX4_keepOut 11 = .ok (.ldc 223, 2) := by decide +kernel
theorem dX4_keepOut_13 : decode cX4_keepOut 13 = .ok (.invokespecial 79, 3) := by decide +kernel
theorem dX4_keepOut_16 : decode cX4_keepOut 16 = .ok (.athrow, 1) := by decide +kernel
theorem dX4_keepOut_17 : decode cX4_keepOut 17 = .ok (.lload_n 1, 1) := by decide +kernel
theorem dX4_keepOut_18 : decode cX4_keepOut 18 = .ok (.lload 5, 2) := by decide +kernel
theorem dX4_keepOut_20 : decode cX4_keepOut 20 = .ok (.lcmp, 1) := by decide +kernel
theorem dX4_keepOut_21 : decode cX4_keepOut 21 = .ok (.ifCond .ge (28), 3) := by decide +kernel
theorem dX4_keepOut_24 : decode cX4_keepOut 24 = .ok (.lload_n 3, 1) := by decide +kernel
theorem dX4_keepOut_25 : decode cX4_keepOut 25 = .ok (.lload 7, 2) := by decide +kernel
theorem dX4_keepOut_27 : decode cX4_keepOut 27 = .ok (.lcmp, 1) := by decide +kernel
theorem dX4_keepOut_28 : decode cX4_keepOut 28 = .ok (.ifCond .ge (21), 3) := by decide +kernel
theorem dX4_keepOut_31 : decode cX4_keepOut 31 = .ok (.aload_n 0, 1) := by decide +kernel
theorem dX4_keepOut_32 : decode cX4_keepOut 32 = .ok (.getfield 23, 3) := by decide +kernel
theorem dX4_keepOut_35 : decode cX4_keepOut 35 = .ok (.lload_n 1, 1) := by decide +kernel
theorem dX4_keepOut_36 : decode cX4_keepOut 36 = .ok (.lload_n 3, 1) := by decide +kernel
theorem dX4_keepOut_37 : decode cX4_keepOut 37 = .ok (.lload 5, 2) := by decide +kernel
theorem dX4_keepOut_39 : decode cX4_keepOut 39 = .ok (.lload 7, 2) := by decide +kernel
theorem dX4_keepOut_41 : decode cX4_keepOut 41 = .ok (.lload 9, 2) := by decide +kernel
theorem dX4_keepOut_43 : decode cX4_keepOut 43 = .ok (.invokevirtual 225, 3) := by decide +kernel
theorem dX4_keepOut_46 : decode cX4_keepOut 46 = .ok (.ifCond .ne (5), 3) := by decide +kernel
theorem dX4_keepOut_49 : decode cX4_keepOut 49 = .ok (.iconst 0, 1) := by decide +kernel
theorem dX4_keepOut_50 : decode cX4_keepOut 50 = .ok (.ireturn, 1) := by decide +kernel
theorem dX4_keepOut_51 : decode cX4_keepOut 51 = .ok (.aload_n 0, 1) := by decide +kernel
theorem dX4_keepOut_52 : decode cX4_keepOut 52 = .ok (.invokevirtual 229, 3) := by decide +kernel
theorem dX4_keepOut_55 : decode cX4_keepOut 55 = .ok (.ifCond .ne (12), 3) := by decide +kernel
theorem dX4_keepOut_67 : decode cX4_keepOut 67 = .ok (.iconst 1, 1) := by decide +kernel
theorem dX4_keepOut_68 : decode cX4_keepOut 68 = .ok (.ireturn, 1) := by decide +kernel
abbrev cX4_clear2 : ByteArray := prog_1_method_16_code
def yX4_clear2 : MethodName := ⟨RX4, "clear2", "()Z"⟩
def wsX4_clear2 : List Cond := .code yX4_clear2 cX4_clear2 1 (some .boolean) :: bT
theorem dX4_clear2_0 : decode cX4_clear2 0 = .ok (.aload_n 0, 1) := by decide +kernel
theorem dX4_clear2_1 : decode cX4_clear2 1 = .ok (.invokevirtual 229, 3) := by decide +kernel
theorem dX4_clear2_4 : decode cX4_clear2 4 = .ok (.ireturn, 1) := by decide +kernel
abbrev cX4_side : ByteArray := prog_1_method_17_code
def yX4_side : MethodName := ⟨RX4, "side", "(I)I"⟩
def wsX4_side : List Cond := .code yX4_side cX4_side 2 (some .int) :: bT
theorem dX4_side_0 : decode cX4_side 0 = .ok (.aload_n 0, 1) := by decide +kernel
theorem dX4_side_1 : decode cX4_side 1 = .ok (.iload_n 1, 1) := by decide +kernel
theorem dX4_side_2 : decode cX4_side 2 = .ok (.invokevirtual 86, 3) := by decide +kernel
abbrev cX4_isLength : ByteArray := prog_1_method_18_code
def yX4_isLength : MethodName := ⟨RX4, "isLength", "(J)Z"⟩
def wsX4_isLength : List Cond := .code yX4_isLength cX4_isLength 2 (some .boolean) :: bT
theorem dX4_isLength_0 : decode cX4_isLength 0 = .ok (.lload_n 0, 1) := by decide +kernel
theorem dX4_isLength_1 : decode cX4_isLength 1 = .ok (.lconst 1, 1) := by decide +kernel
theorem dX4_isLength_2 : decode cX4_isLength 2 = .ok (.lcmp, 1) := by decide +kernel
theorem dX4_isLength_3 : decode cX4_isLength 3 = .ok (.ifCond .lt (15), 3) := by decide +kernel
theorem dX4_isLength_6 : decode cX4_isLength 6 = .ok (.lload_n 0, 1) := by decide +kernel
theorem dX4_isLength_7 : decode cX4_isLength 7 = .ok (.ldc2_w 51, 3) := by decide +kernel
theorem dX4_isLength_10 : decode cX4_isLength 10 = .ok (.lcmp, 1) := by decide +kernel
theorem dX4_isLength_11 : decode cX4_isLength 11 = .ok (.ifCond .gt (7), 3) := by decide +kernel
theorem dX4_isLength_14 : decode cX4_isLength 14 = .ok (.iconst 1, 1) := by decide +kernel
theorem dX4_isLength_15 : decode cX4_isLength 15 = .ok (.goto (4), 3) := by decide +kernel
theorem dX4_isLength_18 : decode cX4_isLength 18 = .ok (.iconst 0, 1) := by decide +kernel
theorem dX4_isLength_19 : decode cX4_isLength 19 = .ok (.ireturn, 1) := by decide +kernel
abbrev cX4_needPart : ByteArray := prog_1_method_19_code
def yX4_needPart : MethodName := ⟨RX4, "needPart", "(I)V"⟩
def wsX4_needPart : List Cond := .code yX4_needPart cX4_needPart 2 none :: bT
theorem dX4_needPart_0 : decode cX4_needPart 0 = .ok (.iload_n 1, 1) := by decide +kernel
theorem dX4_needPart_1 : decode cX4_needPart 1 = .ok (.ifCond .lt (14), 3) := by decide +kernel
theorem dX4_needPart_4 : decode cX4_needPart 4 = .ok (.iload_n 1, 1) := by decide +kernel
theorem dX4_needPart_5 : decode cX4_needPart 5 = .ok (.aload_n 0, 1) := by decide +kernel
theorem dX4_needPart_6 : decode cX4_needPart 6 = .ok (.getfield 12, 3) := by decide +kernel
theorem dX4_needPart_9 : decode cX4_needPart 9 = .ok (.getfield 197, 3) := by decide +kernel
theorem dX4_needPart_12 : decode cX4_needPart 12 = .ok (.if_icmp .lt (13), 3) := by decide +kernel
theorem dX4_needPart_15 : decode cX4_needPart 15 = .ok (.new 143, 3) := by decide +kernel
theorem dX4_needPart_18 : decode cX4_needPart 18 = .ok (.dup, 1) := by decide +kernel
theorem dX4_needPart_19 : decode cX4_needPart 19 = .ok (.ldc 238, 2) := by decide +kernel
theorem dX4_needPart_21 : decode cX4_needPart 21 = .ok (.invokespecial 147, 3) := by decide +kernel
theorem dX4_needPart_24 : decode cX4_needPart 24 = .ok (.athrow, 1) := by decide +kernel
abbrev cX4_allStandWell : ByteArray := prog_1_method_22_code
def yX4_allStandWell : MethodName := ⟨RX4, "allStandWell", "()Z"⟩
def wsX4_allStandWell : List Cond := .code yX4_allStandWell cX4_allStandWell 2 (some .boolean) :: bT
theorem dX4_allStandWell_0 : decode cX4_allStandWell 0 = .ok (.iconst 0, 1) := by decide +kernel
theorem dX4_allStandWell_1 : decode cX4_allStandWell 1 = .ok (.istore_n 1, 1) := by decide +kernel
theorem dX4_allStandWell_2 : decode cX4_allStandWell 2 = .ok (.iload_n 1, 1) := by decide +kernel
theorem dX4_allStandWell_3 : decode cX4_allStandWell 3 = .ok (.aload_n 0, 1) := by decide +kernel
theorem dX4_allStandWell_4 : decode cX4_allStandWell 4 = .ok (.getfield 12, 3) := by decide +kernel
theorem dX4_allStandWell_7 : decode cX4_allStandWell 7 = .ok (.getfield 197, 3) := by decide +kernel
theorem dX4_allStandWell_10 : decode cX4_allStandWell 10 = .ok (.if_icmp .ge (19), 3) := by decide +kernel
theorem dX4_allStandWell_29 : decode cX4_allStandWell 29 = .ok (.iconst 1, 1) := by decide +kernel
theorem dX4_allStandWell_30 : decode cX4_allStandWell 30 = .ok (.ireturn, 1) := by decide +kernel
abbrev cX5_init : ByteArray := prog_7_method_1_code
def yX5_init : MethodName := ⟨RX5, "<init>", "(JJJ)V"⟩
def wsX5_init : List Cond := .code yX5_init cX5_init 7 none :: bT
theorem dX5_init_0 : decode cX5_init 0 = .ok (.aload_n 0, 1) := by decide +kernel
theorem dX5_init_1 : decode cX5_init 1 = .ok (.invokespecial 1, 3) := by decide +kernel
theorem dX5_init_4 : decode cX5_init 4 = .ok (.aload_n 0, 1) := by decide +kernel
theorem dX5_init_5 : decode cX5_init 5 = .ok (.bipush 40, 2) := by decide +kernel
theorem dX5_init_7 : decode cX5_init 7 = .ok (.newarray .long, 2) := by decide +kernel
theorem dX5_init_9 : decode cX5_init 9 = .ok (.putfield 7, 3) := by decide +kernel
theorem dX5_init_12 : decode cX5_init 12 = .ok (.aload_n 0, 1) := by decide +kernel
theorem dX5_init_13 : decode cX5_init 13 = .ok (.bipush 40, 2) := by decide +kernel
theorem dX5_init_15 : decode cX5_init 15 = .ok (.newarray .long, 2) := by decide +kernel
theorem dX5_init_17 : decode cX5_init 17 = .ok (.putfield 13, 3) := by decide +kernel
theorem dX5_init_20 : decode cX5_init 20 = .ok (.aload_n 0, 1) := by decide +kernel
theorem dX5_init_21 : decode cX5_init 21 = .ok (.bipush 40, 2) := by decide +kernel
theorem dX5_init_23 : decode cX5_init 23 = .ok (.newarray .int, 2) := by decide +kernel
theorem dX5_init_25 : decode cX5_init 25 = .ok (.putfield 16, 3) := by decide +kernel
theorem dX5_init_28 : decode cX5_init 28 = .ok (.aload_n 0, 1) := by decide +kernel
theorem dX5_init_29 : decode cX5_init 29 = .ok (.bipush 40, 2) := by decide +kernel
theorem dX5_init_31 : decode cX5_init 31 = .ok (.newarray .long, 2) := by decide +kernel
theorem dX5_init_33 : decode cX5_init 33 = .ok (.putfield 20, 3) := by decide +kernel
theorem dX5_init_36 : decode cX5_init 36 = .ok (.aload_n 0, 1) := by decide +kernel
theorem dX5_init_37 : decode cX5_init 37 = .ok (.bipush 40, 2) := by decide +kernel
theorem dX5_init_39 : decode cX5_init 39 = .ok (.newarray .boolean, 2) := by decide +kernel
theorem dX5_init_41 : decode cX5_init 41 = .ok (.putfield 23, 3) := by decide +kernel
theorem dX5_init_44 : decode cX5_init 44 = .ok (.aload_n 0, 1) := by decide +kernel
theorem dX5_init_45 : decode cX5_init 45 = .ok (.bipush 40, 2) := by decide +kernel
theorem dX5_init_47 : decode cX5_init 47 = .ok (.newarray .int, 2) := by decide +kernel
theorem dX5_init_49 : decode cX5_init 49 = .ok (.putfield 27, 3) := by decide +kernel
theorem dX5_init_52 : decode cX5_init 52 = .ok (.aload_n 0, 1) := by decide +kernel
theorem dX5_init_53 : decode cX5_init 53 = .ok (.bipush 40, 2) := by decide +kernel
theorem dX5_init_55 : decode cX5_init 55 = .ok (.newarray .boolean, 2) := by decide +kernel
theorem dX5_init_57 : decode cX5_init 57 = .ok (.putfield 30, 3) := by decide +kernel
theorem dX5_init_60 : decode cX5_init 60 = .ok (.aload_n 0, 1) := by decide +kernel
theorem dX5_init_61 : decode cX5_init 61 = .ok (.bipush 120, 2) := by decide +kernel
theorem dX5_init_63 : decode cX5_init 63 = .ok (.newarray .long, 2) := by decide +kernel
theorem dX5_init_65 : decode cX5_init 65 = .ok (.putfield 33, 3) := by decide +kernel
theorem dX5_init_68 : decode cX5_init 68 = .ok (.aload_n 0, 1) := by decide +kernel
theorem dX5_init_69 : decode cX5_init 69 = .ok (.bipush 120, 2) := by decide +kernel
theorem dX5_init_71 : decode cX5_init 71 = .ok (.newarray .long, 2) := by decide +kernel
theorem dX5_init_73 : decode cX5_init 73 = .ok (.putfield 36, 3) := by decide +kernel
theorem dX5_init_76 : decode cX5_init 76 = .ok (.aload_n 0, 1) := by decide +kernel
theorem dX5_init_77 : decode cX5_init 77 = .ok (.bipush 120, 2) := by decide +kernel
theorem dX5_init_79 : decode cX5_init 79 = .ok (.newarray .int, 2) := by decide +kernel
theorem dX5_init_81 : decode cX5_init 81 = .ok (.putfield 39, 3) := by decide +kernel
theorem dX5_init_84 : decode cX5_init 84 = .ok (.aload_n 0, 1) := by decide +kernel
theorem dX5_init_85 : decode cX5_init 85 = .ok (.bipush 50, 2) := by decide +kernel
theorem dX5_init_87 : decode cX5_init 87 = .ok (.newarray .long, 2) := by decide +kernel
theorem dX5_init_89 : decode cX5_init 89 = .ok (.putfield 42, 3) := by decide +kernel
theorem dX5_init_92 : decode cX5_init 92 = .ok (.aload_n 0, 1) := by decide +kernel
theorem dX5_init_93 : decode cX5_init 93 = .ok (.bipush 20, 2) := by decide +kernel
theorem dX5_init_95 : decode cX5_init 95 = .ok (.newarray .int, 2) := by decide +kernel
theorem dX5_init_97 : decode cX5_init 97 = .ok (.putfield 45, 3) := by decide +kernel
theorem dX5_init_100 : decode cX5_init 100 = .ok (.aload_n 0, 1) := by decide +kernel
theorem dX5_init_101 : decode cX5_init 101 = .ok (.bipush 20, 2) := by decide +kernel
theorem dX5_init_103 : decode cX5_init 103 = .ok (.newarray .int, 2) := by decide +kernel
theorem dX5_init_105 : decode cX5_init 105 = .ok (.putfield 48, 3) := by decide +kernel
theorem dX5_init_108 : decode cX5_init 108 = .ok (.aload_n 0, 1) := by decide +kernel
theorem dX5_init_109 : decode cX5_init 109 = .ok (.bipush 20, 2) := by decide +kernel
theorem dX5_init_111 : decode cX5_init 111 = .ok (.newarray .long, 2) := by decide +kernel
theorem dX5_init_113 : decode cX5_init 113 = .ok (.putfield 51, 3) := by decide +kernel
theorem dX5_init_116 : decode cX5_init 116 = .ok (.aload_n 0, 1) := by decide +kernel
theorem dX5_init_117 : decode cX5_init 117 = .ok (.bipush 120, 2) := by decide +kernel
theorem dX5_init_119 : decode cX5_init 119 = .ok (.newarray .int, 2) := by decide +kernel
theorem dX5_init_121 : decode cX5_init 121 = .ok (.putfield 54, 3) := by decide +kernel
theorem dX5_init_124 : decode cX5_init 124 = .ok (.aload_n 0, 1) := by decide +kernel
theorem dX5_init_125 : decode cX5_init 125 = .ok (.bipush 120, 2) := by decide +kernel
theorem dX5_init_127 : decode cX5_init 127 = .ok (.newarray .int, 2) := by decide +kernel
theorem dX5_init_129 : decode cX5_init 129 = .ok (.putfield 57, 3) := by decide +kernel
theorem dX5_init_132 : decode cX5_init 132 = .ok (.aload_n 0, 1) := by decide +kernel
theorem dX5_init_133 : decode cX5_init 133 = .ok (.bipush 120, 2) := by decide +kernel
theorem dX5_init_135 : decode cX5_init 135 = .ok (.newarray .long, 2) := by decide +kernel
theorem dX5_init_137 : decode cX5_init 137 = .ok (.putfield 60, 3) := by decide +kernel
theorem dX5_init_140 : decode cX5_init 140 = .ok (.aload_n 0, 1) := by decide +kernel
theorem dX5_init_141 : decode cX5_init 141 = .ok (.bipush 120, 2) := by decide +kernel
theorem dX5_init_143 : decode cX5_init 143 = .ok (.newarray .long, 2) := by decide +kernel
theorem dX5_init_145 : decode cX5_init 145 = .ok (.putfield 63, 3) := by decide +kernel
theorem dX5_init_148 : decode cX5_init 148 = .ok (.aload_n 0, 1) := by decide +kernel
theorem dX5_init_149 : decode cX5_init 149 = .ok (.bipush 40, 2) := by decide +kernel
theorem dX5_init_151 : decode cX5_init 151 = .ok (.newarray .boolean, 2) := by decide +kernel
theorem dX5_init_153 : decode cX5_init 153 = .ok (.putfield 66, 3) := by decide +kernel
theorem dX5_init_156 : decode cX5_init 156 = .ok (.aload_n 0, 1) := by decide +kernel
theorem dX5_init_157 : decode cX5_init 157 = .ok (.lload_n 1, 1) := by decide +kernel
theorem dX5_init_158 : decode cX5_init 158 = .ok (.lconst 1, 1) := by decide +kernel
theorem dX5_init_159 : decode cX5_init 159 = .ok (.lcmp, 1) := by decide +kernel
theorem dX5_init_160 : decode cX5_init 160 = .ok (.ifCond .ge (7), 3) := by decide +kernel
theorem dX5_init_163 : decode cX5_init 163 = .ok (.lconst 1, 1) := by decide +kernel
theorem dX5_init_164 : decode cX5_init 164 = .ok (.goto (18), 3) := by decide +kernel
theorem dX5_init_167 : decode cX5_init 167 = .ok (.lload_n 1, 1) := by decide +kernel
theorem dX5_init_168 : decode cX5_init 168 = .ok (.ldc2_w 69, 3) := by decide +kernel
theorem dX5_init_171 : decode cX5_init 171 = .ok (.lcmp, 1) := by decide +kernel
theorem dX5_init_172 : decode cX5_init 172 = .ok (.ifCond .le (9), 3) := by decide +kernel
theorem dX5_init_175 : decode cX5_init 175 = .ok (.ldc2_w 69, 3) := by decide +kernel
theorem dX5_init_178 : decode cX5_init 178 = .ok (.goto (4), 3) := by decide +kernel
theorem dX5_init_181 : decode cX5_init 181 = .ok (.lload_n 1, 1) := by decide +kernel
theorem dX5_init_182 : decode cX5_init 182 = .ok (.putfield 71, 3) := by decide +kernel
theorem dX5_init_185 : decode cX5_init 185 = .ok (.aload_n 0, 1) := by decide +kernel
theorem dX5_init_186 : decode cX5_init 186 = .ok (.lload_n 3, 1) := by decide +kernel
theorem dX5_init_187 : decode cX5_init 187 = .ok (.lconst 1, 1) := by decide +kernel
theorem dX5_init_188 : decode cX5_init 188 = .ok (.lcmp, 1) := by decide +kernel
theorem dX5_init_189 : decode cX5_init 189 = .ok (.ifCond .ge (7), 3) := by decide +kernel
theorem dX5_init_192 : decode cX5_init 192 = .ok (.lconst 1, 1) := by decide +kernel
theorem dX5_init_193 : decode cX5_init 193 = .ok (.goto (18), 3) := by decide +kernel
theorem dX5_init_196 : decode cX5_init 196 = .ok (.lload_n 3, 1) := by decide +kernel
theorem dX5_init_197 : decode cX5_init 197 = .ok (.ldc2_w 69, 3) := by decide +kernel
theorem dX5_init_200 : decode cX5_init 200 = .ok (.lcmp, 1) := by decide +kernel
theorem dX5_init_201 : decode cX5_init 201 = .ok (.ifCond .le (9), 3) := by decide +kernel
theorem dX5_init_204 : decode cX5_init 204 = .ok (.ldc2_w 69, 3) := by decide +kernel
theorem dX5_init_207 : decode cX5_init 207 = .ok (.goto (4), 3) := by decide +kernel
theorem dX5_init_210 : decode cX5_init 210 = .ok (.lload_n 3, 1) := by decide +kernel
theorem dX5_init_211 : decode cX5_init 211 = .ok (.putfield 75, 3) := by decide +kernel
theorem dX5_init_214 : decode cX5_init 214 = .ok (.aload_n 0, 1) := by decide +kernel
theorem dX5_init_215 : decode cX5_init 215 = .ok (.lload 5, 2) := by decide +kernel
theorem dX5_init_217 : decode cX5_init 217 = .ok (.putfield 78, 3) := by decide +kernel
theorem dX5_init_220 : decode cX5_init 220 = .ok (.return_, 1) := by decide +kernel
abbrev cX5_thrown : ByteArray := prog_7_method_2_code
def yX5_thrown : MethodName := ⟨RX5, "thrown", "()I"⟩
def wsX5_thrown : List Cond := .code yX5_thrown cX5_thrown 1 (some .int) :: bT
theorem dX5_thrown_0 : decode cX5_thrown 0 = .ok (.aload_n 0, 1) := by decide +kernel
theorem dX5_thrown_1 : decode cX5_thrown 1 = .ok (.getfield 81, 3) := by decide +kernel
theorem dX5_thrown_4 : decode cX5_thrown 4 = .ok (.ireturn, 1) := by decide +kernel
abbrev cX5_isSize : ByteArray := prog_7_method_3_code
def yX5_isSize : MethodName := ⟨RX5, "isSize", "(J)Z"⟩
def wsX5_isSize : List Cond := .code yX5_isSize cX5_isSize 2 (some .boolean) :: bT
theorem dX5_isSize_0 : decode cX5_isSize 0 = .ok (.lload_n 0, 1) := by decide +kernel
theorem dX5_isSize_1 : decode cX5_isSize 1 = .ok (.lconst 1, 1) := by decide +kernel
theorem dX5_isSize_2 : decode cX5_isSize 2 = .ok (.lcmp, 1) := by decide +kernel
theorem dX5_isSize_3 : decode cX5_isSize 3 = .ok (.ifCond .lt (15), 3) := by decide +kernel
theorem dX5_isSize_6 : decode cX5_isSize 6 = .ok (.lload_n 0, 1) := by decide +kernel
theorem dX5_isSize_7 : decode cX5_isSize 7 = .ok (.ldc2_w 69, 3) := by decide +kernel
theorem dX5_isSize_10 : decode cX5_isSize 10 = .ok (.lcmp, 1) := by decide +kernel
theorem dX5_isSize_11 : decode cX5_isSize 11 = .ok (.ifCond .gt (7), 3) := by decide +kernel
theorem dX5_isSize_14 : decode cX5_isSize 14 = .ok (.iconst 1, 1) := by decide +kernel
theorem dX5_isSize_15 : decode cX5_isSize 15 = .ok (.goto (4), 3) := by decide +kernel
theorem dX5_isSize_18 : decode cX5_isSize 18 = .ok (.iconst 0, 1) := by decide +kernel
theorem dX5_isSize_19 : decode cX5_isSize 19 = .ok (.ireturn, 1) := by decide +kernel
abbrev cX5_isPart : ByteArray := prog_7_method_4_code
def yX5_isPart : MethodName := ⟨RX5, "isPart", "(I)Z"⟩
def wsX5_isPart : List Cond := .code yX5_isPart cX5_isPart 2 (some .boolean) :: bT
theorem dX5_isPart_0 : decode cX5_isPart 0 = .ok (.iload_n 1, 1) := by decide +kernel
theorem dX5_isPart_1 : decode cX5_isPart 1 = .ok (.ifCond .lt (15), 3) := by decide +kernel
theorem dX5_isPart_4 : decode cX5_isPart 4 = .ok (.iload_n 1, 1) := by decide +kernel
theorem dX5_isPart_5 : decode cX5_isPart 5 = .ok (.aload_n 0, 1) := by decide +kernel
theorem dX5_isPart_6 : decode cX5_isPart 6 = .ok (.getfield 85, 3) := by decide +kernel
theorem dX5_isPart_9 : decode cX5_isPart 9 = .ok (.if_icmp .ge (7), 3) := by decide +kernel
theorem dX5_isPart_16 : decode cX5_isPart 16 = .ok (.iconst 0, 1) := by decide +kernel
theorem dX5_isPart_17 : decode cX5_isPart 17 = .ok (.ireturn, 1) := by decide +kernel
abbrev cX5_part : ByteArray := prog_7_method_5_code
def yX5_part : MethodName := ⟨RX5, "part", "(JJI)I"⟩
def wsX5_part : List Cond := .code yX5_part cX5_part 6 (some .int) :: bT
theorem dX5_part_0 : decode cX5_part 0 = .ok (.aload_n 0, 1) := by decide +kernel
theorem dX5_part_1 : decode cX5_part 1 = .ok (.lload_n 1, 1) := by decide +kernel
theorem dX5_part_2 : decode cX5_part 2 = .ok (.invokestatic 88, 3) := by decide +kernel
theorem dX5_part_5 : decode cX5_part 5 = .ok (.ifCond .eq (25), 3) := by decide +kernel
theorem dX5_part_8 : decode cX5_part 8 = .ok (.lload_n 3, 1) := by decide +kernel
theorem dX5_part_9 : decode cX5_part 9 = .ok (.invokestatic 88, 3) := by decide +kernel
theorem dX5_part_12 : decode cX5_part 12 = .ok (.ifCond .eq (18), 3) := by decide +kernel
theorem dX5_part_15 : decode cX5_part 15 = .ok (.iload 5, 2) := by decide +kernel
theorem dX5_part_17 : decode cX5_part 17 = .ok (.ifCond .eq (9), 3) := by decide +kernel
theorem dX5_part_20 : decode cX5_part 20 = .ok (.iload 5, 2) := by decide +kernel
theorem dX5_part_22 : decode cX5_part 22 = .ok (.iconst 1, 1) := by decide +kernel
theorem dX5_part_23 : decode cX5_part 23 = .ok (.if_icmp .ne (7), 3) := by decide +kernel
theorem dX5_part_26 : decode cX5_part 26 = .ok (.iconst 0, 1) := by decide +kernel
theorem dX5_part_27 : decode cX5_part 27 = .ok (.goto (4), 3) := by decide +kernel
theorem dX5_part_30 : decode cX5_part 30 = .ok (.iconst 1, 1) := by decide +kernel
theorem dX5_part_31 : decode cX5_part 31 = .ok (.putfield 81, 3) := by decide +kernel
theorem dX5_part_34 : decode cX5_part 34 = .ok (.aload_n 0, 1) := by decide +kernel
theorem dX5_part_35 : decode cX5_part 35 = .ok (.getfield 81, 3) := by decide +kernel
theorem dX5_part_38 : decode cX5_part 38 = .ok (.ifCond .eq (5), 3) := by decide +kernel
theorem dX5_part_41 : decode cX5_part 41 = .ok (.iconst 0, 1) := by decide +kernel
theorem dX5_part_42 : decode cX5_part 42 = .ok (.ireturn, 1) := by decide +kernel
theorem dX5_part_43 : decode cX5_part 43 = .ok (.aload_n 0, 1) := by decide +kernel
theorem dX5_part_44 : decode cX5_part 44 = .ok (.getfield 85, 3) := by decide +kernel
theorem dX5_part_47 : decode cX5_part 47 = .ok (.bipush 40, 2) := by decide +kernel
theorem dX5_part_49 : decode cX5_part 49 = .ok (.if_icmp .ne (5), 3) := by decide +kernel
theorem dX5_part_54 : decode cX5_part 54 = .ok (.aload_n 0, 1) := by decide +kernel
theorem dX5_part_55 : decode cX5_part 55 = .ok (.getfield 7, 3) := by decide +kernel
theorem dX5_part_58 : decode cX5_part 58 = .ok (.aload_n 0, 1) := by decide +kernel
theorem dX5_part_59 : decode cX5_part 59 = .ok (.getfield 85, 3) := by decide +kernel
theorem dX5_part_62 : decode cX5_part 62 = .ok (.lload_n 1, 1) := by decide +kernel
theorem dX5_part_63 : decode cX5_part 63 = .ok (.lastore, 1) := by decide +kernel
theorem dX5_part_64 : decode cX5_part 64 = .ok (.aload_n 0, 1) := by decide +kernel
theorem dX5_part_65 : decode cX5_part 65 = .ok (.getfield 13, 3) := by decide +kernel
theorem dX5_part_68 : decode cX5_part 68 = .ok (.aload_n 0, 1) := by decide +kernel
theorem dX5_part_69 : decode cX5_part 69 = .ok (.getfield 85, 3) := by decide +kernel
theorem dX5_part_72 : decode cX5_part 72 = .ok (.lload_n 3, 1) := by decide +kernel
theorem dX5_part_73 : decode cX5_part 73 = .ok (.lastore, 1) := by decide +kernel
theorem dX5_part_74 : decode cX5_part 74 = .ok (.aload_n 0, 1) := by decide +kernel
theorem dX5_part_75 : decode cX5_part 75 = .ok (.getfield 16, 3) := by decide +kernel
theorem dX5_part_78 : decode cX5_part 78 = .ok (.aload_n 0, 1) := by decide +kernel
theorem dX5_part_79 : decode cX5_part 79 = .ok (.getfield 85, 3) := by decide +kernel
theorem dX5_part_82 : decode cX5_part 82 = .ok (.iload 5, 2) := by decide +kernel
theorem dX5_part_84 : decode cX5_part 84 = .ok (.iastore, 1) := by decide +kernel
theorem dX5_part_85 : decode cX5_part 85 = .ok (.aload_n 0, 1) := by decide +kernel
theorem dX5_part_86 : decode cX5_part 86 = .ok (.getfield 27, 3) := by decide +kernel
theorem dX5_part_89 : decode cX5_part 89 = .ok (.aload_n 0, 1) := by decide +kernel
theorem dX5_part_90 : decode cX5_part 90 = .ok (.getfield 85, 3) := by decide +kernel
theorem dX5_part_93 : decode cX5_part 93 = .ok (.aload_n 0, 1) := by decide +kernel
theorem dX5_part_94 : decode cX5_part 94 = .ok (.getfield 85, 3) := by decide +kernel
theorem dX5_part_97 : decode cX5_part 97 = .ok (.iastore, 1) := by decide +kernel
theorem dX5_part_98 : decode cX5_part 98 = .ok (.aload_n 0, 1) := by decide +kernel
theorem dX5_part_99 : decode cX5_part 99 = .ok (.dup, 1) := by decide +kernel
theorem dX5_part_100 : decode cX5_part 100 = .ok (.getfield 85, 3) := by decide +kernel
theorem dX5_part_103 : decode cX5_part 103 = .ok (.iconst 1, 1) := by decide +kernel
theorem dX5_part_104 : decode cX5_part 104 = .ok (.iadd, 1) := by decide +kernel
theorem dX5_part_105 : decode cX5_part 105 = .ok (.putfield 85, 3) := by decide +kernel
theorem dX5_part_108 : decode cX5_part 108 = .ok (.aload_n 0, 1) := by decide +kernel
theorem dX5_part_109 : decode cX5_part 109 = .ok (.getfield 85, 3) := by decide +kernel
theorem dX5_part_112 : decode cX5_part 112 = .ok (.iconst 1, 1) := by decide +kernel
theorem dX5_part_113 : decode cX5_part 113 = .ok (.isub, 1) := by decide +kernel
theorem dX5_part_114 : decode cX5_part 114 = .ok (.ireturn, 1) := by decide +kernel
abbrev cX5_isWell : ByteArray := prog_7_method_16_code
def yX5_isWell : MethodName := ⟨RX5, "isWell", "(I)Z"⟩
def wsX5_isWell : List Cond := .code yX5_isWell cX5_isWell 4 (some .boolean) :: bT
theorem dX5_isWell_0 : decode cX5_isWell 0 = .ok (.iconst 0, 1) := by decide +kernel
theorem dX5_isWell_1 : decode cX5_isWell 1 = .ok (.istore_n 2, 1) := by decide +kernel
theorem dX5_isWell_2 : decode cX5_isWell 2 = .ok (.iload_n 2, 1) := by decide +kernel
theorem dX5_isWell_3 : decode cX5_isWell 3 = .ok (.aload_n 0, 1) := by decide +kernel
theorem dX5_isWell_4 : decode cX5_isWell 4 = .ok (.getfield 85, 3) := by decide +kernel
theorem dX5_isWell_7 : decode cX5_isWell 7 = .ok (.if_icmp .ge (90), 3) := by decide +kernel
theorem dX5_isWell_97 : decode cX5_isWell 97 = .ok (.iconst 1, 1) := by decide +kernel
theorem dX5_isWell_98 : decode cX5_isWell 98 = .ok (.istore_n 2, 1) := by decide +kernel
theorem dX5_isWell_99 : decode cX5_isWell 99 = .ok (.iconst 0, 1) := by decide +kernel
theorem dX5_isWell_100 : decode cX5_isWell 100 = .ok (.istore_n 3, 1) := by decide +kernel
theorem dX5_isWell_101 : decode cX5_isWell 101 = .ok (.iload_n 3, 1) := by decide +kernel
theorem dX5_isWell_102 : decode cX5_isWell 102 = .ok (.aload_n 0, 1) := by decide +kernel
theorem dX5_isWell_103 : decode cX5_isWell 103 = .ok (.getfield 126, 3) := by decide +kernel
theorem dX5_isWell_106 : decode cX5_isWell 106 = .ok (.if_icmp .ge (28), 3) := by decide +kernel
theorem dX5_isWell_134 : decode cX5_isWell 134 = .ok (.iload_n 2, 1) := by decide +kernel
theorem dX5_isWell_135 : decode cX5_isWell 135 = .ok (.ireturn, 1) := by decide +kernel
abbrev cX5_put : ByteArray := prog_7_method_23_code
def yX5_put : MethodName := ⟨RX5, "put", "(IJJI)Z"⟩
def wsX5_put : List Cond := .code yX5_put cX5_put 8 (some .boolean) :: bT
theorem dX5_put_0 : decode cX5_put 0 = .ok (.aload_n 0, 1) := by decide +kernel
theorem dX5_put_1 : decode cX5_put 1 = .ok (.aload_n 0, 1) := by decide +kernel
theorem dX5_put_2 : decode cX5_put 2 = .ok (.iload_n 1, 1) := by decide +kernel
theorem dX5_put_3 : decode cX5_put 3 = .ok (.invokevirtual 139, 3) := by decide +kernel
theorem dX5_put_6 : decode cX5_put 6 = .ok (.ifCond .ne (7), 3) := by decide +kernel
theorem dX5_put_9 : decode cX5_put 9 = .ok (.iconst 1, 1) := by decide +kernel
theorem dX5_put_10 : decode cX5_put 10 = .ok (.goto (19), 3) := by decide +kernel
theorem dX5_put_29 : decode cX5_put 29 = .ok (.putfield 81, 3) := by decide +kernel
theorem dX5_put_32 : decode cX5_put 32 = .ok (.aload_n 0, 1) := by decide +kernel
theorem dX5_put_33 : decode cX5_put 33 = .ok (.getfield 81, 3) := by decide +kernel
theorem dX5_put_36 : decode cX5_put 36 = .ok (.ifCond .eq (5), 3) := by decide +kernel
theorem dX5_put_39 : decode cX5_put 39 = .ok (.iconst 0, 1) := by decide +kernel
theorem dX5_put_40 : decode cX5_put 40 = .ok (.ireturn, 1) := by decide +kernel
abbrev cX5_lock : ByteArray := prog_7_method_24_code
def yX5_lock : MethodName := ⟨RX5, "lock", "(IZ)Z"⟩
def wsX5_lock : List Cond := .code yX5_lock cX5_lock 4 (some .boolean) :: bT
theorem dX5_lock_0 : decode cX5_lock 0 = .ok (.aload_n 0, 1) := by decide +kernel
theorem dX5_lock_1 : decode cX5_lock 1 = .ok (.aload_n 0, 1) := by decide +kernel
theorem dX5_lock_2 : decode cX5_lock 2 = .ok (.iload_n 1, 1) := by decide +kernel
theorem dX5_lock_3 : decode cX5_lock 3 = .ok (.invokevirtual 139, 3) := by decide +kernel
theorem dX5_lock_6 : decode cX5_lock 6 = .ok (.ifCond .eq (7), 3) := by decide +kernel
theorem dX5_lock_13 : decode cX5_lock 13 = .ok (.iconst 1, 1) := by decide +kernel
theorem dX5_lock_14 : decode cX5_lock 14 = .ok (.putfield 81, 3) := by decide +kernel
theorem dX5_lock_17 : decode cX5_lock 17 = .ok (.aload_n 0, 1) := by decide +kernel
theorem dX5_lock_18 : decode cX5_lock 18 = .ok (.getfield 81, 3) := by decide +kernel
theorem dX5_lock_21 : decode cX5_lock 21 = .ok (.ifCond .eq (5), 3) := by decide +kernel
theorem dX5_lock_24 : decode cX5_lock 24 = .ok (.iconst 0, 1) := by decide +kernel
theorem dX5_lock_25 : decode cX5_lock 25 = .ok (.ireturn, 1) := by decide +kernel
abbrev cX5_net : ByteArray := prog_7_method_25_code
def yX5_net : MethodName := ⟨RX5, "net", "()I"⟩
def wsX5_net : List Cond := .code yX5_net cX5_net 1 (some .int) :: bT
theorem dX5_net_0 : decode cX5_net 0 = .ok (.aload_n 0, 1) := by decide +kernel
theorem dX5_net_1 : decode cX5_net 1 = .ok (.iconst 0, 1) := by decide +kernel
theorem dX5_net_2 : decode cX5_net 2 = .ok (.putfield 81, 3) := by decide +kernel
theorem dX5_net_5 : decode cX5_net 5 = .ok (.aload_n 0, 1) := by decide +kernel
theorem dX5_net_6 : decode cX5_net 6 = .ok (.getfield 160, 3) := by decide +kernel
theorem dX5_net_9 : decode cX5_net 9 = .ok (.bipush 40, 2) := by decide +kernel
theorem dX5_net_11 : decode cX5_net 11 = .ok (.if_icmp .ne (5), 3) := by decide +kernel
theorem dX5_net_16 : decode cX5_net 16 = .ok (.aload_n 0, 1) := by decide +kernel
theorem dX5_net_17 : decode cX5_net 17 = .ok (.dup, 1) := by decide +kernel
theorem dX5_net_18 : decode cX5_net 18 = .ok (.getfield 160, 3) := by decide +kernel
theorem dX5_net_21 : decode cX5_net 21 = .ok (.iconst 1, 1) := by decide +kernel
theorem dX5_net_22 : decode cX5_net 22 = .ok (.iadd, 1) := by decide +kernel
theorem dX5_net_23 : decode cX5_net 23 = .ok (.putfield 160, 3) := by decide +kernel
theorem dX5_net_26 : decode cX5_net 26 = .ok (.aload_n 0, 1) := by decide +kernel
theorem dX5_net_27 : decode cX5_net 27 = .ok (.getfield 160, 3) := by decide +kernel
theorem dX5_net_30 : decode cX5_net 30 = .ok (.iconst 1, 1) := by decide +kernel
theorem dX5_net_31 : decode cX5_net 31 = .ok (.isub, 1) := by decide +kernel
theorem dX5_net_32 : decode cX5_net 32 = .ok (.ireturn, 1) := by decide +kernel
abbrev cX5_pin : ByteArray := prog_7_method_26_code
def yX5_pin : MethodName := ⟨RX5, "pin", "(IIJJ)Z"⟩
def wsX5_pin : List Cond := .code yX5_pin cX5_pin 9 (some .boolean) :: bT
theorem dX5_pin_0 : decode cX5_pin 0 = .ok (.iload_n 1, 1) := by decide +kernel
theorem dX5_pin_1 : decode cX5_pin 1 = .ok (.ifCond .lt (23), 3) := by decide +kernel
theorem dX5_pin_4 : decode cX5_pin 4 = .ok (.iload_n 1, 1) := by decide +kernel
theorem dX5_pin_5 : decode cX5_pin 5 = .ok (.aload_n 0, 1) := by decide +kernel
theorem dX5_pin_6 : decode cX5_pin 6 = .ok (.getfield 160, 3) := by decide +kernel
theorem dX5_pin_9 : decode cX5_pin 9 = .ok (.if_icmp .ge (15), 3) := by decide +kernel
theorem dX5_pin_24 : decode cX5_pin 24 = .ok (.iconst 0, 1) := by decide +kernel
theorem dX5_pin_25 : decode cX5_pin 25 = .ok (.istore 7, 2) := by decide +kernel
theorem dX5_pin_27 : decode cX5_pin 27 = .ok (.iload 7, 2) := by decide +kernel
theorem dX5_pin_29 : decode cX5_pin 29 = .ok (.ifCond .eq (43), 3) := by decide +kernel
theorem dX5_pin_72 : decode cX5_pin 72 = .ok (.iconst 0, 1) := by decide +kernel
theorem dX5_pin_73 : decode cX5_pin 73 = .ok (.istore 8, 2) := by decide +kernel
theorem dX5_pin_75 : decode cX5_pin 75 = .ok (.aload_n 0, 1) := by decide +kernel
theorem dX5_pin_76 : decode cX5_pin 76 = .ok (.iload 7, 2) := by decide +kernel
theorem dX5_pin_78 : decode cX5_pin 78 = .ok (.ifCond .ne (7), 3) := by decide +kernel
theorem dX5_pin_81 : decode cX5_pin 81 = .ok (.iconst 1, 1) := by decide +kernel
theorem dX5_pin_82 : decode cX5_pin 82 = .ok (.goto (13), 3) := by decide +kernel
theorem dX5_pin_95 : decode cX5_pin 95 = .ok (.putfield 81, 3) := by decide +kernel
theorem dX5_pin_98 : decode cX5_pin 98 = .ok (.aload_n 0, 1) := by decide +kernel
theorem dX5_pin_99 : decode cX5_pin 99 = .ok (.getfield 81, 3) := by decide +kernel
theorem dX5_pin_102 : decode cX5_pin 102 = .ok (.ifCond .ne (12), 3) := by decide +kernel
theorem dX5_pin_114 : decode cX5_pin 114 = .ok (.iconst 0, 1) := by decide +kernel
theorem dX5_pin_115 : decode cX5_pin 115 = .ok (.ireturn, 1) := by decide +kernel
abbrev cX5_wireOf : ByteArray := prog_7_method_29_code
def yX5_wireOf : MethodName := ⟨RX5, "wireOf", "(I)J"⟩
def wsX5_wireOf : List Cond := .code yX5_wireOf cX5_wireOf 5 (some .long) :: bT
theorem dX5_wireOf_0 : decode cX5_wireOf 0 = .ok (.lconst 0, 1) := by decide +kernel
theorem dX5_wireOf_1 : decode cX5_wireOf 1 = .ok (.lstore_n 2, 1) := by decide +kernel
theorem dX5_wireOf_2 : decode cX5_wireOf 2 = .ok (.iconst 0, 1) := by decide +kernel
theorem dX5_wireOf_3 : decode cX5_wireOf 3 = .ok (.istore 4, 2) := by decide +kernel
theorem dX5_wireOf_5 : decode cX5_wireOf 5 = .ok (.iload 4, 2) := by decide +kernel
theorem dX5_wireOf_7 : decode cX5_wireOf 7 = .ok (.aload_n 0, 1) := by decide +kernel
theorem dX5_wireOf_8 : decode cX5_wireOf 8 = .ok (.getfield 160, 3) := by decide +kernel
theorem dX5_wireOf_11 : decode cX5_wireOf 11 = .ok (.if_icmp .ge (29), 3) := by decide +kernel
theorem dX5_wireOf_40 : decode cX5_wireOf 40 = .ok (.lload_n 2, 1) := by decide +kernel
theorem dX5_wireOf_41 : decode cX5_wireOf 41 = .ok (.lreturn, 1) := by decide +kernel
abbrev cX5_wire : ByteArray := prog_7_method_30_code
def yX5_wire : MethodName := ⟨RX5, "wire", "()J"⟩
def wsX5_wire : List Cond := .code yX5_wire cX5_wire 1 (some .long) :: bT
theorem dX5_wire_0 : decode cX5_wire 0 = .ok (.aload_n 0, 1) := by decide +kernel
theorem dX5_wire_1 : decode cX5_wire 1 = .ok (.iconst 0, 1) := by decide +kernel
theorem dX5_wire_2 : decode cX5_wire 2 = .ok (.putfield 81, 3) := by decide +kernel
theorem dX5_wire_5 : decode cX5_wire 5 = .ok (.aload_n 0, 1) := by decide +kernel
theorem dX5_wire_6 : decode cX5_wire 6 = .ok (.iconst 0, 1) := by decide +kernel
theorem dX5_wire_7 : decode cX5_wire 7 = .ok (.invokevirtual 173, 3) := by decide +kernel
theorem dX5_wire_10 : decode cX5_wire 10 = .ok (.lreturn, 1) := by decide +kernel
abbrev cX5_full : ByteArray := prog_7_method_31_code
def yX5_full : MethodName := ⟨RX5, "full", "()J"⟩
def wsX5_full : List Cond := .code yX5_full cX5_full 1 (some .long) :: bT
theorem dX5_full_0 : decode cX5_full 0 = .ok (.aload_n 0, 1) := by decide +kernel
theorem dX5_full_1 : decode cX5_full 1 = .ok (.iconst 0, 1) := by decide +kernel
theorem dX5_full_2 : decode cX5_full 2 = .ok (.putfield 81, 3) := by decide +kernel
theorem dX5_full_5 : decode cX5_full 5 = .ok (.aload_n 0, 1) := by decide +kernel
theorem dX5_full_6 : decode cX5_full 6 = .ok (.iconst 0, 1) := by decide +kernel
theorem dX5_full_7 : decode cX5_full 7 = .ok (.invokevirtual 173, 3) := by decide +kernel
theorem dX5_full_10 : decode cX5_full 10 = .ok (.lreturn, 1) := by decide +kernel
abbrev cX5_push : ByteArray := prog_7_method_37_code
def yX5_push : MethodName := ⟨RX5, "push", "(IJJ)I"⟩
def wsX5_push : List Cond := .code yX5_push cX5_push 13 (some .int) :: bT
theorem dX5_push_0 : decode cX5_push 0 = .ok (.aload_n 0, 1) := by decide +kernel
theorem dX5_push_1 : decode cX5_push 1 = .ok (.aload_n 0, 1) := by decide +kernel
theorem dX5_push_2 : decode cX5_push 2 = .ok (.iload_n 1, 1) := by decide +kernel
theorem dX5_push_3 : decode cX5_push 3 = .ok (.invokevirtual 139, 3) := by decide +kernel
theorem dX5_push_6 : decode cX5_push 6 = .ok (.ifCond .ne (7), 3) := by decide +kernel
theorem dX5_push_9 : decode cX5_push 9 = .ok (.iconst 1, 1) := by decide +kernel
theorem dX5_push_10 : decode cX5_push 10 = .ok (.goto (17), 3) := by decide +kernel
theorem dX5_push_27 : decode cX5_push 27 = .ok (.putfield 81, 3) := by decide +kernel
theorem dX5_push_30 : decode cX5_push 30 = .ok (.aload_n 0, 1) := by decide +kernel
theorem dX5_push_31 : decode cX5_push 31 = .ok (.getfield 81, 3) := by decide +kernel
theorem dX5_push_34 : decode cX5_push 34 = .ok (.ifCond .eq (5), 3) := by decide +kernel
theorem dX5_push_37 : decode cX5_push 37 = .ok (.iconst 0, 1) := by decide +kernel
theorem dX5_push_38 : decode cX5_push 38 = .ok (.ireturn, 1) := by decide +kernel
abbrev cX5_at : ByteArray := prog_7_method_38_code
def yX5_at : MethodName := ⟨RX5, "at", "(II)J"⟩
def wsX5_at : List Cond := .code yX5_at cX5_at 3 (some .long) :: bT
theorem dX5_at_0 : decode cX5_at 0 = .ok (.aload_n 0, 1) := by decide +kernel
theorem dX5_at_1 : decode cX5_at 1 = .ok (.aload_n 0, 1) := by decide +kernel
theorem dX5_at_2 : decode cX5_at 2 = .ok (.iload_n 1, 1) := by decide +kernel
theorem dX5_at_3 : decode cX5_at 3 = .ok (.invokevirtual 139, 3) := by decide +kernel
theorem dX5_at_6 : decode cX5_at 6 = .ok (.ifCond .eq (17), 3) := by decide +kernel
theorem dX5_at_23 : decode cX5_at 23 = .ok (.iconst 1, 1) := by decide +kernel
theorem dX5_at_24 : decode cX5_at 24 = .ok (.putfield 81, 3) := by decide +kernel
theorem dX5_at_27 : decode cX5_at 27 = .ok (.aload_n 0, 1) := by decide +kernel
theorem dX5_at_28 : decode cX5_at 28 = .ok (.getfield 81, 3) := by decide +kernel
theorem dX5_at_31 : decode cX5_at 31 = .ok (.ifCond .eq (5), 3) := by decide +kernel
theorem dX5_at_34 : decode cX5_at 34 = .ok (.lconst 0, 1) := by decide +kernel
theorem dX5_at_35 : decode cX5_at 35 = .ok (.lreturn, 1) := by decide +kernel
abbrev cX5_side : ByteArray := prog_7_method_39_code
def yX5_side : MethodName := ⟨RX5, "side", "(I)I"⟩
def wsX5_side : List Cond := .code yX5_side cX5_side 2 (some .int) :: bT
theorem dX5_side_0 : decode cX5_side 0 = .ok (.aload_n 0, 1) := by decide +kernel
theorem dX5_side_1 : decode cX5_side 1 = .ok (.aload_n 0, 1) := by decide +kernel
theorem dX5_side_2 : decode cX5_side 2 = .ok (.iload_n 1, 1) := by decide +kernel
theorem dX5_side_3 : decode cX5_side 3 = .ok (.invokevirtual 139, 3) := by decide +kernel
theorem dX5_side_6 : decode cX5_side 6 = .ok (.ifCond .eq (7), 3) := by decide +kernel
theorem dX5_side_13 : decode cX5_side 13 = .ok (.iconst 1, 1) := by decide +kernel
theorem dX5_side_14 : decode cX5_side 14 = .ok (.putfield 81, 3) := by decide +kernel
theorem dX5_side_17 : decode cX5_side 17 = .ok (.aload_n 0, 1) := by decide +kernel
theorem dX5_side_18 : decode cX5_side 18 = .ok (.getfield 81, 3) := by decide +kernel
theorem dX5_side_21 : decode cX5_side 21 = .ok (.ifCond .ne (12), 3) := by decide +kernel
theorem dX5_side_33 : decode cX5_side 33 = .ok (.iconst 0, 1) := by decide +kernel
theorem dX5_side_34 : decode cX5_side 34 = .ok (.ireturn, 1) := by decide +kernel
abbrev cX5_clear2 : ByteArray := prog_7_method_40_code
def yX5_clear2 : MethodName := ⟨RX5, "clear2", "()Z"⟩
def wsX5_clear2 : List Cond := .code yX5_clear2 cX5_clear2 1 (some .boolean) :: bT
theorem dX5_clear2_0 : decode cX5_clear2 0 = .ok (.aload_n 0, 1) := by decide +kernel
theorem dX5_clear2_1 : decode cX5_clear2 1 = .ok (.iconst 0, 1) := by decide +kernel
theorem dX5_clear2_2 : decode cX5_clear2 2 = .ok (.putfield 81, 3) := by decide +kernel
theorem dX5_clear2_5 : decode cX5_clear2 5 = .ok (.iconst 1, 1) := by decide +kernel
theorem dX5_clear2_6 : decode cX5_clear2 6 = .ok (.ireturn, 1) := by decide +kernel
abbrev cX5_run : ByteArray := prog_7_method_44_code
def yX5_run : MethodName := ⟨RX5, "run", "(J)I"⟩
def wsX5_run : List Cond := .code yX5_run cX5_run 23 (some .int) :: bT
theorem dX5_run_0 : decode cX5_run 0 = .ok (.aload_n 0, 1) := by decide +kernel
theorem dX5_run_1 : decode cX5_run 1 = .ok (.lload_n 1, 1) := by decide +kernel
theorem dX5_run_2 : decode cX5_run 2 = .ok (.lconst 0, 1) := by decide +kernel
theorem dX5_run_3 : decode cX5_run 3 = .ok (.lcmp, 1) := by decide +kernel
theorem dX5_run_4 : decode cX5_run 4 = .ok (.ifCond .lt (15), 3) := by decide +kernel
theorem dX5_run_7 : decode cX5_run 7 = .ok (.lload_n 1, 1) := by decide +kernel
theorem dX5_run_8 : decode cX5_run 8 = .ok (.ldc2_w 203, 3) := by decide +kernel
theorem dX5_run_11 : decode cX5_run 11 = .ok (.lcmp, 1) := by decide +kernel
theorem dX5_run_12 : decode cX5_run 12 = .ok (.ifCond .gt (7), 3) := by decide +kernel
theorem dX5_run_15 : decode cX5_run 15 = .ok (.iconst 0, 1) := by decide +kernel
theorem dX5_run_16 : decode cX5_run 16 = .ok (.goto (4), 3) := by decide +kernel
theorem dX5_run_19 : decode cX5_run 19 = .ok (.iconst 1, 1) := by decide +kernel
theorem dX5_run_20 : decode cX5_run 20 = .ok (.putfield 81, 3) := by decide +kernel
theorem dX5_run_23 : decode cX5_run 23 = .ok (.aload_n 0, 1) := by decide +kernel
theorem dX5_run_24 : decode cX5_run 24 = .ok (.getfield 81, 3) := by decide +kernel
theorem dX5_run_27 : decode cX5_run 27 = .ok (.ifCond .ne (10), 3) := by decide +kernel
theorem dX5_run_30 : decode cX5_run 30 = .ok (.aload_n 0, 1) := by decide +kernel
theorem dX5_run_31 : decode cX5_run 31 = .ok (.getfield 85, 3) := by decide +kernel
theorem dX5_run_34 : decode cX5_run 34 = .ok (.ifCond .ne (5), 3) := by decide +kernel
theorem dX5_run_37 : decode cX5_run 37 = .ok (.iconst 0, 1) := by decide +kernel
theorem dX5_run_38 : decode cX5_run 38 = .ok (.ireturn, 1) := by decide +kernel
abbrev cX5_near : ByteArray := prog_7_method_45_code
def yX5_near : MethodName := ⟨RX5, "near", "(IIJ)Z"⟩
def wsX5_near : List Cond := .code yX5_near cX5_near 5 (some .boolean) :: bT
theorem dX5_near_0 : decode cX5_near 0 = .ok (.aload_n 0, 1) := by decide +kernel
theorem dX5_near_1 : decode cX5_near 1 = .ok (.aload_n 0, 1) := by decide +kernel
theorem dX5_near_2 : decode cX5_near 2 = .ok (.iload_n 1, 1) := by decide +kernel
theorem dX5_near_3 : decode cX5_near 3 = .ok (.invokevirtual 139, 3) := by decide +kernel
theorem dX5_near_6 : decode cX5_near 6 = .ok (.ifCond .eq (11), 3) := by decide +kernel
theorem dX5_near_17 : decode cX5_near 17 = .ok (.iconst 1, 1) := by decide +kernel
theorem dX5_near_18 : decode cX5_near 18 = .ok (.goto (14), 3) := by decide +kernel
theorem dX5_near_32 : decode cX5_near 32 = .ok (.putfield 81, 3) := by decide +kernel
theorem dX5_near_35 : decode cX5_near 35 = .ok (.aload_n 0, 1) := by decide +kernel
theorem dX5_near_36 : decode cX5_near 36 = .ok (.getfield 81, 3) := by decide +kernel
theorem dX5_near_39 : decode cX5_near 39 = .ok (.ifCond .ne (17), 3) := by decide +kernel
theorem dX5_near_56 : decode cX5_near 56 = .ok (.iconst 0, 1) := by decide +kernel
theorem dX5_near_57 : decode cX5_near 57 = .ok (.ireturn, 1) := by decide +kernel
abbrev cX5_group : ByteArray := prog_7_method_46_code
def yX5_group : MethodName := ⟨RX5, "group", "(II)I"⟩
def wsX5_group : List Cond := .code yX5_group cX5_group 7 (some .int) :: bT
theorem dX5_group_0 : decode cX5_group 0 = .ok (.aload_n 0, 1) := by decide +kernel
theorem dX5_group_1 : decode cX5_group 1 = .ok (.aload_n 0, 1) := by decide +kernel
theorem dX5_group_2 : decode cX5_group 2 = .ok (.iload_n 1, 1) := by decide +kernel
theorem dX5_group_3 : decode cX5_group 3 = .ok (.invokevirtual 139, 3) := by decide +kernel
theorem dX5_group_6 : decode cX5_group 6 = .ok (.ifCond .eq (15), 3) := by decide +kernel
theorem dX5_group_21 : decode cX5_group 21 = .ok (.iconst 1, 1) := by decide +kernel
theorem dX5_group_22 : decode cX5_group 22 = .ok (.putfield 81, 3) := by decide +kernel
theorem dX5_group_25 : decode cX5_group 25 = .ok (.aload_n 0, 1) := by decide +kernel
theorem dX5_group_26 : decode cX5_group 26 = .ok (.getfield 81, 3) := by decide +kernel
theorem dX5_group_29 : decode cX5_group 29 = .ok (.ifCond .eq (5), 3) := by decide +kernel
theorem dX5_group_32 : decode cX5_group 32 = .ok (.iconst 0, 1) := by decide +kernel
theorem dX5_group_33 : decode cX5_group 33 = .ok (.ireturn, 1) := by decide +kernel
abbrev cX5_height : ByteArray := prog_7_method_47_code
def yX5_height : MethodName := ⟨RX5, "height", "(IJ)Z"⟩
def wsX5_height : List Cond := .code yX5_height cX5_height 6 (some .boolean) :: bT
theorem dX5_height_0 : decode cX5_height 0 = .ok (.aload_n 0, 1) := by decide +kernel
theorem dX5_height_1 : decode cX5_height 1 = .ok (.aload_n 0, 1) := by decide +kernel
theorem dX5_height_2 : decode cX5_height 2 = .ok (.iload_n 1, 1) := by decide +kernel
theorem dX5_height_3 : decode cX5_height 3 = .ok (.invokevirtual 139, 3) := by decide +kernel
theorem dX5_height_6 : decode cX5_height 6 = .ok (.ifCond .ne (7), 3) := by decide +kernel
theorem dX5_height_9 : decode cX5_height 9 = .ok (.iconst 1, 1) := by decide +kernel
theorem dX5_height_10 : decode cX5_height 10 = .ok (.goto (22), 3) := by decide +kernel
theorem dX5_height_32 : decode cX5_height 32 = .ok (.putfield 81, 3) := by decide +kernel
theorem dX5_height_35 : decode cX5_height 35 = .ok (.aload_n 0, 1) := by decide +kernel
theorem dX5_height_36 : decode cX5_height 36 = .ok (.getfield 81, 3) := by decide +kernel
theorem dX5_height_39 : decode cX5_height 39 = .ok (.ifCond .eq (5), 3) := by decide +kernel
theorem dX5_height_42 : decode cX5_height 42 = .ok (.iconst 0, 1) := by decide +kernel
theorem dX5_height_43 : decode cX5_height 43 = .ok (.ireturn, 1) := by decide +kernel
abbrev cX5_keepOut : ByteArray := prog_7_method_48_code
def yX5_keepOut : MethodName := ⟨RX5, "keepOut", "(JJJJJ)Z"⟩
def wsX5_keepOut : List Cond := .code yX5_keepOut cX5_keepOut 12 (some .boolean) :: bT
theorem dX5_keepOut_0 : decode cX5_keepOut 0 = .ok (.aload_n 0, 1) := by decide +kernel
theorem dX5_keepOut_1 : decode cX5_keepOut 1 = .ok (.lload 9, 2) := by decide +kernel
theorem dX5_keepOut_3 : decode cX5_keepOut 3 = .ok (.lconst 0, 1) := by decide +kernel
theorem dX5_keepOut_4 : decode cX5_keepOut 4 = .ok (.lcmp, 1) := by decide +kernel
theorem dX5_keepOut_5 : decode cX5_keepOut 5 = .ok (.ifCond .ge (7), 3) := by decide +kernel
theorem dX5_keepOut_8 : decode cX5_keepOut 8 = .ok (.iconst 1, 1) := by decide +kernel
theorem dX5_keepOut_9 : decode cX5_keepOut 9 = .ok (.goto (4), 3) := by decide +kernel
theorem dX5_keepOut_12 : decode cX5_keepOut 12 = .ok (.iconst 0, 1) := by decide +kernel
theorem dX5_keepOut_13 : decode cX5_keepOut 13 = .ok (.putfield 81, 3) := by decide +kernel
theorem dX5_keepOut_16 : decode cX5_keepOut 16 = .ok (.aload_n 0, 1) := by decide +kernel
theorem dX5_keepOut_17 : decode cX5_keepOut 17 = .ok (.getfield 81, 3) := by decide +kernel
theorem dX5_keepOut_20 : decode cX5_keepOut 20 = .ok (.ifCond .ne (26), 3) := by decide +kernel
theorem dX5_keepOut_23 : decode cX5_keepOut 23 = .ok (.aload_n 0, 1) := by decide +kernel
theorem dX5_keepOut_24 : decode cX5_keepOut 24 = .ok (.getfield 109, 3) := by decide +kernel
theorem dX5_keepOut_27 : decode cX5_keepOut 27 = .ok (.bipush 10, 2) := by decide +kernel
theorem dX5_keepOut_29 : decode cX5_keepOut 29 = .ok (.if_icmp .eq (17), 3) := by decide +kernel
theorem dX5_keepOut_32 : decode cX5_keepOut 32 = .ok (.lload_n 1, 1) := by decide +kernel
theorem dX5_keepOut_33 : decode cX5_keepOut 33 = .ok (.lload 5, 2) := by decide +kernel
theorem dX5_keepOut_35 : decode cX5_keepOut 35 = .ok (.lcmp, 1) := by decide +kernel
theorem dX5_keepOut_36 : decode cX5_keepOut 36 = .ok (.ifCond .ge (10), 3) := by decide +kernel
theorem dX5_keepOut_39 : decode cX5_keepOut 39 = .ok (.lload_n 3, 1) := by decide +kernel
theorem dX5_keepOut_40 : decode cX5_keepOut 40 = .ok (.lload 7, 2) := by decide +kernel
theorem dX5_keepOut_42 : decode cX5_keepOut 42 = .ok (.lcmp, 1) := by decide +kernel
theorem dX5_keepOut_43 : decode cX5_keepOut 43 = .ok (.ifCond .lt (5), 3) := by decide +kernel
theorem dX5_keepOut_46 : decode cX5_keepOut 46 = .ok (.iconst 0, 1) := by decide +kernel
theorem dX5_keepOut_47 : decode cX5_keepOut 47 = .ok (.ireturn, 1) := by decide +kernel
theorem dX5_keepOut_48 : decode cX5_keepOut 48 = .ok (.iconst 5, 1) := by decide +kernel
theorem dX5_keepOut_49 : decode cX5_keepOut 49 = .ok (.aload_n 0, 1) := by decide +kernel
theorem dX5_keepOut_50 : decode cX5_keepOut 50 = .ok (.getfield 109, 3) := by decide +kernel
theorem dX5_keepOut_53 : decode cX5_keepOut 53 = .ok (.imul, 1) := by decide +kernel
theorem dX5_keepOut_54 : decode cX5_keepOut 54 = .ok (.istore 11, 2) := by decide +kernel
theorem dX5_keepOut_56 : decode cX5_keepOut 56 = .ok (.aload_n 0, 1) := by decide +kernel
theorem dX5_keepOut_57 : decode cX5_keepOut 57 = .ok (.getfield 42, 3) := by decide +kernel
theorem dX5_keepOut_60 : decode cX5_keepOut 60 = .ok (.iload 11, 2) := by decide +kernel
theorem dX5_keepOut_62 : decode cX5_keepOut 62 = .ok (.lload_n 1, 1) := by decide +kernel
theorem dX5_keepOut_63 : decode cX5_keepOut 63 = .ok (.lastore, 1) := by decide +kernel
theorem dX5_keepOut_64 : decode cX5_keepOut 64 = .ok (.aload_n 0, 1) := by decide +kernel
theorem dX5_keepOut_65 : decode cX5_keepOut 65 = .ok (.getfield 42, 3) := by decide +kernel
theorem dX5_keepOut_68 : decode cX5_keepOut 68 = .ok (.iload 11, 2) := by decide +kernel
theorem dX5_keepOut_70 : decode cX5_keepOut 70 = .ok (.iconst 1, 1) := by decide +kernel
theorem dX5_keepOut_71 : decode cX5_keepOut 71 = .ok (.iadd, 1) := by decide +kernel
theorem dX5_keepOut_72 : decode cX5_keepOut 72 = .ok (.lload_n 3, 1) := by decide +kernel
theorem dX5_keepOut_73 : decode cX5_keepOut 73 = .ok (.lastore, 1) := by decide +kernel
theorem dX5_keepOut_74 : decode cX5_keepOut 74 = .ok (.aload_n 0, 1) := by decide +kernel
theorem dX5_keepOut_75 : decode cX5_keepOut 75 = .ok (.getfield 42, 3) := by decide +kernel
theorem dX5_keepOut_78 : decode cX5_keepOut 78 = .ok (.iload 11, 2) := by decide +kernel
theorem dX5_keepOut_80 : decode cX5_keepOut 80 = .ok (.iconst 2, 1) := by decide +kernel
theorem dX5_keepOut_81 : decode cX5_keepOut 81 = .ok (.iadd, 1) := by decide +kernel
theorem dX5_keepOut_82 : decode cX5_keepOut 82 = .ok (.lload 5, 2) := by decide +kernel
theorem dX5_keepOut_84 : decode cX5_keepOut 84 = .ok (.lastore, 1) := by decide +kernel
theorem dX5_keepOut_85 : decode cX5_keepOut 85 = .ok (.aload_n 0, 1) := by decide +kernel
theorem dX5_keepOut_86 : decode cX5_keepOut 86 = .ok (.getfield 42, 3) := by decide +kernel
theorem dX5_keepOut_89 : decode cX5_keepOut 89 = .ok (.iload 11, 2) := by decide +kernel
theorem dX5_keepOut_91 : decode cX5_keepOut 91 = .ok (.iconst 3, 1) := by decide +kernel
theorem dX5_keepOut_92 : decode cX5_keepOut 92 = .ok (.iadd, 1) := by decide +kernel
theorem dX5_keepOut_93 : decode cX5_keepOut 93 = .ok (.lload 7, 2) := by decide +kernel
theorem dX5_keepOut_95 : decode cX5_keepOut 95 = .ok (.lastore, 1) := by decide +kernel
theorem dX5_keepOut_96 : decode cX5_keepOut 96 = .ok (.aload_n 0, 1) := by decide +kernel
theorem dX5_keepOut_97 : decode cX5_keepOut 97 = .ok (.getfield 42, 3) := by decide +kernel
theorem dX5_keepOut_100 : decode cX5_keepOut 100 = .ok (.iload 11, 2) := by decide +kernel
theorem dX5_keepOut_102 : decode cX5_keepOut 102 = .ok (.iconst 4, 1) := by decide +kernel
theorem dX5_keepOut_103 : decode cX5_keepOut 103 = .ok (.iadd, 1) := by decide +kernel
theorem dX5_keepOut_104 : decode cX5_keepOut 104 = .ok (.lload 9, 2) := by decide +kernel
theorem dX5_keepOut_106 : decode cX5_keepOut 106 = .ok (.lastore, 1) := by decide +kernel
theorem dX5_keepOut_107 : decode cX5_keepOut 107 = .ok (.aload_n 0, 1) := by decide +kernel
theorem dX5_keepOut_108 : decode cX5_keepOut 108 = .ok (.dup, 1) := by decide +kernel
theorem dX5_keepOut_109 : decode cX5_keepOut 109 = .ok (.getfield 109, 3) := by decide +kernel
theorem dX5_keepOut_112 : decode cX5_keepOut 112 = .ok (.iconst 1, 1) := by decide +kernel
theorem dX5_keepOut_113 : decode cX5_keepOut 113 = .ok (.iadd, 1) := by decide +kernel
theorem dX5_keepOut_114 : decode cX5_keepOut 114 = .ok (.putfield 109, 3) := by decide +kernel
theorem dX5_keepOut_117 : decode cX5_keepOut 117 = .ok (.aload_n 0, 1) := by decide +kernel
theorem dX5_keepOut_118 : decode cX5_keepOut 118 = .ok (.iconst 0, 1) := by decide +kernel
theorem dX5_keepOut_119 : decode cX5_keepOut 119 = .ok (.invokevirtual 157, 3) := by decide +kernel
theorem dX5_keepOut_122 : decode cX5_keepOut 122 = .ok (.ifCond .eq (5), 3) := by decide +kernel
theorem dX5_keepOut_125 : decode cX5_keepOut 125 = .ok (.iconst 1, 1) := by decide +kernel
theorem dX5_keepOut_126 : decode cX5_keepOut 126 = .ok (.ireturn, 1) := by decide +kernel
abbrev cX0_init : ByteArray := prog_2_method_1_code
def yX0_init : MethodName := ⟨RX0, "<init>", "(LBoardMoves$Parts;)V"⟩
def wsX0_init : List Cond := .code yX0_init cX0_init 2 none :: bT
theorem dX0_init_0 : decode cX0_init 0 = .ok (.aload_n 0, 1) := by decide +kernel
theorem dX0_init_1 : decode cX0_init 1 = .ok (.invokespecial 3, 3) := by decide +kernel
theorem dX0_init_4 : decode cX0_init 4 = .ok (.aload_n 0, 1) := by decide +kernel
theorem dX0_init_5 : decode cX0_init 5 = .ok (.bipush 10, 2) := by decide +kernel
theorem dX0_init_7 : decode cX0_init 7 = .ok (.newarray .long, 2) := by decide +kernel
theorem dX0_init_9 : decode cX0_init 9 = .ok (.putfield 9, 3) := by decide +kernel
theorem dX0_init_12 : decode cX0_init 12 = .ok (.aload_n 0, 1) := by decide +kernel
theorem dX0_init_13 : decode cX0_init 13 = .ok (.bipush 10, 2) := by decide +kernel
theorem dX0_init_15 : decode cX0_init 15 = .ok (.newarray .long, 2) := by decide +kernel
theorem dX0_init_17 : decode cX0_init 17 = .ok (.putfield 15, 3) := by decide +kernel
theorem dX0_init_20 : decode cX0_init 20 = .ok (.aload_n 0, 1) := by decide +kernel
theorem dX0_init_21 : decode cX0_init 21 = .ok (.bipush 10, 2) := by decide +kernel
theorem dX0_init_23 : decode cX0_init 23 = .ok (.newarray .long, 2) := by decide +kernel
theorem dX0_init_25 : decode cX0_init 25 = .ok (.putfield 18, 3) := by decide +kernel
theorem dX0_init_28 : decode cX0_init 28 = .ok (.aload_n 0, 1) := by decide +kernel
theorem dX0_init_29 : decode cX0_init 29 = .ok (.bipush 10, 2) := by decide +kernel
theorem dX0_init_31 : decode cX0_init 31 = .ok (.newarray .long, 2) := by decide +kernel
theorem dX0_init_33 : decode cX0_init 33 = .ok (.putfield 21, 3) := by decide +kernel
theorem dX0_init_36 : decode cX0_init 36 = .ok (.aload_n 0, 1) := by decide +kernel
theorem dX0_init_37 : decode cX0_init 37 = .ok (.bipush 10, 2) := by decide +kernel
theorem dX0_init_39 : decode cX0_init 39 = .ok (.newarray .long, 2) := by decide +kernel
theorem dX0_init_41 : decode cX0_init 41 = .ok (.putfield 24, 3) := by decide +kernel
theorem dX0_init_44 : decode cX0_init 44 = .ok (.aload_n 0, 1) := by decide +kernel
theorem dX0_init_45 : decode cX0_init 45 = .ok (.bipush 20, 2) := by decide +kernel
theorem dX0_init_47 : decode cX0_init 47 = .ok (.newarray .int, 2) := by decide +kernel
theorem dX0_init_49 : decode cX0_init 49 = .ok (.putfield 27, 3) := by decide +kernel
theorem dX0_init_52 : decode cX0_init 52 = .ok (.aload_n 0, 1) := by decide +kernel
theorem dX0_init_53 : decode cX0_init 53 = .ok (.bipush 20, 2) := by decide +kernel
theorem dX0_init_55 : decode cX0_init 55 = .ok (.newarray .int, 2) := by decide +kernel
theorem dX0_init_57 : decode cX0_init 57 = .ok (.putfield 31, 3) := by decide +kernel
theorem dX0_init_60 : decode cX0_init 60 = .ok (.aload_n 0, 1) := by decide +kernel
theorem dX0_init_61 : decode cX0_init 61 = .ok (.bipush 20, 2) := by decide +kernel
theorem dX0_init_63 : decode cX0_init 63 = .ok (.newarray .long, 2) := by decide +kernel
theorem dX0_init_65 : decode cX0_init 65 = .ok (.putfield 34, 3) := by decide +kernel
theorem dX0_init_68 : decode cX0_init 68 = .ok (.aload_n 0, 1) := by decide +kernel
theorem dX0_init_69 : decode cX0_init 69 = .ok (.iconst 0, 1) := by decide +kernel
theorem dX0_init_70 : decode cX0_init 70 = .ok (.putfield 37, 3) := by decide +kernel
theorem dX0_init_73 : decode cX0_init 73 = .ok (.aload_n 0, 1) := by decide +kernel
theorem dX0_init_74 : decode cX0_init 74 = .ok (.iconst 0, 1) := by decide +kernel
theorem dX0_init_75 : decode cX0_init 75 = .ok (.putfield 41, 3) := by decide +kernel
theorem dX0_init_78 : decode cX0_init 78 = .ok (.aload_n 0, 1) := by decide +kernel
theorem dX0_init_79 : decode cX0_init 79 = .ok (.aload_n 1, 1) := by decide +kernel
theorem dX0_init_80 : decode cX0_init 80 = .ok (.putfield 44, 3) := by decide +kernel
theorem dX0_init_83 : decode cX0_init 83 = .ok (.return_, 1) := by decide +kernel
abbrev cX0_addKeepOut : ByteArray := prog_2_method_2_code
def yX0_addKeepOut : MethodName := ⟨RX0, "addKeepOut", "(JJJJJ)Z"⟩
def wsX0_addKeepOut : List Cond := .code yX0_addKeepOut cX0_addKeepOut 11 (some .boolean) :: bT
theorem dX0_addKeepOut_0 : decode cX0_addKeepOut 0 = .ok (.aload_n 0, 1) := by decide +kernel
theorem dX0_addKeepOut_1 : decode cX0_addKeepOut 1 = .ok (.getfield 37, 3) := by decide +kernel
theorem dX0_addKeepOut_4 : decode cX0_addKeepOut 4 = .ok (.bipush 10, 2) := by decide +kernel
theorem dX0_addKeepOut_6 : decode cX0_addKeepOut 6 = .ok (.if_icmp .lt (5), 3) := by decide +kernel
theorem dX0_addKeepOut_11 : decode cX0_addKeepOut 11 = .ok (.aload_n 0, 1) := by decide +kernel
theorem dX0_addKeepOut_12 : decode cX0_addKeepOut 12 = .ok (.getfield 9, 3) := by decide +kernel
theorem dX0_addKeepOut_15 : decode cX0_addKeepOut 15 = .ok (.aload_n 0, 1) := by decide +kernel
theorem dX0_addKeepOut_16 : decode cX0_addKeepOut 16 = .ok (.getfield 37, 3) := by decide +kernel
theorem dX0_addKeepOut_19 : decode cX0_addKeepOut 19 = .ok (.lload_n 1, 1) := by decide +kernel
theorem dX0_addKeepOut_20 : decode cX0_addKeepOut 20 = .ok (.lastore, 1) := by decide +kernel
theorem dX0_addKeepOut_21 : decode cX0_addKeepOut 21 = .ok (.aload_n 0, 1) := by decide +kernel
theorem dX0_addKeepOut_22 : decode cX0_addKeepOut 22 = .ok (.getfield 15, 3) := by decide +kernel
theorem dX0_addKeepOut_25 : decode cX0_addKeepOut 25 = .ok (.aload_n 0, 1) := by decide +kernel
theorem dX0_addKeepOut_26 : decode cX0_addKeepOut 26 = .ok (.getfield 37, 3) := by decide +kernel
theorem dX0_addKeepOut_29 : decode cX0_addKeepOut 29 = .ok (.lload_n 3, 1) := by decide +kernel
theorem dX0_addKeepOut_30 : decode cX0_addKeepOut 30 = .ok (.lastore, 1) := by decide +kernel
theorem dX0_addKeepOut_31 : decode cX0_addKeepOut 31 = .ok (.aload_n 0, 1) := by decide +kernel
theorem dX0_addKeepOut_32 : decode cX0_addKeepOut 32 = .ok (.getfield 18, 3) := by decide +kernel
theorem dX0_addKeepOut_35 : decode cX0_addKeepOut 35 = .ok (.aload_n 0, 1) := by decide +kernel
theorem dX0_addKeepOut_36 : decode cX0_addKeepOut 36 = .ok (.getfield 37, 3) := by decide +kernel
theorem dX0_addKeepOut_39 : decode cX0_addKeepOut 39 = .ok (.lload 5, 2) := by decide +kernel
theorem dX0_addKeepOut_41 : decode cX0_addKeepOut 41 = .ok (.lastore, 1) := by decide +kernel
theorem dX0_addKeepOut_42 : decode cX0_addKeepOut 42 = .ok (.aload_n 0, 1) := by decide +kernel
theorem dX0_addKeepOut_43 : decode cX0_addKeepOut 43 = .ok (.getfield 21, 3) := by decide +kernel
theorem dX0_addKeepOut_46 : decode cX0_addKeepOut 46 = .ok (.aload_n 0, 1) := by decide +kernel
theorem dX0_addKeepOut_47 : decode cX0_addKeepOut 47 = .ok (.getfield 37, 3) := by decide +kernel
theorem dX0_addKeepOut_50 : decode cX0_addKeepOut 50 = .ok (.lload 7, 2) := by decide +kernel
theorem dX0_addKeepOut_52 : decode cX0_addKeepOut 52 = .ok (.lastore, 1) := by decide +kernel
theorem dX0_addKeepOut_53 : decode cX0_addKeepOut 53 = .ok (.aload_n 0, 1) := by decide +kernel
theorem dX0_addKeepOut_54 : decode cX0_addKeepOut 54 = .ok (.getfield 24, 3) := by decide +kernel
theorem dX0_addKeepOut_57 : decode cX0_addKeepOut 57 = .ok (.aload_n 0, 1) := by decide +kernel
theorem dX0_addKeepOut_58 : decode cX0_addKeepOut 58 = .ok (.getfield 37, 3) := by decide +kernel
theorem dX0_addKeepOut_61 : decode cX0_addKeepOut 61 = .ok (.lload 9, 2) := by decide +kernel
theorem dX0_addKeepOut_63 : decode cX0_addKeepOut 63 = .ok (.lastore, 1) := by decide +kernel
theorem dX0_addKeepOut_64 : decode cX0_addKeepOut 64 = .ok (.aload_n 0, 1) := by decide +kernel
theorem dX0_addKeepOut_65 : decode cX0_addKeepOut 65 = .ok (.dup, 1) := by decide +kernel
theorem dX0_addKeepOut_66 : decode cX0_addKeepOut 66 = .ok (.getfield 37, 3) := by decide +kernel
theorem dX0_addKeepOut_69 : decode cX0_addKeepOut 69 = .ok (.iconst 1, 1) := by decide +kernel
theorem dX0_addKeepOut_70 : decode cX0_addKeepOut 70 = .ok (.iadd, 1) := by decide +kernel
theorem dX0_addKeepOut_71 : decode cX0_addKeepOut 71 = .ok (.putfield 37, 3) := by decide +kernel
theorem dX0_addKeepOut_74 : decode cX0_addKeepOut 74 = .ok (.iconst 1, 1) := by decide +kernel
theorem dX0_addKeepOut_75 : decode cX0_addKeepOut 75 = .ok (.ireturn, 1) := by decide +kernel
abbrev cX1_init : ByteArray := prog_3_method_1_code
def yX1_init : MethodName := ⟨RX1, "<init>", "()V"⟩
def wsX1_init : List Cond := .code yX1_init cX1_init 1 none :: bT
theorem dX1_init_0 : decode cX1_init 0 = .ok (.aload_n 0, 1) := by decide +kernel
theorem dX1_init_1 : decode cX1_init 1 = .ok (.invokespecial 3, 3) := by decide +kernel
theorem dX1_init_4 : decode cX1_init 4 = .ok (.aload_n 0, 1) := by decide +kernel
theorem dX1_init_5 : decode cX1_init 5 = .ok (.bipush 40, 2) := by decide +kernel
theorem dX1_init_7 : decode cX1_init 7 = .ok (.newarray .long, 2) := by decide +kernel
theorem dX1_init_9 : decode cX1_init 9 = .ok (.putfield 9, 3) := by decide +kernel
theorem dX1_init_12 : decode cX1_init 12 = .ok (.aload_n 0, 1) := by decide +kernel
theorem dX1_init_13 : decode cX1_init 13 = .ok (.bipush 40, 2) := by decide +kernel
theorem dX1_init_15 : decode cX1_init 15 = .ok (.newarray .long, 2) := by decide +kernel
theorem dX1_init_17 : decode cX1_init 17 = .ok (.putfield 15, 3) := by decide +kernel
theorem dX1_init_20 : decode cX1_init 20 = .ok (.aload_n 0, 1) := by decide +kernel
theorem dX1_init_21 : decode cX1_init 21 = .ok (.bipush 40, 2) := by decide +kernel
theorem dX1_init_23 : decode cX1_init 23 = .ok (.newarray .int, 2) := by decide +kernel
theorem dX1_init_25 : decode cX1_init 25 = .ok (.putfield 18, 3) := by decide +kernel
theorem dX1_init_28 : decode cX1_init 28 = .ok (.aload_n 0, 1) := by decide +kernel
theorem dX1_init_29 : decode cX1_init 29 = .ok (.bipush 40, 2) := by decide +kernel
theorem dX1_init_31 : decode cX1_init 31 = .ok (.newarray .long, 2) := by decide +kernel
theorem dX1_init_33 : decode cX1_init 33 = .ok (.putfield 22, 3) := by decide +kernel
theorem dX1_init_36 : decode cX1_init 36 = .ok (.aload_n 0, 1) := by decide +kernel
theorem dX1_init_37 : decode cX1_init 37 = .ok (.bipush 40, 2) := by decide +kernel
theorem dX1_init_39 : decode cX1_init 39 = .ok (.newarray .boolean, 2) := by decide +kernel
theorem dX1_init_41 : decode cX1_init 41 = .ok (.putfield 25, 3) := by decide +kernel
theorem dX1_init_44 : decode cX1_init 44 = .ok (.aload_n 0, 1) := by decide +kernel
theorem dX1_init_45 : decode cX1_init 45 = .ok (.bipush 40, 2) := by decide +kernel
theorem dX1_init_47 : decode cX1_init 47 = .ok (.newarray .int, 2) := by decide +kernel
theorem dX1_init_49 : decode cX1_init 49 = .ok (.putfield 29, 3) := by decide +kernel
theorem dX1_init_52 : decode cX1_init 52 = .ok (.aload_n 0, 1) := by decide +kernel
theorem dX1_init_53 : decode cX1_init 53 = .ok (.iconst 0, 1) := by decide +kernel
theorem dX1_init_54 : decode cX1_init 54 = .ok (.putfield 32, 3) := by decide +kernel
theorem dX1_init_57 : decode cX1_init 57 = .ok (.return_, 1) := by decide +kernel
abbrev cX1_add : ByteArray := prog_3_method_2_code
def yX1_add : MethodName := ⟨RX1, "add", "(JJI)I"⟩
def wsX1_add : List Cond := .code yX1_add cX1_add 6 (some .int) :: bT
theorem dX1_add_0 : decode cX1_add 0 = .ok (.aload_n 0, 1) := by decide +kernel
theorem dX1_add_1 : decode cX1_add 1 = .ok (.getfield 32, 3) := by decide +kernel
theorem dX1_add_4 : decode cX1_add 4 = .ok (.bipush 40, 2) := by decide +kernel
theorem dX1_add_6 : decode cX1_add 6 = .ok (.if_icmp .lt (5), 3) := by decide +kernel
theorem dX1_add_11 : decode cX1_add 11 = .ok (.aload_n 0, 1) := by decide +kernel
theorem dX1_add_12 : decode cX1_add 12 = .ok (.getfield 9, 3) := by decide +kernel
theorem dX1_add_15 : decode cX1_add 15 = .ok (.aload_n 0, 1) := by decide +kernel
theorem dX1_add_16 : decode cX1_add 16 = .ok (.getfield 32, 3) := by decide +kernel
theorem dX1_add_19 : decode cX1_add 19 = .ok (.lload_n 1, 1) := by decide +kernel
theorem dX1_add_20 : decode cX1_add 20 = .ok (.lastore, 1) := by decide +kernel
theorem dX1_add_21 : decode cX1_add 21 = .ok (.aload_n 0, 1) := by decide +kernel
theorem dX1_add_22 : decode cX1_add 22 = .ok (.getfield 15, 3) := by decide +kernel
theorem dX1_add_25 : decode cX1_add 25 = .ok (.aload_n 0, 1) := by decide +kernel
theorem dX1_add_26 : decode cX1_add 26 = .ok (.getfield 32, 3) := by decide +kernel
theorem dX1_add_29 : decode cX1_add 29 = .ok (.lload_n 3, 1) := by decide +kernel
theorem dX1_add_30 : decode cX1_add 30 = .ok (.lastore, 1) := by decide +kernel
theorem dX1_add_31 : decode cX1_add 31 = .ok (.aload_n 0, 1) := by decide +kernel
theorem dX1_add_32 : decode cX1_add 32 = .ok (.getfield 18, 3) := by decide +kernel
theorem dX1_add_35 : decode cX1_add 35 = .ok (.aload_n 0, 1) := by decide +kernel
theorem dX1_add_36 : decode cX1_add 36 = .ok (.getfield 32, 3) := by decide +kernel
theorem dX1_add_39 : decode cX1_add 39 = .ok (.iload 5, 2) := by decide +kernel
theorem dX1_add_41 : decode cX1_add 41 = .ok (.iastore, 1) := by decide +kernel
theorem dX1_add_42 : decode cX1_add 42 = .ok (.aload_n 0, 1) := by decide +kernel
theorem dX1_add_43 : decode cX1_add 43 = .ok (.getfield 29, 3) := by decide +kernel
theorem dX1_add_46 : decode cX1_add 46 = .ok (.aload_n 0, 1) := by decide +kernel
theorem dX1_add_47 : decode cX1_add 47 = .ok (.getfield 32, 3) := by decide +kernel
theorem dX1_add_50 : decode cX1_add 50 = .ok (.aload_n 0, 1) := by decide +kernel
theorem dX1_add_51 : decode cX1_add 51 = .ok (.getfield 32, 3) := by decide +kernel
theorem dX1_add_54 : decode cX1_add 54 = .ok (.iastore, 1) := by decide +kernel
theorem dX1_add_55 : decode cX1_add 55 = .ok (.aload_n 0, 1) := by decide +kernel
theorem dX1_add_56 : decode cX1_add 56 = .ok (.dup, 1) := by decide +kernel
theorem dX1_add_57 : decode cX1_add 57 = .ok (.getfield 32, 3) := by decide +kernel
theorem dX1_add_60 : decode cX1_add 60 = .ok (.iconst 1, 1) := by decide +kernel
theorem dX1_add_61 : decode cX1_add 61 = .ok (.iadd, 1) := by decide +kernel
theorem dX1_add_62 : decode cX1_add 62 = .ok (.putfield 32, 3) := by decide +kernel
theorem dX1_add_65 : decode cX1_add 65 = .ok (.aload_n 0, 1) := by decide +kernel
theorem dX1_add_66 : decode cX1_add 66 = .ok (.getfield 32, 3) := by decide +kernel
theorem dX1_add_69 : decode cX1_add 69 = .ok (.iconst 1, 1) := by decide +kernel
theorem dX1_add_70 : decode cX1_add 70 = .ok (.isub, 1) := by decide +kernel
theorem dX1_add_71 : decode cX1_add 71 = .ok (.ireturn, 1) := by decide +kernel
abbrev cX2_init : ByteArray := prog_4_method_1_code
def yX2_init : MethodName := ⟨RX2, "<init>", "(LBoardMoves$Parts;)V"⟩
def wsX2_init : List Cond := .code yX2_init cX2_init 2 none :: bT
theorem dX2_init_0 : decode cX2_init 0 = .ok (.aload_n 0, 1) := by decide +kernel
theorem dX2_init_1 : decode cX2_init 1 = .ok (.invokespecial 3, 3) := by decide +kernel
theorem dX2_init_4 : decode cX2_init 4 = .ok (.aload_n 0, 1) := by decide +kernel
theorem dX2_init_5 : decode cX2_init 5 = .ok (.bipush 40, 2) := by decide +kernel
theorem dX2_init_7 : decode cX2_init 7 = .ok (.newarray .long, 2) := by decide +kernel
theorem dX2_init_9 : decode cX2_init 9 = .ok (.putfield 9, 3) := by decide +kernel
theorem dX2_init_12 : decode cX2_init 12 = .ok (.aload_n 0, 1) := by decide +kernel
theorem dX2_init_13 : decode cX2_init 13 = .ok (.bipush 40, 2) := by decide +kernel
theorem dX2_init_15 : decode cX2_init 15 = .ok (.newarray .long, 2) := by decide +kernel
theorem dX2_init_17 : decode cX2_init 17 = .ok (.putfield 15, 3) := by decide +kernel
theorem dX2_init_20 : decode cX2_init 20 = .ok (.aload_n 0, 1) := by decide +kernel
theorem dX2_init_21 : decode cX2_init 21 = .ok (.bipush 40, 2) := by decide +kernel
theorem dX2_init_23 : decode cX2_init 23 = .ok (.newarray .int, 2) := by decide +kernel
theorem dX2_init_25 : decode cX2_init 25 = .ok (.putfield 18, 3) := by decide +kernel
theorem dX2_init_28 : decode cX2_init 28 = .ok (.aload_n 0, 1) := by decide +kernel
theorem dX2_init_29 : decode cX2_init 29 = .ok (.bipush 40, 2) := by decide +kernel
theorem dX2_init_31 : decode cX2_init 31 = .ok (.newarray .boolean, 2) := by decide +kernel
theorem dX2_init_33 : decode cX2_init 33 = .ok (.putfield 22, 3) := by decide +kernel
theorem dX2_init_36 : decode cX2_init 36 = .ok (.aload_n 0, 1) := by decide +kernel
theorem dX2_init_37 : decode cX2_init 37 = .ok (.aload_n 1, 1) := by decide +kernel
theorem dX2_init_38 : decode cX2_init 38 = .ok (.putfield 26, 3) := by decide +kernel
theorem dX2_init_41 : decode cX2_init 41 = .ok (.return_, 1) := by decide +kernel
abbrev cX3_init : ByteArray := prog_5_method_1_code
def yX3_init : MethodName := ⟨RX3, "<init>", "(LBoardMoves$Parts;)V"⟩
def wsX3_init : List Cond := .code yX3_init cX3_init 2 none :: bT
theorem dX3_init_0 : decode cX3_init 0 = .ok (.aload_n 0, 1) := by decide +kernel
theorem dX3_init_1 : decode cX3_init 1 = .ok (.invokespecial 3, 3) := by decide +kernel
theorem dX3_init_4 : decode cX3_init 4 = .ok (.aload_n 0, 1) := by decide +kernel
theorem dX3_init_5 : decode cX3_init 5 = .ok (.bipush 120, 2) := by decide +kernel
theorem dX3_init_7 : decode cX3_init 7 = .ok (.newarray .int, 2) := by decide +kernel
theorem dX3_init_9 : decode cX3_init 9 = .ok (.putfield 9, 3) := by decide +kernel
theorem dX3_init_12 : decode cX3_init 12 = .ok (.aload_n 0, 1) := by decide +kernel
theorem dX3_init_13 : decode cX3_init 13 = .ok (.bipush 120, 2) := by decide +kernel
theorem dX3_init_15 : decode cX3_init 15 = .ok (.newarray .int, 2) := by decide +kernel
theorem dX3_init_17 : decode cX3_init 17 = .ok (.putfield 15, 3) := by decide +kernel
theorem dX3_init_20 : decode cX3_init 20 = .ok (.aload_n 0, 1) := by decide +kernel
theorem dX3_init_21 : decode cX3_init 21 = .ok (.bipush 120, 2) := by decide +kernel
theorem dX3_init_23 : decode cX3_init 23 = .ok (.newarray .long, 2) := by decide +kernel
theorem dX3_init_25 : decode cX3_init 25 = .ok (.putfield 18, 3) := by decide +kernel
theorem dX3_init_28 : decode cX3_init 28 = .ok (.aload_n 0, 1) := by decide +kernel
theorem dX3_init_29 : decode cX3_init 29 = .ok (.bipush 120, 2) := by decide +kernel
theorem dX3_init_31 : decode cX3_init 31 = .ok (.newarray .long, 2) := by decide +kernel
theorem dX3_init_33 : decode cX3_init 33 = .ok (.putfield 22, 3) := by decide +kernel
theorem dX3_init_36 : decode cX3_init 36 = .ok (.aload_n 0, 1) := by decide +kernel
theorem dX3_init_37 : decode cX3_init 37 = .ok (.bipush 40, 2) := by decide +kernel
theorem dX3_init_39 : decode cX3_init 39 = .ok (.newarray .boolean, 2) := by decide +kernel
theorem dX3_init_41 : decode cX3_init 41 = .ok (.putfield 25, 3) := by decide +kernel
theorem dX3_init_44 : decode cX3_init 44 = .ok (.aload_n 0, 1) := by decide +kernel
theorem dX3_init_45 : decode cX3_init 45 = .ok (.bipush 40, 2) := by decide +kernel
theorem dX3_init_47 : decode cX3_init 47 = .ok (.newarray .long, 2) := by decide +kernel
theorem dX3_init_49 : decode cX3_init 49 = .ok (.putfield 29, 3) := by decide +kernel
theorem dX3_init_52 : decode cX3_init 52 = .ok (.aload_n 0, 1) := by decide +kernel
theorem dX3_init_53 : decode cX3_init 53 = .ok (.bipush 40, 2) := by decide +kernel
theorem dX3_init_55 : decode cX3_init 55 = .ok (.newarray .long, 2) := by decide +kernel
theorem dX3_init_57 : decode cX3_init 57 = .ok (.putfield 32, 3) := by decide +kernel
theorem dX3_init_60 : decode cX3_init 60 = .ok (.aload_n 0, 1) := by decide +kernel
theorem dX3_init_61 : decode cX3_init 61 = .ok (.bipush 40, 2) := by decide +kernel
theorem dX3_init_63 : decode cX3_init 63 = .ok (.newarray .long, 2) := by decide +kernel
theorem dX3_init_65 : decode cX3_init 65 = .ok (.putfield 35, 3) := by decide +kernel
theorem dX3_init_68 : decode cX3_init 68 = .ok (.aload_n 0, 1) := by decide +kernel
theorem dX3_init_69 : decode cX3_init 69 = .ok (.bipush 40, 2) := by decide +kernel
theorem dX3_init_71 : decode cX3_init 71 = .ok (.newarray .long, 2) := by decide +kernel
theorem dX3_init_73 : decode cX3_init 73 = .ok (.putfield 38, 3) := by decide +kernel
theorem dX3_init_76 : decode cX3_init 76 = .ok (.aload_n 0, 1) := by decide +kernel
theorem dX3_init_77 : decode cX3_init 77 = .ok (.iconst 0, 1) := by decide +kernel
theorem dX3_init_78 : decode cX3_init 78 = .ok (.putfield 41, 3) := by decide +kernel
theorem dX3_init_81 : decode cX3_init 81 = .ok (.aload_n 0, 1) := by decide +kernel
theorem dX3_init_82 : decode cX3_init 82 = .ok (.iconst 0, 1) := by decide +kernel
theorem dX3_init_83 : decode cX3_init 83 = .ok (.putfield 45, 3) := by decide +kernel
theorem dX3_init_86 : decode cX3_init 86 = .ok (.aload_n 0, 1) := by decide +kernel
theorem dX3_init_87 : decode cX3_init 87 = .ok (.aload_n 1, 1) := by decide +kernel
theorem dX3_init_88 : decode cX3_init 88 = .ok (.putfield 48, 3) := by decide +kernel
theorem dX3_init_91 : decode cX3_init 91 = .ok (.return_, 1) := by decide +kernel
abbrev cX3_addNet : ByteArray := prog_5_method_2_code
def yX3_addNet : MethodName := ⟨RX3, "addNet", "()I"⟩
def wsX3_addNet : List Cond := .code yX3_addNet cX3_addNet 1 (some .int) :: bT
theorem dX3_addNet_0 : decode cX3_addNet 0 = .ok (.aload_n 0, 1) := by decide +kernel
theorem dX3_addNet_1 : decode cX3_addNet 1 = .ok (.getfield 41, 3) := by decide +kernel
theorem dX3_addNet_4 : decode cX3_addNet 4 = .ok (.bipush 40, 2) := by decide +kernel
theorem dX3_addNet_6 : decode cX3_addNet 6 = .ok (.if_icmp .lt (5), 3) := by decide +kernel
theorem dX3_addNet_11 : decode cX3_addNet 11 = .ok (.aload_n 0, 1) := by decide +kernel
theorem dX3_addNet_12 : decode cX3_addNet 12 = .ok (.dup, 1) := by decide +kernel
theorem dX3_addNet_13 : decode cX3_addNet 13 = .ok (.getfield 41, 3) := by decide +kernel
theorem dX3_addNet_16 : decode cX3_addNet 16 = .ok (.iconst 1, 1) := by decide +kernel
theorem dX3_addNet_17 : decode cX3_addNet 17 = .ok (.iadd, 1) := by decide +kernel
theorem dX3_addNet_18 : decode cX3_addNet 18 = .ok (.putfield 41, 3) := by decide +kernel
theorem dX3_addNet_21 : decode cX3_addNet 21 = .ok (.aload_n 0, 1) := by decide +kernel
theorem dX3_addNet_22 : decode cX3_addNet 22 = .ok (.getfield 41, 3) := by decide +kernel
theorem dX3_addNet_25 : decode cX3_addNet 25 = .ok (.iconst 1, 1) := by decide +kernel
theorem dX3_addNet_26 : decode cX3_addNet 26 = .ok (.isub, 1) := by decide +kernel
theorem dX3_addNet_27 : decode cX3_addNet 27 = .ok (.ireturn, 1) := by decide +kernel
abbrev cX3_measure : ByteArray := prog_5_method_4_code
def yX3_measure : MethodName := ⟨RX3, "measure", "(LBoardMoves$Placement;)J"⟩
def wsX3_measure : List Cond := .code yX3_measure cX3_measure 5 (some .long) :: bT
theorem dX3_measure_0 : decode cX3_measure 0 = .ok (.iconst 0, 1) := by decide +kernel
theorem dX3_measure_1 : decode cX3_measure 1 = .ok (.istore_n 2, 1) := by decide +kernel
theorem dX3_measure_2 : decode cX3_measure 2 = .ok (.iload_n 2, 1) := by decide +kernel
theorem dX3_measure_3 : decode cX3_measure 3 = .ok (.aload_n 0, 1) := by decide +kernel
theorem dX3_measure_4 : decode cX3_measure 4 = .ok (.getfield 41, 3) := by decide +kernel
theorem dX3_measure_7 : decode cX3_measure 7 = .ok (.if_icmp .ge (16), 3) := by decide +kernel
theorem dX3_measure_23 : decode cX3_measure 23 = .ok (.iconst 0, 1) := by decide +kernel
theorem dX3_measure_24 : decode cX3_measure 24 = .ok (.istore_n 2, 1) := by decide +kernel
theorem dX3_measure_25 : decode cX3_measure 25 = .ok (.iload_n 2, 1) := by decide +kernel
theorem dX3_measure_26 : decode cX3_measure 26 = .ok (.aload_n 0, 1) := by decide +kernel
theorem dX3_measure_27 : decode cX3_measure 27 = .ok (.getfield 45, 3) := by decide +kernel
theorem dX3_measure_30 : decode cX3_measure 30 = .ok (.if_icmp .ge (73), 3) := by decide +kernel
theorem dX3_measure_103 : decode cX3_measure 103 = .ok (.lconst 0, 1) := by decide +kernel
theorem dX3_measure_104 : decode cX3_measure 104 = .ok (.lstore_n 2, 1) := by decide +kernel
theorem dX3_measure_105 : decode cX3_measure 105 = .ok (.iconst 0, 1) := by decide +kernel
theorem dX3_measure_106 : decode cX3_measure 106 = .ok (.istore 4, 2) := by decide +kernel
theorem dX3_measure_108 : decode cX3_measure 108 = .ok (.iload 4, 2) := by decide +kernel
theorem dX3_measure_110 : decode cX3_measure 110 = .ok (.aload_n 0, 1) := by decide +kernel
theorem dX3_measure_111 : decode cX3_measure 111 = .ok (.getfield 41, 3) := by decide +kernel
theorem dX3_measure_114 : decode cX3_measure 114 = .ok (.if_icmp .ge (53), 3) := by decide +kernel
theorem dX3_measure_167 : decode cX3_measure 167 = .ok (.lload_n 2, 1) := by decide +kernel
theorem dX3_measure_168 : decode cX3_measure 168 = .ok (.lreturn, 1) := by decide +kernel
abbrev cL_cell : ByteArray := method_2_code
def yL_cell : MethodName := ⟨RL, "cell", "([II)I"⟩
def wsL_cell : List Cond := .code yL_cell cL_cell 2 (some .int) :: bT
theorem dL_cell_0 : decode cL_cell 0 = .ok (.iload_n 1, 1) := by decide +kernel
theorem dL_cell_1 : decode cL_cell 1 = .ok (.aload_n 0, 1) := by decide +kernel
theorem dL_cell_2 : decode cL_cell 2 = .ok (.arraylength, 1) := by decide +kernel
theorem dL_cell_3 : decode cL_cell 3 = .ok (.if_icmp .ge (9), 3) := by decide +kernel
theorem dL_cell_6 : decode cL_cell 6 = .ok (.aload_n 0, 1) := by decide +kernel
theorem dL_cell_7 : decode cL_cell 7 = .ok (.iload_n 1, 1) := by decide +kernel
theorem dL_cell_8 : decode cL_cell 8 = .ok (.iaload, 1) := by decide +kernel
theorem dL_cell_9 : decode cL_cell 9 = .ok (.goto (4), 3) := by decide +kernel
theorem dL_cell_12 : decode cL_cell 12 = .ok (.iconst 0, 1) := by decide +kernel
theorem dL_cell_13 : decode cL_cell 13 = .ok (.ireturn, 1) := by decide +kernel
abbrev cL_part : ByteArray := method_3_code
def yL_part : MethodName := ⟨RL, "part", "(LBoardMoves;JJI[J)I"⟩
def wsL_part : List Cond := .codeWith yL_part cL_part 8 (some .int) [(0, 13, 16, 13)] :: bT
theorem dL_part_0 : decode cL_part 0 = .ok (.aload 6, 2) := by decide +kernel
theorem dL_part_2 : decode cL_part 2 = .ok (.iconst 0, 1) := by decide +kernel
theorem dL_part_3 : decode cL_part 3 = .ok (.aload_n 0, 1) := by decide +kernel
theorem dL_part_4 : decode cL_part 4 = .ok (.lload_n 1, 1) := by decide +kernel
theorem dL_part_5 : decode cL_part 5 = .ok (.lload_n 3, 1) := by decide +kernel
theorem dL_part_6 : decode cL_part 6 = .ok (.iload 5, 2) := by decide +kernel
theorem dL_part_8 : decode cL_part 8 = .ok (.invokevirtual 7, 3) := by decide +kernel
theorem dL_part_11 : decode cL_part 11 = .ok (.i2l, 1) := by decide +kernel
theorem dL_part_12 : decode cL_part 12 = .ok (.lastore, 1) := by decide +kernel
theorem dL_part_13 : decode cL_part 13 = .ok (.goto (7), 3) := by decide +kernel
theorem dL_part_16 : decode cL_part 16 = .ok (.astore 7, 2) := by decide +kernel
theorem dL_part_18 : decode cL_part 18 = .ok (.iconst 1, 1) := by decide +kernel
theorem dL_part_19 : decode cL_part 19 = .ok (.ireturn, 1) := by decide +kernel
theorem dL_part_20 : decode cL_part 20 = .ok (.iconst 0, 1) := by decide +kernel
theorem dL_part_21 : decode cL_part 21 = .ok (.ireturn, 1) := by decide +kernel
abbrev cL_put : ByteArray := method_4_code
def yL_put : MethodName := ⟨RL, "put", "(LBoardMoves;IJJI[J)I"⟩
def wsL_put : List Cond := .codeWith yL_put cL_put 9 (some .int) [(0, 22, 25, 19), (0, 22, 29, 13)] :: bT
theorem dL_put_0 : decode cL_put 0 = .ok (.aload 7, 2) := by decide +kernel
theorem dL_put_2 : decode cL_put 2 = .ok (.iconst 0, 1) := by decide +kernel
theorem dL_put_3 : decode cL_put 3 = .ok (.aload_n 0, 1) := by decide +kernel
theorem dL_put_4 : decode cL_put 4 = .ok (.iload_n 1, 1) := by decide +kernel
theorem dL_put_5 : decode cL_put 5 = .ok (.lload_n 2, 1) := by decide +kernel
theorem dL_put_6 : decode cL_put 6 = .ok (.lload 4, 2) := by decide +kernel
theorem dL_put_8 : decode cL_put 8 = .ok (.iload 6, 2) := by decide +kernel
theorem dL_put_10 : decode cL_put 10 = .ok (.invokevirtual 15, 3) := by decide +kernel
theorem dL_put_25 : decode cL_put 25 = .ok (.astore 8, 2) := by decide +kernel
theorem dL_put_27 : decode cL_put 27 = .ok (.iconst 1, 1) := by decide +kernel
theorem dL_put_28 : decode cL_put 28 = .ok (.ireturn, 1) := by decide +kernel
abbrev cL_lock : ByteArray := method_5_code
def yL_lock : MethodName := ⟨RL, "lock", "(LBoardMoves;IZ[J)I"⟩
def wsL_lock : List Cond := .codeWith yL_lock cL_lock 5 (some .int) [(0, 17, 20, 19)] :: bT
theorem dL_lock_0 : decode cL_lock 0 = .ok (.aload_n 3, 1) := by decide +kernel
theorem dL_lock_1 : decode cL_lock 1 = .ok (.iconst 0, 1) := by decide +kernel
theorem dL_lock_2 : decode cL_lock 2 = .ok (.aload_n 0, 1) := by decide +kernel
theorem dL_lock_3 : decode cL_lock 3 = .ok (.iload_n 1, 1) := by decide +kernel
theorem dL_lock_4 : decode cL_lock 4 = .ok (.iload_n 2, 1) := by decide +kernel
theorem dL_lock_5 : decode cL_lock 5 = .ok (.invokevirtual 21, 3) := by decide +kernel
theorem dL_lock_20 : decode cL_lock 20 = .ok (.astore 4, 2) := by decide +kernel
theorem dL_lock_22 : decode cL_lock 22 = .ok (.iconst 1, 1) := by decide +kernel
theorem dL_lock_23 : decode cL_lock 23 = .ok (.ireturn, 1) := by decide +kernel
abbrev cL_pin : ByteArray := method_6_code
def yL_pin : MethodName := ⟨RL, "pin", "(LBoardMoves;IIJJ[J)I"⟩
def wsL_pin : List Cond := .codeWith yL_pin cL_pin 9 (some .int) [(0, 21, 24, 19), (0, 21, 28, 13)] :: bT
theorem dL_pin_0 : decode cL_pin 0 = .ok (.aload 7, 2) := by decide +kernel
theorem dL_pin_2 : decode cL_pin 2 = .ok (.iconst 0, 1) := by decide +kernel
theorem dL_pin_3 : decode cL_pin 3 = .ok (.aload_n 0, 1) := by decide +kernel
theorem dL_pin_4 : decode cL_pin 4 = .ok (.iload_n 1, 1) := by decide +kernel
theorem dL_pin_5 : decode cL_pin 5 = .ok (.iload_n 2, 1) := by decide +kernel
theorem dL_pin_6 : decode cL_pin 6 = .ok (.lload_n 3, 1) := by decide +kernel
theorem dL_pin_7 : decode cL_pin 7 = .ok (.lload 5, 2) := by decide +kernel
theorem dL_pin_9 : decode cL_pin 9 = .ok (.invokevirtual 25, 3) := by decide +kernel
theorem dL_pin_24 : decode cL_pin 24 = .ok (.astore 8, 2) := by decide +kernel
theorem dL_pin_26 : decode cL_pin 26 = .ok (.iconst 1, 1) := by decide +kernel
theorem dL_pin_27 : decode cL_pin 27 = .ok (.ireturn, 1) := by decide +kernel
abbrev cL_push : ByteArray := method_7_code
def yL_push : MethodName := ⟨RL, "push", "(LBoardMoves;IJJ[J)I"⟩
def wsL_push : List Cond := .codeWith yL_push cL_push 8 (some .int) [(0, 13, 16, 19), (0, 13, 20, 33)] :: bT
theorem dL_push_0 : decode cL_push 0 = .ok (.aload 6, 2) := by decide +kernel
theorem dL_push_2 : decode cL_push 2 = .ok (.iconst 0, 1) := by decide +kernel
theorem dL_push_3 : decode cL_push 3 = .ok (.aload_n 0, 1) := by decide +kernel
theorem dL_push_4 : decode cL_push 4 = .ok (.iload_n 1, 1) := by decide +kernel
theorem dL_push_5 : decode cL_push 5 = .ok (.lload_n 2, 1) := by decide +kernel
theorem dL_push_6 : decode cL_push 6 = .ok (.lload 4, 2) := by decide +kernel
theorem dL_push_8 : decode cL_push 8 = .ok (.invokevirtual 29, 3) := by decide +kernel
theorem dL_push_16 : decode cL_push 16 = .ok (.astore 7, 2) := by decide +kernel
theorem dL_push_18 : decode cL_push 18 = .ok (.iconst 1, 1) := by decide +kernel
theorem dL_push_19 : decode cL_push 19 = .ok (.ireturn, 1) := by decide +kernel
abbrev cL_at : ByteArray := method_8_code
def yL_at : MethodName := ⟨RL, "at", "(LBoardMoves;II[J)I"⟩
def wsL_at : List Cond := .codeWith yL_at cL_at 5 (some .int) [(0, 9, 12, 19)] :: bT
theorem dL_at_0 : decode cL_at 0 = .ok (.aload_n 3, 1) := by decide +kernel
theorem dL_at_1 : decode cL_at 1 = .ok (.iconst 0, 1) := by decide +kernel
theorem dL_at_2 : decode cL_at 2 = .ok (.aload_n 0, 1) := by decide +kernel
theorem dL_at_3 : decode cL_at 3 = .ok (.iload_n 1, 1) := by decide +kernel
theorem dL_at_4 : decode cL_at 4 = .ok (.iload_n 2, 1) := by decide +kernel
theorem dL_at_5 : decode cL_at 5 = .ok (.invokevirtual 35, 3) := by decide +kernel
theorem dL_at_12 : decode cL_at 12 = .ok (.astore 4, 2) := by decide +kernel
theorem dL_at_14 : decode cL_at 14 = .ok (.iconst 1, 1) := by decide +kernel
theorem dL_at_15 : decode cL_at 15 = .ok (.ireturn, 1) := by decide +kernel
abbrev cL_run : ByteArray := method_9_code
def yL_run : MethodName := ⟨RL, "run", "(LBoardMoves;J[J)I"⟩
def wsL_run : List Cond := .codeWith yL_run cL_run 5 (some .int) [(0, 9, 12, 13)] :: bT
theorem dL_run_0 : decode cL_run 0 = .ok (.aload_n 3, 1) := by decide +kernel
theorem dL_run_1 : decode cL_run 1 = .ok (.iconst 0, 1) := by decide +kernel
theorem dL_run_2 : decode cL_run 2 = .ok (.aload_n 0, 1) := by decide +kernel
theorem dL_run_3 : decode cL_run 3 = .ok (.lload_n 1, 1) := by decide +kernel
theorem dL_run_4 : decode cL_run 4 = .ok (.invokevirtual 39, 3) := by decide +kernel
theorem dL_run_7 : decode cL_run 7 = .ok (.i2l, 1) := by decide +kernel
theorem dL_run_8 : decode cL_run 8 = .ok (.lastore, 1) := by decide +kernel
theorem dL_run_9 : decode cL_run 9 = .ok (.goto (7), 3) := by decide +kernel
theorem dL_run_12 : decode cL_run 12 = .ok (.astore 4, 2) := by decide +kernel
theorem dL_run_14 : decode cL_run 14 = .ok (.iconst 1, 1) := by decide +kernel
theorem dL_run_15 : decode cL_run 15 = .ok (.ireturn, 1) := by decide +kernel
theorem dL_run_16 : decode cL_run 16 = .ok (.iconst 0, 1) := by decide +kernel
theorem dL_run_17 : decode cL_run 17 = .ok (.ireturn, 1) := by decide +kernel
abbrev cL_near : ByteArray := method_10_code
def yL_near : MethodName := ⟨RL, "near", "(LBoardMoves;IIJ[J)I"⟩
def wsL_near : List Cond := .codeWith yL_near cL_near 7 (some .int) [(0, 19, 22, 19), (0, 19, 26, 13)] :: bT
theorem dL_near_0 : decode cL_near 0 = .ok (.aload 5, 2) := by decide +kernel
theorem dL_near_2 : decode cL_near 2 = .ok (.iconst 0, 1) := by decide +kernel
theorem dL_near_3 : decode cL_near 3 = .ok (.aload_n 0, 1) := by decide +kernel
theorem dL_near_4 : decode cL_near 4 = .ok (.iload_n 1, 1) := by decide +kernel
theorem dL_near_5 : decode cL_near 5 = .ok (.iload_n 2, 1) := by decide +kernel
theorem dL_near_6 : decode cL_near 6 = .ok (.lload_n 3, 1) := by decide +kernel
theorem dL_near_7 : decode cL_near 7 = .ok (.invokevirtual 43, 3) := by decide +kernel
theorem dL_near_22 : decode cL_near 22 = .ok (.astore 6, 2) := by decide +kernel
theorem dL_near_24 : decode cL_near 24 = .ok (.iconst 1, 1) := by decide +kernel
theorem dL_near_25 : decode cL_near 25 = .ok (.ireturn, 1) := by decide +kernel
abbrev cL_group : ByteArray := method_11_code
def yL_group : MethodName := ⟨RL, "group", "(LBoardMoves;II[J)I"⟩
def wsL_group : List Cond := .codeWith yL_group cL_group 5 (some .int) [(0, 10, 13, 19)] :: bT
theorem dL_group_0 : decode cL_group 0 = .ok (.aload_n 3, 1) := by decide +kernel
theorem dL_group_1 : decode cL_group 1 = .ok (.iconst 0, 1) := by decide +kernel
theorem dL_group_2 : decode cL_group 2 = .ok (.aload_n 0, 1) := by decide +kernel
theorem dL_group_3 : decode cL_group 3 = .ok (.iload_n 1, 1) := by decide +kernel
theorem dL_group_4 : decode cL_group 4 = .ok (.iload_n 2, 1) := by decide +kernel
theorem dL_group_5 : decode cL_group 5 = .ok (.invokevirtual 47, 3) := by decide +kernel
theorem dL_group_13 : decode cL_group 13 = .ok (.astore 4, 2) := by decide +kernel
theorem dL_group_15 : decode cL_group 15 = .ok (.iconst 1, 1) := by decide +kernel
theorem dL_group_16 : decode cL_group 16 = .ok (.ireturn, 1) := by decide +kernel
abbrev cL_height : ByteArray := method_12_code
def yL_height : MethodName := ⟨RL, "height", "(LBoardMoves;IJ[J)I"⟩
def wsL_height : List Cond := .codeWith yL_height cL_height 6 (some .int) [(0, 18, 21, 19), (0, 18, 25, 13)] :: bT
theorem dL_height_0 : decode cL_height 0 = .ok (.aload 4, 2) := by decide +kernel
theorem dL_height_2 : decode cL_height 2 = .ok (.iconst 0, 1) := by decide +kernel
theorem dL_height_3 : decode cL_height 3 = .ok (.aload_n 0, 1) := by decide +kernel
theorem dL_height_4 : decode cL_height 4 = .ok (.iload_n 1, 1) := by decide +kernel
theorem dL_height_5 : decode cL_height 5 = .ok (.lload_n 2, 1) := by decide +kernel
theorem dL_height_6 : decode cL_height 6 = .ok (.invokevirtual 51, 3) := by decide +kernel
theorem dL_height_21 : decode cL_height 21 = .ok (.astore 5, 2) := by decide +kernel
theorem dL_height_23 : decode cL_height 23 = .ok (.iconst 1, 1) := by decide +kernel
theorem dL_height_24 : decode cL_height 24 = .ok (.ireturn, 1) := by decide +kernel
abbrev cL_keepOut : ByteArray := method_13_code
def yL_keepOut : MethodName := ⟨RL, "keepOut", "(LBoardMoves;JJJJJ[J)I"⟩
def wsL_keepOut : List Cond := .codeWith yL_keepOut cL_keepOut 13 (some .int) [(0, 24, 27, 13)] :: bT
theorem dL_keepOut_0 : decode cL_keepOut 0 = .ok (.aload 11, 2) := by decide +kernel
theorem dL_keepOut_2 : decode cL_keepOut 2 = .ok (.iconst 0, 1) := by decide +kernel
theorem dL_keepOut_3 : decode cL_keepOut 3 = .ok (.aload_n 0, 1) := by decide +kernel
theorem dL_keepOut_4 : decode cL_keepOut 4 = .ok (.lload_n 1, 1) := by decide +kernel
theorem dL_keepOut_5 : decode cL_keepOut 5 = .ok (.lload_n 3, 1) := by decide +kernel
theorem dL_keepOut_6 : decode cL_keepOut 6 = .ok (.lload 5, 2) := by decide +kernel
theorem dL_keepOut_8 : decode cL_keepOut 8 = .ok (.lload 7, 2) := by decide +kernel
theorem dL_keepOut_10 : decode cL_keepOut 10 = .ok (.lload 9, 2) := by decide +kernel
theorem dL_keepOut_12 : decode cL_keepOut 12 = .ok (.invokevirtual 55, 3) := by decide +kernel
theorem dL_keepOut_15 : decode cL_keepOut 15 = .ok (.ifCond .eq (7), 3) := by decide +kernel
theorem dL_keepOut_18 : decode cL_keepOut 18 = .ok (.lconst 1, 1) := by decide +kernel
theorem dL_keepOut_19 : decode cL_keepOut 19 = .ok (.goto (4), 3) := by decide +kernel
theorem dL_keepOut_22 : decode cL_keepOut 22 = .ok (.lconst 0, 1) := by decide +kernel
theorem dL_keepOut_23 : decode cL_keepOut 23 = .ok (.lastore, 1) := by decide +kernel
theorem dL_keepOut_24 : decode cL_keepOut 24 = .ok (.goto (7), 3) := by decide +kernel
theorem dL_keepOut_27 : decode cL_keepOut 27 = .ok (.astore 12, 2) := by decide +kernel
theorem dL_keepOut_29 : decode cL_keepOut 29 = .ok (.iconst 1, 1) := by decide +kernel
theorem dL_keepOut_30 : decode cL_keepOut 30 = .ok (.ireturn, 1) := by decide +kernel
theorem dL_keepOut_31 : decode cL_keepOut 31 = .ok (.iconst 0, 1) := by decide +kernel
theorem dL_keepOut_32 : decode cL_keepOut 32 = .ok (.ireturn, 1) := by decide +kernel
abbrev cL_side : ByteArray := method_14_code
def yL_side : MethodName := ⟨RL, "side", "(LBoardMoves;I[J)I"⟩
def wsL_side : List Cond := .codeWith yL_side cL_side 4 (some .int) [(0, 9, 12, 19)] :: bT
theorem dL_side_0 : decode cL_side 0 = .ok (.aload_n 2, 1) := by decide +kernel
theorem dL_side_1 : decode cL_side 1 = .ok (.iconst 0, 1) := by decide +kernel
theorem dL_side_2 : decode cL_side 2 = .ok (.aload_n 0, 1) := by decide +kernel
theorem dL_side_3 : decode cL_side 3 = .ok (.iload_n 1, 1) := by decide +kernel
theorem dL_side_4 : decode cL_side 4 = .ok (.invokevirtual 59, 3) := by decide +kernel
theorem dL_side_12 : decode cL_side 12 = .ok (.astore_n 3, 1) := by decide +kernel
theorem dL_side_13 : decode cL_side 13 = .ok (.iconst 1, 1) := by decide +kernel
theorem dL_side_14 : decode cL_side 14 = .ok (.ireturn, 1) := by decide +kernel
