-- more names
theorem dX4_run_79 : decode cX4_run 79 = .ok (.aload_n 0, 1) := by decide +kernel
theorem dX4_run_80 : decode cX4_run 80 = .ok (.lload_n 3, 1) := by decide +kernel
theorem dX4_run_81 : decode cX4_run 81 = .ok (.lload 8, 2) := by decide +kernel
theorem dX4_run_83 : decode cX4_run 83 = .ok (.lmul, 1) := by decide +kernel
theorem dX4_run_84 : decode cX4_run 84 = .ok (.ldc2_w 200, 3) := by decide +kernel
theorem dX4_run_87 : decode cX4_run 87 = .ok (.lload_n 1, 1) := by decide +kernel
theorem dX4_run_88 : decode cX4_run 88 = .ok (.lmul, 1) := by decide +kernel
theorem dX4_run_89 : decode cX4_run 89 = .ok (.ldiv, 1) := by decide +kernel
theorem dX4_run_90 : decode cX4_run 90 = .ok (.invokevirtual 202, 3) := by decide +kernel
theorem dX4_run_93 : decode cX4_run 93 = .ok (.ifCond .eq (33), 3) := by decide +kernel
theorem dX4_run_96 : decode cX4_run 96 = .ok (.iinc 7 1, 3) := by decide +kernel
theorem dX4_run_99 : decode cX4_run 99 = .ok (.aload_n 0, 1) := by decide +kernel
theorem dX4_run_100 : decode cX4_run 100 = .ok (.getfield 47, 3) := by decide +kernel
theorem dX4_run_103 : decode cX4_run 103 = .ok (.lload 5, 2) := by decide +kernel
theorem dX4_run_105 : decode cX4_run 105 = .ok (.lcmp, 1) := by decide +kernel
theorem dX4_run_106 : decode cX4_run 106 = .ok (.ifCond .ge (20), 3) := by decide +kernel
theorem dX4_run_109 : decode cX4_run 109 = .ok (.aload_n 0, 1) := by decide +kernel
theorem dX4_run_110 : decode cX4_run 110 = .ok (.getfield 47, 3) := by decide +kernel
theorem dX4_run_113 : decode cX4_run 113 = .ok (.lstore 5, 2) := by decide +kernel
theorem dX4_run_115 : decode cX4_run 115 = .ok (.aload_n 0, 1) := by decide +kernel
theorem dX4_run_116 : decode cX4_run 116 = .ok (.getfield 44, 3) := by decide +kernel
theorem dX4_run_119 : decode cX4_run 119 = .ok (.aload_n 0, 1) := by decide +kernel
theorem dX4_run_120 : decode cX4_run 120 = .ok (.getfield 37, 3) := by decide +kernel
theorem dX4_run_123 : decode cX4_run 123 = .ok (.invokevirtual 108, 3) := by decide +kernel
theorem dX4_run_126 : decode cX4_run 126 = .ok (.lload 8, 2) := by decide +kernel
theorem dX4_run_128 : decode cX4_run 128 = .ok (.lconst 1, 1) := by decide +kernel
theorem dX4_run_129 : decode cX4_run 129 = .ok (.lsub, 1) := by decide +kernel
theorem dX4_run_130 : decode cX4_run 130 = .ok (.lstore 8, 2) := by decide +kernel
theorem dX4_run_132 : decode cX4_run 132 = .ok (.goto (-60), 3) := by decide +kernel
