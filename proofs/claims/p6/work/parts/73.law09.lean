theorem dL_law_1358 : decode code 1358 = .ok (.goto (3), 3) := by decide +kernel
theorem dL_law_1361 : decode code 1361 = .ok (.iinc 4 11, 3) := by decide +kernel
theorem dL_law_1364 : decode code 1364 = .ok (.goto (-1305), 3) := by decide +kernel
theorem dL_law_1367 : decode code 1367 = .ok (.iconst 1, 1) := by decide +kernel
theorem dL_law_1368 : decode code 1368 = .ok (.ireturn, 1) := by decide +kernel
