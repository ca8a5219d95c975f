theorem dL_law_1360 : decode code 1360 = .ok (.iconst 1, 1) := by decide +kernel
theorem dL_law_1361 : decode code 1361 = .ok (.ireturn, 1) := by decide +kernel
