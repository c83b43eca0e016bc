theorem dL_law_1338 : decode code 1338 = .ok (.iinc 3 6, 3) := by decide +kernel
theorem dL_law_1341 : decode code 1341 = .ok (.goto (-1323), 3) := by decide +kernel
theorem dL_law_1344 : decode code 1344 = .ok (.iconst 1, 1) := by decide +kernel
theorem dL_law_1345 : decode code 1345 = .ok (.ireturn, 1) := by decide +kernel
