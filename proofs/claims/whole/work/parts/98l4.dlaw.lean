theorem dL_law_2664 : decode cL_law 2664 = .ok (.ireturn, 1) := by decide +kernel
