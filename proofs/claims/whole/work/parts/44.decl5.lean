theorem d_law_law_511 : decode code 511 = .ok (.ireturn, 1) := by decide +kernel
