theorem d_law_law_510 : decode code 510 = .ok (.iconst 1, 1) := by decide +kernel
theorem d_law_law_511 : decode code 511 = .ok (.ireturn, 1) := by decide +kernel
