/-! the law's instructions, 8 -/
theorem dL_law_1469 : decode cL_law 1469 = .ok (.goto 3, 3) := by decide +kernel
theorem dL_law_1472 : decode cL_law 1472 = .ok (.iinc 4 3, 3) := by decide +kernel
theorem dL_law_1475 : decode cL_law 1475 = .ok (.goto (-1452), 3) := by decide +kernel
theorem dL_law_1478 : decode cL_law 1478 = .ok (.iconst 1, 1) := by decide +kernel
theorem dL_law_1479 : decode cL_law 1479 = .ok (.ireturn, 1) := by decide +kernel
