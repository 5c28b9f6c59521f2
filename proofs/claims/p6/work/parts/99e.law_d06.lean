theorem d_Law_law_594 : decode b_Law_law 594 = .ok (.iinc 4 6, 3) := by decide +kernel
theorem d_Law_law_597 : decode b_Law_law 597 = .ok (.goto (-574), 3) := by decide +kernel
theorem d_Law_law_600 : decode b_Law_law 600 = .ok (.iconst 1, 1) := by decide +kernel
theorem d_Law_law_601 : decode b_Law_law 601 = .ok (.ireturn, 1) := by decide +kernel
