theorem d_law_447 : decode b_law 447 = .ok (.ireturn, 1) := by decide +kernel
theorem d_law_448 : decode b_law 448 = .ok (.iinc 4 4, 3) := by decide +kernel
theorem d_law_451 : decode b_law 451 = .ok (.goto (-428), 3) := by decide +kernel
theorem d_law_454 : decode b_law 454 = .ok (.iconst 1, 1) := by decide +kernel
theorem d_law_455 : decode b_law 455 = .ok (.ireturn, 1) := by decide +kernel
