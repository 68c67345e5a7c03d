theorem dL_law_216 : decode cL_law 216 = .ok (.iinc 9 1, 3) := by decide +kernel
theorem dL_law_219 : decode cL_law 219 = .ok (.goto (-135), 3) := by decide +kernel
theorem dL_law_222 : decode cL_law 222 = .ok (.iconst 1, 1) := by decide +kernel
theorem dL_law_223 : decode cL_law 223 = .ok (.ireturn, 1) := by decide +kernel
