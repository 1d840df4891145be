theorem dL_meanSteps_16 : decode cL_meanSteps 16 = .ok (.ireturn, 1) := by decide +kernel
theorem dL_meanSteps_17 : decode cL_meanSteps 17 = .ok (.iconst 0, 1) := by decide +kernel
theorem dL_meanSteps_18 : decode cL_meanSteps 18 = .ok (.ireturn, 1) := by decide +kernel