theorem dL_law_852 : decode cL_law 852 = .ok (.pop, 1) := by decide +kernel
theorem dL_law_853 : decode cL_law 853 = .ok (.goto 3, 3) := by decide +kernel
theorem dL_law_856 : decode cL_law 856 = .ok (.iinc 4 6, 3) := by decide +kernel
theorem dL_law_859 : decode cL_law 859 = .ok (.goto (-836), 3) := by decide +kernel
theorem dL_law_862 : decode cL_law 862 = .ok (.iconst 1, 1) := by decide +kernel
theorem dL_law_863 : decode cL_law 863 = .ok (.ireturn, 1) := by decide +kernel
