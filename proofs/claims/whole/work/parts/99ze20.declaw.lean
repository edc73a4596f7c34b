/-! decode rows of the law's entry -/
theorem dL_law_3131 : decode cL_law 3131 = .ok (.invokevirtual 287, 3) := by decide +kernel
theorem dL_law_3134 : decode cL_law 3134 = .ok (.aload_n 2, 1) := by decide +kernel
theorem dL_law_3135 : decode cL_law 3135 = .ok (.invokevirtual 291, 3) := by decide +kernel
theorem dL_law_3138 : decode cL_law 3138 = .ok (.if_icmp .eq 30, 3) := by decide +kernel
theorem dL_law_3141 : decode cL_law 3141 = .ok (.iconst 0, 1) := by decide +kernel
theorem dL_law_3142 : decode cL_law 3142 = .ok (.ireturn, 1) := by decide +kernel
theorem dL_law_3143 : decode cL_law 3143 = .ok (.aload_n 1, 1) := by decide +kernel
theorem dL_law_3144 : decode cL_law 3144 = .ok (.aload_n 0, 1) := by decide +kernel
theorem dL_law_3145 : decode cL_law 3145 = .ok (.iload 4, 2) := by decide +kernel
theorem dL_law_3147 : decode cL_law 3147 = .ok (.iconst 1, 1) := by decide +kernel
theorem dL_law_3148 : decode cL_law 3148 = .ok (.iadd, 1) := by decide +kernel
theorem dL_law_3149 : decode cL_law 3149 = .ok (.iaload, 1) := by decide +kernel
theorem dL_law_3150 : decode cL_law 3150 = .ok (.invokevirtual 292, 3) := by decide +kernel
theorem dL_law_3153 : decode cL_law 3153 = .ok (.aload_n 2, 1) := by decide +kernel
theorem dL_law_3154 : decode cL_law 3154 = .ok (.aload_n 0, 1) := by decide +kernel
theorem dL_law_3155 : decode cL_law 3155 = .ok (.iload 4, 2) := by decide +kernel
theorem dL_law_3157 : decode cL_law 3157 = .ok (.iconst 1, 1) := by decide +kernel
theorem dL_law_3158 : decode cL_law 3158 = .ok (.iadd, 1) := by decide +kernel
theorem dL_law_3159 : decode cL_law 3159 = .ok (.iaload, 1) := by decide +kernel
theorem dL_law_3160 : decode cL_law 3160 = .ok (.invokevirtual 295, 3) := by decide +kernel
theorem dL_law_3163 : decode cL_law 3163 = .ok (.if_icmp .eq 5, 3) := by decide +kernel
theorem dL_law_3166 : decode cL_law 3166 = .ok (.iconst 0, 1) := by decide +kernel
theorem dL_law_3167 : decode cL_law 3167 = .ok (.ireturn, 1) := by decide +kernel
theorem dL_law_3168 : decode cL_law 3168 = .ok (.iinc 4 7, 3) := by decide +kernel
theorem dL_law_3171 : decode cL_law 3171 = .ok (.goto (-3148), 3) := by decide +kernel
theorem dL_law_3174 : decode cL_law 3174 = .ok (.iconst 1, 1) := by decide +kernel
theorem dL_law_3175 : decode cL_law 3175 = .ok (.ireturn, 1) := by decide +kernel
