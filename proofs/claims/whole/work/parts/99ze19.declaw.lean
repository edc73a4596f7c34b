/-! decode rows of the law's entry -/
theorem dL_law_2980 : decode cL_law 2980 = .ok (.invokevirtual 279, 3) := by decide +kernel
theorem dL_law_2983 : decode cL_law 2983 = .ok (.lstore 6, 2) := by decide +kernel
theorem dL_law_2985 : decode cL_law 2985 = .ok (.aload_n 2, 1) := by decide +kernel
theorem dL_law_2986 : decode cL_law 2986 = .ok (.invokevirtual 159, 3) := by decide +kernel
theorem dL_law_2989 : decode cL_law 2989 = .ok (.iload 5, 2) := by decide +kernel
theorem dL_law_2991 : decode cL_law 2991 = .ok (.if_icmp .eq 5, 3) := by decide +kernel
theorem dL_law_2994 : decode cL_law 2994 = .ok (.iconst 0, 1) := by decide +kernel
theorem dL_law_2995 : decode cL_law 2995 = .ok (.ireturn, 1) := by decide +kernel
theorem dL_law_2996 : decode cL_law 2996 = .ok (.iload 5, 2) := by decide +kernel
theorem dL_law_2998 : decode cL_law 2998 = .ok (.ifCond .ne 14, 3) := by decide +kernel
theorem dL_law_3001 : decode cL_law 3001 = .ok (.aload_n 3, 1) := by decide +kernel
theorem dL_law_3002 : decode cL_law 3002 = .ok (.iconst 0, 1) := by decide +kernel
theorem dL_law_3003 : decode cL_law 3003 = .ok (.laload, 1) := by decide +kernel
theorem dL_law_3004 : decode cL_law 3004 = .ok (.lload 6, 2) := by decide +kernel
theorem dL_law_3006 : decode cL_law 3006 = .ok (.lcmp, 1) := by decide +kernel
theorem dL_law_3007 : decode cL_law 3007 = .ok (.ifCond .eq 5, 3) := by decide +kernel
theorem dL_law_3010 : decode cL_law 3010 = .ok (.iconst 0, 1) := by decide +kernel
theorem dL_law_3011 : decode cL_law 3011 = .ok (.ireturn, 1) := by decide +kernel
theorem dL_law_3012 : decode cL_law 3012 = .ok (.goto 156, 3) := by decide +kernel
theorem dL_law_3015 : decode cL_law 3015 = .ok (.aload_n 1, 1) := by decide +kernel
theorem dL_law_3016 : decode cL_law 3016 = .ok (.aload_n 0, 1) := by decide +kernel
theorem dL_law_3017 : decode cL_law 3017 = .ok (.iload 4, 2) := by decide +kernel
theorem dL_law_3019 : decode cL_law 3019 = .ok (.iconst 1, 1) := by decide +kernel
theorem dL_law_3020 : decode cL_law 3020 = .ok (.iadd, 1) := by decide +kernel
theorem dL_law_3021 : decode cL_law 3021 = .ok (.iaload, 1) := by decide +kernel
theorem dL_law_3022 : decode cL_law 3022 = .ok (.aload_n 0, 1) := by decide +kernel
theorem dL_law_3023 : decode cL_law 3023 = .ok (.iload 4, 2) := by decide +kernel
theorem dL_law_3025 : decode cL_law 3025 = .ok (.iconst 2, 1) := by decide +kernel
theorem dL_law_3026 : decode cL_law 3026 = .ok (.iadd, 1) := by decide +kernel
theorem dL_law_3027 : decode cL_law 3027 = .ok (.iaload, 1) := by decide +kernel
theorem dL_law_3028 : decode cL_law 3028 = .ok (.aload_n 0, 1) := by decide +kernel
theorem dL_law_3029 : decode cL_law 3029 = .ok (.iload 4, 2) := by decide +kernel
theorem dL_law_3031 : decode cL_law 3031 = .ok (.iconst 3, 1) := by decide +kernel
theorem dL_law_3032 : decode cL_law 3032 = .ok (.iadd, 1) := by decide +kernel
theorem dL_law_3033 : decode cL_law 3033 = .ok (.iaload, 1) := by decide +kernel
theorem dL_law_3034 : decode cL_law 3034 = .ok (.aload_n 0, 1) := by decide +kernel
theorem dL_law_3035 : decode cL_law 3035 = .ok (.iload 4, 2) := by decide +kernel
theorem dL_law_3037 : decode cL_law 3037 = .ok (.iconst 4, 1) := by decide +kernel
theorem dL_law_3038 : decode cL_law 3038 = .ok (.iadd, 1) := by decide +kernel
theorem dL_law_3039 : decode cL_law 3039 = .ok (.iaload, 1) := by decide +kernel
theorem dL_law_3040 : decode cL_law 3040 = .ok (.aload_n 0, 1) := by decide +kernel
theorem dL_law_3041 : decode cL_law 3041 = .ok (.iload 4, 2) := by decide +kernel
theorem dL_law_3043 : decode cL_law 3043 = .ok (.iconst 5, 1) := by decide +kernel
theorem dL_law_3044 : decode cL_law 3044 = .ok (.iadd, 1) := by decide +kernel
theorem dL_law_3045 : decode cL_law 3045 = .ok (.iaload, 1) := by decide +kernel
theorem dL_law_3046 : decode cL_law 3046 = .ok (.aload_n 3, 1) := by decide +kernel
theorem dL_law_3047 : decode cL_law 3047 = .ok (.invokestatic 280, 3) := by decide +kernel
theorem dL_law_3050 : decode cL_law 3050 = .ok (.istore 5, 2) := by decide +kernel
theorem dL_law_3052 : decode cL_law 3052 = .ok (.aload_n 2, 1) := by decide +kernel
theorem dL_law_3053 : decode cL_law 3053 = .ok (.aload_n 0, 1) := by decide +kernel
theorem dL_law_3054 : decode cL_law 3054 = .ok (.iload 4, 2) := by decide +kernel
theorem dL_law_3056 : decode cL_law 3056 = .ok (.iconst 1, 1) := by decide +kernel
theorem dL_law_3057 : decode cL_law 3057 = .ok (.iadd, 1) := by decide +kernel
theorem dL_law_3058 : decode cL_law 3058 = .ok (.iaload, 1) := by decide +kernel
theorem dL_law_3059 : decode cL_law 3059 = .ok (.aload_n 0, 1) := by decide +kernel
theorem dL_law_3060 : decode cL_law 3060 = .ok (.iload 4, 2) := by decide +kernel
theorem dL_law_3062 : decode cL_law 3062 = .ok (.iconst 2, 1) := by decide +kernel
theorem dL_law_3063 : decode cL_law 3063 = .ok (.iadd, 1) := by decide +kernel
theorem dL_law_3064 : decode cL_law 3064 = .ok (.iaload, 1) := by decide +kernel
theorem dL_law_3065 : decode cL_law 3065 = .ok (.aload_n 0, 1) := by decide +kernel
theorem dL_law_3066 : decode cL_law 3066 = .ok (.iload 4, 2) := by decide +kernel
theorem dL_law_3068 : decode cL_law 3068 = .ok (.iconst 3, 1) := by decide +kernel
theorem dL_law_3069 : decode cL_law 3069 = .ok (.iadd, 1) := by decide +kernel
theorem dL_law_3070 : decode cL_law 3070 = .ok (.iaload, 1) := by decide +kernel
theorem dL_law_3071 : decode cL_law 3071 = .ok (.aload_n 0, 1) := by decide +kernel
theorem dL_law_3072 : decode cL_law 3072 = .ok (.iload 4, 2) := by decide +kernel
theorem dL_law_3074 : decode cL_law 3074 = .ok (.iconst 4, 1) := by decide +kernel
theorem dL_law_3075 : decode cL_law 3075 = .ok (.iadd, 1) := by decide +kernel
theorem dL_law_3076 : decode cL_law 3076 = .ok (.iaload, 1) := by decide +kernel
theorem dL_law_3077 : decode cL_law 3077 = .ok (.aload_n 0, 1) := by decide +kernel
theorem dL_law_3078 : decode cL_law 3078 = .ok (.iload 4, 2) := by decide +kernel
theorem dL_law_3080 : decode cL_law 3080 = .ok (.iconst 5, 1) := by decide +kernel
theorem dL_law_3081 : decode cL_law 3081 = .ok (.iadd, 1) := by decide +kernel
theorem dL_law_3082 : decode cL_law 3082 = .ok (.iaload, 1) := by decide +kernel
theorem dL_law_3083 : decode cL_law 3083 = .ok (.invokevirtual 282, 3) := by decide +kernel
theorem dL_law_3086 : decode cL_law 3086 = .ok (.istore 6, 2) := by decide +kernel
theorem dL_law_3088 : decode cL_law 3088 = .ok (.aload_n 2, 1) := by decide +kernel
theorem dL_law_3089 : decode cL_law 3089 = .ok (.invokevirtual 159, 3) := by decide +kernel
theorem dL_law_3092 : decode cL_law 3092 = .ok (.iload 5, 2) := by decide +kernel
theorem dL_law_3094 : decode cL_law 3094 = .ok (.if_icmp .eq 5, 3) := by decide +kernel
theorem dL_law_3097 : decode cL_law 3097 = .ok (.iconst 0, 1) := by decide +kernel
theorem dL_law_3098 : decode cL_law 3098 = .ok (.ireturn, 1) := by decide +kernel
theorem dL_law_3099 : decode cL_law 3099 = .ok (.iload 5, 2) := by decide +kernel
theorem dL_law_3101 : decode cL_law 3101 = .ok (.ifCond .ne 15, 3) := by decide +kernel
theorem dL_law_3104 : decode cL_law 3104 = .ok (.aload_n 3, 1) := by decide +kernel
theorem dL_law_3105 : decode cL_law 3105 = .ok (.iconst 0, 1) := by decide +kernel
theorem dL_law_3106 : decode cL_law 3106 = .ok (.laload, 1) := by decide +kernel
theorem dL_law_3107 : decode cL_law 3107 = .ok (.iload 6, 2) := by decide +kernel
theorem dL_law_3109 : decode cL_law 3109 = .ok (.i2l, 1) := by decide +kernel
theorem dL_law_3110 : decode cL_law 3110 = .ok (.lcmp, 1) := by decide +kernel
theorem dL_law_3111 : decode cL_law 3111 = .ok (.ifCond .eq 5, 3) := by decide +kernel
theorem dL_law_3114 : decode cL_law 3114 = .ok (.iconst 0, 1) := by decide +kernel
theorem dL_law_3115 : decode cL_law 3115 = .ok (.ireturn, 1) := by decide +kernel
theorem dL_law_3116 : decode cL_law 3116 = .ok (.goto 52, 3) := by decide +kernel
theorem dL_law_3119 : decode cL_law 3119 = .ok (.aload_n 1, 1) := by decide +kernel
theorem dL_law_3120 : decode cL_law 3120 = .ok (.invokevirtual 283, 3) := by decide +kernel
theorem dL_law_3123 : decode cL_law 3123 = .ok (.aload_n 2, 1) := by decide +kernel
theorem dL_law_3124 : decode cL_law 3124 = .ok (.invokevirtual 286, 3) := by decide +kernel
theorem dL_law_3127 : decode cL_law 3127 = .ok (.goto 41, 3) := by decide +kernel
theorem dL_law_3130 : decode cL_law 3130 = .ok (.aload_n 1, 1) := by decide +kernel
