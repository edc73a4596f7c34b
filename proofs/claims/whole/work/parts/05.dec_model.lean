theorem dX12_thrown_0 : decode cX12_thrown 0 = .ok (.aload_n 0, 1) := by decide +kernel
theorem dX12_thrown_1 : decode cX12_thrown 1 = .ok (.getfield 3, 3) := by decide +kernel
theorem dX12_thrown_4 : decode cX12_thrown 4 = .ok (.ireturn, 1) := by decide +kernel
theorem dX12_throwsIf_0 : decode cX12_throwsIf 0 = .ok (.iload_n 1, 1) := by decide +kernel
theorem dX12_throwsIf_1 : decode cX12_throwsIf 1 = .ok (.ifCond .eq 8, 3) := by decide +kernel
theorem dX12_throwsIf_4 : decode cX12_throwsIf 4 = .ok (.aload_n 0, 1) := by decide +kernel
theorem dX12_throwsIf_5 : decode cX12_throwsIf 5 = .ok (.iload_n 2, 1) := by decide +kernel
theorem dX12_throwsIf_6 : decode cX12_throwsIf 6 = .ok (.putfield 3, 3) := by decide +kernel
theorem dX12_throwsIf_9 : decode cX12_throwsIf 9 = .ok (.iload_n 1, 1) := by decide +kernel
theorem dX12_throwsIf_10 : decode cX12_throwsIf 10 = .ok (.ireturn, 1) := by decide +kernel
theorem dX12_in_0 : decode cX12_in 0 = .ok (.iload_n 0, 1) := by decide +kernel
theorem dX12_in_1 : decode cX12_in 1 = .ok (.iload_n 1, 1) := by decide +kernel
theorem dX12_in_2 : decode cX12_in 2 = .ok (.if_icmp .lt 12, 3) := by decide +kernel
theorem dX12_in_5 : decode cX12_in 5 = .ok (.iload_n 0, 1) := by decide +kernel
theorem dX12_in_6 : decode cX12_in 6 = .ok (.iload_n 2, 1) := by decide +kernel
theorem dX12_in_7 : decode cX12_in 7 = .ok (.if_icmp .gt 7, 3) := by decide +kernel
theorem dX12_in_10 : decode cX12_in 10 = .ok (.iconst 1, 1) := by decide +kernel
theorem dX12_in_11 : decode cX12_in 11 = .ok (.goto 4, 3) := by decide +kernel
theorem dX12_in_14 : decode cX12_in 14 = .ok (.iconst 0, 1) := by decide +kernel
theorem dX12_in_15 : decode cX12_in 15 = .ok (.ireturn, 1) := by decide +kernel
theorem dX12_init_0 : decode cX12_init 0 = .ok (.aload_n 0, 1) := by decide +kernel
theorem dX12_init_1 : decode cX12_init 1 = .ok (.invokespecial 7, 3) := by decide +kernel
theorem dX12_init_4 : decode cX12_init 4 = .ok (.aload_n 0, 1) := by decide +kernel
theorem dX12_init_5 : decode cX12_init 5 = .ok (.sipush 6476, 3) := by decide +kernel
theorem dX12_init_8 : decode cX12_init 8 = .ok (.newarray .int, 2) := by decide +kernel
theorem dX12_init_10 : decode cX12_init 10 = .ok (.putfield 13, 3) := by decide +kernel
theorem dX12_init_13 : decode cX12_init 13 = .ok (.aload_n 0, 1) := by decide +kernel
theorem dX12_init_14 : decode cX12_init 14 = .ok (.sipush 5615, 3) := by decide +kernel
theorem dX12_init_17 : decode cX12_init 17 = .ok (.newarray .int, 2) := by decide +kernel
theorem dX12_init_19 : decode cX12_init 19 = .ok (.putfield 17, 3) := by decide +kernel
theorem dX12_init_22 : decode cX12_init 22 = .ok (.aload_n 0, 1) := by decide +kernel
theorem dX12_init_23 : decode cX12_init 23 = .ok (.sipush 400, 3) := by decide +kernel
theorem dX12_init_26 : decode cX12_init 26 = .ok (.newarray .byte, 2) := by decide +kernel
theorem dX12_init_28 : decode cX12_init 28 = .ok (.putfield 20, 3) := by decide +kernel
theorem dX12_init_31 : decode cX12_init 31 = .ok (.aload_n 0, 1) := by decide +kernel
theorem dX12_init_32 : decode cX12_init 32 = .ok (.iconst (-1), 1) := by decide +kernel
theorem dX12_init_33 : decode cX12_init 33 = .ok (.putfield 24, 3) := by decide +kernel
theorem dX12_init_36 : decode cX12_init 36 = .ok (.aload_n 0, 1) := by decide +kernel
theorem dX12_init_37 : decode cX12_init 37 = .ok (.iconst 5, 1) := by decide +kernel
theorem dX12_init_38 : decode cX12_init 38 = .ok (.newarray .int, 2) := by decide +kernel
theorem dX12_init_40 : decode cX12_init 40 = .ok (.putfield 27, 3) := by decide +kernel
theorem dX12_init_43 : decode cX12_init 43 = .ok (.aload_n 0, 1) := by decide +kernel
theorem dX12_init_44 : decode cX12_init 44 = .ok (.sipush 1088, 3) := by decide +kernel
theorem dX12_init_47 : decode cX12_init 47 = .ok (.newarray .int, 2) := by decide +kernel
theorem dX12_init_49 : decode cX12_init 49 = .ok (.putfield 30, 3) := by decide +kernel
theorem dX12_init_52 : decode cX12_init 52 = .ok (.aload_n 0, 1) := by decide +kernel
theorem dX12_init_53 : decode cX12_init 53 = .ok (.bipush 8, 2) := by decide +kernel
theorem dX12_init_55 : decode cX12_init 55 = .ok (.newarray .int, 2) := by decide +kernel
theorem dX12_init_57 : decode cX12_init 57 = .ok (.putfield 33, 3) := by decide +kernel
theorem dX12_init_60 : decode cX12_init 60 = .ok (.aload_n 0, 1) := by decide +kernel
theorem dX12_init_61 : decode cX12_init 61 = .ok (.bipush 8, 2) := by decide +kernel
theorem dX12_init_63 : decode cX12_init 63 = .ok (.newarray .int, 2) := by decide +kernel
theorem dX12_init_65 : decode cX12_init 65 = .ok (.putfield 36, 3) := by decide +kernel
theorem dX12_init_68 : decode cX12_init 68 = .ok (.aload_n 0, 1) := by decide +kernel
theorem dX12_init_69 : decode cX12_init 69 = .ok (.sipush 400, 3) := by decide +kernel
theorem dX12_init_72 : decode cX12_init 72 = .ok (.newarray .int, 2) := by decide +kernel
theorem dX12_init_74 : decode cX12_init 74 = .ok (.putfield 39, 3) := by decide +kernel
theorem dX12_init_77 : decode cX12_init 77 = .ok (.aload_n 0, 1) := by decide +kernel
theorem dX12_init_78 : decode cX12_init 78 = .ok (.sipush 1952, 3) := by decide +kernel
theorem dX12_init_81 : decode cX12_init 81 = .ok (.newarray .long, 2) := by decide +kernel
theorem dX12_init_83 : decode cX12_init 83 = .ok (.putfield 42, 3) := by decide +kernel
theorem dX12_init_86 : decode cX12_init 86 = .ok (.aload_n 0, 1) := by decide +kernel
theorem dX12_init_87 : decode cX12_init 87 = .ok (.sipush 352, 3) := by decide +kernel
theorem dX12_init_90 : decode cX12_init 90 = .ok (.newarray .long, 2) := by decide +kernel
theorem dX12_init_92 : decode cX12_init 92 = .ok (.putfield 46, 3) := by decide +kernel
theorem dX12_init_95 : decode cX12_init 95 = .ok (.aload_n 0, 1) := by decide +kernel
theorem dX12_init_96 : decode cX12_init 96 = .ok (.sipush 352, 3) := by decide +kernel
theorem dX12_init_99 : decode cX12_init 99 = .ok (.newarray .int, 2) := by decide +kernel
theorem dX12_init_101 : decode cX12_init 101 = .ok (.putfield 49, 3) := by decide +kernel
theorem dX12_init_104 : decode cX12_init 104 = .ok (.aload_n 0, 1) := by decide +kernel
theorem dX12_init_105 : decode cX12_init 105 = .ok (.bipush 32, 2) := by decide +kernel
theorem dX12_init_107 : decode cX12_init 107 = .ok (.newarray .long, 2) := by decide +kernel
theorem dX12_init_109 : decode cX12_init 109 = .ok (.putfield 52, 3) := by decide +kernel
theorem dX12_init_112 : decode cX12_init 112 = .ok (.aload_n 0, 1) := by decide +kernel
theorem dX12_init_113 : decode cX12_init 113 = .ok (.sipush 352, 3) := by decide +kernel
theorem dX12_init_116 : decode cX12_init 116 = .ok (.newarray .int, 2) := by decide +kernel
theorem dX12_init_118 : decode cX12_init 118 = .ok (.putfield 55, 3) := by decide +kernel
theorem dX12_init_121 : decode cX12_init 121 = .ok (.aload_n 0, 1) := by decide +kernel
theorem dX12_init_122 : decode cX12_init 122 = .ok (.sipush 192, 3) := by decide +kernel
theorem dX12_init_125 : decode cX12_init 125 = .ok (.newarray .int, 2) := by decide +kernel
theorem dX12_init_127 : decode cX12_init 127 = .ok (.putfield 58, 3) := by decide +kernel
theorem dX12_init_130 : decode cX12_init 130 = .ok (.aload_n 0, 1) := by decide +kernel
theorem dX12_init_131 : decode cX12_init 131 = .ok (.bipush 64, 2) := by decide +kernel
theorem dX12_init_133 : decode cX12_init 133 = .ok (.newarray .long, 2) := by decide +kernel
theorem dX12_init_135 : decode cX12_init 135 = .ok (.putfield 61, 3) := by decide +kernel
theorem dX12_init_138 : decode cX12_init 138 = .ok (.aload_n 0, 1) := by decide +kernel
theorem dX12_init_139 : decode cX12_init 139 = .ok (.bipush 64, 2) := by decide +kernel
theorem dX12_init_141 : decode cX12_init 141 = .ok (.newarray .long, 2) := by decide +kernel
theorem dX12_init_143 : decode cX12_init 143 = .ok (.putfield 64, 3) := by decide +kernel
theorem dX12_init_146 : decode cX12_init 146 = .ok (.aload_n 0, 1) := by decide +kernel
theorem dX12_init_147 : decode cX12_init 147 = .ok (.bipush 32, 2) := by decide +kernel
theorem dX12_init_149 : decode cX12_init 149 = .ok (.newarray .long, 2) := by decide +kernel
theorem dX12_init_151 : decode cX12_init 151 = .ok (.putfield 67, 3) := by decide +kernel
theorem dX12_init_154 : decode cX12_init 154 = .ok (.aload_n 0, 1) := by decide +kernel
theorem dX12_init_155 : decode cX12_init 155 = .ok (.iconst 5, 1) := by decide +kernel
theorem dX12_init_156 : decode cX12_init 156 = .ok (.newarray .int, 2) := by decide +kernel
theorem dX12_init_158 : decode cX12_init 158 = .ok (.putfield 70, 3) := by decide +kernel
theorem dX12_init_161 : decode cX12_init 161 = .ok (.aload_n 0, 1) := by decide +kernel
theorem dX12_init_162 : decode cX12_init 162 = .ok (.getfield 13, 3) := by decide +kernel
theorem dX12_init_165 : decode cX12_init 165 = .ok (.iconst 4, 1) := by decide +kernel
theorem dX12_init_166 : decode cX12_init 166 = .ok (.iconst 2, 1) := by decide +kernel
theorem dX12_init_167 : decode cX12_init 167 = .ok (.iastore, 1) := by decide +kernel
theorem dX12_init_168 : decode cX12_init 168 = .ok (.aload_n 0, 1) := by decide +kernel
theorem dX12_init_169 : decode cX12_init 169 = .ok (.getfield 13, 3) := by decide +kernel
theorem dX12_init_172 : decode cX12_init 172 = .ok (.iconst 5, 1) := by decide +kernel
theorem dX12_init_173 : decode cX12_init 173 = .ok (.bipush 20, 2) := by decide +kernel
theorem dX12_init_175 : decode cX12_init 175 = .ok (.iastore, 1) := by decide +kernel
theorem dX12_init_176 : decode cX12_init 176 = .ok (.return_, 1) := by decide +kernel
theorem dX12_image_0 : decode cX12_image 0 = .ok (.aload_n 0, 1) := by decide +kernel
theorem dX12_image_1 : decode cX12_image 1 = .ok (.iconst 0, 1) := by decide +kernel
theorem dX12_image_2 : decode cX12_image 2 = .ok (.putfield 3, 3) := by decide +kernel
theorem dX12_image_5 : decode cX12_image 5 = .ok (.iconst 0, 1) := by decide +kernel
theorem dX12_image_6 : decode cX12_image 6 = .ok (.istore_n 1, 1) := by decide +kernel
theorem dX12_image_7 : decode cX12_image 7 = .ok (.iload_n 1, 1) := by decide +kernel
theorem dX12_image_8 : decode cX12_image 8 = .ok (.sipush 5615, 3) := by decide +kernel
theorem dX12_image_11 : decode cX12_image 11 = .ok (.if_icmp .ge 21, 3) := by decide +kernel
theorem dX12_image_14 : decode cX12_image 14 = .ok (.aload_n 0, 1) := by decide +kernel
theorem dX12_image_15 : decode cX12_image 15 = .ok (.getfield 17, 3) := by decide +kernel
theorem dX12_image_18 : decode cX12_image 18 = .ok (.iload_n 1, 1) := by decide +kernel
theorem dX12_image_19 : decode cX12_image 19 = .ok (.aload_n 0, 1) := by decide +kernel
theorem dX12_image_20 : decode cX12_image 20 = .ok (.getfield 13, 3) := by decide +kernel
theorem dX12_image_23 : decode cX12_image 23 = .ok (.iload_n 1, 1) := by decide +kernel
theorem dX12_image_24 : decode cX12_image 24 = .ok (.iaload, 1) := by decide +kernel
theorem dX12_image_25 : decode cX12_image 25 = .ok (.iastore, 1) := by decide +kernel
theorem dX12_image_26 : decode cX12_image 26 = .ok (.iinc 1 1, 3) := by decide +kernel
theorem dX12_image_29 : decode cX12_image 29 = .ok (.goto (-22), 3) := by decide +kernel
theorem dX12_image_32 : decode cX12_image 32 = .ok (.aload_n 0, 1) := by decide +kernel
theorem dX12_image_33 : decode cX12_image 33 = .ok (.iconst 1, 1) := by decide +kernel
theorem dX12_image_34 : decode cX12_image 34 = .ok (.putfield 73, 3) := by decide +kernel
theorem dX12_image_37 : decode cX12_image 37 = .ok (.return_, 1) := by decide +kernel
theorem dX12_back_0 : decode cX12_back 0 = .ok (.aload_n 0, 1) := by decide +kernel
theorem dX12_back_1 : decode cX12_back 1 = .ok (.iconst 0, 1) := by decide +kernel
theorem dX12_back_2 : decode cX12_back 2 = .ok (.putfield 3, 3) := by decide +kernel
theorem dX12_back_5 : decode cX12_back 5 = .ok (.aload_n 0, 1) := by decide +kernel
theorem dX12_back_6 : decode cX12_back 6 = .ok (.getfield 73, 3) := by decide +kernel
theorem dX12_back_9 : decode cX12_back 9 = .ok (.ifCond .ne 5, 3) := by decide +kernel
theorem dX12_back_12 : decode cX12_back 12 = .ok (.iconst 0, 1) := by decide +kernel
theorem dX12_back_13 : decode cX12_back 13 = .ok (.ireturn, 1) := by decide +kernel
theorem dX12_back_14 : decode cX12_back 14 = .ok (.iconst 0, 1) := by decide +kernel
theorem dX12_back_15 : decode cX12_back 15 = .ok (.istore_n 1, 1) := by decide +kernel
theorem dX12_back_16 : decode cX12_back 16 = .ok (.iload_n 1, 1) := by decide +kernel
theorem dX12_back_17 : decode cX12_back 17 = .ok (.sipush 5615, 3) := by decide +kernel
theorem dX12_back_20 : decode cX12_back 20 = .ok (.if_icmp .ge 21, 3) := by decide +kernel
theorem dX12_back_23 : decode cX12_back 23 = .ok (.aload_n 0, 1) := by decide +kernel
theorem dX12_back_24 : decode cX12_back 24 = .ok (.getfield 13, 3) := by decide +kernel
theorem dX12_back_27 : decode cX12_back 27 = .ok (.iload_n 1, 1) := by decide +kernel
theorem dX12_back_28 : decode cX12_back 28 = .ok (.aload_n 0, 1) := by decide +kernel
theorem dX12_back_29 : decode cX12_back 29 = .ok (.getfield 17, 3) := by decide +kernel
theorem dX12_back_32 : decode cX12_back 32 = .ok (.iload_n 1, 1) := by decide +kernel
theorem dX12_back_33 : decode cX12_back 33 = .ok (.iaload, 1) := by decide +kernel
theorem dX12_back_34 : decode cX12_back 34 = .ok (.iastore, 1) := by decide +kernel
theorem dX12_back_35 : decode cX12_back 35 = .ok (.iinc 1 1, 3) := by decide +kernel
theorem dX12_back_38 : decode cX12_back 38 = .ok (.goto (-22), 3) := by decide +kernel
theorem dX12_back_41 : decode cX12_back 41 = .ok (.iconst 1, 1) := by decide +kernel
theorem dX12_back_42 : decode cX12_back 42 = .ok (.ireturn, 1) := by decide +kernel
theorem dX12_noState_0 : decode cX12_noState 0 = .ok (.iload_n 0, 1) := by decide +kernel
theorem dX12_noState_1 : decode cX12_noState 1 = .ok (.iconst 0, 1) := by decide +kernel
theorem dX12_noState_2 : decode cX12_noState 2 = .ok (.bipush 31, 2) := by decide +kernel
theorem dX12_noState_4 : decode cX12_noState 4 = .ok (.invokestatic 77, 3) := by decide +kernel
theorem dX12_noState_7 : decode cX12_noState 7 = .ok (.ifCond .ne 7, 3) := by decide +kernel
theorem dX12_noState_10 : decode cX12_noState 10 = .ok (.iconst 1, 1) := by decide +kernel
theorem dX12_noState_11 : decode cX12_noState 11 = .ok (.goto 4, 3) := by decide +kernel
theorem dX12_noState_14 : decode cX12_noState 14 = .ok (.iconst 0, 1) := by decide +kernel
theorem dX12_noState_15 : decode cX12_noState 15 = .ok (.ireturn, 1) := by decide +kernel
theorem dX12_noZone_0 : decode cX12_noZone 0 = .ok (.iload_n 0, 1) := by decide +kernel
theorem dX12_noZone_1 : decode cX12_noZone 1 = .ok (.iconst 0, 1) := by decide +kernel
theorem dX12_noZone_2 : decode cX12_noZone 2 = .ok (.bipush 7, 2) := by decide +kernel
theorem dX12_noZone_4 : decode cX12_noZone 4 = .ok (.invokestatic 77, 3) := by decide +kernel
theorem dX12_noZone_7 : decode cX12_noZone 7 = .ok (.ifCond .ne 7, 3) := by decide +kernel
theorem dX12_noZone_10 : decode cX12_noZone 10 = .ok (.iconst 1, 1) := by decide +kernel
theorem dX12_noZone_11 : decode cX12_noZone 11 = .ok (.goto 4, 3) := by decide +kernel
theorem dX12_noZone_14 : decode cX12_noZone 14 = .ok (.iconst 0, 1) := by decide +kernel
theorem dX12_noZone_15 : decode cX12_noZone 15 = .ok (.ireturn, 1) := by decide +kernel
theorem dX12_noSort_0 : decode cX12_noSort 0 = .ok (.iload_n 1, 1) := by decide +kernel
theorem dX12_noSort_1 : decode cX12_noSort 1 = .ok (.iconst 0, 1) := by decide +kernel
theorem dX12_noSort_2 : decode cX12_noSort 2 = .ok (.aload_n 0, 1) := by decide +kernel
theorem dX12_noSort_3 : decode cX12_noSort 3 = .ok (.getfield 13, 3) := by decide +kernel
theorem dX12_noSort_6 : decode cX12_noSort 6 = .ok (.iconst 2, 1) := by decide +kernel
theorem dX12_noSort_7 : decode cX12_noSort 7 = .ok (.iaload, 1) := by decide +kernel
theorem dX12_noSort_8 : decode cX12_noSort 8 = .ok (.iconst 1, 1) := by decide +kernel
theorem dX12_noSort_9 : decode cX12_noSort 9 = .ok (.isub, 1) := by decide +kernel
theorem dX12_noSort_10 : decode cX12_noSort 10 = .ok (.invokestatic 77, 3) := by decide +kernel
theorem dX12_noSort_13 : decode cX12_noSort 13 = .ok (.ifCond .ne 7, 3) := by decide +kernel
theorem dX12_noSort_16 : decode cX12_noSort 16 = .ok (.iconst 1, 1) := by decide +kernel
theorem dX12_noSort_17 : decode cX12_noSort 17 = .ok (.goto 4, 3) := by decide +kernel
theorem dX12_noSort_20 : decode cX12_noSort 20 = .ok (.iconst 0, 1) := by decide +kernel
theorem dX12_noSort_21 : decode cX12_noSort 21 = .ok (.ireturn, 1) := by decide +kernel
theorem dX12_noJudge_0 : decode cX12_noJudge 0 = .ok (.iload_n 1, 1) := by decide +kernel
theorem dX12_noJudge_1 : decode cX12_noJudge 1 = .ok (.iconst 0, 1) := by decide +kernel
theorem dX12_noJudge_2 : decode cX12_noJudge 2 = .ok (.iconst 5, 1) := by decide +kernel
theorem dX12_noJudge_3 : decode cX12_noJudge 3 = .ok (.aload_n 0, 1) := by decide +kernel
theorem dX12_noJudge_4 : decode cX12_noJudge 4 = .ok (.getfield 13, 3) := by decide +kernel
theorem dX12_noJudge_7 : decode cX12_noJudge 7 = .ok (.iconst 1, 1) := by decide +kernel
theorem dX12_noJudge_8 : decode cX12_noJudge 8 = .ok (.iaload, 1) := by decide +kernel
theorem dX12_noJudge_9 : decode cX12_noJudge 9 = .ok (.iadd, 1) := by decide +kernel
theorem dX12_noJudge_10 : decode cX12_noJudge 10 = .ok (.iconst 1, 1) := by decide +kernel
theorem dX12_noJudge_11 : decode cX12_noJudge 11 = .ok (.isub, 1) := by decide +kernel
theorem dX12_noJudge_12 : decode cX12_noJudge 12 = .ok (.invokestatic 77, 3) := by decide +kernel
theorem dX12_noJudge_15 : decode cX12_noJudge 15 = .ok (.ifCond .ne 7, 3) := by decide +kernel
theorem dX12_noJudge_18 : decode cX12_noJudge 18 = .ok (.iconst 1, 1) := by decide +kernel
theorem dX12_noJudge_19 : decode cX12_noJudge 19 = .ok (.goto 4, 3) := by decide +kernel
theorem dX12_noJudge_22 : decode cX12_noJudge 22 = .ok (.iconst 0, 1) := by decide +kernel
theorem dX12_noJudge_23 : decode cX12_noJudge 23 = .ok (.ireturn, 1) := by decide +kernel
theorem dX12_chanceAt_0 : decode cX12_chanceAt 0 = .ok (.bipush 18, 2) := by decide +kernel
theorem dX12_chanceAt_2 : decode cX12_chanceAt 2 = .ok (.bipush 34, 2) := by decide +kernel
theorem dX12_chanceAt_4 : decode cX12_chanceAt 4 = .ok (.iload_n 0, 1) := by decide +kernel
theorem dX12_chanceAt_5 : decode cX12_chanceAt 5 = .ok (.imul, 1) := by decide +kernel
theorem dX12_chanceAt_6 : decode cX12_chanceAt 6 = .ok (.iadd, 1) := by decide +kernel
theorem dX12_chanceAt_7 : decode cX12_chanceAt 7 = .ok (.iload_n 1, 1) := by decide +kernel
theorem dX12_chanceAt_8 : decode cX12_chanceAt 8 = .ok (.iadd, 1) := by decide +kernel
theorem dX12_chanceAt_9 : decode cX12_chanceAt 9 = .ok (.ireturn, 1) := by decide +kernel
theorem dX12_sortAt_0 : decode cX12_sortAt 0 = .ok (.sipush 1106, 3) := by decide +kernel
theorem dX12_sortAt_3 : decode cX12_sortAt 3 = .ok (.bipush 34, 2) := by decide +kernel
theorem dX12_sortAt_5 : decode cX12_sortAt 5 = .ok (.iload_n 0, 1) := by decide +kernel
theorem dX12_sortAt_6 : decode cX12_sortAt 6 = .ok (.imul, 1) := by decide +kernel
theorem dX12_sortAt_7 : decode cX12_sortAt 7 = .ok (.iadd, 1) := by decide +kernel
theorem dX12_sortAt_8 : decode cX12_sortAt 8 = .ok (.iload_n 1, 1) := by decide +kernel
theorem dX12_sortAt_9 : decode cX12_sortAt 9 = .ok (.iadd, 1) := by decide +kernel
theorem dX12_sortAt_10 : decode cX12_sortAt 10 = .ok (.ireturn, 1) := by decide +kernel
theorem dX12_feed_0 : decode cX12_feed 0 = .ok (.aload_n 0, 1) := by decide +kernel
theorem dX12_feed_1 : decode cX12_feed 1 = .ok (.iconst 0, 1) := by decide +kernel
theorem dX12_feed_2 : decode cX12_feed 2 = .ok (.putfield 3, 3) := by decide +kernel
theorem dX12_feed_5 : decode cX12_feed 5 = .ok (.aload_n 0, 1) := by decide +kernel
theorem dX12_feed_6 : decode cX12_feed 6 = .ok (.getfield 81, 3) := by decide +kernel
theorem dX12_feed_9 : decode cX12_feed 9 = .ok (.bipush 20, 2) := by decide +kernel
theorem dX12_feed_11 : decode cX12_feed 11 = .ok (.iadd, 1) := by decide +kernel
theorem dX12_feed_12 : decode cX12_feed 12 = .ok (.sipush 400, 3) := by decide +kernel
theorem dX12_feed_15 : decode cX12_feed 15 = .ok (.if_icmp .le 5, 3) := by decide +kernel
theorem dX12_feed_18 : decode cX12_feed 18 = .ok (.iconst (-1), 1) := by decide +kernel
theorem dX12_feed_19 : decode cX12_feed 19 = .ok (.ireturn, 1) := by decide +kernel
theorem dX12_feed_20 : decode cX12_feed 20 = .ok (.aload_n 0, 1) := by decide +kernel
theorem dX12_feed_21 : decode cX12_feed 21 = .ok (.getfield 27, 3) := by decide +kernel
theorem dX12_feed_24 : decode cX12_feed 24 = .ok (.iconst 0, 1) := by decide +kernel
theorem dX12_feed_25 : decode cX12_feed 25 = .ok (.iload_n 1, 1) := by decide +kernel
theorem dX12_feed_26 : decode cX12_feed 26 = .ok (.iastore, 1) := by decide +kernel
theorem dX12_feed_27 : decode cX12_feed 27 = .ok (.aload_n 0, 1) := by decide +kernel
theorem dX12_feed_28 : decode cX12_feed 28 = .ok (.getfield 27, 3) := by decide +kernel
theorem dX12_feed_31 : decode cX12_feed 31 = .ok (.iconst 1, 1) := by decide +kernel
theorem dX12_feed_32 : decode cX12_feed 32 = .ok (.iload_n 2, 1) := by decide +kernel
theorem dX12_feed_33 : decode cX12_feed 33 = .ok (.iastore, 1) := by decide +kernel
theorem dX12_feed_34 : decode cX12_feed 34 = .ok (.aload_n 0, 1) := by decide +kernel
theorem dX12_feed_35 : decode cX12_feed 35 = .ok (.getfield 27, 3) := by decide +kernel
theorem dX12_feed_38 : decode cX12_feed 38 = .ok (.iconst 2, 1) := by decide +kernel
theorem dX12_feed_39 : decode cX12_feed 39 = .ok (.iload_n 3, 1) := by decide +kernel
theorem dX12_feed_40 : decode cX12_feed 40 = .ok (.iastore, 1) := by decide +kernel
theorem dX12_feed_41 : decode cX12_feed 41 = .ok (.aload_n 0, 1) := by decide +kernel
theorem dX12_feed_42 : decode cX12_feed 42 = .ok (.getfield 27, 3) := by decide +kernel
theorem dX12_feed_45 : decode cX12_feed 45 = .ok (.iconst 3, 1) := by decide +kernel
theorem dX12_feed_46 : decode cX12_feed 46 = .ok (.iload 4, 2) := by decide +kernel
theorem dX12_feed_48 : decode cX12_feed 48 = .ok (.iastore, 1) := by decide +kernel
theorem dX12_feed_49 : decode cX12_feed 49 = .ok (.aload_n 0, 1) := by decide +kernel
theorem dX12_feed_50 : decode cX12_feed 50 = .ok (.getfield 27, 3) := by decide +kernel
theorem dX12_feed_53 : decode cX12_feed 53 = .ok (.iconst 4, 1) := by decide +kernel
theorem dX12_feed_54 : decode cX12_feed 54 = .ok (.iload 5, 2) := by decide +kernel
theorem dX12_feed_56 : decode cX12_feed 56 = .ok (.iastore, 1) := by decide +kernel
theorem dX12_feed_57 : decode cX12_feed 57 = .ok (.iconst 0, 1) := by decide +kernel
theorem dX12_feed_58 : decode cX12_feed 58 = .ok (.istore 6, 2) := by decide +kernel
theorem dX12_feed_60 : decode cX12_feed 60 = .ok (.iload 6, 2) := by decide +kernel
theorem dX12_feed_62 : decode cX12_feed 62 = .ok (.bipush 20, 2) := by decide +kernel
theorem dX12_feed_64 : decode cX12_feed 64 = .ok (.if_icmp .ge 42, 3) := by decide +kernel
theorem dX12_feed_67 : decode cX12_feed 67 = .ok (.aload_n 0, 1) := by decide +kernel
theorem dX12_feed_68 : decode cX12_feed 68 = .ok (.getfield 20, 3) := by decide +kernel
theorem dX12_feed_71 : decode cX12_feed 71 = .ok (.aload_n 0, 1) := by decide +kernel
theorem dX12_feed_72 : decode cX12_feed 72 = .ok (.getfield 81, 3) := by decide +kernel
theorem dX12_feed_75 : decode cX12_feed 75 = .ok (.iload 6, 2) := by decide +kernel
theorem dX12_feed_77 : decode cX12_feed 77 = .ok (.iadd, 1) := by decide +kernel
theorem dX12_feed_78 : decode cX12_feed 78 = .ok (.aload_n 0, 1) := by decide +kernel
theorem dX12_feed_79 : decode cX12_feed 79 = .ok (.getfield 27, 3) := by decide +kernel
theorem dX12_feed_82 : decode cX12_feed 82 = .ok (.iload 6, 2) := by decide +kernel
theorem dX12_feed_84 : decode cX12_feed 84 = .ok (.iconst 4, 1) := by decide +kernel
theorem dX12_feed_85 : decode cX12_feed 85 = .ok (.idiv, 1) := by decide +kernel
theorem dX12_feed_86 : decode cX12_feed 86 = .ok (.iaload, 1) := by decide +kernel
theorem dX12_feed_87 : decode cX12_feed 87 = .ok (.bipush 24, 2) := by decide +kernel
theorem dX12_feed_89 : decode cX12_feed 89 = .ok (.bipush 8, 2) := by decide +kernel
theorem dX12_feed_91 : decode cX12_feed 91 = .ok (.iload 6, 2) := by decide +kernel
theorem dX12_feed_93 : decode cX12_feed 93 = .ok (.iconst 4, 1) := by decide +kernel
theorem dX12_feed_94 : decode cX12_feed 94 = .ok (.irem, 1) := by decide +kernel
theorem dX12_feed_95 : decode cX12_feed 95 = .ok (.imul, 1) := by decide +kernel
theorem dX12_feed_96 : decode cX12_feed 96 = .ok (.isub, 1) := by decide +kernel
theorem dX12_feed_97 : decode cX12_feed 97 = .ok (.ishr, 1) := by decide +kernel
theorem dX12_feed_98 : decode cX12_feed 98 = .ok (.i2b, 1) := by decide +kernel
theorem dX12_feed_99 : decode cX12_feed 99 = .ok (.bastore, 1) := by decide +kernel
theorem dX12_feed_100 : decode cX12_feed 100 = .ok (.iinc 6 1, 3) := by decide +kernel
theorem dX12_feed_103 : decode cX12_feed 103 = .ok (.goto (-43), 3) := by decide +kernel
theorem dX12_feed_106 : decode cX12_feed 106 = .ok (.aload_n 0, 1) := by decide +kernel
theorem dX12_feed_107 : decode cX12_feed 107 = .ok (.dup, 1) := by decide +kernel
theorem dX12_feed_108 : decode cX12_feed 108 = .ok (.getfield 81, 3) := by decide +kernel
theorem dX12_feed_111 : decode cX12_feed 111 = .ok (.bipush 20, 2) := by decide +kernel
theorem dX12_feed_113 : decode cX12_feed 113 = .ok (.iadd, 1) := by decide +kernel
theorem dX12_feed_114 : decode cX12_feed 114 = .ok (.putfield 81, 3) := by decide +kernel
theorem dX12_feed_117 : decode cX12_feed 117 = .ok (.aload_n 0, 1) := by decide +kernel
theorem dX12_feed_118 : decode cX12_feed 118 = .ok (.getfield 81, 3) := by decide +kernel
theorem dX12_feed_121 : decode cX12_feed 121 = .ok (.ireturn, 1) := by decide +kernel
theorem dX12_end_0 : decode cX12_end 0 = .ok (.aload_n 0, 1) := by decide +kernel
theorem dX12_end_1 : decode cX12_end 1 = .ok (.iconst 0, 1) := by decide +kernel
theorem dX12_end_2 : decode cX12_end 2 = .ok (.putfield 3, 3) := by decide +kernel
theorem dX12_end_5 : decode cX12_end 5 = .ok (.iload_n 1, 1) := by decide +kernel
theorem dX12_end_6 : decode cX12_end 6 = .ok (.ifCond .lt 11, 3) := by decide +kernel
theorem dX12_end_9 : decode cX12_end 9 = .ok (.iload_n 1, 1) := by decide +kernel
theorem dX12_end_10 : decode cX12_end 10 = .ok (.aload_n 0, 1) := by decide +kernel
theorem dX12_end_11 : decode cX12_end 11 = .ok (.getfield 81, 3) := by decide +kernel
theorem dX12_end_14 : decode cX12_end 14 = .ok (.if_icmp .le 5, 3) := by decide +kernel
theorem dX12_end_17 : decode cX12_end 17 = .ok (.iconst 0, 1) := by decide +kernel
theorem dX12_end_18 : decode cX12_end 18 = .ok (.ireturn, 1) := by decide +kernel
theorem dX12_end_19 : decode cX12_end 19 = .ok (.aload_n 0, 1) := by decide +kernel
theorem dX12_end_20 : decode cX12_end 20 = .ok (.iload_n 1, 1) := by decide +kernel
theorem dX12_end_21 : decode cX12_end 21 = .ok (.putfield 81, 3) := by decide +kernel
theorem dX12_end_24 : decode cX12_end 24 = .ok (.iconst 1, 1) := by decide +kernel
theorem dX12_end_25 : decode cX12_end 25 = .ok (.ireturn, 1) := by decide +kernel
theorem dX12_isAt_0 : decode cX12_isAt 0 = .ok (.aload_n 0, 1) := by decide +kernel
theorem dX12_isAt_1 : decode cX12_isAt 1 = .ok (.getfield 84, 3) := by decide +kernel
theorem dX12_isAt_4 : decode cX12_isAt 4 = .ok (.aload_n 0, 1) := by decide +kernel
theorem dX12_isAt_5 : decode cX12_isAt 5 = .ok (.getfield 87, 3) := by decide +kernel
theorem dX12_isAt_8 : decode cX12_isAt 8 = .ok (.if_icmp .ge 33, 3) := by decide +kernel
theorem dX12_isAt_11 : decode cX12_isAt 11 = .ok (.aload_n 0, 1) := by decide +kernel
theorem dX12_isAt_12 : decode cX12_isAt 12 = .ok (.getfield 20, 3) := by decide +kernel
theorem dX12_isAt_15 : decode cX12_isAt 15 = .ok (.aload_n 0, 1) := by decide +kernel
theorem dX12_isAt_16 : decode cX12_isAt 16 = .ok (.getfield 84, 3) := by decide +kernel
theorem dX12_isAt_19 : decode cX12_isAt 19 = .ok (.baload, 1) := by decide +kernel
theorem dX12_isAt_20 : decode cX12_isAt 20 = .ok (.iload_n 1, 1) := by decide +kernel
theorem dX12_isAt_21 : decode cX12_isAt 21 = .ok (.if_icmp .lt 20, 3) := by decide +kernel
theorem dX12_isAt_24 : decode cX12_isAt 24 = .ok (.aload_n 0, 1) := by decide +kernel
theorem dX12_isAt_25 : decode cX12_isAt 25 = .ok (.getfield 20, 3) := by decide +kernel
theorem dX12_isAt_28 : decode cX12_isAt 28 = .ok (.aload_n 0, 1) := by decide +kernel
theorem dX12_isAt_29 : decode cX12_isAt 29 = .ok (.getfield 84, 3) := by decide +kernel
theorem dX12_isAt_32 : decode cX12_isAt 32 = .ok (.baload, 1) := by decide +kernel
theorem dX12_isAt_33 : decode cX12_isAt 33 = .ok (.iload_n 2, 1) := by decide +kernel
theorem dX12_isAt_34 : decode cX12_isAt 34 = .ok (.if_icmp .gt 7, 3) := by decide +kernel
theorem dX12_isAt_37 : decode cX12_isAt 37 = .ok (.iconst 1, 1) := by decide +kernel
theorem dX12_isAt_38 : decode cX12_isAt 38 = .ok (.goto 4, 3) := by decide +kernel
theorem dX12_isAt_41 : decode cX12_isAt 41 = .ok (.iconst 0, 1) := by decide +kernel
theorem dX12_isAt_42 : decode cX12_isAt 42 = .ok (.ireturn, 1) := by decide +kernel
theorem dX12_blanks_0 : decode cX12_blanks 0 = .ok (.aload_n 0, 1) := by decide +kernel
theorem dX12_blanks_1 : decode cX12_blanks 1 = .ok (.bipush 32, 2) := by decide +kernel
theorem dX12_blanks_3 : decode cX12_blanks 3 = .ok (.bipush 32, 2) := by decide +kernel
theorem dX12_blanks_5 : decode cX12_blanks 5 = .ok (.invokevirtual 90, 3) := by decide +kernel
theorem dX12_blanks_8 : decode cX12_blanks 8 = .ok (.ifCond .eq 16, 3) := by decide +kernel
theorem dX12_blanks_11 : decode cX12_blanks 11 = .ok (.aload_n 0, 1) := by decide +kernel
theorem dX12_blanks_12 : decode cX12_blanks 12 = .ok (.dup, 1) := by decide +kernel
theorem dX12_blanks_13 : decode cX12_blanks 13 = .ok (.getfield 84, 3) := by decide +kernel
theorem dX12_blanks_16 : decode cX12_blanks 16 = .ok (.iconst 1, 1) := by decide +kernel
theorem dX12_blanks_17 : decode cX12_blanks 17 = .ok (.iadd, 1) := by decide +kernel
theorem dX12_blanks_18 : decode cX12_blanks 18 = .ok (.putfield 84, 3) := by decide +kernel
theorem dX12_blanks_21 : decode cX12_blanks 21 = .ok (.goto (-21), 3) := by decide +kernel
theorem dX12_blanks_24 : decode cX12_blanks 24 = .ok (.aload_n 0, 1) := by decide +kernel
theorem dX12_blanks_25 : decode cX12_blanks 25 = .ok (.aload_n 0, 1) := by decide +kernel
theorem dX12_blanks_26 : decode cX12_blanks 26 = .ok (.getfield 84, 3) := by decide +kernel
theorem dX12_blanks_29 : decode cX12_blanks 29 = .ok (.putfield 94, 3) := by decide +kernel
theorem dX12_blanks_32 : decode cX12_blanks 32 = .ok (.return_, 1) := by decide +kernel
theorem dX12_letters_0 : decode cX12_letters 0 = .ok (.aload_n 0, 1) := by decide +kernel
theorem dX12_letters_1 : decode cX12_letters 1 = .ok (.invokevirtual 97, 3) := by decide +kernel
theorem dX12_letters_4 : decode cX12_letters 4 = .ok (.aload_n 0, 1) := by decide +kernel
theorem dX12_letters_5 : decode cX12_letters 5 = .ok (.bipush 97, 2) := by decide +kernel
theorem dX12_letters_7 : decode cX12_letters 7 = .ok (.bipush 122, 2) := by decide +kernel
theorem dX12_letters_9 : decode cX12_letters 9 = .ok (.invokevirtual 90, 3) := by decide +kernel
theorem dX12_letters_12 : decode cX12_letters 12 = .ok (.ifCond .eq 16, 3) := by decide +kernel
theorem dX12_letters_15 : decode cX12_letters 15 = .ok (.aload_n 0, 1) := by decide +kernel
theorem dX12_letters_16 : decode cX12_letters 16 = .ok (.dup, 1) := by decide +kernel
theorem dX12_letters_17 : decode cX12_letters 17 = .ok (.getfield 84, 3) := by decide +kernel
theorem dX12_letters_20 : decode cX12_letters 20 = .ok (.iconst 1, 1) := by decide +kernel
theorem dX12_letters_21 : decode cX12_letters 21 = .ok (.iadd, 1) := by decide +kernel
theorem dX12_letters_22 : decode cX12_letters 22 = .ok (.putfield 84, 3) := by decide +kernel
theorem dX12_letters_25 : decode cX12_letters 25 = .ok (.goto (-21), 3) := by decide +kernel
theorem dX12_letters_28 : decode cX12_letters 28 = .ok (.return_, 1) := by decide +kernel
theorem dX12_isWord_0 : decode cX12_isWord 0 = .ok (.aload_n 0, 1) := by decide +kernel
theorem dX12_isWord_1 : decode cX12_isWord 1 = .ok (.getfield 84, 3) := by decide +kernel
theorem dX12_isWord_4 : decode cX12_isWord 4 = .ok (.aload_n 0, 1) := by decide +kernel
theorem dX12_isWord_5 : decode cX12_isWord 5 = .ok (.getfield 94, 3) := by decide +kernel
theorem dX12_isWord_8 : decode cX12_isWord 8 = .ok (.isub, 1) := by decide +kernel
theorem dX12_isWord_9 : decode cX12_isWord 9 = .ok (.aload_n 1, 1) := by decide +kernel
theorem dX12_isWord_10 : decode cX12_isWord 10 = .ok (.invokevirtual 100, 3) := by decide +kernel
theorem dX12_isWord_13 : decode cX12_isWord 13 = .ok (.if_icmp .ne 7, 3) := by decide +kernel
theorem dX12_isWord_16 : decode cX12_isWord 16 = .ok (.iconst 1, 1) := by decide +kernel
theorem dX12_isWord_17 : decode cX12_isWord 17 = .ok (.goto 4, 3) := by decide +kernel
theorem dX12_isWord_20 : decode cX12_isWord 20 = .ok (.iconst 0, 1) := by decide +kernel
theorem dX12_isWord_21 : decode cX12_isWord 21 = .ok (.istore_n 2, 1) := by decide +kernel
theorem dX12_isWord_22 : decode cX12_isWord 22 = .ok (.iconst 0, 1) := by decide +kernel
theorem dX12_isWord_23 : decode cX12_isWord 23 = .ok (.istore_n 3, 1) := by decide +kernel
theorem dX12_isWord_24 : decode cX12_isWord 24 = .ok (.iload_n 2, 1) := by decide +kernel
theorem dX12_isWord_25 : decode cX12_isWord 25 = .ok (.ifCond .eq 42, 3) := by decide +kernel
theorem dX12_isWord_28 : decode cX12_isWord 28 = .ok (.iload_n 3, 1) := by decide +kernel
theorem dX12_isWord_29 : decode cX12_isWord 29 = .ok (.aload_n 1, 1) := by decide +kernel
theorem dX12_isWord_30 : decode cX12_isWord 30 = .ok (.invokevirtual 100, 3) := by decide +kernel
theorem dX12_isWord_33 : decode cX12_isWord 33 = .ok (.if_icmp .ge 34, 3) := by decide +kernel
theorem dX12_isWord_36 : decode cX12_isWord 36 = .ok (.aload_n 0, 1) := by decide +kernel
theorem dX12_isWord_37 : decode cX12_isWord 37 = .ok (.getfield 20, 3) := by decide +kernel
theorem dX12_isWord_40 : decode cX12_isWord 40 = .ok (.aload_n 0, 1) := by decide +kernel
theorem dX12_isWord_41 : decode cX12_isWord 41 = .ok (.getfield 94, 3) := by decide +kernel
theorem dX12_isWord_44 : decode cX12_isWord 44 = .ok (.iload_n 3, 1) := by decide +kernel
theorem dX12_isWord_45 : decode cX12_isWord 45 = .ok (.iadd, 1) := by decide +kernel
theorem dX12_isWord_46 : decode cX12_isWord 46 = .ok (.baload, 1) := by decide +kernel
theorem dX12_isWord_47 : decode cX12_isWord 47 = .ok (.aload_n 1, 1) := by decide +kernel
theorem dX12_isWord_48 : decode cX12_isWord 48 = .ok (.iload_n 3, 1) := by decide +kernel
theorem dX12_isWord_49 : decode cX12_isWord 49 = .ok (.invokevirtual 106, 3) := by decide +kernel
theorem dX12_isWord_52 : decode cX12_isWord 52 = .ok (.if_icmp .ne 7, 3) := by decide +kernel
theorem dX12_isWord_55 : decode cX12_isWord 55 = .ok (.iconst 1, 1) := by decide +kernel
theorem dX12_isWord_56 : decode cX12_isWord 56 = .ok (.goto 4, 3) := by decide +kernel
theorem dX12_isWord_59 : decode cX12_isWord 59 = .ok (.iconst 0, 1) := by decide +kernel
theorem dX12_isWord_60 : decode cX12_isWord 60 = .ok (.istore_n 2, 1) := by decide +kernel
theorem dX12_isWord_61 : decode cX12_isWord 61 = .ok (.iinc 3 1, 3) := by decide +kernel
theorem dX12_isWord_64 : decode cX12_isWord 64 = .ok (.goto (-40), 3) := by decide +kernel
theorem dX12_isWord_67 : decode cX12_isWord 67 = .ok (.iload_n 2, 1) := by decide +kernel
theorem dX12_isWord_68 : decode cX12_isWord 68 = .ok (.ireturn, 1) := by decide +kernel
theorem dX12_passes_0 : decode cX12_passes 0 = .ok (.aload_n 0, 1) := by decide +kernel
theorem dX12_passes_1 : decode cX12_passes 1 = .ok (.invokevirtual 110, 3) := by decide +kernel
theorem dX12_passes_4 : decode cX12_passes 4 = .ok (.aload_n 0, 1) := by decide +kernel
theorem dX12_passes_5 : decode cX12_passes 5 = .ok (.aload_n 1, 1) := by decide +kernel
theorem dX12_passes_6 : decode cX12_passes 6 = .ok (.invokevirtual 113, 3) := by decide +kernel
theorem dX12_passes_9 : decode cX12_passes 9 = .ok (.ifCond .eq 5, 3) := by decide +kernel
theorem dX12_passes_12 : decode cX12_passes 12 = .ok (.iconst 1, 1) := by decide +kernel
theorem dX12_passes_13 : decode cX12_passes 13 = .ok (.ireturn, 1) := by decide +kernel
theorem dX12_passes_14 : decode cX12_passes 14 = .ok (.aload_n 0, 1) := by decide +kernel
theorem dX12_passes_15 : decode cX12_passes 15 = .ok (.aload_n 0, 1) := by decide +kernel
theorem dX12_passes_16 : decode cX12_passes 16 = .ok (.getfield 94, 3) := by decide +kernel
theorem dX12_passes_19 : decode cX12_passes 19 = .ok (.putfield 84, 3) := by decide +kernel
theorem dX12_passes_22 : decode cX12_passes 22 = .ok (.iconst 0, 1) := by decide +kernel
theorem dX12_passes_23 : decode cX12_passes 23 = .ok (.ireturn, 1) := by decide +kernel
theorem dX12_sign_0 : decode cX12_sign 0 = .ok (.aload_n 0, 1) := by decide +kernel
theorem dX12_sign_1 : decode cX12_sign 1 = .ok (.invokevirtual 97, 3) := by decide +kernel
theorem dX12_sign_4 : decode cX12_sign 4 = .ok (.aload_n 0, 1) := by decide +kernel
theorem dX12_sign_5 : decode cX12_sign 5 = .ok (.iload_n 1, 1) := by decide +kernel
theorem dX12_sign_6 : decode cX12_sign 6 = .ok (.iload_n 1, 1) := by decide +kernel
theorem dX12_sign_7 : decode cX12_sign 7 = .ok (.invokevirtual 90, 3) := by decide +kernel
theorem dX12_sign_10 : decode cX12_sign 10 = .ok (.ifCond .ne 5, 3) := by decide +kernel
theorem dX12_sign_13 : decode cX12_sign 13 = .ok (.iconst 0, 1) := by decide +kernel
theorem dX12_sign_14 : decode cX12_sign 14 = .ok (.ireturn, 1) := by decide +kernel
theorem dX12_sign_15 : decode cX12_sign 15 = .ok (.aload_n 0, 1) := by decide +kernel
theorem dX12_sign_16 : decode cX12_sign 16 = .ok (.dup, 1) := by decide +kernel
theorem dX12_sign_17 : decode cX12_sign 17 = .ok (.getfield 84, 3) := by decide +kernel
theorem dX12_sign_20 : decode cX12_sign 20 = .ok (.iconst 1, 1) := by decide +kernel
theorem dX12_sign_21 : decode cX12_sign 21 = .ok (.iadd, 1) := by decide +kernel
theorem dX12_sign_22 : decode cX12_sign 22 = .ok (.putfield 84, 3) := by decide +kernel
theorem dX12_sign_25 : decode cX12_sign 25 = .ok (.iconst 1, 1) := by decide +kernel
theorem dX12_sign_26 : decode cX12_sign 26 = .ok (.ireturn, 1) := by decide +kernel
theorem dX12_number_0 : decode cX12_number 0 = .ok (.aload_n 0, 1) := by decide +kernel
theorem dX12_number_1 : decode cX12_number 1 = .ok (.invokevirtual 97, 3) := by decide +kernel
theorem dX12_number_4 : decode cX12_number 4 = .ok (.iconst 0, 1) := by decide +kernel
theorem dX12_number_5 : decode cX12_number 5 = .ok (.istore_n 2, 1) := by decide +kernel
theorem dX12_number_6 : decode cX12_number 6 = .ok (.aload_n 0, 1) := by decide +kernel
theorem dX12_number_7 : decode cX12_number 7 = .ok (.bipush 48, 2) := by decide +kernel
theorem dX12_number_9 : decode cX12_number 9 = .ok (.bipush 57, 2) := by decide +kernel
theorem dX12_number_11 : decode cX12_number 11 = .ok (.invokevirtual 90, 3) := by decide +kernel
theorem dX12_number_14 : decode cX12_number 14 = .ok (.ifCond .eq 51, 3) := by decide +kernel
theorem dX12_number_17 : decode cX12_number 17 = .ok (.aload_n 0, 1) := by decide +kernel
theorem dX12_number_18 : decode cX12_number 18 = .ok (.getfield 84, 3) := by decide +kernel
theorem dX12_number_21 : decode cX12_number 21 = .ok (.aload_n 0, 1) := by decide +kernel
theorem dX12_number_22 : decode cX12_number 22 = .ok (.getfield 94, 3) := by decide +kernel
theorem dX12_number_25 : decode cX12_number 25 = .ok (.isub, 1) := by decide +kernel
theorem dX12_number_26 : decode cX12_number 26 = .ok (.iconst 4, 1) := by decide +kernel
theorem dX12_number_27 : decode cX12_number 27 = .ok (.if_icmp .ge 23, 3) := by decide +kernel
theorem dX12_number_30 : decode cX12_number 30 = .ok (.bipush 10, 2) := by decide +kernel
theorem dX12_number_32 : decode cX12_number 32 = .ok (.iload_n 2, 1) := by decide +kernel
theorem dX12_number_33 : decode cX12_number 33 = .ok (.imul, 1) := by decide +kernel
theorem dX12_number_34 : decode cX12_number 34 = .ok (.aload_n 0, 1) := by decide +kernel
theorem dX12_number_35 : decode cX12_number 35 = .ok (.getfield 20, 3) := by decide +kernel
theorem dX12_number_38 : decode cX12_number 38 = .ok (.aload_n 0, 1) := by decide +kernel
theorem dX12_number_39 : decode cX12_number 39 = .ok (.getfield 84, 3) := by decide +kernel
theorem dX12_number_42 : decode cX12_number 42 = .ok (.baload, 1) := by decide +kernel
theorem dX12_number_43 : decode cX12_number 43 = .ok (.iadd, 1) := by decide +kernel
theorem dX12_number_44 : decode cX12_number 44 = .ok (.bipush 48, 2) := by decide +kernel
theorem dX12_number_46 : decode cX12_number 46 = .ok (.isub, 1) := by decide +kernel
theorem dX12_number_47 : decode cX12_number 47 = .ok (.goto 4, 3) := by decide +kernel
theorem dX12_number_50 : decode cX12_number 50 = .ok (.iload_n 2, 1) := by decide +kernel
theorem dX12_number_51 : decode cX12_number 51 = .ok (.istore_n 2, 1) := by decide +kernel
theorem dX12_number_52 : decode cX12_number 52 = .ok (.aload_n 0, 1) := by decide +kernel
theorem dX12_number_53 : decode cX12_number 53 = .ok (.dup, 1) := by decide +kernel
theorem dX12_number_54 : decode cX12_number 54 = .ok (.getfield 84, 3) := by decide +kernel
theorem dX12_number_57 : decode cX12_number 57 = .ok (.iconst 1, 1) := by decide +kernel
theorem dX12_number_58 : decode cX12_number 58 = .ok (.iadd, 1) := by decide +kernel
theorem dX12_number_59 : decode cX12_number 59 = .ok (.putfield 84, 3) := by decide +kernel
theorem dX12_number_62 : decode cX12_number 62 = .ok (.goto (-56), 3) := by decide +kernel
theorem dX12_number_65 : decode cX12_number 65 = .ok (.aload_n 0, 1) := by decide +kernel
theorem dX12_number_66 : decode cX12_number 66 = .ok (.getfield 84, 3) := by decide +kernel
theorem dX12_number_69 : decode cX12_number 69 = .ok (.aload_n 0, 1) := by decide +kernel
theorem dX12_number_70 : decode cX12_number 70 = .ok (.getfield 94, 3) := by decide +kernel
theorem dX12_number_73 : decode cX12_number 73 = .ok (.if_icmp .eq 21, 3) := by decide +kernel
theorem dX12_number_76 : decode cX12_number 76 = .ok (.aload_n 0, 1) := by decide +kernel
theorem dX12_number_77 : decode cX12_number 77 = .ok (.getfield 84, 3) := by decide +kernel
theorem dX12_number_80 : decode cX12_number 80 = .ok (.aload_n 0, 1) := by decide +kernel
theorem dX12_number_81 : decode cX12_number 81 = .ok (.getfield 94, 3) := by decide +kernel
theorem dX12_number_84 : decode cX12_number 84 = .ok (.isub, 1) := by decide +kernel
theorem dX12_number_85 : decode cX12_number 85 = .ok (.iconst 4, 1) := by decide +kernel
theorem dX12_number_86 : decode cX12_number 86 = .ok (.if_icmp .gt 8, 3) := by decide +kernel
theorem dX12_number_89 : decode cX12_number 89 = .ok (.iload_n 2, 1) := by decide +kernel
theorem dX12_number_90 : decode cX12_number 90 = .ok (.iload_n 1, 1) := by decide +kernel
theorem dX12_number_91 : decode cX12_number 91 = .ok (.if_icmp .le 7, 3) := by decide +kernel
theorem dX12_number_94 : decode cX12_number 94 = .ok (.iconst (-1), 1) := by decide +kernel
theorem dX12_number_95 : decode cX12_number 95 = .ok (.goto 4, 3) := by decide +kernel
theorem dX12_number_98 : decode cX12_number 98 = .ok (.iload_n 2, 1) := by decide +kernel
theorem dX12_number_99 : decode cX12_number 99 = .ok (.ireturn, 1) := by decide +kernel
theorem dX12_fault_0 : decode cX12_fault 0 = .ok (.aload_n 0, 1) := by decide +kernel
theorem dX12_fault_1 : decode cX12_fault 1 = .ok (.iconst 0, 1) := by decide +kernel
theorem dX12_fault_2 : decode cX12_fault 2 = .ok (.putfield 3, 3) := by decide +kernel
theorem dX12_fault_5 : decode cX12_fault 5 = .ok (.aload_n 0, 1) := by decide +kernel
theorem dX12_fault_6 : decode cX12_fault 6 = .ok (.getfield 24, 3) := by decide +kernel
theorem dX12_fault_9 : decode cX12_fault 9 = .ok (.ireturn, 1) := by decide +kernel
theorem dX12_textAt_0 : decode cX12_textAt 0 = .ok (.sipush 1310, 3) := by decide +kernel
theorem dX12_textAt_3 : decode cX12_textAt 3 = .ok (.sipush 861, 3) := by decide +kernel
theorem dX12_textAt_6 : decode cX12_textAt 6 = .ok (.iload_n 0, 1) := by decide +kernel
theorem dX12_textAt_7 : decode cX12_textAt 7 = .ok (.imul, 1) := by decide +kernel
theorem dX12_textAt_8 : decode cX12_textAt 8 = .ok (.iadd, 1) := by decide +kernel
theorem dX12_textAt_9 : decode cX12_textAt 9 = .ok (.ireturn, 1) := by decide +kernel
theorem dX12_lineAt_0 : decode cX12_lineAt 0 = .ok (.iload_n 0, 1) := by decide +kernel
theorem dX12_lineAt_1 : decode cX12_lineAt 1 = .ok (.invokestatic 117, 3) := by decide +kernel
theorem dX12_lineAt_4 : decode cX12_lineAt 4 = .ok (.iconst 1, 1) := by decide +kernel
theorem dX12_lineAt_5 : decode cX12_lineAt 5 = .ok (.iadd, 1) := by decide +kernel
theorem dX12_lineAt_6 : decode cX12_lineAt 6 = .ok (.iconst 5, 1) := by decide +kernel
theorem dX12_lineAt_7 : decode cX12_lineAt 7 = .ok (.iload_n 1, 1) := by decide +kernel
theorem dX12_lineAt_8 : decode cX12_lineAt 8 = .ok (.imul, 1) := by decide +kernel
theorem dX12_lineAt_9 : decode cX12_lineAt 9 = .ok (.iadd, 1) := by decide +kernel
theorem dX12_lineAt_10 : decode cX12_lineAt 10 = .ok (.ireturn, 1) := by decide +kernel
theorem dX12_emits_0 : decode cX12_emits 0 = .ok (.iconst 5, 1) := by decide +kernel
theorem dX12_emits_1 : decode cX12_emits 1 = .ok (.invokestatic 117, 3) := by decide +kernel
theorem dX12_emits_4 : decode cX12_emits 4 = .ok (.bipush 61, 2) := by decide +kernel
theorem dX12_emits_6 : decode cX12_emits 6 = .ok (.iadd, 1) := by decide +kernel
theorem dX12_emits_7 : decode cX12_emits 7 = .ok (.iconst 2, 1) := by decide +kernel
theorem dX12_emits_8 : decode cX12_emits 8 = .ok (.aload_n 0, 1) := by decide +kernel
theorem dX12_emits_9 : decode cX12_emits 9 = .ok (.getfield 121, 3) := by decide +kernel
theorem dX12_emits_12 : decode cX12_emits 12 = .ok (.imul, 1) := by decide +kernel
theorem dX12_emits_13 : decode cX12_emits 13 = .ok (.iadd, 1) := by decide +kernel
theorem dX12_emits_14 : decode cX12_emits 14 = .ok (.istore_n 3, 1) := by decide +kernel
theorem dX12_emits_15 : decode cX12_emits 15 = .ok (.aload_n 0, 1) := by decide +kernel
theorem dX12_emits_16 : decode cX12_emits 16 = .ok (.getfield 13, 3) := by decide +kernel
theorem dX12_emits_19 : decode cX12_emits 19 = .ok (.iload_n 3, 1) := by decide +kernel
theorem dX12_emits_20 : decode cX12_emits 20 = .ok (.iload_n 1, 1) := by decide +kernel
theorem dX12_emits_21 : decode cX12_emits 21 = .ok (.iastore, 1) := by decide +kernel
theorem dX12_emits_22 : decode cX12_emits 22 = .ok (.aload_n 0, 1) := by decide +kernel
theorem dX12_emits_23 : decode cX12_emits 23 = .ok (.getfield 13, 3) := by decide +kernel
theorem dX12_emits_26 : decode cX12_emits 26 = .ok (.iload_n 3, 1) := by decide +kernel
theorem dX12_emits_27 : decode cX12_emits 27 = .ok (.iconst 1, 1) := by decide +kernel
theorem dX12_emits_28 : decode cX12_emits 28 = .ok (.iadd, 1) := by decide +kernel
theorem dX12_emits_29 : decode cX12_emits 29 = .ok (.iload_n 2, 1) := by decide +kernel
theorem dX12_emits_30 : decode cX12_emits 30 = .ok (.iastore, 1) := by decide +kernel
theorem dX12_emits_31 : decode cX12_emits 31 = .ok (.aload_n 0, 1) := by decide +kernel
theorem dX12_emits_32 : decode cX12_emits 32 = .ok (.dup, 1) := by decide +kernel
theorem dX12_emits_33 : decode cX12_emits 33 = .ok (.getfield 121, 3) := by decide +kernel
theorem dX12_emits_36 : decode cX12_emits 36 = .ok (.iconst 1, 1) := by decide +kernel
theorem dX12_emits_37 : decode cX12_emits 37 = .ok (.iadd, 1) := by decide +kernel
theorem dX12_emits_38 : decode cX12_emits 38 = .ok (.putfield 121, 3) := by decide +kernel
theorem dX12_emits_41 : decode cX12_emits 41 = .ok (.return_, 1) := by decide +kernel
theorem dX12_factAt_0 : decode cX12_factAt 0 = .ok (.aload_n 0, 1) := by decide +kernel
theorem dX12_factAt_1 : decode cX12_factAt 1 = .ok (.ldc 124, 2) := by decide +kernel
theorem dX12_factAt_3 : decode cX12_factAt 3 = .ok (.invokevirtual 113, 3) := by decide +kernel
theorem dX12_factAt_6 : decode cX12_factAt 6 = .ok (.ifCond .eq 7, 3) := by decide +kernel
theorem dX12_factAt_9 : decode cX12_factAt 9 = .ok (.iconst 0, 1) := by decide +kernel
theorem dX12_factAt_10 : decode cX12_factAt 10 = .ok (.goto 30, 3) := by decide +kernel
theorem dX12_factAt_13 : decode cX12_factAt 13 = .ok (.aload_n 0, 1) := by decide +kernel
theorem dX12_factAt_14 : decode cX12_factAt 14 = .ok (.ldc 126, 2) := by decide +kernel
theorem dX12_factAt_16 : decode cX12_factAt 16 = .ok (.invokevirtual 113, 3) := by decide +kernel
theorem dX12_factAt_19 : decode cX12_factAt 19 = .ok (.ifCond .eq 7, 3) := by decide +kernel
theorem dX12_factAt_22 : decode cX12_factAt 22 = .ok (.iconst 1, 1) := by decide +kernel
theorem dX12_factAt_23 : decode cX12_factAt 23 = .ok (.goto 17, 3) := by decide +kernel
theorem dX12_factAt_26 : decode cX12_factAt 26 = .ok (.aload_n 0, 1) := by decide +kernel
theorem dX12_factAt_27 : decode cX12_factAt 27 = .ok (.ldc 128, 2) := by decide +kernel
theorem dX12_factAt_29 : decode cX12_factAt 29 = .ok (.invokevirtual 113, 3) := by decide +kernel
theorem dX12_factAt_32 : decode cX12_factAt 32 = .ok (.ifCond .eq 7, 3) := by decide +kernel
theorem dX12_factAt_35 : decode cX12_factAt 35 = .ok (.iconst 2, 1) := by decide +kernel
theorem dX12_factAt_36 : decode cX12_factAt 36 = .ok (.goto 4, 3) := by decide +kernel
theorem dX12_factAt_39 : decode cX12_factAt 39 = .ok (.iconst (-1), 1) := by decide +kernel
theorem dX12_factAt_40 : decode cX12_factAt 40 = .ok (.istore_n 1, 1) := by decide +kernel
theorem dX12_factAt_41 : decode cX12_factAt 41 = .ok (.iload_n 1, 1) := by decide +kernel
theorem dX12_factAt_42 : decode cX12_factAt 42 = .ok (.ifCond .ge 11, 3) := by decide +kernel
theorem dX12_factAt_45 : decode cX12_factAt 45 = .ok (.aload_n 0, 1) := by decide +kernel
theorem dX12_factAt_46 : decode cX12_factAt 46 = .ok (.getfield 130, 3) := by decide +kernel
theorem dX12_factAt_49 : decode cX12_factAt 49 = .ok (.iconst 1, 1) := by decide +kernel
theorem dX12_factAt_50 : decode cX12_factAt 50 = .ok (.if_icmp .ne 5, 3) := by decide +kernel
theorem dX12_factAt_53 : decode cX12_factAt 53 = .ok (.iload_n 1, 1) := by decide +kernel
theorem dX12_factAt_54 : decode cX12_factAt 54 = .ok (.ireturn, 1) := by decide +kernel
theorem dX12_factAt_55 : decode cX12_factAt 55 = .ok (.aload_n 0, 1) := by decide +kernel
theorem dX12_factAt_56 : decode cX12_factAt 56 = .ok (.ldc 133, 2) := by decide +kernel
theorem dX12_factAt_58 : decode cX12_factAt 58 = .ok (.invokevirtual 113, 3) := by decide +kernel
theorem dX12_factAt_61 : decode cX12_factAt 61 = .ok (.ifCond .eq 7, 3) := by decide +kernel
theorem dX12_factAt_64 : decode cX12_factAt 64 = .ok (.iconst 3, 1) := by decide +kernel
theorem dX12_factAt_65 : decode cX12_factAt 65 = .ok (.goto 44, 3) := by decide +kernel
theorem dX12_factAt_68 : decode cX12_factAt 68 = .ok (.aload_n 0, 1) := by decide +kernel
theorem dX12_factAt_69 : decode cX12_factAt 69 = .ok (.ldc 135, 2) := by decide +kernel
theorem dX12_factAt_71 : decode cX12_factAt 71 = .ok (.invokevirtual 113, 3) := by decide +kernel
theorem dX12_factAt_74 : decode cX12_factAt 74 = .ok (.ifCond .eq 7, 3) := by decide +kernel
theorem dX12_factAt_77 : decode cX12_factAt 77 = .ok (.iconst 4, 1) := by decide +kernel
theorem dX12_factAt_78 : decode cX12_factAt 78 = .ok (.goto 31, 3) := by decide +kernel
theorem dX12_factAt_81 : decode cX12_factAt 81 = .ok (.aload_n 0, 1) := by decide +kernel
theorem dX12_factAt_82 : decode cX12_factAt 82 = .ok (.ldc 137, 2) := by decide +kernel
theorem dX12_factAt_84 : decode cX12_factAt 84 = .ok (.invokevirtual 113, 3) := by decide +kernel
theorem dX12_factAt_87 : decode cX12_factAt 87 = .ok (.ifCond .eq 7, 3) := by decide +kernel
theorem dX12_factAt_90 : decode cX12_factAt 90 = .ok (.iconst 5, 1) := by decide +kernel
theorem dX12_factAt_91 : decode cX12_factAt 91 = .ok (.goto 18, 3) := by decide +kernel
theorem dX12_factAt_94 : decode cX12_factAt 94 = .ok (.aload_n 0, 1) := by decide +kernel
theorem dX12_factAt_95 : decode cX12_factAt 95 = .ok (.ldc 139, 2) := by decide +kernel
theorem dX12_factAt_97 : decode cX12_factAt 97 = .ok (.invokevirtual 113, 3) := by decide +kernel
theorem dX12_factAt_100 : decode cX12_factAt 100 = .ok (.ifCond .eq 8, 3) := by decide +kernel
theorem dX12_factAt_103 : decode cX12_factAt 103 = .ok (.bipush 6, 2) := by decide +kernel
theorem dX12_factAt_105 : decode cX12_factAt 105 = .ok (.goto 4, 3) := by decide +kernel
theorem dX12_factAt_108 : decode cX12_factAt 108 = .ok (.iconst (-1), 1) := by decide +kernel
theorem dX12_factAt_109 : decode cX12_factAt 109 = .ok (.ireturn, 1) := by decide +kernel
theorem dX12_readPart_0 : decode cX12_readPart 0 = .ok (.aload_n 0, 1) := by decide +kernel
theorem dX12_readPart_1 : decode cX12_readPart 1 = .ok (.invokevirtual 110, 3) := by decide +kernel
theorem dX12_readPart_4 : decode cX12_readPart 4 = .ok (.iconst (-1), 1) := by decide +kernel
theorem dX12_readPart_5 : decode cX12_readPart 5 = .ok (.istore_n 1, 1) := by decide +kernel
theorem dX12_readPart_6 : decode cX12_readPart 6 = .ok (.aload_n 0, 1) := by decide +kernel
theorem dX12_readPart_7 : decode cX12_readPart 7 = .ok (.getfield 84, 3) := by decide +kernel
theorem dX12_readPart_10 : decode cX12_readPart 10 = .ok (.aload_n 0, 1) := by decide +kernel
theorem dX12_readPart_11 : decode cX12_readPart 11 = .ok (.getfield 94, 3) := by decide +kernel
theorem dX12_readPart_14 : decode cX12_readPart 14 = .ok (.if_icmp .le 17, 3) := by decide +kernel
theorem dX12_readPart_17 : decode cX12_readPart 17 = .ok (.aload_n 0, 1) := by decide +kernel
theorem dX12_readPart_18 : decode cX12_readPart 18 = .ok (.invokevirtual 141, 3) := by decide +kernel
theorem dX12_readPart_21 : decode cX12_readPart 21 = .ok (.istore_n 1, 1) := by decide +kernel
theorem dX12_readPart_22 : decode cX12_readPart 22 = .ok (.aload_n 0, 1) := by decide +kernel
theorem dX12_readPart_23 : decode cX12_readPart 23 = .ok (.iload_n 1, 1) := by decide +kernel
theorem dX12_readPart_24 : decode cX12_readPart 24 = .ok (.iconst 0, 1) := by decide +kernel
theorem dX12_readPart_25 : decode cX12_readPart 25 = .ok (.invokevirtual 144, 3) := by decide +kernel
theorem dX12_readPart_28 : decode cX12_readPart 28 = .ok (.goto 18, 3) := by decide +kernel
theorem dX12_readPart_31 : decode cX12_readPart 31 = .ok (.aload_n 0, 1) := by decide +kernel
theorem dX12_readPart_32 : decode cX12_readPart 32 = .ok (.sipush 9999, 3) := by decide +kernel
theorem dX12_readPart_35 : decode cX12_readPart 35 = .ok (.invokevirtual 148, 3) := by decide +kernel
theorem dX12_readPart_38 : decode cX12_readPart 38 = .ok (.istore_n 1, 1) := by decide +kernel
theorem dX12_readPart_39 : decode cX12_readPart 39 = .ok (.aload_n 0, 1) := by decide +kernel
theorem dX12_readPart_40 : decode cX12_readPart 40 = .ok (.bipush 8, 2) := by decide +kernel
theorem dX12_readPart_42 : decode cX12_readPart 42 = .ok (.iload_n 1, 1) := by decide +kernel
theorem dX12_readPart_43 : decode cX12_readPart 43 = .ok (.invokevirtual 144, 3) := by decide +kernel
theorem dX12_readPart_46 : decode cX12_readPart 46 = .ok (.iload_n 1, 1) := by decide +kernel
theorem dX12_readPart_47 : decode cX12_readPart 47 = .ok (.ifCond .lt 7, 3) := by decide +kernel
theorem dX12_readPart_50 : decode cX12_readPart 50 = .ok (.iconst 1, 1) := by decide +kernel
theorem dX12_readPart_51 : decode cX12_readPart 51 = .ok (.goto 4, 3) := by decide +kernel
theorem dX12_readPart_54 : decode cX12_readPart 54 = .ok (.iconst 0, 1) := by decide +kernel
theorem dX12_readPart_55 : decode cX12_readPart 55 = .ok (.ireturn, 1) := by decide +kernel
theorem dX12_readSum_0 : decode cX12_readSum 0 = .ok (.aload_n 0, 1) := by decide +kernel
theorem dX12_readSum_1 : decode cX12_readSum 1 = .ok (.invokevirtual 151, 3) := by decide +kernel
theorem dX12_readSum_4 : decode cX12_readSum 4 = .ok (.ifCond .ne 5, 3) := by decide +kernel
theorem dX12_readSum_7 : decode cX12_readSum 7 = .ok (.iconst 0, 1) := by decide +kernel
theorem dX12_readSum_8 : decode cX12_readSum 8 = .ok (.ireturn, 1) := by decide +kernel
theorem dX12_readSum_9 : decode cX12_readSum 9 = .ok (.aload_n 0, 1) := by decide +kernel
theorem dX12_readSum_10 : decode cX12_readSum 10 = .ok (.bipush 43, 2) := by decide +kernel
theorem dX12_readSum_12 : decode cX12_readSum 12 = .ok (.invokevirtual 155, 3) := by decide +kernel
theorem dX12_readSum_15 : decode cX12_readSum 15 = .ok (.ifCond .eq 22, 3) := by decide +kernel
theorem dX12_readSum_18 : decode cX12_readSum 18 = .ok (.aload_n 0, 1) := by decide +kernel
theorem dX12_readSum_19 : decode cX12_readSum 19 = .ok (.invokevirtual 151, 3) := by decide +kernel
theorem dX12_readSum_22 : decode cX12_readSum 22 = .ok (.ifCond .ne 5, 3) := by decide +kernel
theorem dX12_readSum_25 : decode cX12_readSum 25 = .ok (.iconst 0, 1) := by decide +kernel
theorem dX12_readSum_26 : decode cX12_readSum 26 = .ok (.ireturn, 1) := by decide +kernel
theorem dX12_readSum_27 : decode cX12_readSum 27 = .ok (.aload_n 0, 1) := by decide +kernel
theorem dX12_readSum_28 : decode cX12_readSum 28 = .ok (.bipush 9, 2) := by decide +kernel
theorem dX12_readSum_30 : decode cX12_readSum 30 = .ok (.iconst 0, 1) := by decide +kernel
theorem dX12_readSum_31 : decode cX12_readSum 31 = .ok (.invokevirtual 144, 3) := by decide +kernel
theorem dX12_readSum_34 : decode cX12_readSum 34 = .ok (.goto (-25), 3) := by decide +kernel
theorem dX12_readSum_37 : decode cX12_readSum 37 = .ok (.iconst 1, 1) := by decide +kernel
theorem dX12_readSum_38 : decode cX12_readSum 38 = .ok (.ireturn, 1) := by decide +kernel
theorem dX12_readAtom_0 : decode cX12_readAtom 0 = .ok (.aload_n 0, 1) := by decide +kernel
theorem dX12_readAtom_1 : decode cX12_readAtom 1 = .ok (.bipush 40, 2) := by decide +kernel
theorem dX12_readAtom_3 : decode cX12_readAtom 3 = .ok (.invokevirtual 155, 3) := by decide +kernel
theorem dX12_readAtom_6 : decode cX12_readAtom 6 = .ok (.ifCond .eq 50, 3) := by decide +kernel
theorem dX12_readAtom_9 : decode cX12_readAtom 9 = .ok (.aload_n 0, 1) := by decide +kernel
theorem dX12_readAtom_10 : decode cX12_readAtom 10 = .ok (.getfield 159, 3) := by decide +kernel
theorem dX12_readAtom_13 : decode cX12_readAtom 13 = .ok (.bipush 6, 2) := by decide +kernel
theorem dX12_readAtom_15 : decode cX12_readAtom 15 = .ok (.if_icmp .ne 5, 3) := by decide +kernel
theorem dX12_readAtom_18 : decode cX12_readAtom 18 = .ok (.iconst 0, 1) := by decide +kernel
theorem dX12_readAtom_19 : decode cX12_readAtom 19 = .ok (.ireturn, 1) := by decide +kernel
theorem dX12_readAtom_20 : decode cX12_readAtom 20 = .ok (.aload_n 0, 1) := by decide +kernel
theorem dX12_readAtom_21 : decode cX12_readAtom 21 = .ok (.dup, 1) := by decide +kernel
theorem dX12_readAtom_22 : decode cX12_readAtom 22 = .ok (.getfield 159, 3) := by decide +kernel
theorem dX12_readAtom_25 : decode cX12_readAtom 25 = .ok (.iconst 1, 1) := by decide +kernel
theorem dX12_readAtom_26 : decode cX12_readAtom 26 = .ok (.iadd, 1) := by decide +kernel
theorem dX12_readAtom_27 : decode cX12_readAtom 27 = .ok (.putfield 159, 3) := by decide +kernel
theorem dX12_readAtom_30 : decode cX12_readAtom 30 = .ok (.aload_n 0, 1) := by decide +kernel
theorem dX12_readAtom_31 : decode cX12_readAtom 31 = .ok (.invokevirtual 162, 3) := by decide +kernel
theorem dX12_readAtom_34 : decode cX12_readAtom 34 = .ok (.ifCond .ne 5, 3) := by decide +kernel
theorem dX12_readAtom_37 : decode cX12_readAtom 37 = .ok (.iconst 0, 1) := by decide +kernel
theorem dX12_readAtom_38 : decode cX12_readAtom 38 = .ok (.ireturn, 1) := by decide +kernel
theorem dX12_readAtom_39 : decode cX12_readAtom 39 = .ok (.aload_n 0, 1) := by decide +kernel
theorem dX12_readAtom_40 : decode cX12_readAtom 40 = .ok (.dup, 1) := by decide +kernel
theorem dX12_readAtom_41 : decode cX12_readAtom 41 = .ok (.getfield 159, 3) := by decide +kernel
theorem dX12_readAtom_44 : decode cX12_readAtom 44 = .ok (.iconst 1, 1) := by decide +kernel
theorem dX12_readAtom_45 : decode cX12_readAtom 45 = .ok (.isub, 1) := by decide +kernel
theorem dX12_readAtom_46 : decode cX12_readAtom 46 = .ok (.putfield 159, 3) := by decide +kernel
theorem dX12_readAtom_49 : decode cX12_readAtom 49 = .ok (.aload_n 0, 1) := by decide +kernel
theorem dX12_readAtom_50 : decode cX12_readAtom 50 = .ok (.bipush 41, 2) := by decide +kernel
theorem dX12_readAtom_52 : decode cX12_readAtom 52 = .ok (.invokevirtual 155, 3) := by decide +kernel
theorem dX12_readAtom_55 : decode cX12_readAtom 55 = .ok (.ireturn, 1) := by decide +kernel
theorem dX12_readAtom_56 : decode cX12_readAtom 56 = .ok (.aload_n 0, 1) := by decide +kernel
theorem dX12_readAtom_57 : decode cX12_readAtom 57 = .ok (.ldc 165, 2) := by decide +kernel
theorem dX12_readAtom_59 : decode cX12_readAtom 59 = .ok (.invokevirtual 167, 3) := by decide +kernel
theorem dX12_readAtom_62 : decode cX12_readAtom 62 = .ok (.ifCond .eq 52, 3) := by decide +kernel
theorem dX12_readAtom_65 : decode cX12_readAtom 65 = .ok (.aload_n 0, 1) := by decide +kernel
theorem dX12_readAtom_66 : decode cX12_readAtom 66 = .ok (.getfield 159, 3) := by decide +kernel
theorem dX12_readAtom_69 : decode cX12_readAtom 69 = .ok (.bipush 6, 2) := by decide +kernel
theorem dX12_readAtom_71 : decode cX12_readAtom 71 = .ok (.if_icmp .ne 5, 3) := by decide +kernel
theorem dX12_readAtom_74 : decode cX12_readAtom 74 = .ok (.iconst 0, 1) := by decide +kernel
theorem dX12_readAtom_75 : decode cX12_readAtom 75 = .ok (.ireturn, 1) := by decide +kernel
theorem dX12_readAtom_76 : decode cX12_readAtom 76 = .ok (.aload_n 0, 1) := by decide +kernel
theorem dX12_readAtom_77 : decode cX12_readAtom 77 = .ok (.dup, 1) := by decide +kernel
theorem dX12_readAtom_78 : decode cX12_readAtom 78 = .ok (.getfield 159, 3) := by decide +kernel
theorem dX12_readAtom_81 : decode cX12_readAtom 81 = .ok (.iconst 1, 1) := by decide +kernel
theorem dX12_readAtom_82 : decode cX12_readAtom 82 = .ok (.iadd, 1) := by decide +kernel
theorem dX12_readAtom_83 : decode cX12_readAtom 83 = .ok (.putfield 159, 3) := by decide +kernel
theorem dX12_readAtom_86 : decode cX12_readAtom 86 = .ok (.aload_n 0, 1) := by decide +kernel
theorem dX12_readAtom_87 : decode cX12_readAtom 87 = .ok (.invokevirtual 170, 3) := by decide +kernel
theorem dX12_readAtom_90 : decode cX12_readAtom 90 = .ok (.ifCond .ne 5, 3) := by decide +kernel
theorem dX12_readAtom_93 : decode cX12_readAtom 93 = .ok (.iconst 0, 1) := by decide +kernel
theorem dX12_readAtom_94 : decode cX12_readAtom 94 = .ok (.ireturn, 1) := by decide +kernel
theorem dX12_readAtom_95 : decode cX12_readAtom 95 = .ok (.aload_n 0, 1) := by decide +kernel
theorem dX12_readAtom_96 : decode cX12_readAtom 96 = .ok (.dup, 1) := by decide +kernel
theorem dX12_readAtom_97 : decode cX12_readAtom 97 = .ok (.getfield 159, 3) := by decide +kernel
theorem dX12_readAtom_100 : decode cX12_readAtom 100 = .ok (.iconst 1, 1) := by decide +kernel
theorem dX12_readAtom_101 : decode cX12_readAtom 101 = .ok (.isub, 1) := by decide +kernel
theorem dX12_readAtom_102 : decode cX12_readAtom 102 = .ok (.putfield 159, 3) := by decide +kernel
theorem dX12_readAtom_105 : decode cX12_readAtom 105 = .ok (.aload_n 0, 1) := by decide +kernel
theorem dX12_readAtom_106 : decode cX12_readAtom 106 = .ok (.bipush 12, 2) := by decide +kernel
theorem dX12_readAtom_108 : decode cX12_readAtom 108 = .ok (.iconst 0, 1) := by decide +kernel
theorem dX12_readAtom_109 : decode cX12_readAtom 109 = .ok (.invokevirtual 144, 3) := by decide +kernel
theorem dX12_readAtom_112 : decode cX12_readAtom 112 = .ok (.iconst 1, 1) := by decide +kernel
theorem dX12_readAtom_113 : decode cX12_readAtom 113 = .ok (.ireturn, 1) := by decide +kernel
theorem dX12_readAtom_114 : decode cX12_readAtom 114 = .ok (.aload_n 0, 1) := by decide +kernel
theorem dX12_readAtom_115 : decode cX12_readAtom 115 = .ok (.getfield 130, 3) := by decide +kernel
theorem dX12_readAtom_118 : decode cX12_readAtom 118 = .ok (.iconst 2, 1) := by decide +kernel
theorem dX12_readAtom_119 : decode cX12_readAtom 119 = .ok (.if_icmp .ne 21, 3) := by decide +kernel
theorem dX12_readAtom_122 : decode cX12_readAtom 122 = .ok (.aload_n 0, 1) := by decide +kernel
theorem dX12_readAtom_123 : decode cX12_readAtom 123 = .ok (.ldc 173, 2) := by decide +kernel
theorem dX12_readAtom_125 : decode cX12_readAtom 125 = .ok (.invokevirtual 167, 3) := by decide +kernel
theorem dX12_readAtom_128 : decode cX12_readAtom 128 = .ok (.ifCond .eq 12, 3) := by decide +kernel
theorem dX12_readAtom_131 : decode cX12_readAtom 131 = .ok (.aload_n 0, 1) := by decide +kernel
theorem dX12_readAtom_132 : decode cX12_readAtom 132 = .ok (.bipush 7, 2) := by decide +kernel
theorem dX12_readAtom_134 : decode cX12_readAtom 134 = .ok (.iconst 0, 1) := by decide +kernel
theorem dX12_readAtom_135 : decode cX12_readAtom 135 = .ok (.invokevirtual 144, 3) := by decide +kernel
theorem dX12_readAtom_138 : decode cX12_readAtom 138 = .ok (.iconst 1, 1) := by decide +kernel
theorem dX12_readAtom_139 : decode cX12_readAtom 139 = .ok (.ireturn, 1) := by decide +kernel
theorem dX12_readAtom_140 : decode cX12_readAtom 140 = .ok (.aload_n 0, 1) := by decide +kernel
theorem dX12_readAtom_141 : decode cX12_readAtom 141 = .ok (.invokevirtual 175, 3) := by decide +kernel
theorem dX12_readAtom_144 : decode cX12_readAtom 144 = .ok (.ifCond .ne 5, 3) := by decide +kernel
theorem dX12_readAtom_147 : decode cX12_readAtom 147 = .ok (.iconst 0, 1) := by decide +kernel
theorem dX12_readAtom_148 : decode cX12_readAtom 148 = .ok (.ireturn, 1) := by decide +kernel
theorem dX12_readAtom_149 : decode cX12_readAtom 149 = .ok (.aload_n 0, 1) := by decide +kernel
theorem dX12_readAtom_150 : decode cX12_readAtom 150 = .ok (.bipush 60, 2) := by decide +kernel
theorem dX12_readAtom_152 : decode cX12_readAtom 152 = .ok (.invokevirtual 155, 3) := by decide +kernel
theorem dX12_readAtom_155 : decode cX12_readAtom 155 = .ok (.istore_n 1, 1) := by decide +kernel
theorem dX12_readAtom_156 : decode cX12_readAtom 156 = .ok (.iload_n 1, 1) := by decide +kernel
theorem dX12_readAtom_157 : decode cX12_readAtom 157 = .ok (.ifCond .ne 12, 3) := by decide +kernel
theorem dX12_readAtom_160 : decode cX12_readAtom 160 = .ok (.aload_n 0, 1) := by decide +kernel
theorem dX12_readAtom_161 : decode cX12_readAtom 161 = .ok (.bipush 62, 2) := by decide +kernel
theorem dX12_readAtom_163 : decode cX12_readAtom 163 = .ok (.invokevirtual 155, 3) := by decide +kernel
theorem dX12_readAtom_166 : decode cX12_readAtom 166 = .ok (.ifCond .eq 10, 3) := by decide +kernel
theorem dX12_readAtom_169 : decode cX12_readAtom 169 = .ok (.aload_n 0, 1) := by decide +kernel
theorem dX12_readAtom_170 : decode cX12_readAtom 170 = .ok (.invokevirtual 175, 3) := by decide +kernel
theorem dX12_readAtom_173 : decode cX12_readAtom 173 = .ok (.ifCond .ne 5, 3) := by decide +kernel
theorem dX12_readAtom_176 : decode cX12_readAtom 176 = .ok (.iconst 0, 1) := by decide +kernel
theorem dX12_readAtom_177 : decode cX12_readAtom 177 = .ok (.ireturn, 1) := by decide +kernel
theorem dX12_readAtom_178 : decode cX12_readAtom 178 = .ok (.aload_n 0, 1) := by decide +kernel
theorem dX12_readAtom_179 : decode cX12_readAtom 179 = .ok (.iload_n 1, 1) := by decide +kernel
theorem dX12_readAtom_180 : decode cX12_readAtom 180 = .ok (.ifCond .eq 8, 3) := by decide +kernel
theorem dX12_readAtom_183 : decode cX12_readAtom 183 = .ok (.bipush 10, 2) := by decide +kernel
theorem dX12_readAtom_185 : decode cX12_readAtom 185 = .ok (.goto 5, 3) := by decide +kernel
theorem dX12_readAtom_188 : decode cX12_readAtom 188 = .ok (.bipush 11, 2) := by decide +kernel
theorem dX12_readAtom_190 : decode cX12_readAtom 190 = .ok (.iconst 0, 1) := by decide +kernel
theorem dX12_readAtom_191 : decode cX12_readAtom 191 = .ok (.invokevirtual 144, 3) := by decide +kernel
theorem dX12_readAtom_194 : decode cX12_readAtom 194 = .ok (.iconst 1, 1) := by decide +kernel
theorem dX12_readAtom_195 : decode cX12_readAtom 195 = .ok (.ireturn, 1) := by decide +kernel
theorem dX12_readAllOf_0 : decode cX12_readAllOf 0 = .ok (.aload_n 0, 1) := by decide +kernel
theorem dX12_readAllOf_1 : decode cX12_readAllOf 1 = .ok (.invokevirtual 170, 3) := by decide +kernel
theorem dX12_readAllOf_4 : decode cX12_readAllOf 4 = .ok (.ifCond .ne 5, 3) := by decide +kernel
theorem dX12_readAllOf_7 : decode cX12_readAllOf 7 = .ok (.iconst 0, 1) := by decide +kernel
theorem dX12_readAllOf_8 : decode cX12_readAllOf 8 = .ok (.ireturn, 1) := by decide +kernel
theorem dX12_readAllOf_9 : decode cX12_readAllOf 9 = .ok (.aload_n 0, 1) := by decide +kernel
theorem dX12_readAllOf_10 : decode cX12_readAllOf 10 = .ok (.ldc 178, 2) := by decide +kernel
theorem dX12_readAllOf_12 : decode cX12_readAllOf 12 = .ok (.invokevirtual 167, 3) := by decide +kernel
theorem dX12_readAllOf_15 : decode cX12_readAllOf 15 = .ok (.ifCond .eq 22, 3) := by decide +kernel
theorem dX12_readAllOf_18 : decode cX12_readAllOf 18 = .ok (.aload_n 0, 1) := by decide +kernel
theorem dX12_readAllOf_19 : decode cX12_readAllOf 19 = .ok (.invokevirtual 170, 3) := by decide +kernel
theorem dX12_readAllOf_22 : decode cX12_readAllOf 22 = .ok (.ifCond .ne 5, 3) := by decide +kernel
theorem dX12_readAllOf_25 : decode cX12_readAllOf 25 = .ok (.iconst 0, 1) := by decide +kernel
theorem dX12_readAllOf_26 : decode cX12_readAllOf 26 = .ok (.ireturn, 1) := by decide +kernel
theorem dX12_readAllOf_27 : decode cX12_readAllOf 27 = .ok (.aload_n 0, 1) := by decide +kernel
theorem dX12_readAllOf_28 : decode cX12_readAllOf 28 = .ok (.bipush 13, 2) := by decide +kernel
theorem dX12_readAllOf_30 : decode cX12_readAllOf 30 = .ok (.iconst 0, 1) := by decide +kernel
theorem dX12_readAllOf_31 : decode cX12_readAllOf 31 = .ok (.invokevirtual 144, 3) := by decide +kernel
theorem dX12_readAllOf_34 : decode cX12_readAllOf 34 = .ok (.goto (-25), 3) := by decide +kernel
theorem dX12_readAllOf_37 : decode cX12_readAllOf 37 = .ok (.iconst 1, 1) := by decide +kernel
theorem dX12_readAllOf_38 : decode cX12_readAllOf 38 = .ok (.ireturn, 1) := by decide +kernel
theorem dX12_readCond_0 : decode cX12_readCond 0 = .ok (.aload_n 0, 1) := by decide +kernel
theorem dX12_readCond_1 : decode cX12_readCond 1 = .ok (.invokevirtual 180, 3) := by decide +kernel
theorem dX12_readCond_4 : decode cX12_readCond 4 = .ok (.ifCond .ne 5, 3) := by decide +kernel
theorem dX12_readCond_7 : decode cX12_readCond 7 = .ok (.iconst 0, 1) := by decide +kernel
theorem dX12_readCond_8 : decode cX12_readCond 8 = .ok (.ireturn, 1) := by decide +kernel
theorem dX12_readCond_9 : decode cX12_readCond 9 = .ok (.aload_n 0, 1) := by decide +kernel
theorem dX12_readCond_10 : decode cX12_readCond 10 = .ok (.ldc 183, 2) := by decide +kernel
theorem dX12_readCond_12 : decode cX12_readCond 12 = .ok (.invokevirtual 167, 3) := by decide +kernel
theorem dX12_readCond_15 : decode cX12_readCond 15 = .ok (.ifCond .eq 22, 3) := by decide +kernel
theorem dX12_readCond_18 : decode cX12_readCond 18 = .ok (.aload_n 0, 1) := by decide +kernel
theorem dX12_readCond_19 : decode cX12_readCond 19 = .ok (.invokevirtual 180, 3) := by decide +kernel
theorem dX12_readCond_22 : decode cX12_readCond 22 = .ok (.ifCond .ne 5, 3) := by decide +kernel
theorem dX12_readCond_25 : decode cX12_readCond 25 = .ok (.iconst 0, 1) := by decide +kernel
theorem dX12_readCond_26 : decode cX12_readCond 26 = .ok (.ireturn, 1) := by decide +kernel
theorem dX12_readCond_27 : decode cX12_readCond 27 = .ok (.aload_n 0, 1) := by decide +kernel
theorem dX12_readCond_28 : decode cX12_readCond 28 = .ok (.bipush 14, 2) := by decide +kernel
theorem dX12_readCond_30 : decode cX12_readCond 30 = .ok (.iconst 0, 1) := by decide +kernel
theorem dX12_readCond_31 : decode cX12_readCond 31 = .ok (.invokevirtual 144, 3) := by decide +kernel
theorem dX12_readCond_34 : decode cX12_readCond 34 = .ok (.goto (-25), 3) := by decide +kernel
theorem dX12_readCond_37 : decode cX12_readCond 37 = .ok (.iconst 1, 1) := by decide +kernel
theorem dX12_readCond_38 : decode cX12_readCond 38 = .ok (.ireturn, 1) := by decide +kernel
theorem dX12_keepsAt_0 : decode cX12_keepsAt 0 = .ok (.aload_n 0, 1) := by decide +kernel
theorem dX12_keepsAt_1 : decode cX12_keepsAt 1 = .ok (.getfield 13, 3) := by decide +kernel
theorem dX12_keepsAt_4 : decode cX12_keepsAt 4 = .ok (.iload_n 1, 1) := by decide +kernel
theorem dX12_keepsAt_5 : decode cX12_keepsAt 5 = .ok (.iload_n 2, 1) := by decide +kernel
theorem dX12_keepsAt_6 : decode cX12_keepsAt 6 = .ok (.iastore, 1) := by decide +kernel
theorem dX12_keepsAt_7 : decode cX12_keepsAt 7 = .ok (.iload_n 2, 1) := by decide +kernel
theorem dX12_keepsAt_8 : decode cX12_keepsAt 8 = .ok (.ifCond .lt 7, 3) := by decide +kernel
theorem dX12_keepsAt_11 : decode cX12_keepsAt 11 = .ok (.iconst 1, 1) := by decide +kernel
theorem dX12_keepsAt_12 : decode cX12_keepsAt 12 = .ok (.goto 4, 3) := by decide +kernel
theorem dX12_keepsAt_15 : decode cX12_keepsAt 15 = .ok (.iconst 0, 1) := by decide +kernel
theorem dX12_keepsAt_16 : decode cX12_keepsAt 16 = .ok (.ireturn, 1) := by decide +kernel
theorem dX12_readState_0 : decode cX12_readState 0 = .ok (.aload_n 0, 1) := by decide +kernel
theorem dX12_readState_1 : decode cX12_readState 1 = .ok (.bipush 7, 2) := by decide +kernel
theorem dX12_readState_3 : decode cX12_readState 3 = .ok (.invokevirtual 148, 3) := by decide +kernel
theorem dX12_readState_6 : decode cX12_readState 6 = .ok (.istore_n 1, 1) := by decide +kernel
theorem dX12_readState_7 : decode cX12_readState 7 = .ok (.iload_n 1, 1) := by decide +kernel
theorem dX12_readState_8 : decode cX12_readState 8 = .ok (.ifCond .ge 7, 3) := by decide +kernel
theorem dX12_readState_11 : decode cX12_readState 11 = .ok (.iconst (-1), 1) := by decide +kernel
theorem dX12_readState_12 : decode cX12_readState 12 = .ok (.goto 8, 3) := by decide +kernel
theorem dX12_readState_15 : decode cX12_readState 15 = .ok (.aload_n 0, 1) := by decide +kernel
theorem dX12_readState_16 : decode cX12_readState 16 = .ok (.iconst 3, 1) := by decide +kernel
theorem dX12_readState_17 : decode cX12_readState 17 = .ok (.invokevirtual 148, 3) := by decide +kernel
theorem dX12_readState_20 : decode cX12_readState 20 = .ok (.istore_n 2, 1) := by decide +kernel
theorem dX12_readState_21 : decode cX12_readState 21 = .ok (.iload_n 2, 1) := by decide +kernel
theorem dX12_readState_22 : decode cX12_readState 22 = .ok (.ifCond .ge 7, 3) := by decide +kernel
theorem dX12_readState_25 : decode cX12_readState 25 = .ok (.iconst (-1), 1) := by decide +kernel
theorem dX12_readState_26 : decode cX12_readState 26 = .ok (.goto 8, 3) := by decide +kernel
theorem dX12_readState_29 : decode cX12_readState 29 = .ok (.iconst 4, 1) := by decide +kernel
theorem dX12_readState_30 : decode cX12_readState 30 = .ok (.iload_n 1, 1) := by decide +kernel
theorem dX12_readState_31 : decode cX12_readState 31 = .ok (.imul, 1) := by decide +kernel
theorem dX12_readState_32 : decode cX12_readState 32 = .ok (.iload_n 2, 1) := by decide +kernel
theorem dX12_readState_33 : decode cX12_readState 33 = .ok (.iadd, 1) := by decide +kernel
theorem dX12_readState_34 : decode cX12_readState 34 = .ok (.ireturn, 1) := by decide +kernel
theorem dX12_readGameLine_0 : decode cX12_readGameLine 0 = .ok (.aload_n 0, 1) := by decide +kernel
theorem dX12_readGameLine_1 : decode cX12_readGameLine 1 = .ok (.ldc 185, 2) := by decide +kernel
theorem dX12_readGameLine_3 : decode cX12_readGameLine 3 = .ok (.invokevirtual 113, 3) := by decide +kernel
theorem dX12_readGameLine_6 : decode cX12_readGameLine 6 = .ok (.ifCond .eq 36, 3) := by decide +kernel
theorem dX12_readGameLine_9 : decode cX12_readGameLine 9 = .ok (.aload_n 0, 1) := by decide +kernel
theorem dX12_readGameLine_10 : decode cX12_readGameLine 10 = .ok (.bipush 10, 2) := by decide +kernel
theorem dX12_readGameLine_12 : decode cX12_readGameLine 12 = .ok (.invokevirtual 148, 3) := by decide +kernel
theorem dX12_readGameLine_15 : decode cX12_readGameLine 15 = .ok (.istore_n 1, 1) := by decide +kernel
theorem dX12_readGameLine_16 : decode cX12_readGameLine 16 = .ok (.aload_n 0, 1) := by decide +kernel
theorem dX12_readGameLine_17 : decode cX12_readGameLine 17 = .ok (.iload_n 1, 1) := by decide +kernel
theorem dX12_readGameLine_18 : decode cX12_readGameLine 18 = .ok (.ifCond .ge 10, 3) := by decide +kernel
theorem dX12_readGameLine_21 : decode cX12_readGameLine 21 = .ok (.aload_n 0, 1) := by decide +kernel
theorem dX12_readGameLine_22 : decode cX12_readGameLine 22 = .ok (.getfield 187, 3) := by decide +kernel
theorem dX12_readGameLine_25 : decode cX12_readGameLine 25 = .ok (.goto 4, 3) := by decide +kernel
theorem dX12_readGameLine_28 : decode cX12_readGameLine 28 = .ok (.iload_n 1, 1) := by decide +kernel
theorem dX12_readGameLine_29 : decode cX12_readGameLine 29 = .ok (.putfield 187, 3) := by decide +kernel
theorem dX12_readGameLine_32 : decode cX12_readGameLine 32 = .ok (.iload_n 1, 1) := by decide +kernel
theorem dX12_readGameLine_33 : decode cX12_readGameLine 33 = .ok (.ifCond .lt 7, 3) := by decide +kernel
theorem dX12_readGameLine_36 : decode cX12_readGameLine 36 = .ok (.iconst 1, 1) := by decide +kernel
theorem dX12_readGameLine_37 : decode cX12_readGameLine 37 = .ok (.goto 4, 3) := by decide +kernel
theorem dX12_readGameLine_40 : decode cX12_readGameLine 40 = .ok (.iconst 0, 1) := by decide +kernel
theorem dX12_readGameLine_41 : decode cX12_readGameLine 41 = .ok (.ireturn, 1) := by decide +kernel
theorem dX12_readGameLine_42 : decode cX12_readGameLine 42 = .ok (.aload_n 0, 1) := by decide +kernel
theorem dX12_readGameLine_43 : decode cX12_readGameLine 43 = .ok (.ldc 139, 2) := by decide +kernel
theorem dX12_readGameLine_45 : decode cX12_readGameLine 45 = .ok (.invokevirtual 113, 3) := by decide +kernel
theorem dX12_readGameLine_48 : decode cX12_readGameLine 48 = .ok (.ifCond .eq 47, 3) := by decide +kernel
theorem dX12_readGameLine_51 : decode cX12_readGameLine 51 = .ok (.aload_n 0, 1) := by decide +kernel
theorem dX12_readGameLine_52 : decode cX12_readGameLine 52 = .ok (.bipush 7, 2) := by decide +kernel
theorem dX12_readGameLine_54 : decode cX12_readGameLine 54 = .ok (.invokevirtual 148, 3) := by decide +kernel
theorem dX12_readGameLine_57 : decode cX12_readGameLine 57 = .ok (.istore_n 1, 1) := by decide +kernel
theorem dX12_readGameLine_58 : decode cX12_readGameLine 58 = .ok (.iload_n 1, 1) := by decide +kernel
theorem dX12_readGameLine_59 : decode cX12_readGameLine 59 = .ok (.ifCond .ge 7, 3) := by decide +kernel
theorem dX12_readGameLine_62 : decode cX12_readGameLine 62 = .ok (.iconst (-1), 1) := by decide +kernel
theorem dX12_readGameLine_63 : decode cX12_readGameLine 63 = .ok (.goto 10, 3) := by decide +kernel
theorem dX12_readGameLine_66 : decode cX12_readGameLine 66 = .ok (.aload_n 0, 1) := by decide +kernel
theorem dX12_readGameLine_67 : decode cX12_readGameLine 67 = .ok (.sipush 9999, 3) := by decide +kernel
theorem dX12_readGameLine_70 : decode cX12_readGameLine 70 = .ok (.invokevirtual 148, 3) := by decide +kernel
theorem dX12_readGameLine_73 : decode cX12_readGameLine 73 = .ok (.istore_n 2, 1) := by decide +kernel
theorem dX12_readGameLine_74 : decode cX12_readGameLine 74 = .ok (.iload_n 2, 1) := by decide +kernel
theorem dX12_readGameLine_75 : decode cX12_readGameLine 75 = .ok (.ifCond .lt 10, 3) := by decide +kernel
theorem dX12_readGameLine_78 : decode cX12_readGameLine 78 = .ok (.aload_n 0, 1) := by decide +kernel
theorem dX12_readGameLine_79 : decode cX12_readGameLine 79 = .ok (.getfield 33, 3) := by decide +kernel
theorem dX12_readGameLine_82 : decode cX12_readGameLine 82 = .ok (.iload_n 1, 1) := by decide +kernel
theorem dX12_readGameLine_83 : decode cX12_readGameLine 83 = .ok (.iload_n 2, 1) := by decide +kernel
theorem dX12_readGameLine_84 : decode cX12_readGameLine 84 = .ok (.iastore, 1) := by decide +kernel
theorem dX12_readGameLine_85 : decode cX12_readGameLine 85 = .ok (.iload_n 2, 1) := by decide +kernel
theorem dX12_readGameLine_86 : decode cX12_readGameLine 86 = .ok (.ifCond .lt 7, 3) := by decide +kernel
theorem dX12_readGameLine_89 : decode cX12_readGameLine 89 = .ok (.iconst 1, 1) := by decide +kernel
theorem dX12_readGameLine_90 : decode cX12_readGameLine 90 = .ok (.goto 4, 3) := by decide +kernel
theorem dX12_readGameLine_93 : decode cX12_readGameLine 93 = .ok (.iconst 0, 1) := by decide +kernel
theorem dX12_readGameLine_94 : decode cX12_readGameLine 94 = .ok (.ireturn, 1) := by decide +kernel
theorem dX12_readGameLine_95 : decode cX12_readGameLine 95 = .ok (.aload_n 0, 1) := by decide +kernel
theorem dX12_readGameLine_96 : decode cX12_readGameLine 96 = .ok (.ldc 189, 2) := by decide +kernel
theorem dX12_readGameLine_98 : decode cX12_readGameLine 98 = .ok (.invokevirtual 113, 3) := by decide +kernel
theorem dX12_readGameLine_101 : decode cX12_readGameLine 101 = .ok (.ifCond .ne 5, 3) := by decide +kernel
theorem dX12_readGameLine_104 : decode cX12_readGameLine 104 = .ok (.iconst 0, 1) := by decide +kernel
theorem dX12_readGameLine_105 : decode cX12_readGameLine 105 = .ok (.ireturn, 1) := by decide +kernel
theorem dX12_readGameLine_106 : decode cX12_readGameLine 106 = .ok (.aload_n 0, 1) := by decide +kernel
theorem dX12_readGameLine_107 : decode cX12_readGameLine 107 = .ok (.invokevirtual 191, 3) := by decide +kernel
theorem dX12_readGameLine_110 : decode cX12_readGameLine 110 = .ok (.istore_n 1, 1) := by decide +kernel
theorem dX12_readGameLine_111 : decode cX12_readGameLine 111 = .ok (.iload_n 1, 1) := by decide +kernel
theorem dX12_readGameLine_112 : decode cX12_readGameLine 112 = .ok (.ifCond .ge 5, 3) := by decide +kernel
theorem dX12_readGameLine_115 : decode cX12_readGameLine 115 = .ok (.iconst 0, 1) := by decide +kernel
theorem dX12_readGameLine_116 : decode cX12_readGameLine 116 = .ok (.ireturn, 1) := by decide +kernel
theorem dX12_readGameLine_117 : decode cX12_readGameLine 117 = .ok (.aload_n 0, 1) := by decide +kernel
theorem dX12_readGameLine_118 : decode cX12_readGameLine 118 = .ok (.invokevirtual 110, 3) := by decide +kernel
theorem dX12_readGameLine_121 : decode cX12_readGameLine 121 = .ok (.aload_n 0, 1) := by decide +kernel
theorem dX12_readGameLine_122 : decode cX12_readGameLine 122 = .ok (.ldc 194, 2) := by decide +kernel
theorem dX12_readGameLine_124 : decode cX12_readGameLine 124 = .ok (.invokevirtual 113, 3) := by decide +kernel
theorem dX12_readGameLine_127 : decode cX12_readGameLine 127 = .ok (.ifCond .eq 8, 3) := by decide +kernel
theorem dX12_readGameLine_130 : decode cX12_readGameLine 130 = .ok (.bipush 34, 2) := by decide +kernel
theorem dX12_readGameLine_132 : decode cX12_readGameLine 132 = .ok (.goto 32, 3) := by decide +kernel
theorem dX12_readGameLine_135 : decode cX12_readGameLine 135 = .ok (.aload_n 0, 1) := by decide +kernel
theorem dX12_readGameLine_136 : decode cX12_readGameLine 136 = .ok (.ldc 196, 2) := by decide +kernel
theorem dX12_readGameLine_138 : decode cX12_readGameLine 138 = .ok (.invokevirtual 113, 3) := by decide +kernel
theorem dX12_readGameLine_141 : decode cX12_readGameLine 141 = .ok (.ifCond .eq 8, 3) := by decide +kernel
theorem dX12_readGameLine_144 : decode cX12_readGameLine 144 = .ok (.bipush 32, 2) := by decide +kernel
theorem dX12_readGameLine_146 : decode cX12_readGameLine 146 = .ok (.goto 18, 3) := by decide +kernel
theorem dX12_readGameLine_149 : decode cX12_readGameLine 149 = .ok (.aload_n 0, 1) := by decide +kernel
theorem dX12_readGameLine_150 : decode cX12_readGameLine 150 = .ok (.ldc 198, 2) := by decide +kernel
theorem dX12_readGameLine_152 : decode cX12_readGameLine 152 = .ok (.invokevirtual 113, 3) := by decide +kernel
theorem dX12_readGameLine_155 : decode cX12_readGameLine 155 = .ok (.ifCond .eq 8, 3) := by decide +kernel
theorem dX12_readGameLine_158 : decode cX12_readGameLine 158 = .ok (.bipush 33, 2) := by decide +kernel
theorem dX12_readGameLine_160 : decode cX12_readGameLine 160 = .ok (.goto 4, 3) := by decide +kernel
theorem dX12_readGameLine_163 : decode cX12_readGameLine 163 = .ok (.iconst (-1), 1) := by decide +kernel
theorem dX12_readGameLine_164 : decode cX12_readGameLine 164 = .ok (.istore_n 2, 1) := by decide +kernel
theorem dX12_readGameLine_165 : decode cX12_readGameLine 165 = .ok (.iload_n 2, 1) := by decide +kernel
theorem dX12_readGameLine_166 : decode cX12_readGameLine 166 = .ok (.bipush 34, 2) := by decide +kernel
theorem dX12_readGameLine_168 : decode cX12_readGameLine 168 = .ok (.if_icmp .ne 8, 3) := by decide +kernel
theorem dX12_readGameLine_171 : decode cX12_readGameLine 171 = .ok (.aload_n 0, 1) := by decide +kernel
theorem dX12_readGameLine_172 : decode cX12_readGameLine 172 = .ok (.invokevirtual 191, 3) := by decide +kernel
theorem dX12_readGameLine_175 : decode cX12_readGameLine 175 = .ok (.istore_n 2, 1) := by decide +kernel
theorem dX12_readGameLine_176 : decode cX12_readGameLine 176 = .ok (.iload_n 2, 1) := by decide +kernel
theorem dX12_readGameLine_177 : decode cX12_readGameLine 177 = .ok (.ifCond .ge 7, 3) := by decide +kernel
theorem dX12_readGameLine_180 : decode cX12_readGameLine 180 = .ok (.iconst (-1), 1) := by decide +kernel
theorem dX12_readGameLine_181 : decode cX12_readGameLine 181 = .ok (.goto 9, 3) := by decide +kernel
theorem dX12_readGameLine_184 : decode cX12_readGameLine 184 = .ok (.aload_n 0, 1) := by decide +kernel
theorem dX12_readGameLine_185 : decode cX12_readGameLine 185 = .ok (.bipush 100, 2) := by decide +kernel
theorem dX12_readGameLine_187 : decode cX12_readGameLine 187 = .ok (.invokevirtual 148, 3) := by decide +kernel
theorem dX12_readGameLine_190 : decode cX12_readGameLine 190 = .ok (.istore_n 3, 1) := by decide +kernel
theorem dX12_readGameLine_191 : decode cX12_readGameLine 191 = .ok (.iload_n 3, 1) := by decide +kernel
theorem dX12_readGameLine_192 : decode cX12_readGameLine 192 = .ok (.ifCond .lt 15, 3) := by decide +kernel
theorem dX12_readGameLine_195 : decode cX12_readGameLine 195 = .ok (.aload_n 0, 1) := by decide +kernel
theorem dX12_readGameLine_196 : decode cX12_readGameLine 196 = .ok (.getfield 30, 3) := by decide +kernel
theorem dX12_readGameLine_199 : decode cX12_readGameLine 199 = .ok (.bipush 34, 2) := by decide +kernel
theorem dX12_readGameLine_201 : decode cX12_readGameLine 201 = .ok (.iload_n 1, 1) := by decide +kernel
theorem dX12_readGameLine_202 : decode cX12_readGameLine 202 = .ok (.imul, 1) := by decide +kernel
theorem dX12_readGameLine_203 : decode cX12_readGameLine 203 = .ok (.iload_n 2, 1) := by decide +kernel
theorem dX12_readGameLine_204 : decode cX12_readGameLine 204 = .ok (.iadd, 1) := by decide +kernel
theorem dX12_readGameLine_205 : decode cX12_readGameLine 205 = .ok (.iload_n 3, 1) := by decide +kernel
theorem dX12_readGameLine_206 : decode cX12_readGameLine 206 = .ok (.iastore, 1) := by decide +kernel
theorem dX12_readGameLine_207 : decode cX12_readGameLine 207 = .ok (.iload_n 3, 1) := by decide +kernel
theorem dX12_readGameLine_208 : decode cX12_readGameLine 208 = .ok (.ifCond .lt 7, 3) := by decide +kernel
theorem dX12_readGameLine_211 : decode cX12_readGameLine 211 = .ok (.iconst 1, 1) := by decide +kernel
theorem dX12_readGameLine_212 : decode cX12_readGameLine 212 = .ok (.goto 4, 3) := by decide +kernel
theorem dX12_readGameLine_215 : decode cX12_readGameLine 215 = .ok (.iconst 0, 1) := by decide +kernel
theorem dX12_readGameLine_216 : decode cX12_readGameLine 216 = .ok (.ireturn, 1) := by decide +kernel
theorem dX12_readGoalsLine_0 : decode cX12_readGoalsLine 0 = .ok (.aload_n 0, 1) := by decide +kernel
theorem dX12_readGoalsLine_1 : decode cX12_readGoalsLine 1 = .ok (.iload_n 1, 1) := by decide +kernel
theorem dX12_readGoalsLine_2 : decode cX12_readGoalsLine 2 = .ok (.aload_n 0, 1) := by decide +kernel
theorem dX12_readGoalsLine_3 : decode cX12_readGoalsLine 3 = .ok (.ldc 200, 2) := by decide +kernel
theorem dX12_readGoalsLine_5 : decode cX12_readGoalsLine 5 = .ok (.invokevirtual 113, 3) := by decide +kernel
theorem dX12_readGoalsLine_8 : decode cX12_readGoalsLine 8 = .ok (.ifCond .eq 7, 3) := by decide +kernel
theorem dX12_readGoalsLine_11 : decode cX12_readGoalsLine 11 = .ok (.iconst 0, 1) := by decide +kernel
theorem dX12_readGoalsLine_12 : decode cX12_readGoalsLine 12 = .ok (.goto 17, 3) := by decide +kernel
theorem dX12_readGoalsLine_15 : decode cX12_readGoalsLine 15 = .ok (.aload_n 0, 1) := by decide +kernel
theorem dX12_readGoalsLine_16 : decode cX12_readGoalsLine 16 = .ok (.ldc 202, 2) := by decide +kernel
theorem dX12_readGoalsLine_18 : decode cX12_readGoalsLine 18 = .ok (.invokevirtual 113, 3) := by decide +kernel
theorem dX12_readGoalsLine_21 : decode cX12_readGoalsLine 21 = .ok (.ifCond .eq 7, 3) := by decide +kernel
theorem dX12_readGoalsLine_24 : decode cX12_readGoalsLine 24 = .ok (.iconst 1, 1) := by decide +kernel
theorem dX12_readGoalsLine_25 : decode cX12_readGoalsLine 25 = .ok (.goto 4, 3) := by decide +kernel
theorem dX12_readGoalsLine_28 : decode cX12_readGoalsLine 28 = .ok (.iconst (-1), 1) := by decide +kernel
theorem dX12_readGoalsLine_29 : decode cX12_readGoalsLine 29 = .ok (.invokevirtual 204, 3) := by decide +kernel
theorem dX12_readGoalsLine_32 : decode cX12_readGoalsLine 32 = .ok (.ifCond .eq 20, 3) := by decide +kernel
theorem dX12_readGoalsLine_35 : decode cX12_readGoalsLine 35 = .ok (.aload_n 0, 1) := by decide +kernel
theorem dX12_readGoalsLine_36 : decode cX12_readGoalsLine 36 = .ok (.iload_n 1, 1) := by decide +kernel
theorem dX12_readGoalsLine_37 : decode cX12_readGoalsLine 37 = .ok (.iconst 1, 1) := by decide +kernel
theorem dX12_readGoalsLine_38 : decode cX12_readGoalsLine 38 = .ok (.iadd, 1) := by decide +kernel
theorem dX12_readGoalsLine_39 : decode cX12_readGoalsLine 39 = .ok (.aload_n 0, 1) := by decide +kernel
theorem dX12_readGoalsLine_40 : decode cX12_readGoalsLine 40 = .ok (.sipush 9999, 3) := by decide +kernel
theorem dX12_readGoalsLine_43 : decode cX12_readGoalsLine 43 = .ok (.invokevirtual 148, 3) := by decide +kernel
theorem dX12_readGoalsLine_46 : decode cX12_readGoalsLine 46 = .ok (.invokevirtual 204, 3) := by decide +kernel
theorem dX12_readGoalsLine_49 : decode cX12_readGoalsLine 49 = .ok (.ifCond .ne 5, 3) := by decide +kernel
theorem dX12_readGoalsLine_52 : decode cX12_readGoalsLine 52 = .ok (.iconst 0, 1) := by decide +kernel
theorem dX12_readGoalsLine_53 : decode cX12_readGoalsLine 53 = .ok (.ireturn, 1) := by decide +kernel
theorem dX12_readGoalsLine_54 : decode cX12_readGoalsLine 54 = .ok (.aload_n 0, 1) := by decide +kernel
theorem dX12_readGoalsLine_55 : decode cX12_readGoalsLine 55 = .ok (.bipush 42, 2) := by decide +kernel
theorem dX12_readGoalsLine_57 : decode cX12_readGoalsLine 57 = .ok (.invokevirtual 155, 3) := by decide +kernel
theorem dX12_readGoalsLine_60 : decode cX12_readGoalsLine 60 = .ok (.ifCond .eq 23, 3) := by decide +kernel
theorem dX12_readGoalsLine_63 : decode cX12_readGoalsLine 63 = .ok (.aload_n 0, 1) := by decide +kernel
theorem dX12_readGoalsLine_64 : decode cX12_readGoalsLine 64 = .ok (.invokevirtual 110, 3) := by decide +kernel
theorem dX12_readGoalsLine_67 : decode cX12_readGoalsLine 67 = .ok (.aload_n 0, 1) := by decide +kernel
theorem dX12_readGoalsLine_68 : decode cX12_readGoalsLine 68 = .ok (.iload_n 1, 1) := by decide +kernel
theorem dX12_readGoalsLine_69 : decode cX12_readGoalsLine 69 = .ok (.iconst 2, 1) := by decide +kernel
theorem dX12_readGoalsLine_70 : decode cX12_readGoalsLine 70 = .ok (.iadd, 1) := by decide +kernel
theorem dX12_readGoalsLine_71 : decode cX12_readGoalsLine 71 = .ok (.aload_n 0, 1) := by decide +kernel
theorem dX12_readGoalsLine_72 : decode cX12_readGoalsLine 72 = .ok (.invokevirtual 141, 3) := by decide +kernel
theorem dX12_readGoalsLine_75 : decode cX12_readGoalsLine 75 = .ok (.invokevirtual 204, 3) := by decide +kernel
theorem dX12_readGoalsLine_78 : decode cX12_readGoalsLine 78 = .ok (.ifCond .ne 5, 3) := by decide +kernel
theorem dX12_readGoalsLine_81 : decode cX12_readGoalsLine 81 = .ok (.iconst 0, 1) := by decide +kernel
theorem dX12_readGoalsLine_82 : decode cX12_readGoalsLine 82 = .ok (.ireturn, 1) := by decide +kernel
theorem dX12_readGoalsLine_83 : decode cX12_readGoalsLine 83 = .ok (.aload_n 0, 1) := by decide +kernel
theorem dX12_readGoalsLine_84 : decode cX12_readGoalsLine 84 = .ok (.ldc 207, 2) := by decide +kernel
theorem dX12_readGoalsLine_86 : decode cX12_readGoalsLine 86 = .ok (.invokevirtual 167, 3) := by decide +kernel
theorem dX12_readGoalsLine_89 : decode cX12_readGoalsLine 89 = .ok (.ifCond .eq 10, 3) := by decide +kernel
theorem dX12_readGoalsLine_92 : decode cX12_readGoalsLine 92 = .ok (.aload_n 0, 1) := by decide +kernel
theorem dX12_readGoalsLine_93 : decode cX12_readGoalsLine 93 = .ok (.invokevirtual 162, 3) := by decide +kernel
theorem dX12_readGoalsLine_96 : decode cX12_readGoalsLine 96 = .ok (.ifCond .eq 7, 3) := by decide +kernel
theorem dX12_readGoalsLine_99 : decode cX12_readGoalsLine 99 = .ok (.iconst 1, 1) := by decide +kernel
theorem dX12_readGoalsLine_100 : decode cX12_readGoalsLine 100 = .ok (.goto 4, 3) := by decide +kernel
theorem dX12_readGoalsLine_103 : decode cX12_readGoalsLine 103 = .ok (.iconst 0, 1) := by decide +kernel
theorem dX12_readGoalsLine_104 : decode cX12_readGoalsLine 104 = .ok (.ireturn, 1) := by decide +kernel
theorem dX12_readRuleLine_0 : decode cX12_readRuleLine 0 = .ok (.aload_n 0, 1) := by decide +kernel
theorem dX12_readRuleLine_1 : decode cX12_readRuleLine 1 = .ok (.iload_n 1, 1) := by decide +kernel
theorem dX12_readRuleLine_2 : decode cX12_readRuleLine 2 = .ok (.aload_n 0, 1) := by decide +kernel
theorem dX12_readRuleLine_3 : decode cX12_readRuleLine 3 = .ok (.ldc 209, 2) := by decide +kernel
theorem dX12_readRuleLine_5 : decode cX12_readRuleLine 5 = .ok (.invokevirtual 113, 3) := by decide +kernel
theorem dX12_readRuleLine_8 : decode cX12_readRuleLine 8 = .ok (.ifCond .eq 7, 3) := by decide +kernel
theorem dX12_readRuleLine_11 : decode cX12_readRuleLine 11 = .ok (.iconst 0, 1) := by decide +kernel
theorem dX12_readRuleLine_12 : decode cX12_readRuleLine 12 = .ok (.goto 30, 3) := by decide +kernel
theorem dX12_readRuleLine_15 : decode cX12_readRuleLine 15 = .ok (.aload_n 0, 1) := by decide +kernel
theorem dX12_readRuleLine_16 : decode cX12_readRuleLine 16 = .ok (.ldc 211, 2) := by decide +kernel
theorem dX12_readRuleLine_18 : decode cX12_readRuleLine 18 = .ok (.invokevirtual 113, 3) := by decide +kernel
theorem dX12_readRuleLine_21 : decode cX12_readRuleLine 21 = .ok (.ifCond .eq 7, 3) := by decide +kernel
theorem dX12_readRuleLine_24 : decode cX12_readRuleLine 24 = .ok (.iconst 1, 1) := by decide +kernel
theorem dX12_readRuleLine_25 : decode cX12_readRuleLine 25 = .ok (.goto 17, 3) := by decide +kernel
theorem dX12_readRuleLine_28 : decode cX12_readRuleLine 28 = .ok (.aload_n 0, 1) := by decide +kernel
theorem dX12_readRuleLine_29 : decode cX12_readRuleLine 29 = .ok (.ldc 213, 2) := by decide +kernel
theorem dX12_readRuleLine_31 : decode cX12_readRuleLine 31 = .ok (.invokevirtual 113, 3) := by decide +kernel
theorem dX12_readRuleLine_34 : decode cX12_readRuleLine 34 = .ok (.ifCond .eq 7, 3) := by decide +kernel
theorem dX12_readRuleLine_37 : decode cX12_readRuleLine 37 = .ok (.iconst 2, 1) := by decide +kernel
theorem dX12_readRuleLine_38 : decode cX12_readRuleLine 38 = .ok (.goto 4, 3) := by decide +kernel
theorem dX12_readRuleLine_41 : decode cX12_readRuleLine 41 = .ok (.iconst (-1), 1) := by decide +kernel
theorem dX12_readRuleLine_42 : decode cX12_readRuleLine 42 = .ok (.invokevirtual 204, 3) := by decide +kernel
theorem dX12_readRuleLine_45 : decode cX12_readRuleLine 45 = .ok (.ifCond .eq 21, 3) := by decide +kernel
theorem dX12_readRuleLine_48 : decode cX12_readRuleLine 48 = .ok (.aload_n 0, 1) := by decide +kernel
theorem dX12_readRuleLine_49 : decode cX12_readRuleLine 49 = .ok (.invokevirtual 215, 3) := by decide +kernel
theorem dX12_readRuleLine_52 : decode cX12_readRuleLine 52 = .ok (.ifCond .eq 14, 3) := by decide +kernel
theorem dX12_readRuleLine_55 : decode cX12_readRuleLine 55 = .ok (.aload_n 0, 1) := by decide +kernel
theorem dX12_readRuleLine_56 : decode cX12_readRuleLine 56 = .ok (.invokevirtual 162, 3) := by decide +kernel
theorem dX12_readRuleLine_59 : decode cX12_readRuleLine 59 = .ok (.ifCond .eq 7, 3) := by decide +kernel
theorem dX12_readRuleLine_62 : decode cX12_readRuleLine 62 = .ok (.iconst 1, 1) := by decide +kernel
theorem dX12_readRuleLine_63 : decode cX12_readRuleLine 63 = .ok (.goto 4, 3) := by decide +kernel
theorem dX12_readRuleLine_66 : decode cX12_readRuleLine 66 = .ok (.iconst 0, 1) := by decide +kernel
theorem dX12_readRuleLine_67 : decode cX12_readRuleLine 67 = .ok (.ireturn, 1) := by decide +kernel
theorem dX12_hasIf_0 : decode cX12_hasIf 0 = .ok (.aload_n 0, 1) := by decide +kernel
theorem dX12_hasIf_1 : decode cX12_hasIf 1 = .ok (.invokevirtual 110, 3) := by decide +kernel
theorem dX12_hasIf_4 : decode cX12_hasIf 4 = .ok (.aload_n 0, 1) := by decide +kernel
theorem dX12_hasIf_5 : decode cX12_hasIf 5 = .ok (.ldc 207, 2) := by decide +kernel
theorem dX12_hasIf_7 : decode cX12_hasIf 7 = .ok (.invokevirtual 113, 3) := by decide +kernel
theorem dX12_hasIf_10 : decode cX12_hasIf 10 = .ok (.ireturn, 1) := by decide +kernel
theorem dX12_readLine_0 : decode cX12_readLine 0 = .ok (.aload_n 0, 1) := by decide +kernel
theorem dX12_readLine_1 : decode cX12_readLine 1 = .ok (.invokevirtual 110, 3) := by decide +kernel
theorem dX12_readLine_4 : decode cX12_readLine 4 = .ok (.iload_n 1, 1) := by decide +kernel
theorem dX12_readLine_5 : decode cX12_readLine 5 = .ok (.bipush 12, 2) := by decide +kernel
theorem dX12_readLine_7 : decode cX12_readLine 7 = .ok (.if_icmp .ne 5, 3) := by decide +kernel
theorem dX12_readLine_10 : decode cX12_readLine 10 = .ok (.iconst 0, 1) := by decide +kernel
theorem dX12_readLine_11 : decode cX12_readLine 11 = .ok (.ireturn, 1) := by decide +kernel
theorem dX12_readLine_12 : decode cX12_readLine 12 = .ok (.iconst 5, 1) := by decide +kernel
theorem dX12_readLine_13 : decode cX12_readLine 13 = .ok (.iload_n 1, 1) := by decide +kernel
theorem dX12_readLine_14 : decode cX12_readLine 14 = .ok (.invokestatic 218, 3) := by decide +kernel
theorem dX12_readLine_17 : decode cX12_readLine 17 = .ok (.istore_n 2, 1) := by decide +kernel
theorem dX12_readLine_18 : decode cX12_readLine 18 = .ok (.aload_n 0, 1) := by decide +kernel
theorem dX12_readLine_19 : decode cX12_readLine 19 = .ok (.getfield 13, 3) := by decide +kernel
theorem dX12_readLine_22 : decode cX12_readLine 22 = .ok (.iload_n 2, 1) := by decide +kernel
theorem dX12_readLine_23 : decode cX12_readLine 23 = .ok (.iconst 2, 1) := by decide +kernel
theorem dX12_readLine_24 : decode cX12_readLine 24 = .ok (.iadd, 1) := by decide +kernel
theorem dX12_readLine_25 : decode cX12_readLine 25 = .ok (.iconst (-1), 1) := by decide +kernel
theorem dX12_readLine_26 : decode cX12_readLine 26 = .ok (.iastore, 1) := by decide +kernel
theorem dX12_readLine_27 : decode cX12_readLine 27 = .ok (.aload_n 0, 1) := by decide +kernel
theorem dX12_readLine_28 : decode cX12_readLine 28 = .ok (.getfield 13, 3) := by decide +kernel
theorem dX12_readLine_31 : decode cX12_readLine 31 = .ok (.iload_n 2, 1) := by decide +kernel
theorem dX12_readLine_32 : decode cX12_readLine 32 = .ok (.iconst 3, 1) := by decide +kernel
theorem dX12_readLine_33 : decode cX12_readLine 33 = .ok (.iadd, 1) := by decide +kernel
theorem dX12_readLine_34 : decode cX12_readLine 34 = .ok (.aload_n 0, 1) := by decide +kernel
theorem dX12_readLine_35 : decode cX12_readLine 35 = .ok (.getfield 121, 3) := by decide +kernel
theorem dX12_readLine_38 : decode cX12_readLine 38 = .ok (.iastore, 1) := by decide +kernel
theorem dX12_readLine_39 : decode cX12_readLine 39 = .ok (.aload_n 0, 1) := by decide +kernel
theorem dX12_readLine_40 : decode cX12_readLine 40 = .ok (.iconst 0, 1) := by decide +kernel
theorem dX12_readLine_41 : decode cX12_readLine 41 = .ok (.putfield 159, 3) := by decide +kernel
theorem dX12_readLine_44 : decode cX12_readLine 44 = .ok (.aload_n 0, 1) := by decide +kernel
theorem dX12_readLine_45 : decode cX12_readLine 45 = .ok (.getfield 130, 3) := by decide +kernel
theorem dX12_readLine_48 : decode cX12_readLine 48 = .ok (.ifCond .ne 10, 3) := by decide +kernel
theorem dX12_readLine_51 : decode cX12_readLine 51 = .ok (.aload_n 0, 1) := by decide +kernel
theorem dX12_readLine_52 : decode cX12_readLine 52 = .ok (.invokevirtual 222, 3) := by decide +kernel
theorem dX12_readLine_55 : decode cX12_readLine 55 = .ok (.goto 24, 3) := by decide +kernel
theorem dX12_readLine_58 : decode cX12_readLine 58 = .ok (.aload_n 0, 1) := by decide +kernel
theorem dX12_readLine_59 : decode cX12_readLine 59 = .ok (.getfield 130, 3) := by decide +kernel
theorem dX12_readLine_62 : decode cX12_readLine 62 = .ok (.iconst 1, 1) := by decide +kernel
theorem dX12_readLine_63 : decode cX12_readLine 63 = .ok (.if_icmp .ne 11, 3) := by decide +kernel
theorem dX12_readLine_66 : decode cX12_readLine 66 = .ok (.aload_n 0, 1) := by decide +kernel
theorem dX12_readLine_67 : decode cX12_readLine 67 = .ok (.iload_n 2, 1) := by decide +kernel
theorem dX12_readLine_68 : decode cX12_readLine 68 = .ok (.invokevirtual 225, 3) := by decide +kernel
theorem dX12_readLine_71 : decode cX12_readLine 71 = .ok (.goto 8, 3) := by decide +kernel
theorem dX12_readLine_74 : decode cX12_readLine 74 = .ok (.aload_n 0, 1) := by decide +kernel
theorem dX12_readLine_75 : decode cX12_readLine 75 = .ok (.iload_n 2, 1) := by decide +kernel
theorem dX12_readLine_76 : decode cX12_readLine 76 = .ok (.invokevirtual 228, 3) := by decide +kernel
theorem dX12_readLine_79 : decode cX12_readLine 79 = .ok (.istore_n 3, 1) := by decide +kernel
theorem dX12_readLine_80 : decode cX12_readLine 80 = .ok (.aload_n 0, 1) := by decide +kernel
theorem dX12_readLine_81 : decode cX12_readLine 81 = .ok (.getfield 13, 3) := by decide +kernel
theorem dX12_readLine_84 : decode cX12_readLine 84 = .ok (.iload_n 2, 1) := by decide +kernel
theorem dX12_readLine_85 : decode cX12_readLine 85 = .ok (.iconst 4, 1) := by decide +kernel
theorem dX12_readLine_86 : decode cX12_readLine 86 = .ok (.iadd, 1) := by decide +kernel
theorem dX12_readLine_87 : decode cX12_readLine 87 = .ok (.aload_n 0, 1) := by decide +kernel
theorem dX12_readLine_88 : decode cX12_readLine 88 = .ok (.getfield 121, 3) := by decide +kernel
theorem dX12_readLine_91 : decode cX12_readLine 91 = .ok (.iastore, 1) := by decide +kernel
theorem dX12_readLine_92 : decode cX12_readLine 92 = .ok (.iload_n 3, 1) := by decide +kernel
theorem dX12_readLine_93 : decode cX12_readLine 93 = .ok (.ireturn, 1) := by decide +kernel
theorem dX12_reads_0 : decode cX12_reads 0 = .ok (.aload_n 0, 1) := by decide +kernel
theorem dX12_reads_1 : decode cX12_reads 1 = .ok (.iconst 0, 1) := by decide +kernel
theorem dX12_reads_2 : decode cX12_reads 2 = .ok (.putfield 3, 3) := by decide +kernel
theorem dX12_reads_5 : decode cX12_reads 5 = .ok (.aload_n 0, 1) := by decide +kernel
theorem dX12_reads_6 : decode cX12_reads 6 = .ok (.aload_n 0, 1) := by decide +kernel
theorem dX12_reads_7 : decode cX12_reads 7 = .ok (.getfield 81, 3) := by decide +kernel
theorem dX12_reads_10 : decode cX12_reads 10 = .ok (.putfield 87, 3) := by decide +kernel
theorem dX12_reads_13 : decode cX12_reads 13 = .ok (.aload_n 0, 1) := by decide +kernel
theorem dX12_reads_14 : decode cX12_reads 14 = .ok (.iconst 0, 1) := by decide +kernel
theorem dX12_reads_15 : decode cX12_reads 15 = .ok (.putfield 81, 3) := by decide +kernel
theorem dX12_reads_18 : decode cX12_reads 18 = .ok (.aload_n 0, 1) := by decide +kernel
theorem dX12_reads_19 : decode cX12_reads 19 = .ok (.iconst 0, 1) := by decide +kernel
theorem dX12_reads_20 : decode cX12_reads 20 = .ok (.putfield 84, 3) := by decide +kernel
theorem dX12_reads_23 : decode cX12_reads 23 = .ok (.aload_n 0, 1) := by decide +kernel
theorem dX12_reads_24 : decode cX12_reads 24 = .ok (.iconst 0, 1) := by decide +kernel
theorem dX12_reads_25 : decode cX12_reads 25 = .ok (.putfield 121, 3) := by decide +kernel
theorem dX12_reads_28 : decode cX12_reads 28 = .ok (.aload_n 0, 1) := by decide +kernel
theorem dX12_reads_29 : decode cX12_reads 29 = .ok (.iload_n 1, 1) := by decide +kernel
theorem dX12_reads_30 : decode cX12_reads 30 = .ok (.putfield 130, 3) := by decide +kernel
theorem dX12_reads_33 : decode cX12_reads 33 = .ok (.iconst 0, 1) := by decide +kernel
theorem dX12_reads_34 : decode cX12_reads 34 = .ok (.istore_n 2, 1) := by decide +kernel
theorem dX12_reads_35 : decode cX12_reads 35 = .ok (.iconst 1, 1) := by decide +kernel
theorem dX12_reads_36 : decode cX12_reads 36 = .ok (.istore_n 3, 1) := by decide +kernel
theorem dX12_reads_37 : decode cX12_reads 37 = .ok (.aload_n 0, 1) := by decide +kernel
theorem dX12_reads_38 : decode cX12_reads 38 = .ok (.invokevirtual 97, 3) := by decide +kernel
theorem dX12_reads_41 : decode cX12_reads 41 = .ok (.aload_n 0, 1) := by decide +kernel
theorem dX12_reads_42 : decode cX12_reads 42 = .ok (.getfield 84, 3) := by decide +kernel
theorem dX12_reads_45 : decode cX12_reads 45 = .ok (.aload_n 0, 1) := by decide +kernel
theorem dX12_reads_46 : decode cX12_reads 46 = .ok (.getfield 87, 3) := by decide +kernel
theorem dX12_reads_49 : decode cX12_reads 49 = .ok (.if_icmp .ge 7, 3) := by decide +kernel
theorem dX12_reads_52 : decode cX12_reads 52 = .ok (.iconst 1, 1) := by decide +kernel
theorem dX12_reads_53 : decode cX12_reads 53 = .ok (.goto 4, 3) := by decide +kernel
theorem dX12_reads_56 : decode cX12_reads 56 = .ok (.iconst 0, 1) := by decide +kernel
theorem dX12_reads_57 : decode cX12_reads 57 = .ok (.istore 4, 2) := by decide +kernel
theorem dX12_reads_59 : decode cX12_reads 59 = .ok (.iload 4, 2) := by decide +kernel
theorem dX12_reads_61 : decode cX12_reads 61 = .ok (.ifCond .eq 81, 3) := by decide +kernel
theorem dX12_reads_64 : decode cX12_reads 64 = .ok (.aload_n 0, 1) := by decide +kernel
theorem dX12_reads_65 : decode cX12_reads 65 = .ok (.iload_n 2, 1) := by decide +kernel
theorem dX12_reads_66 : decode cX12_reads 66 = .ok (.invokevirtual 231, 3) := by decide +kernel
theorem dX12_reads_69 : decode cX12_reads 69 = .ok (.istore_n 3, 1) := by decide +kernel
theorem dX12_reads_70 : decode cX12_reads 70 = .ok (.iinc 2 1, 3) := by decide +kernel
theorem dX12_reads_73 : decode cX12_reads 73 = .ok (.iload_n 3, 1) := by decide +kernel
theorem dX12_reads_74 : decode cX12_reads 74 = .ok (.ifCond .eq 7, 3) := by decide +kernel
theorem dX12_reads_77 : decode cX12_reads 77 = .ok (.aload_n 0, 1) := by decide +kernel
theorem dX12_reads_78 : decode cX12_reads 78 = .ok (.invokevirtual 97, 3) := by decide +kernel
theorem dX12_reads_81 : decode cX12_reads 81 = .ok (.iload_n 3, 1) := by decide +kernel
theorem dX12_reads_82 : decode cX12_reads 82 = .ok (.ifCond .eq 18, 3) := by decide +kernel
theorem dX12_reads_85 : decode cX12_reads 85 = .ok (.aload_n 0, 1) := by decide +kernel
theorem dX12_reads_86 : decode cX12_reads 86 = .ok (.getfield 84, 3) := by decide +kernel
theorem dX12_reads_89 : decode cX12_reads 89 = .ok (.aload_n 0, 1) := by decide +kernel
theorem dX12_reads_90 : decode cX12_reads 90 = .ok (.getfield 87, 3) := by decide +kernel
theorem dX12_reads_93 : decode cX12_reads 93 = .ok (.if_icmp .ge 7, 3) := by decide +kernel
theorem dX12_reads_96 : decode cX12_reads 96 = .ok (.iconst 1, 1) := by decide +kernel
theorem dX12_reads_97 : decode cX12_reads 97 = .ok (.goto 4, 3) := by decide +kernel
theorem dX12_reads_100 : decode cX12_reads 100 = .ok (.iconst 0, 1) := by decide +kernel
theorem dX12_reads_101 : decode cX12_reads 101 = .ok (.istore 4, 2) := by decide +kernel
theorem dX12_reads_103 : decode cX12_reads 103 = .ok (.iload 4, 2) := by decide +kernel
theorem dX12_reads_105 : decode cX12_reads 105 = .ok (.ifCond .eq 19, 3) := by decide +kernel
theorem dX12_reads_108 : decode cX12_reads 108 = .ok (.aload_n 0, 1) := by decide +kernel
theorem dX12_reads_109 : decode cX12_reads 109 = .ok (.bipush 59, 2) := by decide +kernel
theorem dX12_reads_111 : decode cX12_reads 111 = .ok (.bipush 59, 2) := by decide +kernel
theorem dX12_reads_113 : decode cX12_reads 113 = .ok (.invokevirtual 90, 3) := by decide +kernel
theorem dX12_reads_116 : decode cX12_reads 116 = .ok (.ifCond .ne 8, 3) := by decide +kernel
theorem dX12_reads_119 : decode cX12_reads 119 = .ok (.iconst 0, 1) := by decide +kernel
theorem dX12_reads_120 : decode cX12_reads 120 = .ok (.istore_n 3, 1) := by decide +kernel
theorem dX12_reads_121 : decode cX12_reads 121 = .ok (.iconst 0, 1) := by decide +kernel
theorem dX12_reads_122 : decode cX12_reads 122 = .ok (.istore 4, 2) := by decide +kernel
theorem dX12_reads_124 : decode cX12_reads 124 = .ok (.iload 4, 2) := by decide +kernel
theorem dX12_reads_126 : decode cX12_reads 126 = .ok (.ifCond .eq (-67), 3) := by decide +kernel
theorem dX12_reads_129 : decode cX12_reads 129 = .ok (.aload_n 0, 1) := by decide +kernel
theorem dX12_reads_130 : decode cX12_reads 130 = .ok (.dup, 1) := by decide +kernel
theorem dX12_reads_131 : decode cX12_reads 131 = .ok (.getfield 84, 3) := by decide +kernel
theorem dX12_reads_134 : decode cX12_reads 134 = .ok (.iconst 1, 1) := by decide +kernel
theorem dX12_reads_135 : decode cX12_reads 135 = .ok (.iadd, 1) := by decide +kernel
theorem dX12_reads_136 : decode cX12_reads 136 = .ok (.putfield 84, 3) := by decide +kernel
theorem dX12_reads_139 : decode cX12_reads 139 = .ok (.goto (-80), 3) := by decide +kernel
theorem dX12_reads_142 : decode cX12_reads 142 = .ok (.aload_n 0, 1) := by decide +kernel
theorem dX12_reads_143 : decode cX12_reads 143 = .ok (.iload_n 3, 1) := by decide +kernel
theorem dX12_reads_144 : decode cX12_reads 144 = .ok (.ifCond .eq 7, 3) := by decide +kernel
theorem dX12_reads_147 : decode cX12_reads 147 = .ok (.iconst (-1), 1) := by decide +kernel
theorem dX12_reads_148 : decode cX12_reads 148 = .ok (.goto 7, 3) := by decide +kernel
theorem dX12_reads_151 : decode cX12_reads 151 = .ok (.aload_n 0, 1) := by decide +kernel
theorem dX12_reads_152 : decode cX12_reads 152 = .ok (.getfield 94, 3) := by decide +kernel
theorem dX12_reads_155 : decode cX12_reads 155 = .ok (.putfield 24, 3) := by decide +kernel
theorem dX12_reads_158 : decode cX12_reads 158 = .ok (.aload_n 0, 1) := by decide +kernel
theorem dX12_reads_159 : decode cX12_reads 159 = .ok (.getfield 13, 3) := by decide +kernel
theorem dX12_reads_162 : decode cX12_reads 162 = .ok (.iconst 5, 1) := by decide +kernel
theorem dX12_reads_163 : decode cX12_reads 163 = .ok (.invokestatic 117, 3) := by decide +kernel
theorem dX12_reads_166 : decode cX12_reads 166 = .ok (.iload_n 2, 1) := by decide +kernel
theorem dX12_reads_167 : decode cX12_reads 167 = .ok (.iastore, 1) := by decide +kernel
theorem dX12_reads_168 : decode cX12_reads 168 = .ok (.iload_n 3, 1) := by decide +kernel
theorem dX12_reads_169 : decode cX12_reads 169 = .ok (.ireturn, 1) := by decide +kernel
theorem dX12_game_0 : decode cX12_game 0 = .ok (.iconst 0, 1) := by decide +kernel
theorem dX12_game_1 : decode cX12_game 1 = .ok (.istore_n 1, 1) := by decide +kernel
theorem dX12_game_2 : decode cX12_game 2 = .ok (.iload_n 1, 1) := by decide +kernel
theorem dX12_game_3 : decode cX12_game 3 = .ok (.sipush 1088, 3) := by decide +kernel
theorem dX12_game_6 : decode cX12_game 6 = .ok (.if_icmp .ge 24, 3) := by decide +kernel
theorem dX12_game_9 : decode cX12_game 9 = .ok (.aload_n 0, 1) := by decide +kernel
theorem dX12_game_10 : decode cX12_game 10 = .ok (.getfield 30, 3) := by decide +kernel
theorem dX12_game_13 : decode cX12_game 13 = .ok (.iload_n 1, 1) := by decide +kernel
theorem dX12_game_14 : decode cX12_game 14 = .ok (.aload_n 0, 1) := by decide +kernel
theorem dX12_game_15 : decode cX12_game 15 = .ok (.getfield 13, 3) := by decide +kernel
theorem dX12_game_18 : decode cX12_game 18 = .ok (.bipush 18, 2) := by decide +kernel
theorem dX12_game_20 : decode cX12_game 20 = .ok (.iload_n 1, 1) := by decide +kernel
theorem dX12_game_21 : decode cX12_game 21 = .ok (.iadd, 1) := by decide +kernel
theorem dX12_game_22 : decode cX12_game 22 = .ok (.iaload, 1) := by decide +kernel
theorem dX12_game_23 : decode cX12_game 23 = .ok (.iastore, 1) := by decide +kernel
theorem dX12_game_24 : decode cX12_game 24 = .ok (.iinc 1 1, 3) := by decide +kernel
theorem dX12_game_27 : decode cX12_game 27 = .ok (.goto (-25), 3) := by decide +kernel
theorem dX12_game_30 : decode cX12_game 30 = .ok (.iconst 0, 1) := by decide +kernel
theorem dX12_game_31 : decode cX12_game 31 = .ok (.istore_n 1, 1) := by decide +kernel
theorem dX12_game_32 : decode cX12_game 32 = .ok (.iload_n 1, 1) := by decide +kernel
theorem dX12_game_33 : decode cX12_game 33 = .ok (.bipush 8, 2) := by decide +kernel
theorem dX12_game_35 : decode cX12_game 35 = .ok (.if_icmp .ge 24, 3) := by decide +kernel
theorem dX12_game_38 : decode cX12_game 38 = .ok (.aload_n 0, 1) := by decide +kernel
theorem dX12_game_39 : decode cX12_game 39 = .ok (.getfield 33, 3) := by decide +kernel
theorem dX12_game_42 : decode cX12_game 42 = .ok (.iload_n 1, 1) := by decide +kernel
theorem dX12_game_43 : decode cX12_game 43 = .ok (.aload_n 0, 1) := by decide +kernel
theorem dX12_game_44 : decode cX12_game 44 = .ok (.getfield 13, 3) := by decide +kernel
theorem dX12_game_47 : decode cX12_game 47 = .ok (.bipush 10, 2) := by decide +kernel
theorem dX12_game_49 : decode cX12_game 49 = .ok (.iload_n 1, 1) := by decide +kernel
theorem dX12_game_50 : decode cX12_game 50 = .ok (.iadd, 1) := by decide +kernel
theorem dX12_game_51 : decode cX12_game 51 = .ok (.iaload, 1) := by decide +kernel
theorem dX12_game_52 : decode cX12_game 52 = .ok (.iastore, 1) := by decide +kernel
theorem dX12_game_53 : decode cX12_game 53 = .ok (.iinc 1 1, 3) := by decide +kernel
theorem dX12_game_56 : decode cX12_game 56 = .ok (.goto (-24), 3) := by decide +kernel
theorem dX12_game_59 : decode cX12_game 59 = .ok (.aload_n 0, 1) := by decide +kernel
theorem dX12_game_60 : decode cX12_game 60 = .ok (.aload_n 0, 1) := by decide +kernel
theorem dX12_game_61 : decode cX12_game 61 = .ok (.getfield 13, 3) := by decide +kernel
theorem dX12_game_64 : decode cX12_game 64 = .ok (.iconst 4, 1) := by decide +kernel
theorem dX12_game_65 : decode cX12_game 65 = .ok (.iaload, 1) := by decide +kernel
theorem dX12_game_66 : decode cX12_game 66 = .ok (.putfield 187, 3) := by decide +kernel
theorem dX12_game_69 : decode cX12_game 69 = .ok (.aload_n 0, 1) := by decide +kernel
theorem dX12_game_70 : decode cX12_game 70 = .ok (.iconst 0, 1) := by decide +kernel
theorem dX12_game_71 : decode cX12_game 71 = .ok (.invokevirtual 234, 3) := by decide +kernel
theorem dX12_game_74 : decode cX12_game 74 = .ok (.istore_n 1, 1) := by decide +kernel
theorem dX12_game_75 : decode cX12_game 75 = .ok (.iconst 0, 1) := by decide +kernel
theorem dX12_game_76 : decode cX12_game 76 = .ok (.istore_n 2, 1) := by decide +kernel
theorem dX12_game_77 : decode cX12_game 77 = .ok (.iload_n 2, 1) := by decide +kernel
theorem dX12_game_78 : decode cX12_game 78 = .ok (.bipush 32, 2) := by decide +kernel
theorem dX12_game_80 : decode cX12_game 80 = .ok (.if_icmp .ge 62, 3) := by decide +kernel
theorem dX12_game_83 : decode cX12_game 83 = .ok (.iload_n 1, 1) := by decide +kernel
theorem dX12_game_84 : decode cX12_game 84 = .ok (.ifCond .eq 58, 3) := by decide +kernel
theorem dX12_game_87 : decode cX12_game 87 = .ok (.iconst 0, 1) := by decide +kernel
theorem dX12_game_88 : decode cX12_game 88 = .ok (.istore_n 3, 1) := by decide +kernel
theorem dX12_game_89 : decode cX12_game 89 = .ok (.iconst 0, 1) := by decide +kernel
theorem dX12_game_90 : decode cX12_game 90 = .ok (.istore 4, 2) := by decide +kernel
theorem dX12_game_92 : decode cX12_game 92 = .ok (.iload 4, 2) := by decide +kernel
theorem dX12_game_94 : decode cX12_game 94 = .ok (.bipush 34, 2) := by decide +kernel
theorem dX12_game_96 : decode cX12_game 96 = .ok (.if_icmp .ge 24, 3) := by decide +kernel
theorem dX12_game_99 : decode cX12_game 99 = .ok (.iload_n 3, 1) := by decide +kernel
theorem dX12_game_100 : decode cX12_game 100 = .ok (.aload_n 0, 1) := by decide +kernel
theorem dX12_game_101 : decode cX12_game 101 = .ok (.getfield 30, 3) := by decide +kernel
theorem dX12_game_104 : decode cX12_game 104 = .ok (.bipush 34, 2) := by decide +kernel
theorem dX12_game_106 : decode cX12_game 106 = .ok (.iload_n 2, 1) := by decide +kernel
theorem dX12_game_107 : decode cX12_game 107 = .ok (.imul, 1) := by decide +kernel
theorem dX12_game_108 : decode cX12_game 108 = .ok (.iload 4, 2) := by decide +kernel
theorem dX12_game_110 : decode cX12_game 110 = .ok (.iadd, 1) := by decide +kernel
theorem dX12_game_111 : decode cX12_game 111 = .ok (.iaload, 1) := by decide +kernel
theorem dX12_game_112 : decode cX12_game 112 = .ok (.iadd, 1) := by decide +kernel
theorem dX12_game_113 : decode cX12_game 113 = .ok (.istore_n 3, 1) := by decide +kernel
theorem dX12_game_114 : decode cX12_game 114 = .ok (.iinc 4 1, 3) := by decide +kernel
theorem dX12_game_117 : decode cX12_game 117 = .ok (.goto (-25), 3) := by decide +kernel
theorem dX12_game_120 : decode cX12_game 120 = .ok (.iload_n 3, 1) := by decide +kernel
theorem dX12_game_121 : decode cX12_game 121 = .ok (.bipush 100, 2) := by decide +kernel
theorem dX12_game_123 : decode cX12_game 123 = .ok (.if_icmp .le 13, 3) := by decide +kernel
theorem dX12_game_126 : decode cX12_game 126 = .ok (.iconst 0, 1) := by decide +kernel
theorem dX12_game_127 : decode cX12_game 127 = .ok (.istore_n 1, 1) := by decide +kernel
theorem dX12_game_128 : decode cX12_game 128 = .ok (.aload_n 0, 1) := by decide +kernel
theorem dX12_game_129 : decode cX12_game 129 = .ok (.aload_n 0, 1) := by decide +kernel
theorem dX12_game_130 : decode cX12_game 130 = .ok (.getfield 87, 3) := by decide +kernel
theorem dX12_game_133 : decode cX12_game 133 = .ok (.putfield 24, 3) := by decide +kernel
theorem dX12_game_136 : decode cX12_game 136 = .ok (.iinc 2 1, 3) := by decide +kernel
theorem dX12_game_139 : decode cX12_game 139 = .ok (.goto (-62), 3) := by decide +kernel
theorem dX12_game_142 : decode cX12_game 142 = .ok (.aload_n 0, 1) := by decide +kernel
theorem dX12_game_143 : decode cX12_game 143 = .ok (.iload_n 1, 1) := by decide +kernel
theorem dX12_game_144 : decode cX12_game 144 = .ok (.ifCond .ne 7, 3) := by decide +kernel
theorem dX12_game_147 : decode cX12_game 147 = .ok (.iconst 1, 1) := by decide +kernel
theorem dX12_game_148 : decode cX12_game 148 = .ok (.goto 4, 3) := by decide +kernel
theorem dX12_game_151 : decode cX12_game 151 = .ok (.iconst 0, 1) := by decide +kernel
theorem dX12_game_152 : decode cX12_game 152 = .ok (.iconst 1, 1) := by decide +kernel
theorem dX12_game_153 : decode cX12_game 153 = .ok (.invokevirtual 237, 3) := by decide +kernel
theorem dX12_game_156 : decode cX12_game 156 = .ok (.ifCond .ne 27, 3) := by decide +kernel
theorem dX12_game_159 : decode cX12_game 159 = .ok (.aload_n 0, 1) := by decide +kernel
theorem dX12_game_160 : decode cX12_game 160 = .ok (.aload_n 0, 1) := by decide +kernel
theorem dX12_game_161 : decode cX12_game 161 = .ok (.getfield 13, 3) := by decide +kernel
theorem dX12_game_164 : decode cX12_game 164 = .ok (.iconst 0, 1) := by decide +kernel
theorem dX12_game_165 : decode cX12_game 165 = .ok (.iaload, 1) := by decide +kernel
theorem dX12_game_166 : decode cX12_game 166 = .ok (.bipush 12, 2) := by decide +kernel
theorem dX12_game_168 : decode cX12_game 168 = .ok (.if_icmp .ne 7, 3) := by decide +kernel
theorem dX12_game_171 : decode cX12_game 171 = .ok (.iconst 1, 1) := by decide +kernel
theorem dX12_game_172 : decode cX12_game 172 = .ok (.goto 4, 3) := by decide +kernel
theorem dX12_game_175 : decode cX12_game 175 = .ok (.iconst 0, 1) := by decide +kernel
theorem dX12_game_176 : decode cX12_game 176 = .ok (.iconst 2, 1) := by decide +kernel
theorem dX12_game_177 : decode cX12_game 177 = .ok (.invokevirtual 237, 3) := by decide +kernel
theorem dX12_game_180 : decode cX12_game 180 = .ok (.ifCond .eq 5, 3) := by decide +kernel
theorem dX12_game_183 : decode cX12_game 183 = .ok (.iconst 0, 1) := by decide +kernel
theorem dX12_game_184 : decode cX12_game 184 = .ok (.ireturn, 1) := by decide +kernel
theorem dX12_game_185 : decode cX12_game 185 = .ok (.iconst 0, 1) := by decide +kernel
theorem dX12_game_186 : decode cX12_game 186 = .ok (.istore_n 2, 1) := by decide +kernel
theorem dX12_game_187 : decode cX12_game 187 = .ok (.iload_n 2, 1) := by decide +kernel
theorem dX12_game_188 : decode cX12_game 188 = .ok (.sipush 1088, 3) := by decide +kernel
theorem dX12_game_191 : decode cX12_game 191 = .ok (.if_icmp .ge 24, 3) := by decide +kernel
theorem dX12_game_194 : decode cX12_game 194 = .ok (.aload_n 0, 1) := by decide +kernel
theorem dX12_game_195 : decode cX12_game 195 = .ok (.getfield 13, 3) := by decide +kernel
theorem dX12_game_198 : decode cX12_game 198 = .ok (.bipush 18, 2) := by decide +kernel
theorem dX12_game_200 : decode cX12_game 200 = .ok (.iload_n 2, 1) := by decide +kernel
theorem dX12_game_201 : decode cX12_game 201 = .ok (.iadd, 1) := by decide +kernel
theorem dX12_game_202 : decode cX12_game 202 = .ok (.aload_n 0, 1) := by decide +kernel
theorem dX12_game_203 : decode cX12_game 203 = .ok (.getfield 30, 3) := by decide +kernel
theorem dX12_game_206 : decode cX12_game 206 = .ok (.iload_n 2, 1) := by decide +kernel
theorem dX12_game_207 : decode cX12_game 207 = .ok (.iaload, 1) := by decide +kernel
theorem dX12_game_208 : decode cX12_game 208 = .ok (.iastore, 1) := by decide +kernel
theorem dX12_game_209 : decode cX12_game 209 = .ok (.iinc 2 1, 3) := by decide +kernel
theorem dX12_game_212 : decode cX12_game 212 = .ok (.goto (-25), 3) := by decide +kernel
theorem dX12_game_215 : decode cX12_game 215 = .ok (.iconst 0, 1) := by decide +kernel
theorem dX12_game_216 : decode cX12_game 216 = .ok (.istore_n 2, 1) := by decide +kernel
theorem dX12_game_217 : decode cX12_game 217 = .ok (.iload_n 2, 1) := by decide +kernel
theorem dX12_game_218 : decode cX12_game 218 = .ok (.bipush 8, 2) := by decide +kernel
theorem dX12_game_220 : decode cX12_game 220 = .ok (.if_icmp .ge 24, 3) := by decide +kernel
theorem dX12_game_223 : decode cX12_game 223 = .ok (.aload_n 0, 1) := by decide +kernel
theorem dX12_game_224 : decode cX12_game 224 = .ok (.getfield 13, 3) := by decide +kernel
theorem dX12_game_227 : decode cX12_game 227 = .ok (.bipush 10, 2) := by decide +kernel
theorem dX12_game_229 : decode cX12_game 229 = .ok (.iload_n 2, 1) := by decide +kernel
theorem dX12_game_230 : decode cX12_game 230 = .ok (.iadd, 1) := by decide +kernel
theorem dX12_game_231 : decode cX12_game 231 = .ok (.aload_n 0, 1) := by decide +kernel
theorem dX12_game_232 : decode cX12_game 232 = .ok (.getfield 33, 3) := by decide +kernel
theorem dX12_game_235 : decode cX12_game 235 = .ok (.iload_n 2, 1) := by decide +kernel
theorem dX12_game_236 : decode cX12_game 236 = .ok (.iaload, 1) := by decide +kernel
theorem dX12_game_237 : decode cX12_game 237 = .ok (.iastore, 1) := by decide +kernel
theorem dX12_game_238 : decode cX12_game 238 = .ok (.iinc 2 1, 3) := by decide +kernel
theorem dX12_game_241 : decode cX12_game 241 = .ok (.goto (-24), 3) := by decide +kernel
theorem dX12_game_244 : decode cX12_game 244 = .ok (.aload_n 0, 1) := by decide +kernel
theorem dX12_game_245 : decode cX12_game 245 = .ok (.getfield 13, 3) := by decide +kernel
theorem dX12_game_248 : decode cX12_game 248 = .ok (.iconst 4, 1) := by decide +kernel
theorem dX12_game_249 : decode cX12_game 249 = .ok (.aload_n 0, 1) := by decide +kernel
theorem dX12_game_250 : decode cX12_game 250 = .ok (.getfield 187, 3) := by decide +kernel
theorem dX12_game_253 : decode cX12_game 253 = .ok (.iastore, 1) := by decide +kernel
theorem dX12_game_254 : decode cX12_game 254 = .ok (.aload_n 0, 1) := by decide +kernel
theorem dX12_game_255 : decode cX12_game 255 = .ok (.getfield 13, 3) := by decide +kernel
theorem dX12_game_258 : decode cX12_game 258 = .ok (.iconst 0, 1) := by decide +kernel
theorem dX12_game_259 : decode cX12_game 259 = .ok (.dup2, 1) := by decide +kernel
theorem dX12_game_260 : decode cX12_game 260 = .ok (.iaload, 1) := by decide +kernel
theorem dX12_game_261 : decode cX12_game 261 = .ok (.iconst 1, 1) := by decide +kernel
theorem dX12_game_262 : decode cX12_game 262 = .ok (.iadd, 1) := by decide +kernel
theorem dX12_game_263 : decode cX12_game 263 = .ok (.iastore, 1) := by decide +kernel
theorem dX12_game_264 : decode cX12_game 264 = .ok (.aload_n 0, 1) := by decide +kernel
theorem dX12_game_265 : decode cX12_game 265 = .ok (.getfield 13, 3) := by decide +kernel
theorem dX12_game_268 : decode cX12_game 268 = .ok (.iconst 0, 1) := by decide +kernel
theorem dX12_game_269 : decode cX12_game 269 = .ok (.iaload, 1) := by decide +kernel
theorem dX12_game_270 : decode cX12_game 270 = .ok (.ireturn, 1) := by decide +kernel
theorem dX12_keeps_0 : decode cX12_keeps 0 = .ok (.iconst 0, 1) := by decide +kernel
theorem dX12_keeps_1 : decode cX12_keeps 1 = .ok (.istore_n 2, 1) := by decide +kernel
theorem dX12_keeps_2 : decode cX12_keeps 2 = .ok (.iload_n 2, 1) := by decide +kernel
theorem dX12_keeps_3 : decode cX12_keeps 3 = .ok (.sipush 861, 3) := by decide +kernel
theorem dX12_keeps_6 : decode cX12_keeps 6 = .ok (.if_icmp .ge 31, 3) := by decide +kernel
theorem dX12_keeps_9 : decode cX12_keeps 9 = .ok (.aload_n 0, 1) := by decide +kernel
theorem dX12_keeps_10 : decode cX12_keeps 10 = .ok (.getfield 13, 3) := by decide +kernel
theorem dX12_keeps_13 : decode cX12_keeps 13 = .ok (.iload_n 1, 1) := by decide +kernel
theorem dX12_keeps_14 : decode cX12_keeps 14 = .ok (.invokestatic 117, 3) := by decide +kernel
theorem dX12_keeps_17 : decode cX12_keeps 17 = .ok (.iload_n 2, 1) := by decide +kernel
theorem dX12_keeps_18 : decode cX12_keeps 18 = .ok (.iadd, 1) := by decide +kernel
theorem dX12_keeps_19 : decode cX12_keeps 19 = .ok (.aload_n 0, 1) := by decide +kernel
theorem dX12_keeps_20 : decode cX12_keeps 20 = .ok (.getfield 13, 3) := by decide +kernel
theorem dX12_keeps_23 : decode cX12_keeps 23 = .ok (.iconst 5, 1) := by decide +kernel
theorem dX12_keeps_24 : decode cX12_keeps 24 = .ok (.invokestatic 117, 3) := by decide +kernel
theorem dX12_keeps_27 : decode cX12_keeps 27 = .ok (.iload_n 2, 1) := by decide +kernel
theorem dX12_keeps_28 : decode cX12_keeps 28 = .ok (.iadd, 1) := by decide +kernel
theorem dX12_keeps_29 : decode cX12_keeps 29 = .ok (.iaload, 1) := by decide +kernel
theorem dX12_keeps_30 : decode cX12_keeps 30 = .ok (.iastore, 1) := by decide +kernel
theorem dX12_keeps_31 : decode cX12_keeps 31 = .ok (.iinc 2 1, 3) := by decide +kernel
theorem dX12_keeps_34 : decode cX12_keeps 34 = .ok (.goto (-32), 3) := by decide +kernel
theorem dX12_keeps_37 : decode cX12_keeps 37 = .ok (.return_, 1) := by decide +kernel
theorem dX12_goals_0 : decode cX12_goals 0 = .ok (.aload_n 0, 1) := by decide +kernel
theorem dX12_goals_1 : decode cX12_goals 1 = .ok (.aload_n 0, 1) := by decide +kernel
theorem dX12_goals_2 : decode cX12_goals 2 = .ok (.iconst 1, 1) := by decide +kernel
theorem dX12_goals_3 : decode cX12_goals 3 = .ok (.invokevirtual 234, 3) := by decide +kernel
theorem dX12_goals_6 : decode cX12_goals 6 = .ok (.ifCond .ne 7, 3) := by decide +kernel
theorem dX12_goals_9 : decode cX12_goals 9 = .ok (.iconst 1, 1) := by decide +kernel
theorem dX12_goals_10 : decode cX12_goals 10 = .ok (.goto 4, 3) := by decide +kernel
theorem dX12_goals_13 : decode cX12_goals 13 = .ok (.iconst 0, 1) := by decide +kernel
theorem dX12_goals_14 : decode cX12_goals 14 = .ok (.iconst 1, 1) := by decide +kernel
theorem dX12_goals_15 : decode cX12_goals 15 = .ok (.invokevirtual 237, 3) := by decide +kernel
theorem dX12_goals_18 : decode cX12_goals 18 = .ok (.ifCond .eq 5, 3) := by decide +kernel
theorem dX12_goals_21 : decode cX12_goals 21 = .ok (.iconst 0, 1) := by decide +kernel
theorem dX12_goals_22 : decode cX12_goals 22 = .ok (.ireturn, 1) := by decide +kernel
theorem dX12_goals_23 : decode cX12_goals 23 = .ok (.aload_n 0, 1) := by decide +kernel
theorem dX12_goals_24 : decode cX12_goals 24 = .ok (.iconst 4, 1) := by decide +kernel
theorem dX12_goals_25 : decode cX12_goals 25 = .ok (.invokevirtual 241, 3) := by decide +kernel
theorem dX12_goals_28 : decode cX12_goals 28 = .ok (.aload_n 0, 1) := by decide +kernel
theorem dX12_goals_29 : decode cX12_goals 29 = .ok (.getfield 13, 3) := by decide +kernel
theorem dX12_goals_32 : decode cX12_goals 32 = .ok (.iconst 3, 1) := by decide +kernel
theorem dX12_goals_33 : decode cX12_goals 33 = .ok (.iconst 1, 1) := by decide +kernel
theorem dX12_goals_34 : decode cX12_goals 34 = .ok (.iastore, 1) := by decide +kernel
theorem dX12_goals_35 : decode cX12_goals 35 = .ok (.aload_n 0, 1) := by decide +kernel
theorem dX12_goals_36 : decode cX12_goals 36 = .ok (.getfield 13, 3) := by decide +kernel
theorem dX12_goals_39 : decode cX12_goals 39 = .ok (.iconst 4, 1) := by decide +kernel
theorem dX12_goals_40 : decode cX12_goals 40 = .ok (.invokestatic 117, 3) := by decide +kernel
theorem dX12_goals_43 : decode cX12_goals 43 = .ok (.iaload, 1) := by decide +kernel
theorem dX12_goals_44 : decode cX12_goals 44 = .ok (.ireturn, 1) := by decide +kernel
theorem dX12_rule_0 : decode cX12_rule 0 = .ok (.aload_n 0, 1) := by decide +kernel
theorem dX12_rule_1 : decode cX12_rule 1 = .ok (.aload_n 0, 1) := by decide +kernel
theorem dX12_rule_2 : decode cX12_rule 2 = .ok (.iconst 2, 1) := by decide +kernel
theorem dX12_rule_3 : decode cX12_rule 3 = .ok (.invokevirtual 234, 3) := by decide +kernel
theorem dX12_rule_6 : decode cX12_rule 6 = .ok (.ifCond .ne 7, 3) := by decide +kernel
theorem dX12_rule_9 : decode cX12_rule 9 = .ok (.iconst 1, 1) := by decide +kernel
theorem dX12_rule_10 : decode cX12_rule 10 = .ok (.goto 4, 3) := by decide +kernel
theorem dX12_rule_13 : decode cX12_rule 13 = .ok (.iconst 0, 1) := by decide +kernel
theorem dX12_rule_14 : decode cX12_rule 14 = .ok (.iconst 1, 1) := by decide +kernel
theorem dX12_rule_15 : decode cX12_rule 15 = .ok (.invokevirtual 237, 3) := by decide +kernel
theorem dX12_rule_18 : decode cX12_rule 18 = .ok (.ifCond .ne 26, 3) := by decide +kernel
theorem dX12_rule_21 : decode cX12_rule 21 = .ok (.aload_n 0, 1) := by decide +kernel
theorem dX12_rule_22 : decode cX12_rule 22 = .ok (.aload_n 0, 1) := by decide +kernel
theorem dX12_rule_23 : decode cX12_rule 23 = .ok (.getfield 13, 3) := by decide +kernel
theorem dX12_rule_26 : decode cX12_rule 26 = .ok (.iconst 1, 1) := by decide +kernel
theorem dX12_rule_27 : decode cX12_rule 27 = .ok (.iaload, 1) := by decide +kernel
theorem dX12_rule_28 : decode cX12_rule 28 = .ok (.iconst 4, 1) := by decide +kernel
theorem dX12_rule_29 : decode cX12_rule 29 = .ok (.if_icmp .ne 7, 3) := by decide +kernel
theorem dX12_rule_32 : decode cX12_rule 32 = .ok (.iconst 1, 1) := by decide +kernel
theorem dX12_rule_33 : decode cX12_rule 33 = .ok (.goto 4, 3) := by decide +kernel
theorem dX12_rule_36 : decode cX12_rule 36 = .ok (.iconst 0, 1) := by decide +kernel
theorem dX12_rule_37 : decode cX12_rule 37 = .ok (.iconst 2, 1) := by decide +kernel
theorem dX12_rule_38 : decode cX12_rule 38 = .ok (.invokevirtual 237, 3) := by decide +kernel
theorem dX12_rule_41 : decode cX12_rule 41 = .ok (.ifCond .eq 5, 3) := by decide +kernel
theorem dX12_rule_44 : decode cX12_rule 44 = .ok (.iconst 0, 1) := by decide +kernel
theorem dX12_rule_45 : decode cX12_rule 45 = .ok (.ireturn, 1) := by decide +kernel
theorem dX12_rule_46 : decode cX12_rule 46 = .ok (.aload_n 0, 1) := by decide +kernel
theorem dX12_rule_47 : decode cX12_rule 47 = .ok (.aload_n 0, 1) := by decide +kernel
theorem dX12_rule_48 : decode cX12_rule 48 = .ok (.getfield 13, 3) := by decide +kernel
theorem dX12_rule_51 : decode cX12_rule 51 = .ok (.iconst 1, 1) := by decide +kernel
theorem dX12_rule_52 : decode cX12_rule 52 = .ok (.iaload, 1) := by decide +kernel
theorem dX12_rule_53 : decode cX12_rule 53 = .ok (.invokevirtual 241, 3) := by decide +kernel
theorem dX12_rule_56 : decode cX12_rule 56 = .ok (.aload_n 0, 1) := by decide +kernel
theorem dX12_rule_57 : decode cX12_rule 57 = .ok (.getfield 13, 3) := by decide +kernel
theorem dX12_rule_60 : decode cX12_rule 60 = .ok (.iconst 1, 1) := by decide +kernel
theorem dX12_rule_61 : decode cX12_rule 61 = .ok (.dup2, 1) := by decide +kernel
theorem dX12_rule_62 : decode cX12_rule 62 = .ok (.iaload, 1) := by decide +kernel
theorem dX12_rule_63 : decode cX12_rule 63 = .ok (.iconst 1, 1) := by decide +kernel
theorem dX12_rule_64 : decode cX12_rule 64 = .ok (.iadd, 1) := by decide +kernel
theorem dX12_rule_65 : decode cX12_rule 65 = .ok (.iastore, 1) := by decide +kernel
theorem dX12_rule_66 : decode cX12_rule 66 = .ok (.iconst 5, 1) := by decide +kernel
theorem dX12_rule_67 : decode cX12_rule 67 = .ok (.aload_n 0, 1) := by decide +kernel
theorem dX12_rule_68 : decode cX12_rule 68 = .ok (.getfield 13, 3) := by decide +kernel
theorem dX12_rule_71 : decode cX12_rule 71 = .ok (.iconst 1, 1) := by decide +kernel
theorem dX12_rule_72 : decode cX12_rule 72 = .ok (.iaload, 1) := by decide +kernel
theorem dX12_rule_73 : decode cX12_rule 73 = .ok (.iadd, 1) := by decide +kernel
theorem dX12_rule_74 : decode cX12_rule 74 = .ok (.iconst 1, 1) := by decide +kernel
theorem dX12_rule_75 : decode cX12_rule 75 = .ok (.isub, 1) := by decide +kernel
theorem dX12_rule_76 : decode cX12_rule 76 = .ok (.ireturn, 1) := by decide +kernel
theorem dX12_lines_0 : decode cX12_lines 0 = .ok (.aload_n 0, 1) := by decide +kernel
theorem dX12_lines_1 : decode cX12_lines 1 = .ok (.getfield 13, 3) := by decide +kernel
theorem dX12_lines_4 : decode cX12_lines 4 = .ok (.iload_n 1, 1) := by decide +kernel
theorem dX12_lines_5 : decode cX12_lines 5 = .ok (.invokestatic 117, 3) := by decide +kernel
theorem dX12_lines_8 : decode cX12_lines 8 = .ok (.iaload, 1) := by decide +kernel
theorem dX12_lines_9 : decode cX12_lines 9 = .ok (.ireturn, 1) := by decide +kernel
theorem dX12_holdsLine_0 : decode cX12_holdsLine 0 = .ok (.iconst 0, 1) := by decide +kernel
theorem dX12_holdsLine_1 : decode cX12_holdsLine 1 = .ok (.istore_n 3, 1) := by decide +kernel
theorem dX12_holdsLine_2 : decode cX12_holdsLine 2 = .ok (.iload_n 1, 1) := by decide +kernel
theorem dX12_holdsLine_3 : decode cX12_holdsLine 3 = .ok (.iload_n 2, 1) := by decide +kernel
theorem dX12_holdsLine_4 : decode cX12_holdsLine 4 = .ok (.invokestatic 218, 3) := by decide +kernel
theorem dX12_holdsLine_7 : decode cX12_holdsLine 7 = .ok (.istore 4, 2) := by decide +kernel
theorem dX12_holdsLine_9 : decode cX12_holdsLine 9 = .ok (.aload_n 0, 1) := by decide +kernel
theorem dX12_holdsLine_10 : decode cX12_holdsLine 10 = .ok (.getfield 13, 3) := by decide +kernel
theorem dX12_holdsLine_13 : decode cX12_holdsLine 13 = .ok (.iload 4, 2) := by decide +kernel
theorem dX12_holdsLine_15 : decode cX12_holdsLine 15 = .ok (.iconst 3, 1) := by decide +kernel
theorem dX12_holdsLine_16 : decode cX12_holdsLine 16 = .ok (.iadd, 1) := by decide +kernel
theorem dX12_holdsLine_17 : decode cX12_holdsLine 17 = .ok (.iaload, 1) := by decide +kernel
theorem dX12_holdsLine_18 : decode cX12_holdsLine 18 = .ok (.istore 5, 2) := by decide +kernel
theorem dX12_holdsLine_20 : decode cX12_holdsLine 20 = .ok (.iload 5, 2) := by decide +kernel
theorem dX12_holdsLine_22 : decode cX12_holdsLine 22 = .ok (.aload_n 0, 1) := by decide +kernel
theorem dX12_holdsLine_23 : decode cX12_holdsLine 23 = .ok (.getfield 13, 3) := by decide +kernel
theorem dX12_holdsLine_26 : decode cX12_holdsLine 26 = .ok (.iload 4, 2) := by decide +kernel
theorem dX12_holdsLine_28 : decode cX12_holdsLine 28 = .ok (.iconst 4, 1) := by decide +kernel
theorem dX12_holdsLine_29 : decode cX12_holdsLine 29 = .ok (.iadd, 1) := by decide +kernel
theorem dX12_holdsLine_30 : decode cX12_holdsLine 30 = .ok (.iaload, 1) := by decide +kernel
theorem dX12_holdsLine_31 : decode cX12_holdsLine 31 = .ok (.if_icmp .ge 248, 3) := by decide +kernel
theorem dX12_holdsLine_34 : decode cX12_holdsLine 34 = .ok (.aload_n 0, 1) := by decide +kernel
theorem dX12_holdsLine_35 : decode cX12_holdsLine 35 = .ok (.getfield 13, 3) := by decide +kernel
theorem dX12_holdsLine_38 : decode cX12_holdsLine 38 = .ok (.iload_n 1, 1) := by decide +kernel
theorem dX12_holdsLine_39 : decode cX12_holdsLine 39 = .ok (.invokestatic 117, 3) := by decide +kernel
theorem dX12_holdsLine_42 : decode cX12_holdsLine 42 = .ok (.bipush 61, 2) := by decide +kernel
theorem dX12_holdsLine_44 : decode cX12_holdsLine 44 = .ok (.iadd, 1) := by decide +kernel
theorem dX12_holdsLine_45 : decode cX12_holdsLine 45 = .ok (.iconst 2, 1) := by decide +kernel
theorem dX12_holdsLine_46 : decode cX12_holdsLine 46 = .ok (.iload 5, 2) := by decide +kernel
theorem dX12_holdsLine_48 : decode cX12_holdsLine 48 = .ok (.imul, 1) := by decide +kernel
theorem dX12_holdsLine_49 : decode cX12_holdsLine 49 = .ok (.iadd, 1) := by decide +kernel
theorem dX12_holdsLine_50 : decode cX12_holdsLine 50 = .ok (.iaload, 1) := by decide +kernel
theorem dX12_holdsLine_51 : decode cX12_holdsLine 51 = .ok (.istore 6, 2) := by decide +kernel
theorem dX12_holdsLine_53 : decode cX12_holdsLine 53 = .ok (.iload 6, 2) := by decide +kernel
theorem dX12_holdsLine_55 : decode cX12_holdsLine 55 = .ok (.bipush 8, 2) := by decide +kernel
theorem dX12_holdsLine_57 : decode cX12_holdsLine 57 = .ok (.if_icmp .gt 51, 3) := by decide +kernel
theorem dX12_holdsLine_60 : decode cX12_holdsLine 60 = .ok (.aload_n 0, 1) := by decide +kernel
theorem dX12_holdsLine_61 : decode cX12_holdsLine 61 = .ok (.getfield 39, 3) := by decide +kernel
theorem dX12_holdsLine_64 : decode cX12_holdsLine 64 = .ok (.iload_n 3, 1) := by decide +kernel
theorem dX12_holdsLine_65 : decode cX12_holdsLine 65 = .ok (.iload 6, 2) := by decide +kernel
theorem dX12_holdsLine_67 : decode cX12_holdsLine 67 = .ok (.bipush 8, 2) := by decide +kernel
theorem dX12_holdsLine_69 : decode cX12_holdsLine 69 = .ok (.if_icmp .ne 25, 3) := by decide +kernel
theorem dX12_holdsLine_72 : decode cX12_holdsLine 72 = .ok (.aload_n 0, 1) := by decide +kernel
theorem dX12_holdsLine_73 : decode cX12_holdsLine 73 = .ok (.getfield 13, 3) := by decide +kernel
theorem dX12_holdsLine_76 : decode cX12_holdsLine 76 = .ok (.iload_n 1, 1) := by decide +kernel
theorem dX12_holdsLine_77 : decode cX12_holdsLine 77 = .ok (.invokestatic 117, 3) := by decide +kernel
theorem dX12_holdsLine_80 : decode cX12_holdsLine 80 = .ok (.bipush 61, 2) := by decide +kernel
theorem dX12_holdsLine_82 : decode cX12_holdsLine 82 = .ok (.iadd, 1) := by decide +kernel
theorem dX12_holdsLine_83 : decode cX12_holdsLine 83 = .ok (.iconst 2, 1) := by decide +kernel
theorem dX12_holdsLine_84 : decode cX12_holdsLine 84 = .ok (.iload 5, 2) := by decide +kernel
theorem dX12_holdsLine_86 : decode cX12_holdsLine 86 = .ok (.imul, 1) := by decide +kernel
theorem dX12_holdsLine_87 : decode cX12_holdsLine 87 = .ok (.iadd, 1) := by decide +kernel
theorem dX12_holdsLine_88 : decode cX12_holdsLine 88 = .ok (.iconst 1, 1) := by decide +kernel
theorem dX12_holdsLine_89 : decode cX12_holdsLine 89 = .ok (.iadd, 1) := by decide +kernel
theorem dX12_holdsLine_90 : decode cX12_holdsLine 90 = .ok (.iaload, 1) := by decide +kernel
theorem dX12_holdsLine_91 : decode cX12_holdsLine 91 = .ok (.goto 10, 3) := by decide +kernel
theorem dX12_holdsLine_94 : decode cX12_holdsLine 94 = .ok (.aload_n 0, 1) := by decide +kernel
theorem dX12_holdsLine_95 : decode cX12_holdsLine 95 = .ok (.getfield 36, 3) := by decide +kernel
theorem dX12_holdsLine_98 : decode cX12_holdsLine 98 = .ok (.iload 6, 2) := by decide +kernel
theorem dX12_holdsLine_100 : decode cX12_holdsLine 100 = .ok (.iaload, 1) := by decide +kernel
theorem dX12_holdsLine_101 : decode cX12_holdsLine 101 = .ok (.iastore, 1) := by decide +kernel
theorem dX12_holdsLine_102 : decode cX12_holdsLine 102 = .ok (.iinc 3 1, 3) := by decide +kernel
theorem dX12_holdsLine_105 : decode cX12_holdsLine 105 = .ok (.goto 168, 3) := by decide +kernel
theorem dX12_holdsLine_108 : decode cX12_holdsLine 108 = .ok (.iload 6, 2) := by decide +kernel
theorem dX12_holdsLine_110 : decode cX12_holdsLine 110 = .ok (.bipush 12, 2) := by decide +kernel
theorem dX12_holdsLine_112 : decode cX12_holdsLine 112 = .ok (.if_icmp .ne 24, 3) := by decide +kernel
theorem dX12_holdsLine_115 : decode cX12_holdsLine 115 = .ok (.aload_n 0, 1) := by decide +kernel
theorem dX12_holdsLine_116 : decode cX12_holdsLine 116 = .ok (.getfield 39, 3) := by decide +kernel
theorem dX12_holdsLine_119 : decode cX12_holdsLine 119 = .ok (.iload_n 3, 1) := by decide +kernel
theorem dX12_holdsLine_120 : decode cX12_holdsLine 120 = .ok (.iconst 1, 1) := by decide +kernel
theorem dX12_holdsLine_121 : decode cX12_holdsLine 121 = .ok (.isub, 1) := by decide +kernel
theorem dX12_holdsLine_122 : decode cX12_holdsLine 122 = .ok (.iconst 1, 1) := by decide +kernel
theorem dX12_holdsLine_123 : decode cX12_holdsLine 123 = .ok (.aload_n 0, 1) := by decide +kernel
theorem dX12_holdsLine_124 : decode cX12_holdsLine 124 = .ok (.getfield 39, 3) := by decide +kernel
theorem dX12_holdsLine_127 : decode cX12_holdsLine 127 = .ok (.iload_n 3, 1) := by decide +kernel
theorem dX12_holdsLine_128 : decode cX12_holdsLine 128 = .ok (.iconst 1, 1) := by decide +kernel
theorem dX12_holdsLine_129 : decode cX12_holdsLine 129 = .ok (.isub, 1) := by decide +kernel
theorem dX12_holdsLine_130 : decode cX12_holdsLine 130 = .ok (.iaload, 1) := by decide +kernel
theorem dX12_holdsLine_131 : decode cX12_holdsLine 131 = .ok (.isub, 1) := by decide +kernel
theorem dX12_holdsLine_132 : decode cX12_holdsLine 132 = .ok (.iastore, 1) := by decide +kernel
theorem dX12_holdsLine_133 : decode cX12_holdsLine 133 = .ok (.goto 140, 3) := by decide +kernel
theorem dX12_holdsLine_136 : decode cX12_holdsLine 136 = .ok (.iinc 3 (-1), 3) := by decide +kernel
theorem dX12_holdsLine_139 : decode cX12_holdsLine 139 = .ok (.aload_n 0, 1) := by decide +kernel
theorem dX12_holdsLine_140 : decode cX12_holdsLine 140 = .ok (.getfield 39, 3) := by decide +kernel
theorem dX12_holdsLine_143 : decode cX12_holdsLine 143 = .ok (.iload_n 3, 1) := by decide +kernel
theorem dX12_holdsLine_144 : decode cX12_holdsLine 144 = .ok (.iconst 1, 1) := by decide +kernel
theorem dX12_holdsLine_145 : decode cX12_holdsLine 145 = .ok (.isub, 1) := by decide +kernel
theorem dX12_holdsLine_146 : decode cX12_holdsLine 146 = .ok (.iaload, 1) := by decide +kernel
theorem dX12_holdsLine_147 : decode cX12_holdsLine 147 = .ok (.istore 7, 2) := by decide +kernel
theorem dX12_holdsLine_149 : decode cX12_holdsLine 149 = .ok (.aload_n 0, 1) := by decide +kernel
theorem dX12_holdsLine_150 : decode cX12_holdsLine 150 = .ok (.getfield 39, 3) := by decide +kernel
theorem dX12_holdsLine_153 : decode cX12_holdsLine 153 = .ok (.iload_n 3, 1) := by decide +kernel
theorem dX12_holdsLine_154 : decode cX12_holdsLine 154 = .ok (.iaload, 1) := by decide +kernel
theorem dX12_holdsLine_155 : decode cX12_holdsLine 155 = .ok (.istore 8, 2) := by decide +kernel
theorem dX12_holdsLine_157 : decode cX12_holdsLine 157 = .ok (.iload 6, 2) := by decide +kernel
theorem dX12_holdsLine_159 : decode cX12_holdsLine 159 = .ok (.bipush 10, 2) := by decide +kernel
theorem dX12_holdsLine_161 : decode cX12_holdsLine 161 = .ok (.if_icmp .ne 18, 3) := by decide +kernel
theorem dX12_holdsLine_164 : decode cX12_holdsLine 164 = .ok (.iload 7, 2) := by decide +kernel
theorem dX12_holdsLine_166 : decode cX12_holdsLine 166 = .ok (.iload 8, 2) := by decide +kernel
theorem dX12_holdsLine_168 : decode cX12_holdsLine 168 = .ok (.if_icmp .ge 7, 3) := by decide +kernel
theorem dX12_holdsLine_171 : decode cX12_holdsLine 171 = .ok (.iconst 1, 1) := by decide +kernel
theorem dX12_holdsLine_172 : decode cX12_holdsLine 172 = .ok (.goto 66, 3) := by decide +kernel
theorem dX12_holdsLine_175 : decode cX12_holdsLine 175 = .ok (.iconst 0, 1) := by decide +kernel
theorem dX12_holdsLine_176 : decode cX12_holdsLine 176 = .ok (.goto 62, 3) := by decide +kernel
theorem dX12_holdsLine_179 : decode cX12_holdsLine 179 = .ok (.iload 6, 2) := by decide +kernel
theorem dX12_holdsLine_181 : decode cX12_holdsLine 181 = .ok (.bipush 11, 2) := by decide +kernel
theorem dX12_holdsLine_183 : decode cX12_holdsLine 183 = .ok (.if_icmp .ne 18, 3) := by decide +kernel
theorem dX12_holdsLine_186 : decode cX12_holdsLine 186 = .ok (.iload 7, 2) := by decide +kernel
theorem dX12_holdsLine_188 : decode cX12_holdsLine 188 = .ok (.iload 8, 2) := by decide +kernel
theorem dX12_holdsLine_190 : decode cX12_holdsLine 190 = .ok (.if_icmp .le 7, 3) := by decide +kernel
theorem dX12_holdsLine_193 : decode cX12_holdsLine 193 = .ok (.iconst 1, 1) := by decide +kernel
theorem dX12_holdsLine_194 : decode cX12_holdsLine 194 = .ok (.goto 44, 3) := by decide +kernel
theorem dX12_holdsLine_197 : decode cX12_holdsLine 197 = .ok (.iconst 0, 1) := by decide +kernel
theorem dX12_holdsLine_198 : decode cX12_holdsLine 198 = .ok (.goto 40, 3) := by decide +kernel
theorem dX12_holdsLine_201 : decode cX12_holdsLine 201 = .ok (.iload 6, 2) := by decide +kernel
theorem dX12_holdsLine_203 : decode cX12_holdsLine 203 = .ok (.bipush 13, 2) := by decide +kernel
theorem dX12_holdsLine_205 : decode cX12_holdsLine 205 = .ok (.if_icmp .ne 20, 3) := by decide +kernel
theorem dX12_holdsLine_208 : decode cX12_holdsLine 208 = .ok (.iload 7, 2) := by decide +kernel
theorem dX12_holdsLine_210 : decode cX12_holdsLine 210 = .ok (.iload 8, 2) := by decide +kernel
theorem dX12_holdsLine_212 : decode cX12_holdsLine 212 = .ok (.iadd, 1) := by decide +kernel
theorem dX12_holdsLine_213 : decode cX12_holdsLine 213 = .ok (.iconst 2, 1) := by decide +kernel
theorem dX12_holdsLine_214 : decode cX12_holdsLine 214 = .ok (.if_icmp .ne 7, 3) := by decide +kernel
theorem dX12_holdsLine_217 : decode cX12_holdsLine 217 = .ok (.iconst 1, 1) := by decide +kernel
theorem dX12_holdsLine_218 : decode cX12_holdsLine 218 = .ok (.goto 20, 3) := by decide +kernel
theorem dX12_holdsLine_221 : decode cX12_holdsLine 221 = .ok (.iconst 0, 1) := by decide +kernel
theorem dX12_holdsLine_222 : decode cX12_holdsLine 222 = .ok (.goto 16, 3) := by decide +kernel
theorem dX12_holdsLine_225 : decode cX12_holdsLine 225 = .ok (.iload 7, 2) := by decide +kernel
theorem dX12_holdsLine_227 : decode cX12_holdsLine 227 = .ok (.iload 8, 2) := by decide +kernel
theorem dX12_holdsLine_229 : decode cX12_holdsLine 229 = .ok (.iadd, 1) := by decide +kernel
theorem dX12_holdsLine_230 : decode cX12_holdsLine 230 = .ok (.ifCond .le 7, 3) := by decide +kernel
theorem dX12_holdsLine_233 : decode cX12_holdsLine 233 = .ok (.iconst 1, 1) := by decide +kernel
theorem dX12_holdsLine_234 : decode cX12_holdsLine 234 = .ok (.goto 4, 3) := by decide +kernel
theorem dX12_holdsLine_237 : decode cX12_holdsLine 237 = .ok (.iconst 0, 1) := by decide +kernel
theorem dX12_holdsLine_238 : decode cX12_holdsLine 238 = .ok (.istore 9, 2) := by decide +kernel
theorem dX12_holdsLine_240 : decode cX12_holdsLine 240 = .ok (.aload_n 0, 1) := by decide +kernel
theorem dX12_holdsLine_241 : decode cX12_holdsLine 241 = .ok (.getfield 39, 3) := by decide +kernel
theorem dX12_holdsLine_244 : decode cX12_holdsLine 244 = .ok (.iload_n 3, 1) := by decide +kernel
theorem dX12_holdsLine_245 : decode cX12_holdsLine 245 = .ok (.iconst 1, 1) := by decide +kernel
theorem dX12_holdsLine_246 : decode cX12_holdsLine 246 = .ok (.isub, 1) := by decide +kernel
theorem dX12_holdsLine_247 : decode cX12_holdsLine 247 = .ok (.iload 6, 2) := by decide +kernel
theorem dX12_holdsLine_249 : decode cX12_holdsLine 249 = .ok (.bipush 9, 2) := by decide +kernel
theorem dX12_holdsLine_251 : decode cX12_holdsLine 251 = .ok (.if_icmp .ne 11, 3) := by decide +kernel
theorem dX12_holdsLine_254 : decode cX12_holdsLine 254 = .ok (.iload 7, 2) := by decide +kernel
theorem dX12_holdsLine_256 : decode cX12_holdsLine 256 = .ok (.iload 8, 2) := by decide +kernel
theorem dX12_holdsLine_258 : decode cX12_holdsLine 258 = .ok (.iadd, 1) := by decide +kernel
theorem dX12_holdsLine_259 : decode cX12_holdsLine 259 = .ok (.goto 13, 3) := by decide +kernel
theorem dX12_holdsLine_262 : decode cX12_holdsLine 262 = .ok (.iload 9, 2) := by decide +kernel
theorem dX12_holdsLine_264 : decode cX12_holdsLine 264 = .ok (.ifCond .eq 7, 3) := by decide +kernel
theorem dX12_holdsLine_267 : decode cX12_holdsLine 267 = .ok (.iconst 1, 1) := by decide +kernel
theorem dX12_holdsLine_268 : decode cX12_holdsLine 268 = .ok (.goto 4, 3) := by decide +kernel
theorem dX12_holdsLine_271 : decode cX12_holdsLine 271 = .ok (.iconst 0, 1) := by decide +kernel
theorem dX12_holdsLine_272 : decode cX12_holdsLine 272 = .ok (.iastore, 1) := by decide +kernel
theorem dX12_holdsLine_273 : decode cX12_holdsLine 273 = .ok (.iinc 5 1, 3) := by decide +kernel
theorem dX12_holdsLine_276 : decode cX12_holdsLine 276 = .ok (.goto (-256), 3) := by decide +kernel
theorem dX12_holdsLine_279 : decode cX12_holdsLine 279 = .ok (.iload_n 3, 1) := by decide +kernel
theorem dX12_holdsLine_280 : decode cX12_holdsLine 280 = .ok (.ifCond .eq 13, 3) := by decide +kernel
theorem dX12_holdsLine_283 : decode cX12_holdsLine 283 = .ok (.aload_n 0, 1) := by decide +kernel
theorem dX12_holdsLine_284 : decode cX12_holdsLine 284 = .ok (.getfield 39, 3) := by decide +kernel
theorem dX12_holdsLine_287 : decode cX12_holdsLine 287 = .ok (.iconst 0, 1) := by decide +kernel
theorem dX12_holdsLine_288 : decode cX12_holdsLine 288 = .ok (.iaload, 1) := by decide +kernel
theorem dX12_holdsLine_289 : decode cX12_holdsLine 289 = .ok (.iconst 1, 1) := by decide +kernel
theorem dX12_holdsLine_290 : decode cX12_holdsLine 290 = .ok (.if_icmp .ne 7, 3) := by decide +kernel
theorem dX12_holdsLine_293 : decode cX12_holdsLine 293 = .ok (.iconst 1, 1) := by decide +kernel
theorem dX12_holdsLine_294 : decode cX12_holdsLine 294 = .ok (.goto 4, 3) := by decide +kernel
theorem dX12_holdsLine_297 : decode cX12_holdsLine 297 = .ok (.iconst 0, 1) := by decide +kernel
theorem dX12_holdsLine_298 : decode cX12_holdsLine 298 = .ok (.ireturn, 1) := by decide +kernel
theorem dX12_follows_0 : decode cX12_follows 0 = .ok (.aload_n 0, 1) := by decide +kernel
theorem dX12_follows_1 : decode cX12_follows 1 = .ok (.iconst 0, 1) := by decide +kernel
theorem dX12_follows_2 : decode cX12_follows 2 = .ok (.putfield 3, 3) := by decide +kernel
theorem dX12_follows_5 : decode cX12_follows 5 = .ok (.aload_n 0, 1) := by decide +kernel
theorem dX12_follows_6 : decode cX12_follows 6 = .ok (.iload_n 1, 1) := by decide +kernel
theorem dX12_follows_7 : decode cX12_follows 7 = .ok (.invokestatic 245, 3) := by decide +kernel
theorem dX12_follows_10 : decode cX12_follows 10 = .ok (.iconst 1, 1) := by decide +kernel
theorem dX12_follows_11 : decode cX12_follows 11 = .ok (.invokevirtual 237, 3) := by decide +kernel
theorem dX12_follows_14 : decode cX12_follows 14 = .ok (.ifCond .ne 26, 3) := by decide +kernel
theorem dX12_follows_17 : decode cX12_follows 17 = .ok (.aload_n 0, 1) := by decide +kernel
theorem dX12_follows_18 : decode cX12_follows 18 = .ok (.iload_n 2, 1) := by decide +kernel
theorem dX12_follows_19 : decode cX12_follows 19 = .ok (.iconst 0, 1) := by decide +kernel
theorem dX12_follows_20 : decode cX12_follows 20 = .ok (.bipush 34, 2) := by decide +kernel
theorem dX12_follows_22 : decode cX12_follows 22 = .ok (.invokestatic 77, 3) := by decide +kernel
theorem dX12_follows_25 : decode cX12_follows 25 = .ok (.ifCond .ne 7, 3) := by decide +kernel
theorem dX12_follows_28 : decode cX12_follows 28 = .ok (.iconst 1, 1) := by decide +kernel
theorem dX12_follows_29 : decode cX12_follows 29 = .ok (.goto 4, 3) := by decide +kernel
theorem dX12_follows_32 : decode cX12_follows 32 = .ok (.iconst 0, 1) := by decide +kernel
theorem dX12_follows_33 : decode cX12_follows 33 = .ok (.iconst 2, 1) := by decide +kernel
theorem dX12_follows_34 : decode cX12_follows 34 = .ok (.invokevirtual 237, 3) := by decide +kernel
theorem dX12_follows_37 : decode cX12_follows 37 = .ok (.ifCond .eq 5, 3) := by decide +kernel
theorem dX12_follows_40 : decode cX12_follows 40 = .ok (.iconst 0, 1) := by decide +kernel
theorem dX12_follows_41 : decode cX12_follows 41 = .ok (.ireturn, 1) := by decide +kernel
theorem dX12_follows_42 : decode cX12_follows 42 = .ok (.iload_n 2, 1) := by decide +kernel
theorem dX12_follows_43 : decode cX12_follows 43 = .ok (.bipush 34, 2) := by decide +kernel
theorem dX12_follows_45 : decode cX12_follows 45 = .ok (.if_icmp .ge 16, 3) := by decide +kernel
theorem dX12_follows_48 : decode cX12_follows 48 = .ok (.aload_n 0, 1) := by decide +kernel
theorem dX12_follows_49 : decode cX12_follows 49 = .ok (.getfield 13, 3) := by decide +kernel
theorem dX12_follows_52 : decode cX12_follows 52 = .ok (.iload_n 1, 1) := by decide +kernel
theorem dX12_follows_53 : decode cX12_follows 53 = .ok (.iload_n 2, 1) := by decide +kernel
theorem dX12_follows_54 : decode cX12_follows 54 = .ok (.invokestatic 248, 3) := by decide +kernel
theorem dX12_follows_57 : decode cX12_follows 57 = .ok (.iaload, 1) := by decide +kernel
theorem dX12_follows_58 : decode cX12_follows 58 = .ok (.goto 8, 3) := by decide +kernel
theorem dX12_follows_61 : decode cX12_follows 61 = .ok (.aload_n 0, 1) := by decide +kernel
theorem dX12_follows_62 : decode cX12_follows 62 = .ok (.iload_n 1, 1) := by decide +kernel
theorem dX12_follows_63 : decode cX12_follows 63 = .ok (.invokevirtual 251, 3) := by decide +kernel
theorem dX12_follows_66 : decode cX12_follows 66 = .ok (.ireturn, 1) := by decide +kernel
theorem dX12_staying_0 : decode cX12_staying 0 = .ok (.bipush 100, 2) := by decide +kernel
theorem dX12_staying_2 : decode cX12_staying 2 = .ok (.istore_n 2, 1) := by decide +kernel
theorem dX12_staying_3 : decode cX12_staying 3 = .ok (.iconst 0, 1) := by decide +kernel
theorem dX12_staying_4 : decode cX12_staying 4 = .ok (.istore_n 3, 1) := by decide +kernel
theorem dX12_staying_5 : decode cX12_staying 5 = .ok (.iload_n 3, 1) := by decide +kernel
theorem dX12_staying_6 : decode cX12_staying 6 = .ok (.bipush 34, 2) := by decide +kernel
theorem dX12_staying_8 : decode cX12_staying 8 = .ok (.if_icmp .ge 22, 3) := by decide +kernel
theorem dX12_staying_11 : decode cX12_staying 11 = .ok (.iload_n 2, 1) := by decide +kernel
theorem dX12_staying_12 : decode cX12_staying 12 = .ok (.aload_n 0, 1) := by decide +kernel
theorem dX12_staying_13 : decode cX12_staying 13 = .ok (.getfield 13, 3) := by decide +kernel
theorem dX12_staying_16 : decode cX12_staying 16 = .ok (.iload_n 1, 1) := by decide +kernel
theorem dX12_staying_17 : decode cX12_staying 17 = .ok (.iload_n 3, 1) := by decide +kernel
theorem dX12_staying_18 : decode cX12_staying 18 = .ok (.invokestatic 248, 3) := by decide +kernel
theorem dX12_staying_21 : decode cX12_staying 21 = .ok (.iaload, 1) := by decide +kernel
theorem dX12_staying_22 : decode cX12_staying 22 = .ok (.isub, 1) := by decide +kernel
theorem dX12_staying_23 : decode cX12_staying 23 = .ok (.istore_n 2, 1) := by decide +kernel
theorem dX12_staying_24 : decode cX12_staying 24 = .ok (.iinc 3 1, 3) := by decide +kernel
theorem dX12_staying_27 : decode cX12_staying 27 = .ok (.goto (-22), 3) := by decide +kernel
theorem dX12_staying_30 : decode cX12_staying 30 = .ok (.iload_n 2, 1) := by decide +kernel
theorem dX12_staying_31 : decode cX12_staying 31 = .ok (.ireturn, 1) := by decide +kernel
theorem dX12_kick_0 : decode cX12_kick 0 = .ok (.aload_n 0, 1) := by decide +kernel
theorem dX12_kick_1 : decode cX12_kick 1 = .ok (.iconst 0, 1) := by decide +kernel
theorem dX12_kick_2 : decode cX12_kick 2 = .ok (.putfield 3, 3) := by decide +kernel
theorem dX12_kick_5 : decode cX12_kick 5 = .ok (.aload_n 0, 1) := by decide +kernel
theorem dX12_kick_6 : decode cX12_kick 6 = .ok (.iload_n 1, 1) := by decide +kernel
theorem dX12_kick_7 : decode cX12_kick 7 = .ok (.invokestatic 254, 3) := by decide +kernel
theorem dX12_kick_10 : decode cX12_kick 10 = .ok (.iconst 1, 1) := by decide +kernel
theorem dX12_kick_11 : decode cX12_kick 11 = .ok (.invokevirtual 237, 3) := by decide +kernel
theorem dX12_kick_14 : decode cX12_kick 14 = .ok (.ifCond .eq 7, 3) := by decide +kernel
theorem dX12_kick_17 : decode cX12_kick 17 = .ok (.iconst 0, 1) := by decide +kernel
theorem dX12_kick_18 : decode cX12_kick 18 = .ok (.goto 12, 3) := by decide +kernel
theorem dX12_kick_21 : decode cX12_kick 21 = .ok (.aload_n 0, 1) := by decide +kernel
theorem dX12_kick_22 : decode cX12_kick 22 = .ok (.getfield 13, 3) := by decide +kernel
theorem dX12_kick_25 : decode cX12_kick 25 = .ok (.bipush 10, 2) := by decide +kernel
theorem dX12_kick_27 : decode cX12_kick 27 = .ok (.iload_n 1, 1) := by decide +kernel
theorem dX12_kick_28 : decode cX12_kick 28 = .ok (.iadd, 1) := by decide +kernel
theorem dX12_kick_29 : decode cX12_kick 29 = .ok (.iaload, 1) := by decide +kernel
theorem dX12_kick_30 : decode cX12_kick 30 = .ok (.ireturn, 1) := by decide +kernel
theorem dX12_now_0 : decode cX12_now 0 = .ok (.aload_n 0, 1) := by decide +kernel
theorem dX12_now_1 : decode cX12_now 1 = .ok (.iconst 0, 1) := by decide +kernel
theorem dX12_now_2 : decode cX12_now 2 = .ok (.putfield 3, 3) := by decide +kernel
theorem dX12_now_5 : decode cX12_now 5 = .ok (.aload_n 0, 1) := by decide +kernel
theorem dX12_now_6 : decode cX12_now 6 = .ok (.iload_n 1, 1) := by decide +kernel
theorem dX12_now_7 : decode cX12_now 7 = .ok (.iconst 0, 1) := by decide +kernel
theorem dX12_now_8 : decode cX12_now 8 = .ok (.bipush 90, 2) := by decide +kernel
theorem dX12_now_10 : decode cX12_now 10 = .ok (.invokestatic 77, 3) := by decide +kernel
theorem dX12_now_13 : decode cX12_now 13 = .ok (.ifCond .eq 14, 3) := by decide +kernel
theorem dX12_now_16 : decode cX12_now 16 = .ok (.iload_n 2, 1) := by decide +kernel
theorem dX12_now_17 : decode cX12_now 17 = .ok (.bipush (-9), 2) := by decide +kernel
theorem dX12_now_19 : decode cX12_now 19 = .ok (.bipush 9, 2) := by decide +kernel
theorem dX12_now_21 : decode cX12_now 21 = .ok (.invokestatic 77, 3) := by decide +kernel
theorem dX12_now_24 : decode cX12_now 24 = .ok (.ifCond .ne 7, 3) := by decide +kernel
theorem dX12_now_27 : decode cX12_now 27 = .ok (.iconst 1, 1) := by decide +kernel
theorem dX12_now_28 : decode cX12_now 28 = .ok (.goto 4, 3) := by decide +kernel
theorem dX12_now_31 : decode cX12_now 31 = .ok (.iconst 0, 1) := by decide +kernel
theorem dX12_now_32 : decode cX12_now 32 = .ok (.iconst 1, 1) := by decide +kernel
theorem dX12_now_33 : decode cX12_now 33 = .ok (.invokevirtual 237, 3) := by decide +kernel
theorem dX12_now_36 : decode cX12_now 36 = .ok (.ifCond .eq 4, 3) := by decide +kernel
theorem dX12_now_39 : decode cX12_now 39 = .ok (.return_, 1) := by decide +kernel
theorem dX12_now_40 : decode cX12_now 40 = .ok (.aload_n 0, 1) := by decide +kernel
theorem dX12_now_41 : decode cX12_now 41 = .ok (.getfield 13, 3) := by decide +kernel
theorem dX12_now_44 : decode cX12_now 44 = .ok (.bipush 6, 2) := by decide +kernel
theorem dX12_now_46 : decode cX12_now 46 = .ok (.iload_n 1, 1) := by decide +kernel
theorem dX12_now_47 : decode cX12_now 47 = .ok (.iastore, 1) := by decide +kernel
theorem dX12_now_48 : decode cX12_now 48 = .ok (.aload_n 0, 1) := by decide +kernel
theorem dX12_now_49 : decode cX12_now 49 = .ok (.getfield 13, 3) := by decide +kernel
theorem dX12_now_52 : decode cX12_now 52 = .ok (.bipush 7, 2) := by decide +kernel
theorem dX12_now_54 : decode cX12_now 54 = .ok (.iload_n 2, 1) := by decide +kernel
theorem dX12_now_55 : decode cX12_now 55 = .ok (.iastore, 1) := by decide +kernel
theorem dX12_now_56 : decode cX12_now 56 = .ok (.return_, 1) := by decide +kernel
theorem dX12_setsFacts_0 : decode cX12_setsFacts 0 = .ok (.aload_n 0, 1) := by decide +kernel
theorem dX12_setsFacts_1 : decode cX12_setsFacts 1 = .ok (.getfield 36, 3) := by decide +kernel
theorem dX12_setsFacts_4 : decode cX12_setsFacts 4 = .ok (.iconst 0, 1) := by decide +kernel
theorem dX12_setsFacts_5 : decode cX12_setsFacts 5 = .ok (.iload_n 1, 1) := by decide +kernel
theorem dX12_setsFacts_6 : decode cX12_setsFacts 6 = .ok (.iastore, 1) := by decide +kernel
theorem dX12_setsFacts_7 : decode cX12_setsFacts 7 = .ok (.aload_n 0, 1) := by decide +kernel
theorem dX12_setsFacts_8 : decode cX12_setsFacts 8 = .ok (.getfield 36, 3) := by decide +kernel
theorem dX12_setsFacts_11 : decode cX12_setsFacts 11 = .ok (.iconst 1, 1) := by decide +kernel
theorem dX12_setsFacts_12 : decode cX12_setsFacts 12 = .ok (.iconst 0, 1) := by decide +kernel
theorem dX12_setsFacts_13 : decode cX12_setsFacts 13 = .ok (.aload_n 0, 1) := by decide +kernel
theorem dX12_setsFacts_14 : decode cX12_setsFacts 14 = .ok (.getfield 13, 3) := by decide +kernel
theorem dX12_setsFacts_17 : decode cX12_setsFacts 17 = .ok (.bipush 7, 2) := by decide +kernel
theorem dX12_setsFacts_19 : decode cX12_setsFacts 19 = .ok (.iaload, 1) := by decide +kernel
theorem dX12_setsFacts_20 : decode cX12_setsFacts 20 = .ok (.invokestatic 257, 3) := by decide +kernel
theorem dX12_setsFacts_23 : decode cX12_setsFacts 23 = .ok (.iastore, 1) := by decide +kernel
theorem dX12_setsFacts_24 : decode cX12_setsFacts 24 = .ok (.aload_n 0, 1) := by decide +kernel
theorem dX12_setsFacts_25 : decode cX12_setsFacts 25 = .ok (.getfield 36, 3) := by decide +kernel
theorem dX12_setsFacts_28 : decode cX12_setsFacts 28 = .ok (.iconst 2, 1) := by decide +kernel
theorem dX12_setsFacts_29 : decode cX12_setsFacts 29 = .ok (.iconst 0, 1) := by decide +kernel
theorem dX12_setsFacts_30 : decode cX12_setsFacts 30 = .ok (.aload_n 0, 1) := by decide +kernel
theorem dX12_setsFacts_31 : decode cX12_setsFacts 31 = .ok (.getfield 13, 3) := by decide +kernel
theorem dX12_setsFacts_34 : decode cX12_setsFacts 34 = .ok (.bipush 7, 2) := by decide +kernel
theorem dX12_setsFacts_36 : decode cX12_setsFacts 36 = .ok (.iaload, 1) := by decide +kernel
theorem dX12_setsFacts_37 : decode cX12_setsFacts 37 = .ok (.ineg, 1) := by decide +kernel
theorem dX12_setsFacts_38 : decode cX12_setsFacts 38 = .ok (.invokestatic 257, 3) := by decide +kernel
theorem dX12_setsFacts_41 : decode cX12_setsFacts 41 = .ok (.iastore, 1) := by decide +kernel
theorem dX12_setsFacts_42 : decode cX12_setsFacts 42 = .ok (.return_, 1) := by decide +kernel
theorem dX12_goalIn_0 : decode cX12_goalIn 0 = .ok (.aload_n 0, 1) := by decide +kernel
theorem dX12_goalIn_1 : decode cX12_goalIn 1 = .ok (.getfield 13, 3) := by decide +kernel
theorem dX12_goalIn_4 : decode cX12_goalIn 4 = .ok (.iconst 3, 1) := by decide +kernel
theorem dX12_goalIn_5 : decode cX12_goalIn 5 = .ok (.iaload, 1) := by decide +kernel
theorem dX12_goalIn_6 : decode cX12_goalIn 6 = .ok (.ifCond .ne 7, 3) := by decide +kernel
theorem dX12_goalIn_9 : decode cX12_goalIn 9 = .ok (.sipush 10000, 3) := by decide +kernel
theorem dX12_goalIn_12 : decode cX12_goalIn 12 = .ok (.ireturn, 1) := by decide +kernel
theorem dX12_goalIn_13 : decode cX12_goalIn 13 = .ok (.aload_n 0, 1) := by decide +kernel
theorem dX12_goalIn_14 : decode cX12_goalIn 14 = .ok (.iload_n 1, 1) := by decide +kernel
theorem dX12_goalIn_15 : decode cX12_goalIn 15 = .ok (.invokevirtual 262, 3) := by decide +kernel
theorem dX12_goalIn_18 : decode cX12_goalIn 18 = .ok (.lconst 0, 1) := by decide +kernel
theorem dX12_goalIn_19 : decode cX12_goalIn 19 = .ok (.lstore_n 2, 1) := by decide +kernel
theorem dX12_goalIn_20 : decode cX12_goalIn 20 = .ok (.iconst 0, 1) := by decide +kernel
theorem dX12_goalIn_21 : decode cX12_goalIn 21 = .ok (.istore 4, 2) := by decide +kernel
theorem dX12_goalIn_23 : decode cX12_goalIn 23 = .ok (.iload 4, 2) := by decide +kernel
theorem dX12_goalIn_25 : decode cX12_goalIn 25 = .ok (.aload_n 0, 1) := by decide +kernel
theorem dX12_goalIn_26 : decode cX12_goalIn 26 = .ok (.iconst 4, 1) := by decide +kernel
theorem dX12_goalIn_27 : decode cX12_goalIn 27 = .ok (.invokevirtual 265, 3) := by decide +kernel
theorem dX12_goalIn_30 : decode cX12_goalIn 30 = .ok (.if_icmp .ge 95, 3) := by decide +kernel
theorem dX12_goalIn_33 : decode cX12_goalIn 33 = .ok (.aload_n 0, 1) := by decide +kernel
theorem dX12_goalIn_34 : decode cX12_goalIn 34 = .ok (.iconst 4, 1) := by decide +kernel
theorem dX12_goalIn_35 : decode cX12_goalIn 35 = .ok (.iload 4, 2) := by decide +kernel
theorem dX12_goalIn_37 : decode cX12_goalIn 37 = .ok (.invokevirtual 268, 3) := by decide +kernel
theorem dX12_goalIn_40 : decode cX12_goalIn 40 = .ok (.ifCond .ne 6, 3) := by decide +kernel
theorem dX12_goalIn_43 : decode cX12_goalIn 43 = .ok (.goto 76, 3) := by decide +kernel
theorem dX12_goalIn_46 : decode cX12_goalIn 46 = .ok (.iconst 4, 1) := by decide +kernel
theorem dX12_goalIn_47 : decode cX12_goalIn 47 = .ok (.iload 4, 2) := by decide +kernel
theorem dX12_goalIn_49 : decode cX12_goalIn 49 = .ok (.invokestatic 218, 3) := by decide +kernel
theorem dX12_goalIn_52 : decode cX12_goalIn 52 = .ok (.istore 5, 2) := by decide +kernel
theorem dX12_goalIn_54 : decode cX12_goalIn 54 = .ok (.aload_n 0, 1) := by decide +kernel
theorem dX12_goalIn_55 : decode cX12_goalIn 55 = .ok (.getfield 13, 3) := by decide +kernel
theorem dX12_goalIn_58 : decode cX12_goalIn 58 = .ok (.iload 5, 2) := by decide +kernel
theorem dX12_goalIn_60 : decode cX12_goalIn 60 = .ok (.iconst 1, 1) := by decide +kernel
theorem dX12_goalIn_61 : decode cX12_goalIn 61 = .ok (.iadd, 1) := by decide +kernel
theorem dX12_goalIn_62 : decode cX12_goalIn 62 = .ok (.iaload, 1) := by decide +kernel
theorem dX12_goalIn_63 : decode cX12_goalIn 63 = .ok (.i2l, 1) := by decide +kernel
theorem dX12_goalIn_64 : decode cX12_goalIn 64 = .ok (.aload_n 0, 1) := by decide +kernel
theorem dX12_goalIn_65 : decode cX12_goalIn 65 = .ok (.getfield 13, 3) := by decide +kernel
theorem dX12_goalIn_68 : decode cX12_goalIn 68 = .ok (.iload 5, 2) := by decide +kernel
theorem dX12_goalIn_70 : decode cX12_goalIn 70 = .ok (.iconst 2, 1) := by decide +kernel
theorem dX12_goalIn_71 : decode cX12_goalIn 71 = .ok (.iadd, 1) := by decide +kernel
theorem dX12_goalIn_72 : decode cX12_goalIn 72 = .ok (.iaload, 1) := by decide +kernel
theorem dX12_goalIn_73 : decode cX12_goalIn 73 = .ok (.ifCond .ge 7, 3) := by decide +kernel
theorem dX12_goalIn_76 : decode cX12_goalIn 76 = .ok (.iconst 1, 1) := by decide +kernel
theorem dX12_goalIn_77 : decode cX12_goalIn 77 = .ok (.goto 17, 3) := by decide +kernel
theorem dX12_goalIn_80 : decode cX12_goalIn 80 = .ok (.aload_n 0, 1) := by decide +kernel
theorem dX12_goalIn_81 : decode cX12_goalIn 81 = .ok (.getfield 36, 3) := by decide +kernel
theorem dX12_goalIn_84 : decode cX12_goalIn 84 = .ok (.aload_n 0, 1) := by decide +kernel
theorem dX12_goalIn_85 : decode cX12_goalIn 85 = .ok (.getfield 13, 3) := by decide +kernel
theorem dX12_goalIn_88 : decode cX12_goalIn 88 = .ok (.iload 5, 2) := by decide +kernel
theorem dX12_goalIn_90 : decode cX12_goalIn 90 = .ok (.iconst 2, 1) := by decide +kernel
theorem dX12_goalIn_91 : decode cX12_goalIn 91 = .ok (.iadd, 1) := by decide +kernel
theorem dX12_goalIn_92 : decode cX12_goalIn 92 = .ok (.iaload, 1) := by decide +kernel
theorem dX12_goalIn_93 : decode cX12_goalIn 93 = .ok (.iaload, 1) := by decide +kernel
theorem dX12_goalIn_94 : decode cX12_goalIn 94 = .ok (.i2l, 1) := by decide +kernel
theorem dX12_goalIn_95 : decode cX12_goalIn 95 = .ok (.lmul, 1) := by decide +kernel
theorem dX12_goalIn_96 : decode cX12_goalIn 96 = .ok (.lstore 6, 2) := by decide +kernel
theorem dX12_goalIn_98 : decode cX12_goalIn 98 = .ok (.lload_n 2, 1) := by decide +kernel
theorem dX12_goalIn_99 : decode cX12_goalIn 99 = .ok (.aload_n 0, 1) := by decide +kernel
theorem dX12_goalIn_100 : decode cX12_goalIn 100 = .ok (.getfield 13, 3) := by decide +kernel
theorem dX12_goalIn_103 : decode cX12_goalIn 103 = .ok (.iload 5, 2) := by decide +kernel
theorem dX12_goalIn_105 : decode cX12_goalIn 105 = .ok (.iaload, 1) := by decide +kernel
theorem dX12_goalIn_106 : decode cX12_goalIn 106 = .ok (.ifCond .ne 8, 3) := by decide +kernel
theorem dX12_goalIn_109 : decode cX12_goalIn 109 = .ok (.lload 6, 2) := by decide +kernel
theorem dX12_goalIn_111 : decode cX12_goalIn 111 = .ok (.goto 6, 3) := by decide +kernel
theorem dX12_goalIn_114 : decode cX12_goalIn 114 = .ok (.lload 6, 2) := by decide +kernel
theorem dX12_goalIn_116 : decode cX12_goalIn 116 = .ok (.lneg, 1) := by decide +kernel
theorem dX12_goalIn_117 : decode cX12_goalIn 117 = .ok (.ladd, 1) := by decide +kernel
theorem dX12_goalIn_118 : decode cX12_goalIn 118 = .ok (.lstore_n 2, 1) := by decide +kernel
theorem dX12_goalIn_119 : decode cX12_goalIn 119 = .ok (.iinc 4 1, 3) := by decide +kernel
theorem dX12_goalIn_122 : decode cX12_goalIn 122 = .ok (.goto (-99), 3) := by decide +kernel
theorem dX12_goalIn_125 : decode cX12_goalIn 125 = .ok (.lconst 0, 1) := by decide +kernel
theorem dX12_goalIn_126 : decode cX12_goalIn 126 = .ok (.ldc2_w 271, 3) := by decide +kernel
theorem dX12_goalIn_129 : decode cX12_goalIn 129 = .ok (.lload_n 2, 1) := by decide +kernel
theorem dX12_goalIn_130 : decode cX12_goalIn 130 = .ok (.invokestatic 273, 3) := by decide +kernel
theorem dX12_goalIn_133 : decode cX12_goalIn 133 = .ok (.invokestatic 277, 3) := by decide +kernel
theorem dX12_goalIn_136 : decode cX12_goalIn 136 = .ok (.l2i, 1) := by decide +kernel
theorem dX12_goalIn_137 : decode cX12_goalIn 137 = .ok (.ireturn, 1) := by decide +kernel
theorem dX12_goal_0 : decode cX12_goal 0 = .ok (.aload_n 0, 1) := by decide +kernel
theorem dX12_goal_1 : decode cX12_goal 1 = .ok (.iconst 0, 1) := by decide +kernel
theorem dX12_goal_2 : decode cX12_goal 2 = .ok (.putfield 3, 3) := by decide +kernel
theorem dX12_goal_5 : decode cX12_goal 5 = .ok (.aload_n 0, 1) := by decide +kernel
theorem dX12_goal_6 : decode cX12_goal 6 = .ok (.aload_n 0, 1) := by decide +kernel
theorem dX12_goal_7 : decode cX12_goal 7 = .ok (.getfield 13, 3) := by decide +kernel
theorem dX12_goal_10 : decode cX12_goal 10 = .ok (.bipush 6, 2) := by decide +kernel
theorem dX12_goal_12 : decode cX12_goal 12 = .ok (.iaload, 1) := by decide +kernel
theorem dX12_goal_13 : decode cX12_goal 13 = .ok (.invokevirtual 279, 3) := by decide +kernel
theorem dX12_goal_16 : decode cX12_goal 16 = .ok (.ireturn, 1) := by decide +kernel
theorem dX12_lost_0 : decode cX12_lost 0 = .ok (.aload_n 0, 1) := by decide +kernel
theorem dX12_lost_1 : decode cX12_lost 1 = .ok (.iconst 0, 1) := by decide +kernel
theorem dX12_lost_2 : decode cX12_lost 2 = .ok (.putfield 3, 3) := by decide +kernel
theorem dX12_lost_5 : decode cX12_lost 5 = .ok (.aload_n 0, 1) := by decide +kernel
theorem dX12_lost_6 : decode cX12_lost 6 = .ok (.iload_n 1, 1) := by decide +kernel
theorem dX12_lost_7 : decode cX12_lost 7 = .ok (.iconst 0, 1) := by decide +kernel
theorem dX12_lost_8 : decode cX12_lost 8 = .ok (.sipush 9999, 3) := by decide +kernel
theorem dX12_lost_11 : decode cX12_lost 11 = .ok (.invokestatic 77, 3) := by decide +kernel
theorem dX12_lost_14 : decode cX12_lost 14 = .ok (.ifCond .ne 7, 3) := by decide +kernel
theorem dX12_lost_17 : decode cX12_lost 17 = .ok (.iconst 1, 1) := by decide +kernel
theorem dX12_lost_18 : decode cX12_lost 18 = .ok (.goto 4, 3) := by decide +kernel
theorem dX12_lost_21 : decode cX12_lost 21 = .ok (.iconst 0, 1) := by decide +kernel
theorem dX12_lost_22 : decode cX12_lost 22 = .ok (.iconst 1, 1) := by decide +kernel
theorem dX12_lost_23 : decode cX12_lost 23 = .ok (.invokevirtual 237, 3) := by decide +kernel
theorem dX12_lost_26 : decode cX12_lost 26 = .ok (.ifCond .eq 4, 3) := by decide +kernel
theorem dX12_lost_29 : decode cX12_lost 29 = .ok (.return_, 1) := by decide +kernel
theorem dX12_lost_30 : decode cX12_lost 30 = .ok (.aload_n 0, 1) := by decide +kernel
theorem dX12_lost_31 : decode cX12_lost 31 = .ok (.getfield 13, 3) := by decide +kernel
theorem dX12_lost_34 : decode cX12_lost 34 = .ok (.bipush 8, 2) := by decide +kernel
theorem dX12_lost_36 : decode cX12_lost 36 = .ok (.iload_n 1, 1) := by decide +kernel
theorem dX12_lost_37 : decode cX12_lost 37 = .ok (.iastore, 1) := by decide +kernel
theorem dX12_lost_38 : decode cX12_lost 38 = .ok (.return_, 1) := by decide +kernel
theorem dX12_horizon_0 : decode cX12_horizon 0 = .ok (.aload_n 0, 1) := by decide +kernel
theorem dX12_horizon_1 : decode cX12_horizon 1 = .ok (.iconst 0, 1) := by decide +kernel
theorem dX12_horizon_2 : decode cX12_horizon 2 = .ok (.putfield 3, 3) := by decide +kernel
theorem dX12_horizon_5 : decode cX12_horizon 5 = .ok (.aload_n 0, 1) := by decide +kernel
theorem dX12_horizon_6 : decode cX12_horizon 6 = .ok (.iload_n 1, 1) := by decide +kernel
theorem dX12_horizon_7 : decode cX12_horizon 7 = .ok (.iconst 1, 1) := by decide +kernel
theorem dX12_horizon_8 : decode cX12_horizon 8 = .ok (.bipush 60, 2) := by decide +kernel
theorem dX12_horizon_10 : decode cX12_horizon 10 = .ok (.invokestatic 77, 3) := by decide +kernel
theorem dX12_horizon_13 : decode cX12_horizon 13 = .ok (.ifCond .ne 7, 3) := by decide +kernel
theorem dX12_horizon_16 : decode cX12_horizon 16 = .ok (.iconst 1, 1) := by decide +kernel
theorem dX12_horizon_17 : decode cX12_horizon 17 = .ok (.goto 4, 3) := by decide +kernel
theorem dX12_horizon_20 : decode cX12_horizon 20 = .ok (.iconst 0, 1) := by decide +kernel
theorem dX12_horizon_21 : decode cX12_horizon 21 = .ok (.iconst 1, 1) := by decide +kernel
theorem dX12_horizon_22 : decode cX12_horizon 22 = .ok (.invokevirtual 237, 3) := by decide +kernel
theorem dX12_horizon_25 : decode cX12_horizon 25 = .ok (.ifCond .eq 4, 3) := by decide +kernel
theorem dX12_horizon_28 : decode cX12_horizon 28 = .ok (.return_, 1) := by decide +kernel
theorem dX12_horizon_29 : decode cX12_horizon 29 = .ok (.aload_n 0, 1) := by decide +kernel
theorem dX12_horizon_30 : decode cX12_horizon 30 = .ok (.getfield 13, 3) := by decide +kernel
theorem dX12_horizon_33 : decode cX12_horizon 33 = .ok (.iconst 5, 1) := by decide +kernel
theorem dX12_horizon_34 : decode cX12_horizon 34 = .ok (.iload_n 1, 1) := by decide +kernel
theorem dX12_horizon_35 : decode cX12_horizon 35 = .ok (.iastore, 1) := by decide +kernel
theorem dX12_horizon_36 : decode cX12_horizon 36 = .ok (.return_, 1) := by decide +kernel
theorem dX12_grace_0 : decode cX12_grace 0 = .ok (.aload_n 0, 1) := by decide +kernel
theorem dX12_grace_1 : decode cX12_grace 1 = .ok (.iconst 0, 1) := by decide +kernel
theorem dX12_grace_2 : decode cX12_grace 2 = .ok (.putfield 3, 3) := by decide +kernel
theorem dX12_grace_5 : decode cX12_grace 5 = .ok (.aload_n 0, 1) := by decide +kernel
theorem dX12_grace_6 : decode cX12_grace 6 = .ok (.iload_n 1, 1) := by decide +kernel
theorem dX12_grace_7 : decode cX12_grace 7 = .ok (.iconst 0, 1) := by decide +kernel
theorem dX12_grace_8 : decode cX12_grace 8 = .ok (.bipush 10, 2) := by decide +kernel
theorem dX12_grace_10 : decode cX12_grace 10 = .ok (.invokestatic 77, 3) := by decide +kernel
theorem dX12_grace_13 : decode cX12_grace 13 = .ok (.ifCond .ne 7, 3) := by decide +kernel
theorem dX12_grace_16 : decode cX12_grace 16 = .ok (.iconst 1, 1) := by decide +kernel
theorem dX12_grace_17 : decode cX12_grace 17 = .ok (.goto 4, 3) := by decide +kernel
theorem dX12_grace_20 : decode cX12_grace 20 = .ok (.iconst 0, 1) := by decide +kernel
theorem dX12_grace_21 : decode cX12_grace 21 = .ok (.iconst 1, 1) := by decide +kernel
theorem dX12_grace_22 : decode cX12_grace 22 = .ok (.invokevirtual 237, 3) := by decide +kernel
theorem dX12_grace_25 : decode cX12_grace 25 = .ok (.ifCond .eq 4, 3) := by decide +kernel
theorem dX12_grace_28 : decode cX12_grace 28 = .ok (.return_, 1) := by decide +kernel
theorem dX12_grace_29 : decode cX12_grace 29 = .ok (.aload_n 0, 1) := by decide +kernel
theorem dX12_grace_30 : decode cX12_grace 30 = .ok (.getfield 13, 3) := by decide +kernel
theorem dX12_grace_33 : decode cX12_grace 33 = .ok (.iconst 4, 1) := by decide +kernel
theorem dX12_grace_34 : decode cX12_grace 34 = .ok (.iload_n 1, 1) := by decide +kernel
theorem dX12_grace_35 : decode cX12_grace 35 = .ok (.iastore, 1) := by decide +kernel
theorem dX12_grace_36 : decode cX12_grace 36 = .ok (.return_, 1) := by decide +kernel
theorem dX12_sort_0 : decode cX12_sort 0 = .ok (.aload_n 0, 1) := by decide +kernel
theorem dX12_sort_1 : decode cX12_sort 1 = .ok (.iconst 0, 1) := by decide +kernel
theorem dX12_sort_2 : decode cX12_sort 2 = .ok (.putfield 3, 3) := by decide +kernel
theorem dX12_sort_5 : decode cX12_sort 5 = .ok (.aload_n 0, 1) := by decide +kernel
theorem dX12_sort_6 : decode cX12_sort 6 = .ok (.iload_n 1, 1) := by decide +kernel
theorem dX12_sort_7 : decode cX12_sort 7 = .ok (.iconst 0, 1) := by decide +kernel
theorem dX12_sort_8 : decode cX12_sort 8 = .ok (.sipush 9999, 3) := by decide +kernel
theorem dX12_sort_11 : decode cX12_sort 11 = .ok (.invokestatic 77, 3) := by decide +kernel
theorem dX12_sort_14 : decode cX12_sort 14 = .ok (.ifCond .eq 13, 3) := by decide +kernel
theorem dX12_sort_17 : decode cX12_sort 17 = .ok (.iload_n 2, 1) := by decide +kernel
theorem dX12_sort_18 : decode cX12_sort 18 = .ok (.iconst 0, 1) := by decide +kernel
theorem dX12_sort_19 : decode cX12_sort 19 = .ok (.bipush 100, 2) := by decide +kernel
theorem dX12_sort_21 : decode cX12_sort 21 = .ok (.invokestatic 77, 3) := by decide +kernel
theorem dX12_sort_24 : decode cX12_sort 24 = .ok (.ifCond .ne 7, 3) := by decide +kernel
theorem dX12_sort_27 : decode cX12_sort 27 = .ok (.iconst 1, 1) := by decide +kernel
theorem dX12_sort_28 : decode cX12_sort 28 = .ok (.goto 4, 3) := by decide +kernel
theorem dX12_sort_31 : decode cX12_sort 31 = .ok (.iconst 0, 1) := by decide +kernel
theorem dX12_sort_32 : decode cX12_sort 32 = .ok (.iconst 1, 1) := by decide +kernel
theorem dX12_sort_33 : decode cX12_sort 33 = .ok (.invokevirtual 237, 3) := by decide +kernel
theorem dX12_sort_36 : decode cX12_sort 36 = .ok (.ifCond .ne 27, 3) := by decide +kernel
theorem dX12_sort_39 : decode cX12_sort 39 = .ok (.aload_n 0, 1) := by decide +kernel
theorem dX12_sort_40 : decode cX12_sort 40 = .ok (.aload_n 0, 1) := by decide +kernel
theorem dX12_sort_41 : decode cX12_sort 41 = .ok (.getfield 13, 3) := by decide +kernel
theorem dX12_sort_44 : decode cX12_sort 44 = .ok (.iconst 2, 1) := by decide +kernel
theorem dX12_sort_45 : decode cX12_sort 45 = .ok (.iaload, 1) := by decide +kernel
theorem dX12_sort_46 : decode cX12_sort 46 = .ok (.bipush 6, 2) := by decide +kernel
theorem dX12_sort_48 : decode cX12_sort 48 = .ok (.if_icmp .ne 7, 3) := by decide +kernel
theorem dX12_sort_51 : decode cX12_sort 51 = .ok (.iconst 1, 1) := by decide +kernel
theorem dX12_sort_52 : decode cX12_sort 52 = .ok (.goto 4, 3) := by decide +kernel
theorem dX12_sort_55 : decode cX12_sort 55 = .ok (.iconst 0, 1) := by decide +kernel
theorem dX12_sort_56 : decode cX12_sort 56 = .ok (.iconst 2, 1) := by decide +kernel
theorem dX12_sort_57 : decode cX12_sort 57 = .ok (.invokevirtual 237, 3) := by decide +kernel
theorem dX12_sort_60 : decode cX12_sort 60 = .ok (.ifCond .eq 5, 3) := by decide +kernel
theorem dX12_sort_63 : decode cX12_sort 63 = .ok (.iconst 0, 1) := by decide +kernel
theorem dX12_sort_64 : decode cX12_sort 64 = .ok (.ireturn, 1) := by decide +kernel
theorem dX12_sort_65 : decode cX12_sort 65 = .ok (.aload_n 0, 1) := by decide +kernel
theorem dX12_sort_66 : decode cX12_sort 66 = .ok (.getfield 13, 3) := by decide +kernel
theorem dX12_sort_69 : decode cX12_sort 69 = .ok (.iconst 2, 1) := by decide +kernel
theorem dX12_sort_70 : decode cX12_sort 70 = .ok (.iaload, 1) := by decide +kernel
theorem dX12_sort_71 : decode cX12_sort 71 = .ok (.istore_n 3, 1) := by decide +kernel
theorem dX12_sort_72 : decode cX12_sort 72 = .ok (.iconst 0, 1) := by decide +kernel
theorem dX12_sort_73 : decode cX12_sort 73 = .ok (.istore 4, 2) := by decide +kernel
theorem dX12_sort_75 : decode cX12_sort 75 = .ok (.iload 4, 2) := by decide +kernel
theorem dX12_sort_77 : decode cX12_sort 77 = .ok (.bipush 34, 2) := by decide +kernel
theorem dX12_sort_79 : decode cX12_sort 79 = .ok (.if_icmp .ge 21, 3) := by decide +kernel
theorem dX12_sort_82 : decode cX12_sort 82 = .ok (.aload_n 0, 1) := by decide +kernel
theorem dX12_sort_83 : decode cX12_sort 83 = .ok (.getfield 13, 3) := by decide +kernel
theorem dX12_sort_86 : decode cX12_sort 86 = .ok (.iload_n 3, 1) := by decide +kernel
theorem dX12_sort_87 : decode cX12_sort 87 = .ok (.iload 4, 2) := by decide +kernel
theorem dX12_sort_89 : decode cX12_sort 89 = .ok (.invokestatic 282, 3) := by decide +kernel
theorem dX12_sort_92 : decode cX12_sort 92 = .ok (.iconst 0, 1) := by decide +kernel
theorem dX12_sort_93 : decode cX12_sort 93 = .ok (.iastore, 1) := by decide +kernel
theorem dX12_sort_94 : decode cX12_sort 94 = .ok (.iinc 4 1, 3) := by decide +kernel
theorem dX12_sort_97 : decode cX12_sort 97 = .ok (.goto (-22), 3) := by decide +kernel
theorem dX12_sort_100 : decode cX12_sort 100 = .ok (.aload_n 0, 1) := by decide +kernel
theorem dX12_sort_101 : decode cX12_sort 101 = .ok (.getfield 13, 3) := by decide +kernel
theorem dX12_sort_104 : decode cX12_sort 104 = .ok (.iload_n 3, 1) := by decide +kernel
theorem dX12_sort_105 : decode cX12_sort 105 = .ok (.iconst 0, 1) := by decide +kernel
theorem dX12_sort_106 : decode cX12_sort 106 = .ok (.invokestatic 282, 3) := by decide +kernel
theorem dX12_sort_109 : decode cX12_sort 109 = .ok (.iload_n 1, 1) := by decide +kernel
theorem dX12_sort_110 : decode cX12_sort 110 = .ok (.iastore, 1) := by decide +kernel
theorem dX12_sort_111 : decode cX12_sort 111 = .ok (.aload_n 0, 1) := by decide +kernel
theorem dX12_sort_112 : decode cX12_sort 112 = .ok (.getfield 13, 3) := by decide +kernel
theorem dX12_sort_115 : decode cX12_sort 115 = .ok (.iload_n 3, 1) := by decide +kernel
theorem dX12_sort_116 : decode cX12_sort 116 = .ok (.iconst 1, 1) := by decide +kernel
theorem dX12_sort_117 : decode cX12_sort 117 = .ok (.invokestatic 282, 3) := by decide +kernel
theorem dX12_sort_120 : decode cX12_sort 120 = .ok (.iload_n 2, 1) := by decide +kernel
theorem dX12_sort_121 : decode cX12_sort 121 = .ok (.iastore, 1) := by decide +kernel
theorem dX12_sort_122 : decode cX12_sort 122 = .ok (.aload_n 0, 1) := by decide +kernel
theorem dX12_sort_123 : decode cX12_sort 123 = .ok (.getfield 13, 3) := by decide +kernel
theorem dX12_sort_126 : decode cX12_sort 126 = .ok (.iconst 2, 1) := by decide +kernel
theorem dX12_sort_127 : decode cX12_sort 127 = .ok (.dup2, 1) := by decide +kernel
theorem dX12_sort_128 : decode cX12_sort 128 = .ok (.iaload, 1) := by decide +kernel
theorem dX12_sort_129 : decode cX12_sort 129 = .ok (.iconst 1, 1) := by decide +kernel
theorem dX12_sort_130 : decode cX12_sort 130 = .ok (.iadd, 1) := by decide +kernel
theorem dX12_sort_131 : decode cX12_sort 131 = .ok (.iastore, 1) := by decide +kernel
theorem dX12_sort_132 : decode cX12_sort 132 = .ok (.iload_n 3, 1) := by decide +kernel
theorem dX12_sort_133 : decode cX12_sort 133 = .ok (.ireturn, 1) := by decide +kernel
theorem dX12_patience_0 : decode cX12_patience 0 = .ok (.aload_n 0, 1) := by decide +kernel
theorem dX12_patience_1 : decode cX12_patience 1 = .ok (.iconst 0, 1) := by decide +kernel
theorem dX12_patience_2 : decode cX12_patience 2 = .ok (.putfield 3, 3) := by decide +kernel
theorem dX12_patience_5 : decode cX12_patience 5 = .ok (.aload_n 0, 1) := by decide +kernel
theorem dX12_patience_6 : decode cX12_patience 6 = .ok (.iload_n 1, 1) := by decide +kernel
theorem dX12_patience_7 : decode cX12_patience 7 = .ok (.iconst 0, 1) := by decide +kernel
theorem dX12_patience_8 : decode cX12_patience 8 = .ok (.bipush 99, 2) := by decide +kernel
theorem dX12_patience_10 : decode cX12_patience 10 = .ok (.invokestatic 77, 3) := by decide +kernel
theorem dX12_patience_13 : decode cX12_patience 13 = .ok (.ifCond .ne 7, 3) := by decide +kernel
theorem dX12_patience_16 : decode cX12_patience 16 = .ok (.iconst 1, 1) := by decide +kernel
theorem dX12_patience_17 : decode cX12_patience 17 = .ok (.goto 4, 3) := by decide +kernel
theorem dX12_patience_20 : decode cX12_patience 20 = .ok (.iconst 0, 1) := by decide +kernel
theorem dX12_patience_21 : decode cX12_patience 21 = .ok (.iconst 1, 1) := by decide +kernel
theorem dX12_patience_22 : decode cX12_patience 22 = .ok (.invokevirtual 237, 3) := by decide +kernel
theorem dX12_patience_25 : decode cX12_patience 25 = .ok (.ifCond .eq 4, 3) := by decide +kernel
theorem dX12_patience_28 : decode cX12_patience 28 = .ok (.return_, 1) := by decide +kernel
theorem dX12_patience_29 : decode cX12_patience 29 = .ok (.aload_n 0, 1) := by decide +kernel
theorem dX12_patience_30 : decode cX12_patience 30 = .ok (.getfield 13, 3) := by decide +kernel
theorem dX12_patience_33 : decode cX12_patience 33 = .ok (.bipush 9, 2) := by decide +kernel
theorem dX12_patience_35 : decode cX12_patience 35 = .ok (.iload_n 1, 1) := by decide +kernel
theorem dX12_patience_36 : decode cX12_patience 36 = .ok (.iastore, 1) := by decide +kernel
theorem dX12_patience_37 : decode cX12_patience 37 = .ok (.return_, 1) := by decide +kernel
theorem dX12_letsOn_0 : decode cX12_letsOn 0 = .ok (.aload_n 0, 1) := by decide +kernel
theorem dX12_letsOn_1 : decode cX12_letsOn 1 = .ok (.iload_n 1, 1) := by decide +kernel
theorem dX12_letsOn_2 : decode cX12_letsOn 2 = .ok (.putfield 285, 3) := by decide +kernel
theorem dX12_letsOn_5 : decode cX12_letsOn 5 = .ok (.aload_n 0, 1) := by decide +kernel
theorem dX12_letsOn_6 : decode cX12_letsOn 6 = .ok (.aload_n 0, 1) := by decide +kernel
theorem dX12_letsOn_7 : decode cX12_letsOn 7 = .ok (.iload_n 1, 1) := by decide +kernel
theorem dX12_letsOn_8 : decode cX12_letsOn 8 = .ok (.invokevirtual 279, 3) := by decide +kernel
theorem dX12_letsOn_11 : decode cX12_letsOn 11 = .ok (.putfield 288, 3) := by decide +kernel
theorem dX12_letsOn_14 : decode cX12_letsOn 14 = .ok (.iconst 0, 1) := by decide +kernel
theorem dX12_letsOn_15 : decode cX12_letsOn 15 = .ok (.istore_n 2, 1) := by decide +kernel
theorem dX12_letsOn_16 : decode cX12_letsOn 16 = .ok (.iload_n 2, 1) := by decide +kernel
theorem dX12_letsOn_17 : decode cX12_letsOn 17 = .ok (.bipush 32, 2) := by decide +kernel
theorem dX12_letsOn_19 : decode cX12_letsOn 19 = .ok (.if_icmp .ge 16, 3) := by decide +kernel
theorem dX12_letsOn_22 : decode cX12_letsOn 22 = .ok (.aload_n 0, 1) := by decide +kernel
theorem dX12_letsOn_23 : decode cX12_letsOn 23 = .ok (.getfield 42, 3) := by decide +kernel
theorem dX12_letsOn_26 : decode cX12_letsOn 26 = .ok (.iload_n 2, 1) := by decide +kernel
theorem dX12_letsOn_27 : decode cX12_letsOn 27 = .ok (.lconst 0, 1) := by decide +kernel
theorem dX12_letsOn_28 : decode cX12_letsOn 28 = .ok (.lastore, 1) := by decide +kernel
theorem dX12_letsOn_29 : decode cX12_letsOn 29 = .ok (.iinc 2 1, 3) := by decide +kernel
theorem dX12_letsOn_32 : decode cX12_letsOn 32 = .ok (.goto (-16), 3) := by decide +kernel
theorem dX12_letsOn_35 : decode cX12_letsOn 35 = .ok (.iconst 1, 1) := by decide +kernel
theorem dX12_letsOn_36 : decode cX12_letsOn 36 = .ok (.istore_n 2, 1) := by decide +kernel
theorem dX12_letsOn_37 : decode cX12_letsOn 37 = .ok (.iload_n 2, 1) := by decide +kernel
theorem dX12_letsOn_38 : decode cX12_letsOn 38 = .ok (.bipush 60, 2) := by decide +kernel
theorem dX12_letsOn_40 : decode cX12_letsOn 40 = .ok (.if_icmp .gt 153, 3) := by decide +kernel
theorem dX12_letsOn_43 : decode cX12_letsOn 43 = .ok (.iconst 0, 1) := by decide +kernel
theorem dX12_letsOn_44 : decode cX12_letsOn 44 = .ok (.istore_n 3, 1) := by decide +kernel
theorem dX12_letsOn_45 : decode cX12_letsOn 45 = .ok (.iload_n 3, 1) := by decide +kernel
theorem dX12_letsOn_46 : decode cX12_letsOn 46 = .ok (.bipush 32, 2) := by decide +kernel
theorem dX12_letsOn_48 : decode cX12_letsOn 48 = .ok (.if_icmp .ge 139, 3) := by decide +kernel
theorem dX12_letsOn_51 : decode cX12_letsOn 51 = .ok (.aload_n 0, 1) := by decide +kernel
theorem dX12_letsOn_52 : decode cX12_letsOn 52 = .ok (.getfield 13, 3) := by decide +kernel
theorem dX12_letsOn_55 : decode cX12_letsOn 55 = .ok (.iload_n 3, 1) := by decide +kernel
theorem dX12_letsOn_56 : decode cX12_letsOn 56 = .ok (.bipush 32, 2) := by decide +kernel
theorem dX12_letsOn_58 : decode cX12_letsOn 58 = .ok (.invokestatic 248, 3) := by decide +kernel
theorem dX12_letsOn_61 : decode cX12_letsOn 61 = .ok (.iaload, 1) := by decide +kernel
theorem dX12_letsOn_62 : decode cX12_letsOn 62 = .ok (.i2l, 1) := by decide +kernel
theorem dX12_letsOn_63 : decode cX12_letsOn 63 = .ok (.aload_n 0, 1) := by decide +kernel
theorem dX12_letsOn_64 : decode cX12_letsOn 64 = .ok (.getfield 288, 3) := by decide +kernel
theorem dX12_letsOn_67 : decode cX12_letsOn 67 = .ok (.i2l, 1) := by decide +kernel
theorem dX12_letsOn_68 : decode cX12_letsOn 68 = .ok (.lmul, 1) := by decide +kernel
theorem dX12_letsOn_69 : decode cX12_letsOn 69 = .ok (.aload_n 0, 1) := by decide +kernel
theorem dX12_letsOn_70 : decode cX12_letsOn 70 = .ok (.getfield 13, 3) := by decide +kernel
theorem dX12_letsOn_73 : decode cX12_letsOn 73 = .ok (.iload_n 3, 1) := by decide +kernel
theorem dX12_letsOn_74 : decode cX12_letsOn 74 = .ok (.bipush 33, 2) := by decide +kernel
theorem dX12_letsOn_76 : decode cX12_letsOn 76 = .ok (.invokestatic 248, 3) := by decide +kernel
theorem dX12_letsOn_79 : decode cX12_letsOn 79 = .ok (.iaload, 1) := by decide +kernel
theorem dX12_letsOn_80 : decode cX12_letsOn 80 = .ok (.i2l, 1) := by decide +kernel
theorem dX12_letsOn_81 : decode cX12_letsOn 81 = .ok (.aload_n 0, 1) := by decide +kernel
theorem dX12_letsOn_82 : decode cX12_letsOn 82 = .ok (.getfield 13, 3) := by decide +kernel
theorem dX12_letsOn_85 : decode cX12_letsOn 85 = .ok (.bipush 8, 2) := by decide +kernel
theorem dX12_letsOn_87 : decode cX12_letsOn 87 = .ok (.iaload, 1) := by decide +kernel
theorem dX12_letsOn_88 : decode cX12_letsOn 88 = .ok (.i2l, 1) := by decide +kernel
theorem dX12_letsOn_89 : decode cX12_letsOn 89 = .ok (.lmul, 1) := by decide +kernel
theorem dX12_letsOn_90 : decode cX12_letsOn 90 = .ok (.lsub, 1) := by decide +kernel
theorem dX12_letsOn_91 : decode cX12_letsOn 91 = .ok (.aload_n 0, 1) := by decide +kernel
theorem dX12_letsOn_92 : decode cX12_letsOn 92 = .ok (.iload_n 3, 1) := by decide +kernel
theorem dX12_letsOn_93 : decode cX12_letsOn 93 = .ok (.invokevirtual 251, 3) := by decide +kernel
theorem dX12_letsOn_96 : decode cX12_letsOn 96 = .ok (.i2l, 1) := by decide +kernel
theorem dX12_letsOn_97 : decode cX12_letsOn 97 = .ok (.aload_n 0, 1) := by decide +kernel
theorem dX12_letsOn_98 : decode cX12_letsOn 98 = .ok (.getfield 42, 3) := by decide +kernel
theorem dX12_letsOn_101 : decode cX12_letsOn 101 = .ok (.bipush 32, 2) := by decide +kernel
theorem dX12_letsOn_103 : decode cX12_letsOn 103 = .ok (.iload_n 2, 1) := by decide +kernel
theorem dX12_letsOn_104 : decode cX12_letsOn 104 = .ok (.iconst 1, 1) := by decide +kernel
theorem dX12_letsOn_105 : decode cX12_letsOn 105 = .ok (.isub, 1) := by decide +kernel
theorem dX12_letsOn_106 : decode cX12_letsOn 106 = .ok (.imul, 1) := by decide +kernel
theorem dX12_letsOn_107 : decode cX12_letsOn 107 = .ok (.iload_n 3, 1) := by decide +kernel
theorem dX12_letsOn_108 : decode cX12_letsOn 108 = .ok (.iadd, 1) := by decide +kernel
theorem dX12_letsOn_109 : decode cX12_letsOn 109 = .ok (.laload, 1) := by decide +kernel
theorem dX12_letsOn_110 : decode cX12_letsOn 110 = .ok (.lmul, 1) := by decide +kernel
theorem dX12_letsOn_111 : decode cX12_letsOn 111 = .ok (.ladd, 1) := by decide +kernel
theorem dX12_letsOn_112 : decode cX12_letsOn 112 = .ok (.lstore 4, 2) := by decide +kernel
theorem dX12_letsOn_114 : decode cX12_letsOn 114 = .ok (.iconst 0, 1) := by decide +kernel
theorem dX12_letsOn_115 : decode cX12_letsOn 115 = .ok (.istore 6, 2) := by decide +kernel
theorem dX12_letsOn_117 : decode cX12_letsOn 117 = .ok (.iload 6, 2) := by decide +kernel
theorem dX12_letsOn_119 : decode cX12_letsOn 119 = .ok (.bipush 32, 2) := by decide +kernel
theorem dX12_letsOn_121 : decode cX12_letsOn 121 = .ok (.if_icmp .ge 41, 3) := by decide +kernel
theorem dX12_letsOn_124 : decode cX12_letsOn 124 = .ok (.lload 4, 2) := by decide +kernel
theorem dX12_letsOn_126 : decode cX12_letsOn 126 = .ok (.aload_n 0, 1) := by decide +kernel
theorem dX12_letsOn_127 : decode cX12_letsOn 127 = .ok (.getfield 13, 3) := by decide +kernel
theorem dX12_letsOn_130 : decode cX12_letsOn 130 = .ok (.iload_n 3, 1) := by decide +kernel
theorem dX12_letsOn_131 : decode cX12_letsOn 131 = .ok (.iload 6, 2) := by decide +kernel
theorem dX12_letsOn_133 : decode cX12_letsOn 133 = .ok (.invokestatic 248, 3) := by decide +kernel
theorem dX12_letsOn_136 : decode cX12_letsOn 136 = .ok (.iaload, 1) := by decide +kernel
theorem dX12_letsOn_137 : decode cX12_letsOn 137 = .ok (.i2l, 1) := by decide +kernel
theorem dX12_letsOn_138 : decode cX12_letsOn 138 = .ok (.aload_n 0, 1) := by decide +kernel
theorem dX12_letsOn_139 : decode cX12_letsOn 139 = .ok (.getfield 42, 3) := by decide +kernel
theorem dX12_letsOn_142 : decode cX12_letsOn 142 = .ok (.bipush 32, 2) := by decide +kernel
theorem dX12_letsOn_144 : decode cX12_letsOn 144 = .ok (.iload_n 2, 1) := by decide +kernel
theorem dX12_letsOn_145 : decode cX12_letsOn 145 = .ok (.iconst 1, 1) := by decide +kernel
theorem dX12_letsOn_146 : decode cX12_letsOn 146 = .ok (.isub, 1) := by decide +kernel
theorem dX12_letsOn_147 : decode cX12_letsOn 147 = .ok (.imul, 1) := by decide +kernel
theorem dX12_letsOn_148 : decode cX12_letsOn 148 = .ok (.iload 6, 2) := by decide +kernel
theorem dX12_letsOn_150 : decode cX12_letsOn 150 = .ok (.iadd, 1) := by decide +kernel
theorem dX12_letsOn_151 : decode cX12_letsOn 151 = .ok (.laload, 1) := by decide +kernel
theorem dX12_letsOn_152 : decode cX12_letsOn 152 = .ok (.lmul, 1) := by decide +kernel
theorem dX12_letsOn_153 : decode cX12_letsOn 153 = .ok (.ladd, 1) := by decide +kernel
theorem dX12_letsOn_154 : decode cX12_letsOn 154 = .ok (.lstore 4, 2) := by decide +kernel
theorem dX12_letsOn_156 : decode cX12_letsOn 156 = .ok (.iinc 6 1, 3) := by decide +kernel
theorem dX12_letsOn_159 : decode cX12_letsOn 159 = .ok (.goto (-42), 3) := by decide +kernel
theorem dX12_letsOn_162 : decode cX12_letsOn 162 = .ok (.aload_n 0, 1) := by decide +kernel
theorem dX12_letsOn_163 : decode cX12_letsOn 163 = .ok (.getfield 42, 3) := by decide +kernel
theorem dX12_letsOn_166 : decode cX12_letsOn 166 = .ok (.bipush 32, 2) := by decide +kernel
theorem dX12_letsOn_168 : decode cX12_letsOn 168 = .ok (.iload_n 2, 1) := by decide +kernel
theorem dX12_letsOn_169 : decode cX12_letsOn 169 = .ok (.imul, 1) := by decide +kernel
theorem dX12_letsOn_170 : decode cX12_letsOn 170 = .ok (.iload_n 3, 1) := by decide +kernel
theorem dX12_letsOn_171 : decode cX12_letsOn 171 = .ok (.iadd, 1) := by decide +kernel
theorem dX12_letsOn_172 : decode cX12_letsOn 172 = .ok (.lload 4, 2) := by decide +kernel
theorem dX12_letsOn_174 : decode cX12_letsOn 174 = .ok (.ldc2_w 291, 3) := by decide +kernel
theorem dX12_letsOn_177 : decode cX12_letsOn 177 = .ok (.invokestatic 293, 3) := by decide +kernel
theorem dX12_letsOn_180 : decode cX12_letsOn 180 = .ok (.lastore, 1) := by decide +kernel
theorem dX12_letsOn_181 : decode cX12_letsOn 181 = .ok (.iinc 3 1, 3) := by decide +kernel
theorem dX12_letsOn_184 : decode cX12_letsOn 184 = .ok (.goto (-139), 3) := by decide +kernel
theorem dX12_letsOn_187 : decode cX12_letsOn 187 = .ok (.iinc 2 1, 3) := by decide +kernel
theorem dX12_letsOn_190 : decode cX12_letsOn 190 = .ok (.goto (-153), 3) := by decide +kernel
theorem dX12_letsOn_193 : decode cX12_letsOn 193 = .ok (.return_, 1) := by decide +kernel
theorem dX12_worth_0 : decode cX12_worth 0 = .ok (.aload_n 0, 1) := by decide +kernel
theorem dX12_worth_1 : decode cX12_worth 1 = .ok (.iconst 0, 1) := by decide +kernel
theorem dX12_worth_2 : decode cX12_worth 2 = .ok (.putfield 3, 3) := by decide +kernel
theorem dX12_worth_5 : decode cX12_worth 5 = .ok (.aload_n 0, 1) := by decide +kernel
theorem dX12_worth_6 : decode cX12_worth 6 = .ok (.iload_n 1, 1) := by decide +kernel
theorem dX12_worth_7 : decode cX12_worth 7 = .ok (.invokestatic 245, 3) := by decide +kernel
theorem dX12_worth_10 : decode cX12_worth 10 = .ok (.iconst 1, 1) := by decide +kernel
theorem dX12_worth_11 : decode cX12_worth 11 = .ok (.invokevirtual 237, 3) := by decide +kernel
theorem dX12_worth_14 : decode cX12_worth 14 = .ok (.ifCond .ne 26, 3) := by decide +kernel
theorem dX12_worth_17 : decode cX12_worth 17 = .ok (.aload_n 0, 1) := by decide +kernel
theorem dX12_worth_18 : decode cX12_worth 18 = .ok (.iload_n 2, 1) := by decide +kernel
theorem dX12_worth_19 : decode cX12_worth 19 = .ok (.iconst 0, 1) := by decide +kernel
theorem dX12_worth_20 : decode cX12_worth 20 = .ok (.bipush 60, 2) := by decide +kernel
theorem dX12_worth_22 : decode cX12_worth 22 = .ok (.invokestatic 77, 3) := by decide +kernel
theorem dX12_worth_25 : decode cX12_worth 25 = .ok (.ifCond .ne 7, 3) := by decide +kernel
theorem dX12_worth_28 : decode cX12_worth 28 = .ok (.iconst 1, 1) := by decide +kernel
theorem dX12_worth_29 : decode cX12_worth 29 = .ok (.goto 4, 3) := by decide +kernel
theorem dX12_worth_32 : decode cX12_worth 32 = .ok (.iconst 0, 1) := by decide +kernel
theorem dX12_worth_33 : decode cX12_worth 33 = .ok (.iconst 2, 1) := by decide +kernel
theorem dX12_worth_34 : decode cX12_worth 34 = .ok (.invokevirtual 237, 3) := by decide +kernel
theorem dX12_worth_37 : decode cX12_worth 37 = .ok (.ifCond .eq 5, 3) := by decide +kernel
theorem dX12_worth_40 : decode cX12_worth 40 = .ok (.lconst 0, 1) := by decide +kernel
theorem dX12_worth_41 : decode cX12_worth 41 = .ok (.lreturn, 1) := by decide +kernel
theorem dX12_worth_42 : decode cX12_worth 42 = .ok (.aload_n 0, 1) := by decide +kernel
theorem dX12_worth_43 : decode cX12_worth 43 = .ok (.aload_n 0, 1) := by decide +kernel
theorem dX12_worth_44 : decode cX12_worth 44 = .ok (.getfield 13, 3) := by decide +kernel
theorem dX12_worth_47 : decode cX12_worth 47 = .ok (.bipush 6, 2) := by decide +kernel
theorem dX12_worth_49 : decode cX12_worth 49 = .ok (.iaload, 1) := by decide +kernel
theorem dX12_worth_50 : decode cX12_worth 50 = .ok (.invokevirtual 296, 3) := by decide +kernel
theorem dX12_worth_53 : decode cX12_worth 53 = .ok (.aload_n 0, 1) := by decide +kernel
theorem dX12_worth_54 : decode cX12_worth 54 = .ok (.getfield 42, 3) := by decide +kernel
theorem dX12_worth_57 : decode cX12_worth 57 = .ok (.bipush 32, 2) := by decide +kernel
theorem dX12_worth_59 : decode cX12_worth 59 = .ok (.iload_n 2, 1) := by decide +kernel
theorem dX12_worth_60 : decode cX12_worth 60 = .ok (.imul, 1) := by decide +kernel
theorem dX12_worth_61 : decode cX12_worth 61 = .ok (.iload_n 1, 1) := by decide +kernel
theorem dX12_worth_62 : decode cX12_worth 62 = .ok (.iadd, 1) := by decide +kernel
theorem dX12_worth_63 : decode cX12_worth 63 = .ok (.laload, 1) := by decide +kernel
theorem dX12_worth_64 : decode cX12_worth 64 = .ok (.lreturn, 1) := by decide +kernel
theorem dX12_rates_0 : decode cX12_rates 0 = .ok (.iconst 0, 1) := by decide +kernel
theorem dX12_rates_1 : decode cX12_rates 1 = .ok (.istore_n 2, 1) := by decide +kernel
theorem dX12_rates_2 : decode cX12_rates 2 = .ok (.iconst 0, 1) := by decide +kernel
theorem dX12_rates_3 : decode cX12_rates 3 = .ok (.istore_n 3, 1) := by decide +kernel
theorem dX12_rates_4 : decode cX12_rates 4 = .ok (.iload_n 3, 1) := by decide +kernel
theorem dX12_rates_5 : decode cX12_rates 5 = .ok (.bipush 32, 2) := by decide +kernel
theorem dX12_rates_7 : decode cX12_rates 7 = .ok (.if_icmp .ge 24, 3) := by decide +kernel
theorem dX12_rates_10 : decode cX12_rates 10 = .ok (.iload_n 2, 1) := by decide +kernel
theorem dX12_rates_11 : decode cX12_rates 11 = .ok (.aload_n 0, 1) := by decide +kernel
theorem dX12_rates_12 : decode cX12_rates 12 = .ok (.getfield 13, 3) := by decide +kernel
theorem dX12_rates_15 : decode cX12_rates 15 = .ok (.iload_n 1, 1) := by decide +kernel
theorem dX12_rates_16 : decode cX12_rates 16 = .ok (.iconst 2, 1) := by decide +kernel
theorem dX12_rates_17 : decode cX12_rates 17 = .ok (.iload_n 3, 1) := by decide +kernel
theorem dX12_rates_18 : decode cX12_rates 18 = .ok (.iadd, 1) := by decide +kernel
theorem dX12_rates_19 : decode cX12_rates 19 = .ok (.invokestatic 282, 3) := by decide +kernel
theorem dX12_rates_22 : decode cX12_rates 22 = .ok (.iaload, 1) := by decide +kernel
theorem dX12_rates_23 : decode cX12_rates 23 = .ok (.iadd, 1) := by decide +kernel
theorem dX12_rates_24 : decode cX12_rates 24 = .ok (.istore_n 2, 1) := by decide +kernel
theorem dX12_rates_25 : decode cX12_rates 25 = .ok (.iinc 3 1, 3) := by decide +kernel
theorem dX12_rates_28 : decode cX12_rates 28 = .ok (.goto (-24), 3) := by decide +kernel
theorem dX12_rates_31 : decode cX12_rates 31 = .ok (.iload_n 2, 1) := by decide +kernel
theorem dX12_rates_32 : decode cX12_rates 32 = .ok (.ireturn, 1) := by decide +kernel
theorem dX12_cardOf_0 : decode cX12_cardOf 0 = .ok (.iload_n 2, 1) := by decide +kernel
theorem dX12_cardOf_1 : decode cX12_cardOf 1 = .ok (.aload_n 0, 1) := by decide +kernel
theorem dX12_cardOf_2 : decode cX12_cardOf 2 = .ok (.getfield 13, 3) := by decide +kernel
theorem dX12_cardOf_5 : decode cX12_cardOf 5 = .ok (.bipush 9, 2) := by decide +kernel
theorem dX12_cardOf_7 : decode cX12_cardOf 7 = .ok (.iaload, 1) := by decide +kernel
theorem dX12_cardOf_8 : decode cX12_cardOf 8 = .ok (.ifCond .le 19, 3) := by decide +kernel
theorem dX12_cardOf_11 : decode cX12_cardOf 11 = .ok (.aload_n 0, 1) := by decide +kernel
theorem dX12_cardOf_12 : decode cX12_cardOf 12 = .ok (.iload_n 1, 1) := by decide +kernel
theorem dX12_cardOf_13 : decode cX12_cardOf 13 = .ok (.invokevirtual 299, 3) := by decide +kernel
theorem dX12_cardOf_16 : decode cX12_cardOf 16 = .ok (.aload_n 0, 1) := by decide +kernel
theorem dX12_cardOf_17 : decode cX12_cardOf 17 = .ok (.getfield 13, 3) := by decide +kernel
theorem dX12_cardOf_20 : decode cX12_cardOf 20 = .ok (.bipush 9, 2) := by decide +kernel
theorem dX12_cardOf_22 : decode cX12_cardOf 22 = .ok (.iaload, 1) := by decide +kernel
theorem dX12_cardOf_23 : decode cX12_cardOf 23 = .ok (.idiv, 1) := by decide +kernel
theorem dX12_cardOf_24 : decode cX12_cardOf 24 = .ok (.goto 4, 3) := by decide +kernel
theorem dX12_cardOf_27 : decode cX12_cardOf 27 = .ok (.iconst 0, 1) := by decide +kernel
theorem dX12_cardOf_28 : decode cX12_cardOf 28 = .ok (.iadd, 1) := by decide +kernel
theorem dX12_cardOf_29 : decode cX12_cardOf 29 = .ok (.ireturn, 1) := by decide +kernel
theorem dX12_fouls_0 : decode cX12_fouls 0 = .ok (.aload_n 0, 1) := by decide +kernel
theorem dX12_fouls_1 : decode cX12_fouls 1 = .ok (.iload_n 1, 1) := by decide +kernel
theorem dX12_fouls_2 : decode cX12_fouls 2 = .ok (.iload_n 3, 1) := by decide +kernel
theorem dX12_fouls_3 : decode cX12_fouls 3 = .ok (.invokevirtual 302, 3) := by decide +kernel
theorem dX12_fouls_6 : decode cX12_fouls 6 = .ok (.istore 4, 2) := by decide +kernel
theorem dX12_fouls_8 : decode cX12_fouls 8 = .ok (.aload_n 0, 1) := by decide +kernel
theorem dX12_fouls_9 : decode cX12_fouls 9 = .ok (.iload_n 2, 1) := by decide +kernel
theorem dX12_fouls_10 : decode cX12_fouls 10 = .ok (.putfield 305, 3) := by decide +kernel
theorem dX12_fouls_13 : decode cX12_fouls 13 = .ok (.aload_n 0, 1) := by decide +kernel
theorem dX12_fouls_14 : decode cX12_fouls 14 = .ok (.aload_n 0, 1) := by decide +kernel
theorem dX12_fouls_15 : decode cX12_fouls 15 = .ok (.getfield 13, 3) := by decide +kernel
theorem dX12_fouls_18 : decode cX12_fouls 18 = .ok (.bipush 10, 2) := by decide +kernel
theorem dX12_fouls_20 : decode cX12_fouls 20 = .ok (.iload_n 2, 1) := by decide +kernel
theorem dX12_fouls_21 : decode cX12_fouls 21 = .ok (.iadd, 1) := by decide +kernel
theorem dX12_fouls_22 : decode cX12_fouls 22 = .ok (.iaload, 1) := by decide +kernel
theorem dX12_fouls_23 : decode cX12_fouls 23 = .ok (.iload 4, 2) := by decide +kernel
theorem dX12_fouls_25 : decode cX12_fouls 25 = .ok (.iadd, 1) := by decide +kernel
theorem dX12_fouls_26 : decode cX12_fouls 26 = .ok (.putfield 308, 3) := by decide +kernel
theorem dX12_fouls_29 : decode cX12_fouls 29 = .ok (.aload_n 0, 1) := by decide +kernel
theorem dX12_fouls_30 : decode cX12_fouls 30 = .ok (.iload 4, 2) := by decide +kernel
theorem dX12_fouls_32 : decode cX12_fouls 32 = .ok (.bipush 100, 2) := by decide +kernel
theorem dX12_fouls_34 : decode cX12_fouls 34 = .ok (.aload_n 0, 1) := by decide +kernel
theorem dX12_fouls_35 : decode cX12_fouls 35 = .ok (.getfield 13, 3) := by decide +kernel
theorem dX12_fouls_38 : decode cX12_fouls 38 = .ok (.iload_n 1, 1) := by decide +kernel
theorem dX12_fouls_39 : decode cX12_fouls 39 = .ok (.iconst 1, 1) := by decide +kernel
theorem dX12_fouls_40 : decode cX12_fouls 40 = .ok (.invokestatic 282, 3) := by decide +kernel
theorem dX12_fouls_43 : decode cX12_fouls 43 = .ok (.iaload, 1) := by decide +kernel
theorem dX12_fouls_44 : decode cX12_fouls 44 = .ok (.isub, 1) := by decide +kernel
theorem dX12_fouls_45 : decode cX12_fouls 45 = .ok (.imul, 1) := by decide +kernel
theorem dX12_fouls_46 : decode cX12_fouls 46 = .ok (.bipush 100, 2) := by decide +kernel
theorem dX12_fouls_48 : decode cX12_fouls 48 = .ok (.idiv, 1) := by decide +kernel
theorem dX12_fouls_49 : decode cX12_fouls 49 = .ok (.putfield 311, 3) := by decide +kernel
theorem dX12_fouls_52 : decode cX12_fouls 52 = .ok (.aload_n 0, 1) := by decide +kernel
theorem dX12_fouls_53 : decode cX12_fouls 53 = .ok (.aload_n 0, 1) := by decide +kernel
theorem dX12_fouls_54 : decode cX12_fouls 54 = .ok (.getfield 13, 3) := by decide +kernel
theorem dX12_fouls_57 : decode cX12_fouls 57 = .ok (.iload_n 1, 1) := by decide +kernel
theorem dX12_fouls_58 : decode cX12_fouls 58 = .ok (.iconst 1, 1) := by decide +kernel
theorem dX12_fouls_59 : decode cX12_fouls 59 = .ok (.invokestatic 282, 3) := by decide +kernel
theorem dX12_fouls_62 : decode cX12_fouls 62 = .ok (.iaload, 1) := by decide +kernel
theorem dX12_fouls_63 : decode cX12_fouls 63 = .ok (.bipush 100, 2) := by decide +kernel
theorem dX12_fouls_65 : decode cX12_fouls 65 = .ok (.if_icmp .ne 7, 3) := by decide +kernel
theorem dX12_fouls_68 : decode cX12_fouls 68 = .ok (.iconst 1, 1) := by decide +kernel
theorem dX12_fouls_69 : decode cX12_fouls 69 = .ok (.goto 4, 3) := by decide +kernel
theorem dX12_fouls_72 : decode cX12_fouls 72 = .ok (.iconst 0, 1) := by decide +kernel
theorem dX12_fouls_73 : decode cX12_fouls 73 = .ok (.putfield 314, 3) := by decide +kernel
theorem dX12_fouls_76 : decode cX12_fouls 76 = .ok (.return_, 1) := by decide +kernel
theorem dX12_toldCard_0 : decode cX12_toldCard 0 = .ok (.aload_n 0, 1) := by decide +kernel
theorem dX12_toldCard_1 : decode cX12_toldCard 1 = .ok (.getfield 13, 3) := by decide +kernel
theorem dX12_toldCard_4 : decode cX12_toldCard 4 = .ok (.iload_n 1, 1) := by decide +kernel
theorem dX12_toldCard_5 : decode cX12_toldCard 5 = .ok (.iconst 0, 1) := by decide +kernel
theorem dX12_toldCard_6 : decode cX12_toldCard 6 = .ok (.invokestatic 282, 3) := by decide +kernel
theorem dX12_toldCard_9 : decode cX12_toldCard 9 = .ok (.iaload, 1) := by decide +kernel
theorem dX12_toldCard_10 : decode cX12_toldCard 10 = .ok (.ireturn, 1) := by decide +kernel
theorem dX12_stop_0 : decode cX12_stop 0 = .ok (.aload_n 0, 1) := by decide +kernel
theorem dX12_stop_1 : decode cX12_stop 1 = .ok (.iconst 0, 1) := by decide +kernel
theorem dX12_stop_2 : decode cX12_stop 2 = .ok (.putfield 3, 3) := by decide +kernel
theorem dX12_stop_5 : decode cX12_stop 5 = .ok (.aload_n 0, 1) := by decide +kernel
theorem dX12_stop_6 : decode cX12_stop 6 = .ok (.aload_n 0, 1) := by decide +kernel
theorem dX12_stop_7 : decode cX12_stop 7 = .ok (.iload_n 1, 1) := by decide +kernel
theorem dX12_stop_8 : decode cX12_stop 8 = .ok (.invokevirtual 317, 3) := by decide +kernel
theorem dX12_stop_11 : decode cX12_stop 11 = .ok (.ifCond .ne 10, 3) := by decide +kernel
theorem dX12_stop_14 : decode cX12_stop 14 = .ok (.iload_n 2, 1) := by decide +kernel
theorem dX12_stop_15 : decode cX12_stop 15 = .ok (.invokestatic 254, 3) := by decide +kernel
theorem dX12_stop_18 : decode cX12_stop 18 = .ok (.ifCond .eq 7, 3) := by decide +kernel
theorem dX12_stop_21 : decode cX12_stop 21 = .ok (.iconst 1, 1) := by decide +kernel
theorem dX12_stop_22 : decode cX12_stop 22 = .ok (.goto 4, 3) := by decide +kernel
theorem dX12_stop_25 : decode cX12_stop 25 = .ok (.iconst 0, 1) := by decide +kernel
theorem dX12_stop_26 : decode cX12_stop 26 = .ok (.iconst 1, 1) := by decide +kernel
theorem dX12_stop_27 : decode cX12_stop 27 = .ok (.invokevirtual 237, 3) := by decide +kernel
theorem dX12_stop_30 : decode cX12_stop 30 = .ok (.ifCond .eq 5, 3) := by decide +kernel
theorem dX12_stop_33 : decode cX12_stop 33 = .ok (.iconst 0, 1) := by decide +kernel
theorem dX12_stop_34 : decode cX12_stop 34 = .ok (.ireturn, 1) := by decide +kernel
theorem dX12_stop_35 : decode cX12_stop 35 = .ok (.aload_n 0, 1) := by decide +kernel
theorem dX12_stop_36 : decode cX12_stop 36 = .ok (.iload_n 1, 1) := by decide +kernel
theorem dX12_stop_37 : decode cX12_stop 37 = .ok (.iload_n 2, 1) := by decide +kernel
theorem dX12_stop_38 : decode cX12_stop 38 = .ok (.aload_n 0, 1) := by decide +kernel
theorem dX12_stop_39 : decode cX12_stop 39 = .ok (.iload_n 1, 1) := by decide +kernel
theorem dX12_stop_40 : decode cX12_stop 40 = .ok (.invokevirtual 320, 3) := by decide +kernel
theorem dX12_stop_43 : decode cX12_stop 43 = .ok (.invokevirtual 323, 3) := by decide +kernel
theorem dX12_stop_46 : decode cX12_stop 46 = .ok (.iload_n 3, 1) := by decide +kernel
theorem dX12_stop_47 : decode cX12_stop 47 = .ok (.ifCond .eq 10, 3) := by decide +kernel
theorem dX12_stop_50 : decode cX12_stop 50 = .ok (.aload_n 0, 1) := by decide +kernel
theorem dX12_stop_51 : decode cX12_stop 51 = .ok (.getfield 311, 3) := by decide +kernel
theorem dX12_stop_54 : decode cX12_stop 54 = .ok (.goto 7, 3) := by decide +kernel
theorem dX12_stop_57 : decode cX12_stop 57 = .ok (.aload_n 0, 1) := by decide +kernel
theorem dX12_stop_58 : decode cX12_stop 58 = .ok (.getfield 308, 3) := by decide +kernel
theorem dX12_stop_61 : decode cX12_stop 61 = .ok (.ireturn, 1) := by decide +kernel
theorem dX12_says_0 : decode cX12_says 0 = .ok (.aload_n 0, 1) := by decide +kernel
theorem dX12_says_1 : decode cX12_says 1 = .ok (.aload_n 0, 1) := by decide +kernel
theorem dX12_says_2 : decode cX12_says 2 = .ok (.getfield 285, 3) := by decide +kernel
theorem dX12_says_5 : decode cX12_says 5 = .ok (.invokevirtual 262, 3) := by decide +kernel
theorem dX12_says_8 : decode cX12_says 8 = .ok (.aload_n 0, 1) := by decide +kernel
theorem dX12_says_9 : decode cX12_says 9 = .ok (.getfield 36, 3) := by decide +kernel
theorem dX12_says_12 : decode cX12_says 12 = .ok (.iconst 3, 1) := by decide +kernel
theorem dX12_says_13 : decode cX12_says 13 = .ok (.iload_n 2, 1) := by decide +kernel
theorem dX12_says_14 : decode cX12_says 14 = .ok (.iconst 4, 1) := by decide +kernel
theorem dX12_says_15 : decode cX12_says 15 = .ok (.idiv, 1) := by decide +kernel
theorem dX12_says_16 : decode cX12_says 16 = .ok (.iastore, 1) := by decide +kernel
theorem dX12_says_17 : decode cX12_says 17 = .ok (.aload_n 0, 1) := by decide +kernel
theorem dX12_says_18 : decode cX12_says 18 = .ok (.getfield 36, 3) := by decide +kernel
theorem dX12_says_21 : decode cX12_says 21 = .ok (.iconst 4, 1) := by decide +kernel
theorem dX12_says_22 : decode cX12_says 22 = .ok (.iload_n 2, 1) := by decide +kernel
theorem dX12_says_23 : decode cX12_says 23 = .ok (.iconst 4, 1) := by decide +kernel
theorem dX12_says_24 : decode cX12_says 24 = .ok (.irem, 1) := by decide +kernel
theorem dX12_says_25 : decode cX12_says 25 = .ok (.iastore, 1) := by decide +kernel
theorem dX12_says_26 : decode cX12_says 26 = .ok (.aload_n 0, 1) := by decide +kernel
theorem dX12_says_27 : decode cX12_says 27 = .ok (.getfield 36, 3) := by decide +kernel
theorem dX12_says_30 : decode cX12_says 30 = .ok (.iconst 5, 1) := by decide +kernel
theorem dX12_says_31 : decode cX12_says 31 = .ok (.iload_n 3, 1) := by decide +kernel
theorem dX12_says_32 : decode cX12_says 32 = .ok (.iastore, 1) := by decide +kernel
theorem dX12_says_33 : decode cX12_says 33 = .ok (.aload_n 0, 1) := by decide +kernel
theorem dX12_says_34 : decode cX12_says 34 = .ok (.getfield 36, 3) := by decide +kernel
theorem dX12_says_37 : decode cX12_says 37 = .ok (.bipush 6, 2) := by decide +kernel
theorem dX12_says_39 : decode cX12_says 39 = .ok (.aload_n 0, 1) := by decide +kernel
theorem dX12_says_40 : decode cX12_says 40 = .ok (.getfield 13, 3) := by decide +kernel
theorem dX12_says_43 : decode cX12_says 43 = .ok (.bipush 10, 2) := by decide +kernel
theorem dX12_says_45 : decode cX12_says 45 = .ok (.aload_n 0, 1) := by decide +kernel
theorem dX12_says_46 : decode cX12_says 46 = .ok (.getfield 305, 3) := by decide +kernel
theorem dX12_says_49 : decode cX12_says 49 = .ok (.iadd, 1) := by decide +kernel
theorem dX12_says_50 : decode cX12_says 50 = .ok (.iaload, 1) := by decide +kernel
theorem dX12_says_51 : decode cX12_says 51 = .ok (.iastore, 1) := by decide +kernel
theorem dX12_says_52 : decode cX12_says 52 = .ok (.aload_n 0, 1) := by decide +kernel
theorem dX12_says_53 : decode cX12_says 53 = .ok (.getfield 36, 3) := by decide +kernel
theorem dX12_says_56 : decode cX12_says 56 = .ok (.bipush 7, 2) := by decide +kernel
theorem dX12_says_58 : decode cX12_says 58 = .ok (.aload_n 0, 1) := by decide +kernel
theorem dX12_says_59 : decode cX12_says 59 = .ok (.getfield 314, 3) := by decide +kernel
theorem dX12_says_62 : decode cX12_says 62 = .ok (.ifCond .eq 7, 3) := by decide +kernel
theorem dX12_says_65 : decode cX12_says 65 = .ok (.iconst 1, 1) := by decide +kernel
theorem dX12_says_66 : decode cX12_says 66 = .ok (.goto 4, 3) := by decide +kernel
theorem dX12_says_69 : decode cX12_says 69 = .ok (.iconst 0, 1) := by decide +kernel
theorem dX12_says_70 : decode cX12_says 70 = .ok (.iastore, 1) := by decide +kernel
theorem dX12_says_71 : decode cX12_says 71 = .ok (.iconst 0, 1) := by decide +kernel
theorem dX12_says_72 : decode cX12_says 72 = .ok (.istore 4, 2) := by decide +kernel
theorem dX12_says_74 : decode cX12_says 74 = .ok (.iload 4, 2) := by decide +kernel
theorem dX12_says_76 : decode cX12_says 76 = .ok (.aload_n 0, 1) := by decide +kernel
theorem dX12_says_77 : decode cX12_says 77 = .ok (.iload_n 1, 1) := by decide +kernel
theorem dX12_says_78 : decode cX12_says 78 = .ok (.invokevirtual 265, 3) := by decide +kernel
theorem dX12_says_81 : decode cX12_says 81 = .ok (.if_icmp .ge 31, 3) := by decide +kernel
theorem dX12_says_84 : decode cX12_says 84 = .ok (.aload_n 0, 1) := by decide +kernel
theorem dX12_says_85 : decode cX12_says 85 = .ok (.iload_n 1, 1) := by decide +kernel
theorem dX12_says_86 : decode cX12_says 86 = .ok (.iload 4, 2) := by decide +kernel
theorem dX12_says_88 : decode cX12_says 88 = .ok (.invokevirtual 268, 3) := by decide +kernel
theorem dX12_says_91 : decode cX12_says 91 = .ok (.ifCond .eq 15, 3) := by decide +kernel
theorem dX12_says_94 : decode cX12_says 94 = .ok (.aload_n 0, 1) := by decide +kernel
theorem dX12_says_95 : decode cX12_says 95 = .ok (.getfield 13, 3) := by decide +kernel
theorem dX12_says_98 : decode cX12_says 98 = .ok (.iload_n 1, 1) := by decide +kernel
theorem dX12_says_99 : decode cX12_says 99 = .ok (.iload 4, 2) := by decide +kernel
theorem dX12_says_101 : decode cX12_says 101 = .ok (.invokestatic 218, 3) := by decide +kernel
theorem dX12_says_104 : decode cX12_says 104 = .ok (.iaload, 1) := by decide +kernel
theorem dX12_says_105 : decode cX12_says 105 = .ok (.ireturn, 1) := by decide +kernel
theorem dX12_says_106 : decode cX12_says 106 = .ok (.iinc 4 1, 3) := by decide +kernel
theorem dX12_says_109 : decode cX12_says 109 = .ok (.goto (-35), 3) := by decide +kernel
theorem dX12_says_112 : decode cX12_says 112 = .ok (.iconst 2, 1) := by decide +kernel
theorem dX12_says_113 : decode cX12_says 113 = .ok (.ireturn, 1) := by decide +kernel
theorem dX12_waiting_0 : decode cX12_waiting 0 = .ok (.aload_n 0, 1) := by decide +kernel
theorem dX12_waiting_1 : decode cX12_waiting 1 = .ok (.getfield 13, 3) := by decide +kernel
theorem dX12_waiting_4 : decode cX12_waiting 4 = .ok (.iload_n 1, 1) := by decide +kernel
theorem dX12_waiting_5 : decode cX12_waiting 5 = .ok (.bipush 32, 2) := by decide +kernel
theorem dX12_waiting_7 : decode cX12_waiting 7 = .ok (.invokestatic 248, 3) := by decide +kernel
theorem dX12_waiting_10 : decode cX12_waiting 10 = .ok (.iaload, 1) := by decide +kernel
theorem dX12_waiting_11 : decode cX12_waiting 11 = .ok (.i2l, 1) := by decide +kernel
theorem dX12_waiting_12 : decode cX12_waiting 12 = .ok (.aload_n 0, 1) := by decide +kernel
theorem dX12_waiting_13 : decode cX12_waiting 13 = .ok (.getfield 288, 3) := by decide +kernel
theorem dX12_waiting_16 : decode cX12_waiting 16 = .ok (.aload_n 0, 1) := by decide +kernel
theorem dX12_waiting_17 : decode cX12_waiting 17 = .ok (.getfield 311, 3) := by decide +kernel
theorem dX12_waiting_20 : decode cX12_waiting 20 = .ok (.iadd, 1) := by decide +kernel
theorem dX12_waiting_21 : decode cX12_waiting 21 = .ok (.i2l, 1) := by decide +kernel
theorem dX12_waiting_22 : decode cX12_waiting 22 = .ok (.lmul, 1) := by decide +kernel
theorem dX12_waiting_23 : decode cX12_waiting 23 = .ok (.aload_n 0, 1) := by decide +kernel
theorem dX12_waiting_24 : decode cX12_waiting 24 = .ok (.getfield 13, 3) := by decide +kernel
theorem dX12_waiting_27 : decode cX12_waiting 27 = .ok (.iload_n 1, 1) := by decide +kernel
theorem dX12_waiting_28 : decode cX12_waiting 28 = .ok (.bipush 33, 2) := by decide +kernel
theorem dX12_waiting_30 : decode cX12_waiting 30 = .ok (.invokestatic 248, 3) := by decide +kernel
theorem dX12_waiting_33 : decode cX12_waiting 33 = .ok (.iaload, 1) := by decide +kernel
theorem dX12_waiting_34 : decode cX12_waiting 34 = .ok (.i2l, 1) := by decide +kernel
theorem dX12_waiting_35 : decode cX12_waiting 35 = .ok (.aload_n 0, 1) := by decide +kernel
theorem dX12_waiting_36 : decode cX12_waiting 36 = .ok (.getfield 308, 3) := by decide +kernel
theorem dX12_waiting_39 : decode cX12_waiting 39 = .ok (.i2l, 1) := by decide +kernel
theorem dX12_waiting_40 : decode cX12_waiting 40 = .ok (.lmul, 1) := by decide +kernel
theorem dX12_waiting_41 : decode cX12_waiting 41 = .ok (.ladd, 1) := by decide +kernel
theorem dX12_waiting_42 : decode cX12_waiting 42 = .ok (.aload_n 0, 1) := by decide +kernel
theorem dX12_waiting_43 : decode cX12_waiting 43 = .ok (.iload_n 1, 1) := by decide +kernel
theorem dX12_waiting_44 : decode cX12_waiting 44 = .ok (.invokevirtual 251, 3) := by decide +kernel
theorem dX12_waiting_47 : decode cX12_waiting 47 = .ok (.i2l, 1) := by decide +kernel
theorem dX12_waiting_48 : decode cX12_waiting 48 = .ok (.aload_n 0, 1) := by decide +kernel
theorem dX12_waiting_49 : decode cX12_waiting 49 = .ok (.getfield 46, 3) := by decide +kernel
theorem dX12_waiting_52 : decode cX12_waiting 52 = .ok (.bipush 32, 2) := by decide +kernel
theorem dX12_waiting_54 : decode cX12_waiting 54 = .ok (.iload_n 2, 1) := by decide +kernel
theorem dX12_waiting_55 : decode cX12_waiting 55 = .ok (.iconst 1, 1) := by decide +kernel
theorem dX12_waiting_56 : decode cX12_waiting 56 = .ok (.iadd, 1) := by decide +kernel
theorem dX12_waiting_57 : decode cX12_waiting 57 = .ok (.imul, 1) := by decide +kernel
theorem dX12_waiting_58 : decode cX12_waiting 58 = .ok (.iload_n 1, 1) := by decide +kernel
theorem dX12_waiting_59 : decode cX12_waiting 59 = .ok (.iadd, 1) := by decide +kernel
theorem dX12_waiting_60 : decode cX12_waiting 60 = .ok (.laload, 1) := by decide +kernel
theorem dX12_waiting_61 : decode cX12_waiting 61 = .ok (.lmul, 1) := by decide +kernel
theorem dX12_waiting_62 : decode cX12_waiting 62 = .ok (.ladd, 1) := by decide +kernel
theorem dX12_waiting_63 : decode cX12_waiting 63 = .ok (.lstore_n 3, 1) := by decide +kernel
theorem dX12_waiting_64 : decode cX12_waiting 64 = .ok (.iconst 0, 1) := by decide +kernel
theorem dX12_waiting_65 : decode cX12_waiting 65 = .ok (.istore 5, 2) := by decide +kernel
theorem dX12_waiting_67 : decode cX12_waiting 67 = .ok (.iload 5, 2) := by decide +kernel
theorem dX12_waiting_69 : decode cX12_waiting 69 = .ok (.bipush 32, 2) := by decide +kernel
theorem dX12_waiting_71 : decode cX12_waiting 71 = .ok (.if_icmp .ge 39, 3) := by decide +kernel
theorem dX12_waiting_74 : decode cX12_waiting 74 = .ok (.lload_n 3, 1) := by decide +kernel
theorem dX12_waiting_75 : decode cX12_waiting 75 = .ok (.aload_n 0, 1) := by decide +kernel
theorem dX12_waiting_76 : decode cX12_waiting 76 = .ok (.getfield 13, 3) := by decide +kernel
theorem dX12_waiting_79 : decode cX12_waiting 79 = .ok (.iload_n 1, 1) := by decide +kernel
theorem dX12_waiting_80 : decode cX12_waiting 80 = .ok (.iload 5, 2) := by decide +kernel
theorem dX12_waiting_82 : decode cX12_waiting 82 = .ok (.invokestatic 248, 3) := by decide +kernel
theorem dX12_waiting_85 : decode cX12_waiting 85 = .ok (.iaload, 1) := by decide +kernel
theorem dX12_waiting_86 : decode cX12_waiting 86 = .ok (.i2l, 1) := by decide +kernel
theorem dX12_waiting_87 : decode cX12_waiting 87 = .ok (.aload_n 0, 1) := by decide +kernel
theorem dX12_waiting_88 : decode cX12_waiting 88 = .ok (.getfield 46, 3) := by decide +kernel
theorem dX12_waiting_91 : decode cX12_waiting 91 = .ok (.bipush 32, 2) := by decide +kernel
theorem dX12_waiting_93 : decode cX12_waiting 93 = .ok (.iload_n 2, 1) := by decide +kernel
theorem dX12_waiting_94 : decode cX12_waiting 94 = .ok (.iconst 1, 1) := by decide +kernel
theorem dX12_waiting_95 : decode cX12_waiting 95 = .ok (.iadd, 1) := by decide +kernel
theorem dX12_waiting_96 : decode cX12_waiting 96 = .ok (.imul, 1) := by decide +kernel
theorem dX12_waiting_97 : decode cX12_waiting 97 = .ok (.iload 5, 2) := by decide +kernel
theorem dX12_waiting_99 : decode cX12_waiting 99 = .ok (.iadd, 1) := by decide +kernel
theorem dX12_waiting_100 : decode cX12_waiting 100 = .ok (.laload, 1) := by decide +kernel
theorem dX12_waiting_101 : decode cX12_waiting 101 = .ok (.lmul, 1) := by decide +kernel
theorem dX12_waiting_102 : decode cX12_waiting 102 = .ok (.ladd, 1) := by decide +kernel
theorem dX12_waiting_103 : decode cX12_waiting 103 = .ok (.lstore_n 3, 1) := by decide +kernel
theorem dX12_waiting_104 : decode cX12_waiting 104 = .ok (.iinc 5 1, 3) := by decide +kernel
theorem dX12_waiting_107 : decode cX12_waiting 107 = .ok (.goto (-40), 3) := by decide +kernel
theorem dX12_waiting_110 : decode cX12_waiting 110 = .ok (.lload_n 3, 1) := by decide +kernel
theorem dX12_waiting_111 : decode cX12_waiting 111 = .ok (.ldc2_w 291, 3) := by decide +kernel
theorem dX12_waiting_114 : decode cX12_waiting 114 = .ok (.invokestatic 293, 3) := by decide +kernel
theorem dX12_waiting_117 : decode cX12_waiting 117 = .ok (.lreturn, 1) := by decide +kernel
theorem dX12_judges_0 : decode cX12_judges 0 = .ok (.iload_n 3, 1) := by decide +kernel
theorem dX12_judges_1 : decode cX12_judges 1 = .ok (.istore 4, 2) := by decide +kernel
theorem dX12_judges_3 : decode cX12_judges 3 = .ok (.iload 4, 2) := by decide +kernel
theorem dX12_judges_5 : decode cX12_judges 5 = .ok (.ifCond .lt 329, 3) := by decide +kernel
theorem dX12_judges_8 : decode cX12_judges 8 = .ok (.iconst 0, 1) := by decide +kernel
theorem dX12_judges_9 : decode cX12_judges 9 = .ok (.istore 5, 2) := by decide +kernel
theorem dX12_judges_11 : decode cX12_judges 11 = .ok (.iload 5, 2) := by decide +kernel
theorem dX12_judges_13 : decode cX12_judges 13 = .ok (.bipush 32, 2) := by decide +kernel
theorem dX12_judges_15 : decode cX12_judges 15 = .ok (.if_icmp .ge 313, 3) := by decide +kernel
theorem dX12_judges_18 : decode cX12_judges 18 = .ok (.iload 4, 2) := by decide +kernel
theorem dX12_judges_20 : decode cX12_judges 20 = .ok (.iload_n 3, 1) := by decide +kernel
theorem dX12_judges_21 : decode cX12_judges 21 = .ok (.if_icmp .ne 7, 3) := by decide +kernel
theorem dX12_judges_24 : decode cX12_judges 24 = .ok (.iconst 1, 1) := by decide +kernel
theorem dX12_judges_25 : decode cX12_judges 25 = .ok (.goto 4, 3) := by decide +kernel
theorem dX12_judges_28 : decode cX12_judges 28 = .ok (.iconst 0, 1) := by decide +kernel
theorem dX12_judges_29 : decode cX12_judges 29 = .ok (.istore 6, 2) := by decide +kernel
theorem dX12_judges_31 : decode cX12_judges 31 = .ok (.aload_n 0, 1) := by decide +kernel
theorem dX12_judges_32 : decode cX12_judges 32 = .ok (.getfield 42, 3) := by decide +kernel
theorem dX12_judges_35 : decode cX12_judges 35 = .ok (.bipush 32, 2) := by decide +kernel
theorem dX12_judges_37 : decode cX12_judges 37 = .ok (.iconst 0, 1) := by decide +kernel
theorem dX12_judges_38 : decode cX12_judges 38 = .ok (.aload_n 0, 1) := by decide +kernel
theorem dX12_judges_39 : decode cX12_judges 39 = .ok (.getfield 13, 3) := by decide +kernel
theorem dX12_judges_42 : decode cX12_judges 42 = .ok (.iconst 5, 1) := by decide +kernel
theorem dX12_judges_43 : decode cX12_judges 43 = .ok (.iaload, 1) := by decide +kernel
theorem dX12_judges_44 : decode cX12_judges 44 = .ok (.iload 4, 2) := by decide +kernel
theorem dX12_judges_46 : decode cX12_judges 46 = .ok (.isub, 1) := by decide +kernel
theorem dX12_judges_47 : decode cX12_judges 47 = .ok (.invokestatic 257, 3) := by decide +kernel
theorem dX12_judges_50 : decode cX12_judges 50 = .ok (.imul, 1) := by decide +kernel
theorem dX12_judges_51 : decode cX12_judges 51 = .ok (.iload 5, 2) := by decide +kernel
theorem dX12_judges_53 : decode cX12_judges 53 = .ok (.iadd, 1) := by decide +kernel
theorem dX12_judges_54 : decode cX12_judges 54 = .ok (.laload, 1) := by decide +kernel
theorem dX12_judges_55 : decode cX12_judges 55 = .ok (.aload_n 0, 1) := by decide +kernel
theorem dX12_judges_56 : decode cX12_judges 56 = .ok (.getfield 311, 3) := by decide +kernel
theorem dX12_judges_59 : decode cX12_judges 59 = .ok (.i2l, 1) := by decide +kernel
theorem dX12_judges_60 : decode cX12_judges 60 = .ok (.ladd, 1) := by decide +kernel
theorem dX12_judges_61 : decode cX12_judges 61 = .ok (.lstore 7, 2) := by decide +kernel
theorem dX12_judges_63 : decode cX12_judges 63 = .ok (.iload 6, 2) := by decide +kernel
theorem dX12_judges_65 : decode cX12_judges 65 = .ok (.ifCond .eq 8, 3) := by decide +kernel
theorem dX12_judges_68 : decode cX12_judges 68 = .ok (.lload 7, 2) := by decide +kernel
theorem dX12_judges_70 : decode cX12_judges 70 = .ok (.goto 11, 3) := by decide +kernel
theorem dX12_judges_73 : decode cX12_judges 73 = .ok (.aload_n 0, 1) := by decide +kernel
theorem dX12_judges_74 : decode cX12_judges 74 = .ok (.iload 5, 2) := by decide +kernel
theorem dX12_judges_76 : decode cX12_judges 76 = .ok (.iload 4, 2) := by decide +kernel
theorem dX12_judges_78 : decode cX12_judges 78 = .ok (.invokevirtual 327, 3) := by decide +kernel
theorem dX12_judges_81 : decode cX12_judges 81 = .ok (.lstore 9, 2) := by decide +kernel
theorem dX12_judges_83 : decode cX12_judges 83 = .ok (.iload_n 1, 1) := by decide +kernel
theorem dX12_judges_84 : decode cX12_judges 84 = .ok (.ifCond .ne 7, 3) := by decide +kernel
theorem dX12_judges_87 : decode cX12_judges 87 = .ok (.iconst 0, 1) := by decide +kernel
theorem dX12_judges_88 : decode cX12_judges 88 = .ok (.goto 90, 3) := by decide +kernel
theorem dX12_judges_91 : decode cX12_judges 91 = .ok (.iload_n 1, 1) := by decide +kernel
theorem dX12_judges_92 : decode cX12_judges 92 = .ok (.iconst 1, 1) := by decide +kernel
theorem dX12_judges_93 : decode cX12_judges 93 = .ok (.if_icmp .ne 7, 3) := by decide +kernel
theorem dX12_judges_96 : decode cX12_judges 96 = .ok (.iconst 1, 1) := by decide +kernel
theorem dX12_judges_97 : decode cX12_judges 97 = .ok (.goto 81, 3) := by decide +kernel
theorem dX12_judges_100 : decode cX12_judges 100 = .ok (.iload_n 1, 1) := by decide +kernel
theorem dX12_judges_101 : decode cX12_judges 101 = .ok (.iconst 2, 1) := by decide +kernel
theorem dX12_judges_102 : decode cX12_judges 102 = .ok (.if_icmp .ne 17, 3) := by decide +kernel
theorem dX12_judges_105 : decode cX12_judges 105 = .ok (.iload 5, 2) := by decide +kernel
theorem dX12_judges_107 : decode cX12_judges 107 = .ok (.iload_n 2, 1) := by decide +kernel
theorem dX12_judges_108 : decode cX12_judges 108 = .ok (.if_icmp .lt 7, 3) := by decide +kernel
theorem dX12_judges_111 : decode cX12_judges 111 = .ok (.iconst 2, 1) := by decide +kernel
theorem dX12_judges_112 : decode cX12_judges 112 = .ok (.goto 66, 3) := by decide +kernel
theorem dX12_judges_115 : decode cX12_judges 115 = .ok (.iconst 0, 1) := by decide +kernel
theorem dX12_judges_116 : decode cX12_judges 116 = .ok (.goto 62, 3) := by decide +kernel
theorem dX12_judges_119 : decode cX12_judges 119 = .ok (.iload_n 1, 1) := by decide +kernel
theorem dX12_judges_120 : decode cX12_judges 120 = .ok (.bipush 100, 2) := by decide +kernel
theorem dX12_judges_122 : decode cX12_judges 122 = .ok (.if_icmp .lt 36, 3) := by decide +kernel
theorem dX12_judges_125 : decode cX12_judges 125 = .ok (.iload 5, 2) := by decide +kernel
theorem dX12_judges_127 : decode cX12_judges 127 = .ok (.iconst 4, 1) := by decide +kernel
theorem dX12_judges_128 : decode cX12_judges 128 = .ok (.idiv, 1) := by decide +kernel
theorem dX12_judges_129 : decode cX12_judges 129 = .ok (.iload_n 1, 1) := by decide +kernel
theorem dX12_judges_130 : decode cX12_judges 130 = .ok (.bipush 100, 2) := by decide +kernel
theorem dX12_judges_132 : decode cX12_judges 132 = .ok (.isub, 1) := by decide +kernel
theorem dX12_judges_133 : decode cX12_judges 133 = .ok (.bipush 10, 2) := by decide +kernel
theorem dX12_judges_135 : decode cX12_judges 135 = .ok (.idiv, 1) := by decide +kernel
theorem dX12_judges_136 : decode cX12_judges 136 = .ok (.if_icmp .lt 14, 3) := by decide +kernel
theorem dX12_judges_139 : decode cX12_judges 139 = .ok (.iload 5, 2) := by decide +kernel
theorem dX12_judges_141 : decode cX12_judges 141 = .ok (.iconst 4, 1) := by decide +kernel
theorem dX12_judges_142 : decode cX12_judges 142 = .ok (.irem, 1) := by decide +kernel
theorem dX12_judges_143 : decode cX12_judges 143 = .ok (.iload_n 1, 1) := by decide +kernel
theorem dX12_judges_144 : decode cX12_judges 144 = .ok (.bipush 10, 2) := by decide +kernel
theorem dX12_judges_146 : decode cX12_judges 146 = .ok (.irem, 1) := by decide +kernel
theorem dX12_judges_147 : decode cX12_judges 147 = .ok (.if_icmp .ge 7, 3) := by decide +kernel
theorem dX12_judges_150 : decode cX12_judges 150 = .ok (.iconst 0, 1) := by decide +kernel
theorem dX12_judges_151 : decode cX12_judges 151 = .ok (.goto 27, 3) := by decide +kernel
theorem dX12_judges_154 : decode cX12_judges 154 = .ok (.iconst 2, 1) := by decide +kernel
theorem dX12_judges_155 : decode cX12_judges 155 = .ok (.goto 23, 3) := by decide +kernel
theorem dX12_judges_158 : decode cX12_judges 158 = .ok (.iload_n 1, 1) := by decide +kernel
theorem dX12_judges_159 : decode cX12_judges 159 = .ok (.iconst 5, 1) := by decide +kernel
theorem dX12_judges_160 : decode cX12_judges 160 = .ok (.if_icmp .lt 17, 3) := by decide +kernel
theorem dX12_judges_163 : decode cX12_judges 163 = .ok (.aload_n 0, 1) := by decide +kernel
theorem dX12_judges_164 : decode cX12_judges 164 = .ok (.iload_n 1, 1) := by decide +kernel
theorem dX12_judges_165 : decode cX12_judges 165 = .ok (.iconst 5, 1) := by decide +kernel
theorem dX12_judges_166 : decode cX12_judges 166 = .ok (.isub, 1) := by decide +kernel
theorem dX12_judges_167 : decode cX12_judges 167 = .ok (.iload 5, 2) := by decide +kernel
theorem dX12_judges_169 : decode cX12_judges 169 = .ok (.iload 4, 2) := by decide +kernel
theorem dX12_judges_171 : decode cX12_judges 171 = .ok (.invokevirtual 331, 3) := by decide +kernel
theorem dX12_judges_174 : decode cX12_judges 174 = .ok (.goto 4, 3) := by decide +kernel
theorem dX12_judges_177 : decode cX12_judges 177 = .ok (.iconst 2, 1) := by decide +kernel
theorem dX12_judges_178 : decode cX12_judges 178 = .ok (.istore 11, 2) := by decide +kernel
theorem dX12_judges_180 : decode cX12_judges 180 = .ok (.iload_n 1, 1) := by decide +kernel
theorem dX12_judges_181 : decode cX12_judges 181 = .ok (.iconst 3, 1) := by decide +kernel
theorem dX12_judges_182 : decode cX12_judges 182 = .ok (.if_icmp .ne 44, 3) := by decide +kernel
theorem dX12_judges_185 : decode cX12_judges 185 = .ok (.aload_n 0, 1) := by decide +kernel
theorem dX12_judges_186 : decode cX12_judges 186 = .ok (.getfield 308, 3) := by decide +kernel
theorem dX12_judges_189 : decode cX12_judges 189 = .ok (.i2l, 1) := by decide +kernel
theorem dX12_judges_190 : decode cX12_judges 190 = .ok (.lload 7, 2) := by decide +kernel
theorem dX12_judges_192 : decode cX12_judges 192 = .ok (.lcmp, 1) := by decide +kernel
theorem dX12_judges_193 : decode cX12_judges 193 = .ok (.ifCond .lt 18, 3) := by decide +kernel
theorem dX12_judges_196 : decode cX12_judges 196 = .ok (.aload_n 0, 1) := by decide +kernel
theorem dX12_judges_197 : decode cX12_judges 197 = .ok (.getfield 308, 3) := by decide +kernel
theorem dX12_judges_200 : decode cX12_judges 200 = .ok (.i2l, 1) := by decide +kernel
theorem dX12_judges_201 : decode cX12_judges 201 = .ok (.lload 9, 2) := by decide +kernel
theorem dX12_judges_203 : decode cX12_judges 203 = .ok (.lcmp, 1) := by decide +kernel
theorem dX12_judges_204 : decode cX12_judges 204 = .ok (.ifCond .lt 7, 3) := by decide +kernel
theorem dX12_judges_207 : decode cX12_judges 207 = .ok (.iconst 0, 1) := by decide +kernel
theorem dX12_judges_208 : decode cX12_judges 208 = .ok (.goto 16, 3) := by decide +kernel
theorem dX12_judges_211 : decode cX12_judges 211 = .ok (.lload 7, 2) := by decide +kernel
theorem dX12_judges_213 : decode cX12_judges 213 = .ok (.lload 9, 2) := by decide +kernel
theorem dX12_judges_215 : decode cX12_judges 215 = .ok (.lcmp, 1) := by decide +kernel
theorem dX12_judges_216 : decode cX12_judges 216 = .ok (.ifCond .lt 7, 3) := by decide +kernel
theorem dX12_judges_219 : decode cX12_judges 219 = .ok (.iconst 1, 1) := by decide +kernel
theorem dX12_judges_220 : decode cX12_judges 220 = .ok (.goto 4, 3) := by decide +kernel
theorem dX12_judges_223 : decode cX12_judges 223 = .ok (.iconst 2, 1) := by decide +kernel
theorem dX12_judges_224 : decode cX12_judges 224 = .ok (.istore 11, 2) := by decide +kernel
theorem dX12_judges_226 : decode cX12_judges 226 = .ok (.iload_n 1, 1) := by decide +kernel
theorem dX12_judges_227 : decode cX12_judges 227 = .ok (.iconst 4, 1) := by decide +kernel
theorem dX12_judges_228 : decode cX12_judges 228 = .ok (.if_icmp .ne 26, 3) := by decide +kernel
theorem dX12_judges_231 : decode cX12_judges 231 = .ok (.iload 6, 2) := by decide +kernel
theorem dX12_judges_233 : decode cX12_judges 233 = .ok (.ifCond .eq 21, 3) := by decide +kernel
theorem dX12_judges_236 : decode cX12_judges 236 = .ok (.aload_n 0, 1) := by decide +kernel
theorem dX12_judges_237 : decode cX12_judges 237 = .ok (.getfield 308, 3) := by decide +kernel
theorem dX12_judges_240 : decode cX12_judges 240 = .ok (.i2l, 1) := by decide +kernel
theorem dX12_judges_241 : decode cX12_judges 241 = .ok (.lload 7, 2) := by decide +kernel
theorem dX12_judges_243 : decode cX12_judges 243 = .ok (.lcmp, 1) := by decide +kernel
theorem dX12_judges_244 : decode cX12_judges 244 = .ok (.ifCond .lt 7, 3) := by decide +kernel
theorem dX12_judges_247 : decode cX12_judges 247 = .ok (.iconst 0, 1) := by decide +kernel
theorem dX12_judges_248 : decode cX12_judges 248 = .ok (.goto 4, 3) := by decide +kernel
theorem dX12_judges_251 : decode cX12_judges 251 = .ok (.iconst 1, 1) := by decide +kernel
theorem dX12_judges_252 : decode cX12_judges 252 = .ok (.istore 11, 2) := by decide +kernel
theorem dX12_judges_254 : decode cX12_judges 254 = .ok (.iload 6, 2) := by decide +kernel
theorem dX12_judges_256 : decode cX12_judges 256 = .ok (.ifCond .eq 12, 3) := by decide +kernel
theorem dX12_judges_259 : decode cX12_judges 259 = .ok (.iload 11, 2) := by decide +kernel
theorem dX12_judges_261 : decode cX12_judges 261 = .ok (.iconst 2, 1) := by decide +kernel
theorem dX12_judges_262 : decode cX12_judges 262 = .ok (.if_icmp .ne 6, 3) := by decide +kernel
theorem dX12_judges_265 : decode cX12_judges 265 = .ok (.iconst 1, 1) := by decide +kernel
theorem dX12_judges_266 : decode cX12_judges 266 = .ok (.istore 11, 2) := by decide +kernel
theorem dX12_judges_268 : decode cX12_judges 268 = .ok (.aload_n 0, 1) := by decide +kernel
theorem dX12_judges_269 : decode cX12_judges 269 = .ok (.getfield 46, 3) := by decide +kernel
theorem dX12_judges_272 : decode cX12_judges 272 = .ok (.bipush 32, 2) := by decide +kernel
theorem dX12_judges_274 : decode cX12_judges 274 = .ok (.iload 4, 2) := by decide +kernel
theorem dX12_judges_276 : decode cX12_judges 276 = .ok (.imul, 1) := by decide +kernel
theorem dX12_judges_277 : decode cX12_judges 277 = .ok (.iload 5, 2) := by decide +kernel
theorem dX12_judges_279 : decode cX12_judges 279 = .ok (.iadd, 1) := by decide +kernel
theorem dX12_judges_280 : decode cX12_judges 280 = .ok (.iload 11, 2) := by decide +kernel
theorem dX12_judges_282 : decode cX12_judges 282 = .ok (.ifCond .ne 11, 3) := by decide +kernel
theorem dX12_judges_285 : decode cX12_judges 285 = .ok (.aload_n 0, 1) := by decide +kernel
theorem dX12_judges_286 : decode cX12_judges 286 = .ok (.getfield 308, 3) := by decide +kernel
theorem dX12_judges_289 : decode cX12_judges 289 = .ok (.i2l, 1) := by decide +kernel
theorem dX12_judges_290 : decode cX12_judges 290 = .ok (.goto 16, 3) := by decide +kernel
theorem dX12_judges_293 : decode cX12_judges 293 = .ok (.iload 11, 2) := by decide +kernel
theorem dX12_judges_295 : decode cX12_judges 295 = .ok (.iconst 1, 1) := by decide +kernel
theorem dX12_judges_296 : decode cX12_judges 296 = .ok (.if_icmp .ne 8, 3) := by decide +kernel
theorem dX12_judges_299 : decode cX12_judges 299 = .ok (.lload 7, 2) := by decide +kernel
theorem dX12_judges_301 : decode cX12_judges 301 = .ok (.goto 5, 3) := by decide +kernel
theorem dX12_judges_304 : decode cX12_judges 304 = .ok (.lload 9, 2) := by decide +kernel
theorem dX12_judges_306 : decode cX12_judges 306 = .ok (.lastore, 1) := by decide +kernel
theorem dX12_judges_307 : decode cX12_judges 307 = .ok (.aload_n 0, 1) := by decide +kernel
theorem dX12_judges_308 : decode cX12_judges 308 = .ok (.getfield 49, 3) := by decide +kernel
theorem dX12_judges_311 : decode cX12_judges 311 = .ok (.bipush 32, 2) := by decide +kernel
theorem dX12_judges_313 : decode cX12_judges 313 = .ok (.iload 4, 2) := by decide +kernel
theorem dX12_judges_315 : decode cX12_judges 315 = .ok (.imul, 1) := by decide +kernel
theorem dX12_judges_316 : decode cX12_judges 316 = .ok (.iload 5, 2) := by decide +kernel
theorem dX12_judges_318 : decode cX12_judges 318 = .ok (.iadd, 1) := by decide +kernel
theorem dX12_judges_319 : decode cX12_judges 319 = .ok (.iload 11, 2) := by decide +kernel
theorem dX12_judges_321 : decode cX12_judges 321 = .ok (.iastore, 1) := by decide +kernel
theorem dX12_judges_322 : decode cX12_judges 322 = .ok (.iinc 5 1, 3) := by decide +kernel
theorem dX12_judges_325 : decode cX12_judges 325 = .ok (.goto (-314), 3) := by decide +kernel
theorem dX12_judges_328 : decode cX12_judges 328 = .ok (.iinc 4 (-1), 3) := by decide +kernel
theorem dX12_judges_331 : decode cX12_judges 331 = .ok (.goto (-328), 3) := by decide +kernel
theorem dX12_judges_334 : decode cX12_judges 334 = .ok (.return_, 1) := by decide +kernel
theorem dX12_badBar_0 : decode cX12_badBar 0 = .ok (.iload_n 1, 1) := by decide +kernel
theorem dX12_badBar_1 : decode cX12_badBar 1 = .ok (.iconst 2, 1) := by decide +kernel
theorem dX12_badBar_2 : decode cX12_badBar 2 = .ok (.if_icmp .ne 17, 3) := by decide +kernel
theorem dX12_badBar_5 : decode cX12_badBar 5 = .ok (.iload_n 2, 1) := by decide +kernel
theorem dX12_badBar_6 : decode cX12_badBar 6 = .ok (.iconst 0, 1) := by decide +kernel
theorem dX12_badBar_7 : decode cX12_badBar 7 = .ok (.bipush 31, 2) := by decide +kernel
theorem dX12_badBar_9 : decode cX12_badBar 9 = .ok (.invokestatic 77, 3) := by decide +kernel
theorem dX12_badBar_12 : decode cX12_badBar 12 = .ok (.ifCond .ne 7, 3) := by decide +kernel
theorem dX12_badBar_15 : decode cX12_badBar 15 = .ok (.iconst 1, 1) := by decide +kernel
theorem dX12_badBar_16 : decode cX12_badBar 16 = .ok (.goto 4, 3) := by decide +kernel
theorem dX12_badBar_19 : decode cX12_badBar 19 = .ok (.iconst 0, 1) := by decide +kernel
theorem dX12_badBar_20 : decode cX12_badBar 20 = .ok (.ireturn, 1) := by decide +kernel
theorem dX12_isNoFoul_0 : decode cX12_isNoFoul 0 = .ok (.aload_n 0, 1) := by decide +kernel
theorem dX12_isNoFoul_1 : decode cX12_isNoFoul 1 = .ok (.iload_n 1, 1) := by decide +kernel
theorem dX12_isNoFoul_2 : decode cX12_isNoFoul 2 = .ok (.invokevirtual 335, 3) := by decide +kernel
theorem dX12_isNoFoul_5 : decode cX12_isNoFoul 5 = .ok (.ifCond .ne 18, 3) := by decide +kernel
theorem dX12_isNoFoul_8 : decode cX12_isNoFoul 8 = .ok (.aload_n 0, 1) := by decide +kernel
theorem dX12_isNoFoul_9 : decode cX12_isNoFoul 9 = .ok (.iload_n 2, 1) := by decide +kernel
theorem dX12_isNoFoul_10 : decode cX12_isNoFoul 10 = .ok (.invokevirtual 317, 3) := by decide +kernel
theorem dX12_isNoFoul_13 : decode cX12_isNoFoul 13 = .ok (.ifCond .ne 10, 3) := by decide +kernel
theorem dX12_isNoFoul_16 : decode cX12_isNoFoul 16 = .ok (.iload_n 3, 1) := by decide +kernel
theorem dX12_isNoFoul_17 : decode cX12_isNoFoul 17 = .ok (.invokestatic 254, 3) := by decide +kernel
theorem dX12_isNoFoul_20 : decode cX12_isNoFoul 20 = .ok (.ifCond .eq 7, 3) := by decide +kernel
theorem dX12_isNoFoul_23 : decode cX12_isNoFoul 23 = .ok (.iconst 1, 1) := by decide +kernel
theorem dX12_isNoFoul_24 : decode cX12_isNoFoul 24 = .ok (.goto 4, 3) := by decide +kernel
theorem dX12_isNoFoul_27 : decode cX12_isNoFoul 27 = .ok (.iconst 0, 1) := by decide +kernel
theorem dX12_isNoFoul_28 : decode cX12_isNoFoul 28 = .ok (.ireturn, 1) := by decide +kernel
theorem dX12_asks_0 : decode cX12_asks 0 = .ok (.aload_n 0, 1) := by decide +kernel
theorem dX12_asks_1 : decode cX12_asks 1 = .ok (.aload_n 0, 1) := by decide +kernel
theorem dX12_asks_2 : decode cX12_asks 2 = .ok (.getfield 13, 3) := by decide +kernel
theorem dX12_asks_5 : decode cX12_asks 5 = .ok (.bipush 6, 2) := by decide +kernel
theorem dX12_asks_7 : decode cX12_asks 7 = .ok (.iaload, 1) := by decide +kernel
theorem dX12_asks_8 : decode cX12_asks 8 = .ok (.invokevirtual 296, 3) := by decide +kernel
theorem dX12_asks_11 : decode cX12_asks 11 = .ok (.aload_n 0, 1) := by decide +kernel
theorem dX12_asks_12 : decode cX12_asks 12 = .ok (.iload_n 3, 1) := by decide +kernel
theorem dX12_asks_13 : decode cX12_asks 13 = .ok (.iload 4, 2) := by decide +kernel
theorem dX12_asks_15 : decode cX12_asks 15 = .ok (.aload_n 0, 1) := by decide +kernel
theorem dX12_asks_16 : decode cX12_asks 16 = .ok (.iload_n 3, 1) := by decide +kernel
theorem dX12_asks_17 : decode cX12_asks 17 = .ok (.invokevirtual 320, 3) := by decide +kernel
theorem dX12_asks_20 : decode cX12_asks 20 = .ok (.invokevirtual 323, 3) := by decide +kernel
theorem dX12_asks_23 : decode cX12_asks 23 = .ok (.aload_n 0, 1) := by decide +kernel
theorem dX12_asks_24 : decode cX12_asks 24 = .ok (.iload_n 1, 1) := by decide +kernel
theorem dX12_asks_25 : decode cX12_asks 25 = .ok (.iload_n 2, 1) := by decide +kernel
theorem dX12_asks_26 : decode cX12_asks 26 = .ok (.aload_n 0, 1) := by decide +kernel
theorem dX12_asks_27 : decode cX12_asks 27 = .ok (.getfield 13, 3) := by decide +kernel
theorem dX12_asks_30 : decode cX12_asks 30 = .ok (.iconst 4, 1) := by decide +kernel
theorem dX12_asks_31 : decode cX12_asks 31 = .ok (.iaload, 1) := by decide +kernel
theorem dX12_asks_32 : decode cX12_asks 32 = .ok (.invokevirtual 338, 3) := by decide +kernel
theorem dX12_asks_35 : decode cX12_asks 35 = .ok (.return_, 1) := by decide +kernel
theorem dX12_judge_0 : decode cX12_judge 0 = .ok (.aload_n 0, 1) := by decide +kernel
theorem dX12_judge_1 : decode cX12_judge 1 = .ok (.iconst 0, 1) := by decide +kernel
theorem dX12_judge_2 : decode cX12_judge 2 = .ok (.putfield 3, 3) := by decide +kernel
theorem dX12_judge_5 : decode cX12_judge 5 = .ok (.aload_n 0, 1) := by decide +kernel
theorem dX12_judge_6 : decode cX12_judge 6 = .ok (.aload_n 0, 1) := by decide +kernel
theorem dX12_judge_7 : decode cX12_judge 7 = .ok (.iload_n 1, 1) := by decide +kernel
theorem dX12_judge_8 : decode cX12_judge 8 = .ok (.iload_n 3, 1) := by decide +kernel
theorem dX12_judge_9 : decode cX12_judge 9 = .ok (.iload 4, 2) := by decide +kernel
theorem dX12_judge_11 : decode cX12_judge 11 = .ok (.invokevirtual 341, 3) := by decide +kernel
theorem dX12_judge_14 : decode cX12_judge 14 = .ok (.ifCond .ne 11, 3) := by decide +kernel
theorem dX12_judge_17 : decode cX12_judge 17 = .ok (.iload 5, 2) := by decide +kernel
theorem dX12_judge_19 : decode cX12_judge 19 = .ok (.invokestatic 245, 3) := by decide +kernel
theorem dX12_judge_22 : decode cX12_judge 22 = .ok (.ifCond .eq 7, 3) := by decide +kernel
theorem dX12_judge_25 : decode cX12_judge 25 = .ok (.iconst 1, 1) := by decide +kernel
theorem dX12_judge_26 : decode cX12_judge 26 = .ok (.goto 4, 3) := by decide +kernel
theorem dX12_judge_29 : decode cX12_judge 29 = .ok (.iconst 0, 1) := by decide +kernel
theorem dX12_judge_30 : decode cX12_judge 30 = .ok (.iconst 1, 1) := by decide +kernel
theorem dX12_judge_31 : decode cX12_judge 31 = .ok (.invokevirtual 237, 3) := by decide +kernel
theorem dX12_judge_34 : decode cX12_judge 34 = .ok (.ifCond .ne 40, 3) := by decide +kernel
theorem dX12_judge_37 : decode cX12_judge 37 = .ok (.aload_n 0, 1) := by decide +kernel
theorem dX12_judge_38 : decode cX12_judge 38 = .ok (.iload 6, 2) := by decide +kernel
theorem dX12_judge_40 : decode cX12_judge 40 = .ok (.iconst 0, 1) := by decide +kernel
theorem dX12_judge_41 : decode cX12_judge 41 = .ok (.aload_n 0, 1) := by decide +kernel
theorem dX12_judge_42 : decode cX12_judge 42 = .ok (.getfield 13, 3) := by decide +kernel
theorem dX12_judge_45 : decode cX12_judge 45 = .ok (.iconst 4, 1) := by decide +kernel
theorem dX12_judge_46 : decode cX12_judge 46 = .ok (.iaload, 1) := by decide +kernel
theorem dX12_judge_47 : decode cX12_judge 47 = .ok (.invokestatic 77, 3) := by decide +kernel
theorem dX12_judge_50 : decode cX12_judge 50 = .ok (.ifCond .eq 12, 3) := by decide +kernel
theorem dX12_judge_53 : decode cX12_judge 53 = .ok (.aload_n 0, 1) := by decide +kernel
theorem dX12_judge_54 : decode cX12_judge 54 = .ok (.iload_n 1, 1) := by decide +kernel
theorem dX12_judge_55 : decode cX12_judge 55 = .ok (.iload_n 2, 1) := by decide +kernel
theorem dX12_judge_56 : decode cX12_judge 56 = .ok (.invokevirtual 344, 3) := by decide +kernel
theorem dX12_judge_59 : decode cX12_judge 59 = .ok (.ifCond .eq 7, 3) := by decide +kernel
theorem dX12_judge_62 : decode cX12_judge 62 = .ok (.iconst 1, 1) := by decide +kernel
theorem dX12_judge_63 : decode cX12_judge 63 = .ok (.goto 4, 3) := by decide +kernel
theorem dX12_judge_66 : decode cX12_judge 66 = .ok (.iconst 0, 1) := by decide +kernel
theorem dX12_judge_67 : decode cX12_judge 67 = .ok (.iconst 2, 1) := by decide +kernel
theorem dX12_judge_68 : decode cX12_judge 68 = .ok (.invokevirtual 237, 3) := by decide +kernel
theorem dX12_judge_71 : decode cX12_judge 71 = .ok (.ifCond .eq 5, 3) := by decide +kernel
theorem dX12_judge_74 : decode cX12_judge 74 = .ok (.lconst 0, 1) := by decide +kernel
theorem dX12_judge_75 : decode cX12_judge 75 = .ok (.lreturn, 1) := by decide +kernel
theorem dX12_judge_76 : decode cX12_judge 76 = .ok (.aload_n 0, 1) := by decide +kernel
theorem dX12_judge_77 : decode cX12_judge 77 = .ok (.iload_n 1, 1) := by decide +kernel
theorem dX12_judge_78 : decode cX12_judge 78 = .ok (.iload_n 2, 1) := by decide +kernel
theorem dX12_judge_79 : decode cX12_judge 79 = .ok (.iload_n 3, 1) := by decide +kernel
theorem dX12_judge_80 : decode cX12_judge 80 = .ok (.iload 4, 2) := by decide +kernel
theorem dX12_judge_82 : decode cX12_judge 82 = .ok (.invokevirtual 347, 3) := by decide +kernel
theorem dX12_judge_85 : decode cX12_judge 85 = .ok (.aload_n 0, 1) := by decide +kernel
theorem dX12_judge_86 : decode cX12_judge 86 = .ok (.getfield 46, 3) := by decide +kernel
theorem dX12_judge_89 : decode cX12_judge 89 = .ok (.bipush 32, 2) := by decide +kernel
theorem dX12_judge_91 : decode cX12_judge 91 = .ok (.iload 6, 2) := by decide +kernel
theorem dX12_judge_93 : decode cX12_judge 93 = .ok (.imul, 1) := by decide +kernel
theorem dX12_judge_94 : decode cX12_judge 94 = .ok (.iload 5, 2) := by decide +kernel
theorem dX12_judge_96 : decode cX12_judge 96 = .ok (.iadd, 1) := by decide +kernel
theorem dX12_judge_97 : decode cX12_judge 97 = .ok (.laload, 1) := by decide +kernel
theorem dX12_judge_98 : decode cX12_judge 98 = .ok (.lreturn, 1) := by decide +kernel
theorem dX12_does_0 : decode cX12_does 0 = .ok (.aload_n 0, 1) := by decide +kernel
theorem dX12_does_1 : decode cX12_does 1 = .ok (.iconst 0, 1) := by decide +kernel
theorem dX12_does_2 : decode cX12_does 2 = .ok (.putfield 3, 3) := by decide +kernel
theorem dX12_does_5 : decode cX12_does 5 = .ok (.aload_n 0, 1) := by decide +kernel
theorem dX12_does_6 : decode cX12_does 6 = .ok (.aload_n 0, 1) := by decide +kernel
theorem dX12_does_7 : decode cX12_does 7 = .ok (.iload_n 1, 1) := by decide +kernel
theorem dX12_does_8 : decode cX12_does 8 = .ok (.iload_n 3, 1) := by decide +kernel
theorem dX12_does_9 : decode cX12_does 9 = .ok (.iload 4, 2) := by decide +kernel
theorem dX12_does_11 : decode cX12_does 11 = .ok (.invokevirtual 341, 3) := by decide +kernel
theorem dX12_does_14 : decode cX12_does 14 = .ok (.ifCond .ne 11, 3) := by decide +kernel
theorem dX12_does_17 : decode cX12_does 17 = .ok (.iload 5, 2) := by decide +kernel
theorem dX12_does_19 : decode cX12_does 19 = .ok (.invokestatic 245, 3) := by decide +kernel
theorem dX12_does_22 : decode cX12_does 22 = .ok (.ifCond .eq 7, 3) := by decide +kernel
theorem dX12_does_25 : decode cX12_does 25 = .ok (.iconst 1, 1) := by decide +kernel
theorem dX12_does_26 : decode cX12_does 26 = .ok (.goto 4, 3) := by decide +kernel
theorem dX12_does_29 : decode cX12_does 29 = .ok (.iconst 0, 1) := by decide +kernel
theorem dX12_does_30 : decode cX12_does 30 = .ok (.iconst 1, 1) := by decide +kernel
theorem dX12_does_31 : decode cX12_does 31 = .ok (.invokevirtual 237, 3) := by decide +kernel
theorem dX12_does_34 : decode cX12_does 34 = .ok (.ifCond .ne 40, 3) := by decide +kernel
theorem dX12_does_37 : decode cX12_does 37 = .ok (.aload_n 0, 1) := by decide +kernel
theorem dX12_does_38 : decode cX12_does 38 = .ok (.iload 6, 2) := by decide +kernel
theorem dX12_does_40 : decode cX12_does 40 = .ok (.iconst 0, 1) := by decide +kernel
theorem dX12_does_41 : decode cX12_does 41 = .ok (.aload_n 0, 1) := by decide +kernel
theorem dX12_does_42 : decode cX12_does 42 = .ok (.getfield 13, 3) := by decide +kernel
theorem dX12_does_45 : decode cX12_does 45 = .ok (.iconst 4, 1) := by decide +kernel
theorem dX12_does_46 : decode cX12_does 46 = .ok (.iaload, 1) := by decide +kernel
theorem dX12_does_47 : decode cX12_does 47 = .ok (.invokestatic 77, 3) := by decide +kernel
theorem dX12_does_50 : decode cX12_does 50 = .ok (.ifCond .eq 12, 3) := by decide +kernel
theorem dX12_does_53 : decode cX12_does 53 = .ok (.aload_n 0, 1) := by decide +kernel
theorem dX12_does_54 : decode cX12_does 54 = .ok (.iload_n 1, 1) := by decide +kernel
theorem dX12_does_55 : decode cX12_does 55 = .ok (.iload_n 2, 1) := by decide +kernel
theorem dX12_does_56 : decode cX12_does 56 = .ok (.invokevirtual 344, 3) := by decide +kernel
theorem dX12_does_59 : decode cX12_does 59 = .ok (.ifCond .eq 7, 3) := by decide +kernel
theorem dX12_does_62 : decode cX12_does 62 = .ok (.iconst 1, 1) := by decide +kernel
theorem dX12_does_63 : decode cX12_does 63 = .ok (.goto 4, 3) := by decide +kernel
theorem dX12_does_66 : decode cX12_does 66 = .ok (.iconst 0, 1) := by decide +kernel
theorem dX12_does_67 : decode cX12_does 67 = .ok (.iconst 2, 1) := by decide +kernel
theorem dX12_does_68 : decode cX12_does 68 = .ok (.invokevirtual 237, 3) := by decide +kernel
theorem dX12_does_71 : decode cX12_does 71 = .ok (.ifCond .eq 5, 3) := by decide +kernel
theorem dX12_does_74 : decode cX12_does 74 = .ok (.iconst 0, 1) := by decide +kernel
theorem dX12_does_75 : decode cX12_does 75 = .ok (.ireturn, 1) := by decide +kernel
theorem dX12_does_76 : decode cX12_does 76 = .ok (.aload_n 0, 1) := by decide +kernel
theorem dX12_does_77 : decode cX12_does 77 = .ok (.iload_n 1, 1) := by decide +kernel
theorem dX12_does_78 : decode cX12_does 78 = .ok (.iload_n 2, 1) := by decide +kernel
theorem dX12_does_79 : decode cX12_does 79 = .ok (.iload_n 3, 1) := by decide +kernel
theorem dX12_does_80 : decode cX12_does 80 = .ok (.iload 4, 2) := by decide +kernel
theorem dX12_does_82 : decode cX12_does 82 = .ok (.invokevirtual 347, 3) := by decide +kernel
theorem dX12_does_85 : decode cX12_does 85 = .ok (.aload_n 0, 1) := by decide +kernel
theorem dX12_does_86 : decode cX12_does 86 = .ok (.getfield 49, 3) := by decide +kernel
theorem dX12_does_89 : decode cX12_does 89 = .ok (.bipush 32, 2) := by decide +kernel
theorem dX12_does_91 : decode cX12_does 91 = .ok (.iload 6, 2) := by decide +kernel
theorem dX12_does_93 : decode cX12_does 93 = .ok (.imul, 1) := by decide +kernel
theorem dX12_does_94 : decode cX12_does 94 = .ok (.iload 5, 2) := by decide +kernel
theorem dX12_does_96 : decode cX12_does 96 = .ok (.iadd, 1) := by decide +kernel
theorem dX12_does_97 : decode cX12_does 97 = .ok (.iaload, 1) := by decide +kernel
theorem dX12_does_98 : decode cX12_does 98 = .ok (.ireturn, 1) := by decide +kernel
theorem dX12_bestBy_0 : decode cX12_bestBy 0 = .ok (.aload_n 0, 1) := by decide +kernel
theorem dX12_bestBy_1 : decode cX12_bestBy 1 = .ok (.aload_n 0, 1) := by decide +kernel
theorem dX12_bestBy_2 : decode cX12_bestBy 2 = .ok (.getfield 13, 3) := by decide +kernel
theorem dX12_bestBy_5 : decode cX12_bestBy 5 = .ok (.bipush 6, 2) := by decide +kernel
theorem dX12_bestBy_7 : decode cX12_bestBy 7 = .ok (.iaload, 1) := by decide +kernel
theorem dX12_bestBy_8 : decode cX12_bestBy 8 = .ok (.invokevirtual 296, 3) := by decide +kernel
theorem dX12_bestBy_11 : decode cX12_bestBy 11 = .ok (.aload_n 0, 1) := by decide +kernel
theorem dX12_bestBy_12 : decode cX12_bestBy 12 = .ok (.iload_n 1, 1) := by decide +kernel
theorem dX12_bestBy_13 : decode cX12_bestBy 13 = .ok (.iload_n 2, 1) := by decide +kernel
theorem dX12_bestBy_14 : decode cX12_bestBy 14 = .ok (.aload_n 0, 1) := by decide +kernel
theorem dX12_bestBy_15 : decode cX12_bestBy 15 = .ok (.iload_n 1, 1) := by decide +kernel
theorem dX12_bestBy_16 : decode cX12_bestBy 16 = .ok (.invokevirtual 320, 3) := by decide +kernel
theorem dX12_bestBy_19 : decode cX12_bestBy 19 = .ok (.invokevirtual 323, 3) := by decide +kernel
theorem dX12_bestBy_22 : decode cX12_bestBy 22 = .ok (.aload_n 0, 1) := by decide +kernel
theorem dX12_bestBy_23 : decode cX12_bestBy 23 = .ok (.iconst 3, 1) := by decide +kernel
theorem dX12_bestBy_24 : decode cX12_bestBy 24 = .ok (.iconst 0, 1) := by decide +kernel
theorem dX12_bestBy_25 : decode cX12_bestBy 25 = .ok (.iload 4, 2) := by decide +kernel
theorem dX12_bestBy_27 : decode cX12_bestBy 27 = .ok (.invokevirtual 338, 3) := by decide +kernel
theorem dX12_bestBy_30 : decode cX12_bestBy 30 = .ok (.aload_n 0, 1) := by decide +kernel
theorem dX12_bestBy_31 : decode cX12_bestBy 31 = .ok (.getfield 46, 3) := by decide +kernel
theorem dX12_bestBy_34 : decode cX12_bestBy 34 = .ok (.iload_n 3, 1) := by decide +kernel
theorem dX12_bestBy_35 : decode cX12_bestBy 35 = .ok (.laload, 1) := by decide +kernel
theorem dX12_bestBy_36 : decode cX12_bestBy 36 = .ok (.lreturn, 1) := by decide +kernel
theorem dX12_waits_0 : decode cX12_waits 0 = .ok (.aload_n 0, 1) := by decide +kernel
theorem dX12_waits_1 : decode cX12_waits 1 = .ok (.iconst 0, 1) := by decide +kernel
theorem dX12_waits_2 : decode cX12_waits 2 = .ok (.putfield 3, 3) := by decide +kernel
theorem dX12_waits_5 : decode cX12_waits 5 = .ok (.aload_n 0, 1) := by decide +kernel
theorem dX12_waits_6 : decode cX12_waits 6 = .ok (.aload_n 0, 1) := by decide +kernel
theorem dX12_waits_7 : decode cX12_waits 7 = .ok (.iload_n 1, 1) := by decide +kernel
theorem dX12_waits_8 : decode cX12_waits 8 = .ok (.invokevirtual 317, 3) := by decide +kernel
theorem dX12_waits_11 : decode cX12_waits 11 = .ok (.ifCond .ne 17, 3) := by decide +kernel
theorem dX12_waits_14 : decode cX12_waits 14 = .ok (.iload_n 2, 1) := by decide +kernel
theorem dX12_waits_15 : decode cX12_waits 15 = .ok (.invokestatic 254, 3) := by decide +kernel
theorem dX12_waits_18 : decode cX12_waits 18 = .ok (.ifCond .ne 10, 3) := by decide +kernel
theorem dX12_waits_21 : decode cX12_waits 21 = .ok (.iload_n 3, 1) := by decide +kernel
theorem dX12_waits_22 : decode cX12_waits 22 = .ok (.invokestatic 245, 3) := by decide +kernel
theorem dX12_waits_25 : decode cX12_waits 25 = .ok (.ifCond .eq 7, 3) := by decide +kernel
theorem dX12_waits_28 : decode cX12_waits 28 = .ok (.iconst 1, 1) := by decide +kernel
theorem dX12_waits_29 : decode cX12_waits 29 = .ok (.goto 4, 3) := by decide +kernel
theorem dX12_waits_32 : decode cX12_waits 32 = .ok (.iconst 0, 1) := by decide +kernel
theorem dX12_waits_33 : decode cX12_waits 33 = .ok (.iconst 1, 1) := by decide +kernel
theorem dX12_waits_34 : decode cX12_waits 34 = .ok (.invokevirtual 237, 3) := by decide +kernel
theorem dX12_waits_37 : decode cX12_waits 37 = .ok (.ifCond .eq 5, 3) := by decide +kernel
theorem dX12_waits_40 : decode cX12_waits 40 = .ok (.lconst 0, 1) := by decide +kernel
theorem dX12_waits_41 : decode cX12_waits 41 = .ok (.lreturn, 1) := by decide +kernel
theorem dX12_waits_42 : decode cX12_waits 42 = .ok (.aload_n 0, 1) := by decide +kernel
theorem dX12_waits_43 : decode cX12_waits 43 = .ok (.iload_n 1, 1) := by decide +kernel
theorem dX12_waits_44 : decode cX12_waits 44 = .ok (.iload_n 2, 1) := by decide +kernel
theorem dX12_waits_45 : decode cX12_waits 45 = .ok (.iload_n 3, 1) := by decide +kernel
theorem dX12_waits_46 : decode cX12_waits 46 = .ok (.aload_n 0, 1) := by decide +kernel
theorem dX12_waits_47 : decode cX12_waits 47 = .ok (.getfield 13, 3) := by decide +kernel
theorem dX12_waits_50 : decode cX12_waits 50 = .ok (.iconst 4, 1) := by decide +kernel
theorem dX12_waits_51 : decode cX12_waits 51 = .ok (.iaload, 1) := by decide +kernel
theorem dX12_waits_52 : decode cX12_waits 52 = .ok (.invokevirtual 351, 3) := by decide +kernel
theorem dX12_waits_55 : decode cX12_waits 55 = .ok (.aload_n 0, 1) := by decide +kernel
theorem dX12_waits_56 : decode cX12_waits 56 = .ok (.iload_n 1, 1) := by decide +kernel
theorem dX12_waits_57 : decode cX12_waits 57 = .ok (.iload_n 2, 1) := by decide +kernel
theorem dX12_waits_58 : decode cX12_waits 58 = .ok (.iload_n 3, 1) := by decide +kernel
theorem dX12_waits_59 : decode cX12_waits 59 = .ok (.iconst 0, 1) := by decide +kernel
theorem dX12_waits_60 : decode cX12_waits 60 = .ok (.invokevirtual 351, 3) := by decide +kernel
theorem dX12_waits_63 : decode cX12_waits 63 = .ok (.lsub, 1) := by decide +kernel
theorem dX12_waits_64 : decode cX12_waits 64 = .ok (.lreturn, 1) := by decide +kernel
theorem dX12_enough_0 : decode cX12_enough 0 = .ok (.aload_n 0, 1) := by decide +kernel
theorem dX12_enough_1 : decode cX12_enough 1 = .ok (.iconst 0, 1) := by decide +kernel
theorem dX12_enough_2 : decode cX12_enough 2 = .ok (.putfield 3, 3) := by decide +kernel
theorem dX12_enough_5 : decode cX12_enough 5 = .ok (.aload_n 0, 1) := by decide +kernel
theorem dX12_enough_6 : decode cX12_enough 6 = .ok (.aload_n 0, 1) := by decide +kernel
theorem dX12_enough_7 : decode cX12_enough 7 = .ok (.iload_n 1, 1) := by decide +kernel
theorem dX12_enough_8 : decode cX12_enough 8 = .ok (.invokevirtual 317, 3) := by decide +kernel
theorem dX12_enough_11 : decode cX12_enough 11 = .ok (.ifCond .ne 17, 3) := by decide +kernel
theorem dX12_enough_14 : decode cX12_enough 14 = .ok (.iload_n 2, 1) := by decide +kernel
theorem dX12_enough_15 : decode cX12_enough 15 = .ok (.invokestatic 254, 3) := by decide +kernel
theorem dX12_enough_18 : decode cX12_enough 18 = .ok (.ifCond .ne 10, 3) := by decide +kernel
theorem dX12_enough_21 : decode cX12_enough 21 = .ok (.iload_n 3, 1) := by decide +kernel
theorem dX12_enough_22 : decode cX12_enough 22 = .ok (.invokestatic 245, 3) := by decide +kernel
theorem dX12_enough_25 : decode cX12_enough 25 = .ok (.ifCond .eq 7, 3) := by decide +kernel
theorem dX12_enough_28 : decode cX12_enough 28 = .ok (.iconst 1, 1) := by decide +kernel
theorem dX12_enough_29 : decode cX12_enough 29 = .ok (.goto 4, 3) := by decide +kernel
theorem dX12_enough_32 : decode cX12_enough 32 = .ok (.iconst 0, 1) := by decide +kernel
theorem dX12_enough_33 : decode cX12_enough 33 = .ok (.iconst 1, 1) := by decide +kernel
theorem dX12_enough_34 : decode cX12_enough 34 = .ok (.invokevirtual 237, 3) := by decide +kernel
theorem dX12_enough_37 : decode cX12_enough 37 = .ok (.ifCond .eq 5, 3) := by decide +kernel
theorem dX12_enough_40 : decode cX12_enough 40 = .ok (.iconst 0, 1) := by decide +kernel
theorem dX12_enough_41 : decode cX12_enough 41 = .ok (.ireturn, 1) := by decide +kernel
theorem dX12_enough_42 : decode cX12_enough 42 = .ok (.aload_n 0, 1) := by decide +kernel
theorem dX12_enough_43 : decode cX12_enough 43 = .ok (.iload_n 1, 1) := by decide +kernel
theorem dX12_enough_44 : decode cX12_enough 44 = .ok (.iload_n 2, 1) := by decide +kernel
theorem dX12_enough_45 : decode cX12_enough 45 = .ok (.iload_n 3, 1) := by decide +kernel
theorem dX12_enough_46 : decode cX12_enough 46 = .ok (.bipush 10, 2) := by decide +kernel
theorem dX12_enough_48 : decode cX12_enough 48 = .ok (.invokevirtual 351, 3) := by decide +kernel
theorem dX12_enough_51 : decode cX12_enough 51 = .ok (.lstore 4, 2) := by decide +kernel
theorem dX12_enough_53 : decode cX12_enough 53 = .ok (.iconst 0, 1) := by decide +kernel
theorem dX12_enough_54 : decode cX12_enough 54 = .ok (.istore 6, 2) := by decide +kernel
theorem dX12_enough_56 : decode cX12_enough 56 = .ok (.aload_n 0, 1) := by decide +kernel
theorem dX12_enough_57 : decode cX12_enough 57 = .ok (.iload_n 1, 1) := by decide +kernel
theorem dX12_enough_58 : decode cX12_enough 58 = .ok (.iload_n 2, 1) := by decide +kernel
theorem dX12_enough_59 : decode cX12_enough 59 = .ok (.iload_n 3, 1) := by decide +kernel
theorem dX12_enough_60 : decode cX12_enough 60 = .ok (.iload 6, 2) := by decide +kernel
theorem dX12_enough_62 : decode cX12_enough 62 = .ok (.invokevirtual 351, 3) := by decide +kernel
theorem dX12_enough_65 : decode cX12_enough 65 = .ok (.lload 4, 2) := by decide +kernel
theorem dX12_enough_67 : decode cX12_enough 67 = .ok (.lcmp, 1) := by decide +kernel
theorem dX12_enough_68 : decode cX12_enough 68 = .ok (.ifCond .eq 9, 3) := by decide +kernel
theorem dX12_enough_71 : decode cX12_enough 71 = .ok (.iinc 6 1, 3) := by decide +kernel
theorem dX12_enough_74 : decode cX12_enough 74 = .ok (.goto (-18), 3) := by decide +kernel
theorem dX12_enough_77 : decode cX12_enough 77 = .ok (.iload 6, 2) := by decide +kernel
theorem dX12_enough_79 : decode cX12_enough 79 = .ok (.ireturn, 1) := by decide +kernel
theorem dX12_losesAt_0 : decode cX12_losesAt 0 = .ok (.aload_n 0, 1) := by decide +kernel
theorem dX12_losesAt_1 : decode cX12_losesAt 1 = .ok (.iconst 3, 1) := by decide +kernel
theorem dX12_losesAt_2 : decode cX12_losesAt 2 = .ok (.iconst 0, 1) := by decide +kernel
theorem dX12_losesAt_3 : decode cX12_losesAt 3 = .ok (.aload_n 0, 1) := by decide +kernel
theorem dX12_losesAt_4 : decode cX12_losesAt 4 = .ok (.getfield 13, 3) := by decide +kernel
theorem dX12_losesAt_7 : decode cX12_losesAt 7 = .ok (.iconst 4, 1) := by decide +kernel
theorem dX12_losesAt_8 : decode cX12_losesAt 8 = .ok (.iaload, 1) := by decide +kernel
theorem dX12_losesAt_9 : decode cX12_losesAt 9 = .ok (.invokevirtual 338, 3) := by decide +kernel
theorem dX12_losesAt_12 : decode cX12_losesAt 12 = .ok (.iconst 0, 1) := by decide +kernel
theorem dX12_losesAt_13 : decode cX12_losesAt 13 = .ok (.istore 4, 2) := by decide +kernel
theorem dX12_losesAt_15 : decode cX12_losesAt 15 = .ok (.iload 4, 2) := by decide +kernel
theorem dX12_losesAt_17 : decode cX12_losesAt 17 = .ok (.bipush 32, 2) := by decide +kernel
theorem dX12_losesAt_19 : decode cX12_losesAt 19 = .ok (.if_icmp .ge 23, 3) := by decide +kernel
theorem dX12_losesAt_22 : decode cX12_losesAt 22 = .ok (.aload_n 0, 1) := by decide +kernel
theorem dX12_losesAt_23 : decode cX12_losesAt 23 = .ok (.getfield 52, 3) := by decide +kernel
theorem dX12_losesAt_26 : decode cX12_losesAt 26 = .ok (.iload 4, 2) := by decide +kernel
theorem dX12_losesAt_28 : decode cX12_losesAt 28 = .ok (.aload_n 0, 1) := by decide +kernel
theorem dX12_losesAt_29 : decode cX12_losesAt 29 = .ok (.getfield 46, 3) := by decide +kernel
theorem dX12_losesAt_32 : decode cX12_losesAt 32 = .ok (.iload 4, 2) := by decide +kernel
theorem dX12_losesAt_34 : decode cX12_losesAt 34 = .ok (.laload, 1) := by decide +kernel
theorem dX12_losesAt_35 : decode cX12_losesAt 35 = .ok (.lastore, 1) := by decide +kernel
theorem dX12_losesAt_36 : decode cX12_losesAt 36 = .ok (.iinc 4 1, 3) := by decide +kernel
theorem dX12_losesAt_39 : decode cX12_losesAt 39 = .ok (.goto (-24), 3) := by decide +kernel
theorem dX12_losesAt_42 : decode cX12_losesAt 42 = .ok (.aload_n 0, 1) := by decide +kernel
theorem dX12_losesAt_43 : decode cX12_losesAt 43 = .ok (.iload_n 1, 1) := by decide +kernel
theorem dX12_losesAt_44 : decode cX12_losesAt 44 = .ok (.iload_n 2, 1) := by decide +kernel
theorem dX12_losesAt_45 : decode cX12_losesAt 45 = .ok (.aload_n 0, 1) := by decide +kernel
theorem dX12_losesAt_46 : decode cX12_losesAt 46 = .ok (.getfield 13, 3) := by decide +kernel
theorem dX12_losesAt_49 : decode cX12_losesAt 49 = .ok (.iconst 4, 1) := by decide +kernel
theorem dX12_losesAt_50 : decode cX12_losesAt 50 = .ok (.iaload, 1) := by decide +kernel
theorem dX12_losesAt_51 : decode cX12_losesAt 51 = .ok (.invokevirtual 338, 3) := by decide +kernel
theorem dX12_losesAt_54 : decode cX12_losesAt 54 = .ok (.lconst 0, 1) := by decide +kernel
theorem dX12_losesAt_55 : decode cX12_losesAt 55 = .ok (.lstore 4, 2) := by decide +kernel
theorem dX12_losesAt_57 : decode cX12_losesAt 57 = .ok (.iconst 0, 1) := by decide +kernel
theorem dX12_losesAt_58 : decode cX12_losesAt 58 = .ok (.istore 6, 2) := by decide +kernel
theorem dX12_losesAt_60 : decode cX12_losesAt 60 = .ok (.iload 6, 2) := by decide +kernel
theorem dX12_losesAt_62 : decode cX12_losesAt 62 = .ok (.bipush 32, 2) := by decide +kernel
theorem dX12_losesAt_64 : decode cX12_losesAt 64 = .ok (.if_icmp .ge 44, 3) := by decide +kernel
theorem dX12_losesAt_67 : decode cX12_losesAt 67 = .ok (.lload 4, 2) := by decide +kernel
theorem dX12_losesAt_69 : decode cX12_losesAt 69 = .ok (.iload_n 3, 1) := by decide +kernel
theorem dX12_losesAt_70 : decode cX12_losesAt 70 = .ok (.iconst (-1), 1) := by decide +kernel
theorem dX12_losesAt_71 : decode cX12_losesAt 71 = .ok (.if_icmp .eq 9, 3) := by decide +kernel
theorem dX12_losesAt_74 : decode cX12_losesAt 74 = .ok (.iload_n 3, 1) := by decide +kernel
theorem dX12_losesAt_75 : decode cX12_losesAt 75 = .ok (.iload 6, 2) := by decide +kernel
theorem dX12_losesAt_77 : decode cX12_losesAt 77 = .ok (.if_icmp .ne 21, 3) := by decide +kernel
theorem dX12_losesAt_80 : decode cX12_losesAt 80 = .ok (.aload_n 0, 1) := by decide +kernel
theorem dX12_losesAt_81 : decode cX12_losesAt 81 = .ok (.getfield 52, 3) := by decide +kernel
theorem dX12_losesAt_84 : decode cX12_losesAt 84 = .ok (.iload 6, 2) := by decide +kernel
theorem dX12_losesAt_86 : decode cX12_losesAt 86 = .ok (.laload, 1) := by decide +kernel
theorem dX12_losesAt_87 : decode cX12_losesAt 87 = .ok (.aload_n 0, 1) := by decide +kernel
theorem dX12_losesAt_88 : decode cX12_losesAt 88 = .ok (.getfield 46, 3) := by decide +kernel
theorem dX12_losesAt_91 : decode cX12_losesAt 91 = .ok (.iload 6, 2) := by decide +kernel
theorem dX12_losesAt_93 : decode cX12_losesAt 93 = .ok (.laload, 1) := by decide +kernel
theorem dX12_losesAt_94 : decode cX12_losesAt 94 = .ok (.lsub, 1) := by decide +kernel
theorem dX12_losesAt_95 : decode cX12_losesAt 95 = .ok (.goto 4, 3) := by decide +kernel
theorem dX12_losesAt_98 : decode cX12_losesAt 98 = .ok (.lconst 0, 1) := by decide +kernel
theorem dX12_losesAt_99 : decode cX12_losesAt 99 = .ok (.ladd, 1) := by decide +kernel
theorem dX12_losesAt_100 : decode cX12_losesAt 100 = .ok (.lstore 4, 2) := by decide +kernel
theorem dX12_losesAt_102 : decode cX12_losesAt 102 = .ok (.iinc 6 1, 3) := by decide +kernel
theorem dX12_losesAt_105 : decode cX12_losesAt 105 = .ok (.goto (-45), 3) := by decide +kernel
theorem dX12_losesAt_108 : decode cX12_losesAt 108 = .ok (.lload 4, 2) := by decide +kernel
theorem dX12_losesAt_110 : decode cX12_losesAt 110 = .ok (.lreturn, 1) := by decide +kernel
theorem dX12_loses_0 : decode cX12_loses 0 = .ok (.aload_n 0, 1) := by decide +kernel
theorem dX12_loses_1 : decode cX12_loses 1 = .ok (.iconst 0, 1) := by decide +kernel
theorem dX12_loses_2 : decode cX12_loses 2 = .ok (.putfield 3, 3) := by decide +kernel
theorem dX12_loses_5 : decode cX12_loses 5 = .ok (.aload_n 0, 1) := by decide +kernel
theorem dX12_loses_6 : decode cX12_loses 6 = .ok (.aload_n 0, 1) := by decide +kernel
theorem dX12_loses_7 : decode cX12_loses 7 = .ok (.iload_n 1, 1) := by decide +kernel
theorem dX12_loses_8 : decode cX12_loses 8 = .ok (.iload_n 3, 1) := by decide +kernel
theorem dX12_loses_9 : decode cX12_loses 9 = .ok (.iload 4, 2) := by decide +kernel
theorem dX12_loses_11 : decode cX12_loses 11 = .ok (.invokevirtual 341, 3) := by decide +kernel
theorem dX12_loses_14 : decode cX12_loses 14 = .ok (.ifCond .ne 17, 3) := by decide +kernel
theorem dX12_loses_17 : decode cX12_loses 17 = .ok (.iload 5, 2) := by decide +kernel
theorem dX12_loses_19 : decode cX12_loses 19 = .ok (.iconst (-1), 1) := by decide +kernel
theorem dX12_loses_20 : decode cX12_loses 20 = .ok (.if_icmp .eq 15, 3) := by decide +kernel
theorem dX12_loses_23 : decode cX12_loses 23 = .ok (.iload 5, 2) := by decide +kernel
theorem dX12_loses_25 : decode cX12_loses 25 = .ok (.invokestatic 245, 3) := by decide +kernel
theorem dX12_loses_28 : decode cX12_loses 28 = .ok (.ifCond .eq 7, 3) := by decide +kernel
theorem dX12_loses_31 : decode cX12_loses 31 = .ok (.iconst 1, 1) := by decide +kernel
theorem dX12_loses_32 : decode cX12_loses 32 = .ok (.goto 4, 3) := by decide +kernel
theorem dX12_loses_35 : decode cX12_loses 35 = .ok (.iconst 0, 1) := by decide +kernel
theorem dX12_loses_36 : decode cX12_loses 36 = .ok (.iconst 1, 1) := by decide +kernel
theorem dX12_loses_37 : decode cX12_loses 37 = .ok (.invokevirtual 237, 3) := by decide +kernel
theorem dX12_loses_40 : decode cX12_loses 40 = .ok (.ifCond .ne 17, 3) := by decide +kernel
theorem dX12_loses_43 : decode cX12_loses 43 = .ok (.aload_n 0, 1) := by decide +kernel
theorem dX12_loses_44 : decode cX12_loses 44 = .ok (.aload_n 0, 1) := by decide +kernel
theorem dX12_loses_45 : decode cX12_loses 45 = .ok (.iload_n 1, 1) := by decide +kernel
theorem dX12_loses_46 : decode cX12_loses 46 = .ok (.iload_n 2, 1) := by decide +kernel
theorem dX12_loses_47 : decode cX12_loses 47 = .ok (.invokevirtual 344, 3) := by decide +kernel
theorem dX12_loses_50 : decode cX12_loses 50 = .ok (.iconst 2, 1) := by decide +kernel
theorem dX12_loses_51 : decode cX12_loses 51 = .ok (.invokevirtual 237, 3) := by decide +kernel
theorem dX12_loses_54 : decode cX12_loses 54 = .ok (.ifCond .eq 5, 3) := by decide +kernel
theorem dX12_loses_57 : decode cX12_loses 57 = .ok (.lconst 0, 1) := by decide +kernel
theorem dX12_loses_58 : decode cX12_loses 58 = .ok (.lreturn, 1) := by decide +kernel
theorem dX12_loses_59 : decode cX12_loses 59 = .ok (.aload_n 0, 1) := by decide +kernel
theorem dX12_loses_60 : decode cX12_loses 60 = .ok (.aload_n 0, 1) := by decide +kernel
theorem dX12_loses_61 : decode cX12_loses 61 = .ok (.getfield 13, 3) := by decide +kernel
theorem dX12_loses_64 : decode cX12_loses 64 = .ok (.bipush 6, 2) := by decide +kernel
theorem dX12_loses_66 : decode cX12_loses 66 = .ok (.iaload, 1) := by decide +kernel
theorem dX12_loses_67 : decode cX12_loses 67 = .ok (.invokevirtual 296, 3) := by decide +kernel
theorem dX12_loses_70 : decode cX12_loses 70 = .ok (.aload_n 0, 1) := by decide +kernel
theorem dX12_loses_71 : decode cX12_loses 71 = .ok (.iload_n 3, 1) := by decide +kernel
theorem dX12_loses_72 : decode cX12_loses 72 = .ok (.iload 4, 2) := by decide +kernel
theorem dX12_loses_74 : decode cX12_loses 74 = .ok (.aload_n 0, 1) := by decide +kernel
theorem dX12_loses_75 : decode cX12_loses 75 = .ok (.iload_n 3, 1) := by decide +kernel
theorem dX12_loses_76 : decode cX12_loses 76 = .ok (.invokevirtual 320, 3) := by decide +kernel
theorem dX12_loses_79 : decode cX12_loses 79 = .ok (.invokevirtual 323, 3) := by decide +kernel
theorem dX12_loses_82 : decode cX12_loses 82 = .ok (.aload_n 0, 1) := by decide +kernel
theorem dX12_loses_83 : decode cX12_loses 83 = .ok (.iload_n 1, 1) := by decide +kernel
theorem dX12_loses_84 : decode cX12_loses 84 = .ok (.iload_n 2, 1) := by decide +kernel
theorem dX12_loses_85 : decode cX12_loses 85 = .ok (.iload 5, 2) := by decide +kernel
theorem dX12_loses_87 : decode cX12_loses 87 = .ok (.invokevirtual 355, 3) := by decide +kernel
theorem dX12_loses_90 : decode cX12_loses 90 = .ok (.lreturn, 1) := by decide +kernel
theorem dX12_part_0 : decode cX12_part 0 = .ok (.aload_n 0, 1) := by decide +kernel
theorem dX12_part_1 : decode cX12_part 1 = .ok (.iconst 0, 1) := by decide +kernel
theorem dX12_part_2 : decode cX12_part 2 = .ok (.putfield 3, 3) := by decide +kernel
theorem dX12_part_5 : decode cX12_part 5 = .ok (.aload_n 0, 1) := by decide +kernel
theorem dX12_part_6 : decode cX12_part 6 = .ok (.aload_n 0, 1) := by decide +kernel
theorem dX12_part_7 : decode cX12_part 7 = .ok (.iload_n 1, 1) := by decide +kernel
theorem dX12_part_8 : decode cX12_part 8 = .ok (.iload 4, 2) := by decide +kernel
theorem dX12_part_10 : decode cX12_part 10 = .ok (.iload 5, 2) := by decide +kernel
theorem dX12_part_12 : decode cX12_part 12 = .ok (.invokevirtual 341, 3) := by decide +kernel
theorem dX12_part_15 : decode cX12_part 15 = .ok (.ifCond .ne 11, 3) := by decide +kernel
theorem dX12_part_18 : decode cX12_part 18 = .ok (.aload_n 0, 1) := by decide +kernel
theorem dX12_part_19 : decode cX12_part 19 = .ok (.iload_n 2, 1) := by decide +kernel
theorem dX12_part_20 : decode cX12_part 20 = .ok (.invokevirtual 335, 3) := by decide +kernel
theorem dX12_part_23 : decode cX12_part 23 = .ok (.ifCond .eq 7, 3) := by decide +kernel
theorem dX12_part_26 : decode cX12_part 26 = .ok (.iconst 1, 1) := by decide +kernel
theorem dX12_part_27 : decode cX12_part 27 = .ok (.goto 4, 3) := by decide +kernel
theorem dX12_part_30 : decode cX12_part 30 = .ok (.iconst 0, 1) := by decide +kernel
theorem dX12_part_31 : decode cX12_part 31 = .ok (.iconst 1, 1) := by decide +kernel
theorem dX12_part_32 : decode cX12_part 32 = .ok (.invokevirtual 237, 3) := by decide +kernel
theorem dX12_part_35 : decode cX12_part 35 = .ok (.ifCond .ne 34, 3) := by decide +kernel
theorem dX12_part_38 : decode cX12_part 38 = .ok (.aload_n 0, 1) := by decide +kernel
theorem dX12_part_39 : decode cX12_part 39 = .ok (.aload_n 0, 1) := by decide +kernel
theorem dX12_part_40 : decode cX12_part 40 = .ok (.iload_n 1, 1) := by decide +kernel
theorem dX12_part_41 : decode cX12_part 41 = .ok (.iload_n 3, 1) := by decide +kernel
theorem dX12_part_42 : decode cX12_part 42 = .ok (.invokevirtual 344, 3) := by decide +kernel
theorem dX12_part_45 : decode cX12_part 45 = .ok (.ifCond .ne 12, 3) := by decide +kernel
theorem dX12_part_48 : decode cX12_part 48 = .ok (.aload_n 0, 1) := by decide +kernel
theorem dX12_part_49 : decode cX12_part 49 = .ok (.iload_n 2, 1) := by decide +kernel
theorem dX12_part_50 : decode cX12_part 50 = .ok (.iload_n 3, 1) := by decide +kernel
theorem dX12_part_51 : decode cX12_part 51 = .ok (.invokevirtual 344, 3) := by decide +kernel
theorem dX12_part_54 : decode cX12_part 54 = .ok (.ifCond .eq 7, 3) := by decide +kernel
theorem dX12_part_57 : decode cX12_part 57 = .ok (.iconst 1, 1) := by decide +kernel
theorem dX12_part_58 : decode cX12_part 58 = .ok (.goto 4, 3) := by decide +kernel
theorem dX12_part_61 : decode cX12_part 61 = .ok (.iconst 0, 1) := by decide +kernel
theorem dX12_part_62 : decode cX12_part 62 = .ok (.iconst 2, 1) := by decide +kernel
theorem dX12_part_63 : decode cX12_part 63 = .ok (.invokevirtual 237, 3) := by decide +kernel
theorem dX12_part_66 : decode cX12_part 66 = .ok (.ifCond .eq 5, 3) := by decide +kernel
theorem dX12_part_69 : decode cX12_part 69 = .ok (.iconst 0, 1) := by decide +kernel
theorem dX12_part_70 : decode cX12_part 70 = .ok (.ireturn, 1) := by decide +kernel
theorem dX12_part_71 : decode cX12_part 71 = .ok (.aload_n 0, 1) := by decide +kernel
theorem dX12_part_72 : decode cX12_part 72 = .ok (.iload_n 1, 1) := by decide +kernel
theorem dX12_part_73 : decode cX12_part 73 = .ok (.iload_n 3, 1) := by decide +kernel
theorem dX12_part_74 : decode cX12_part 74 = .ok (.iload 4, 2) := by decide +kernel
theorem dX12_part_76 : decode cX12_part 76 = .ok (.iload 5, 2) := by decide +kernel
theorem dX12_part_78 : decode cX12_part 78 = .ok (.invokevirtual 347, 3) := by decide +kernel
theorem dX12_part_81 : decode cX12_part 81 = .ok (.bipush 32, 2) := by decide +kernel
theorem dX12_part_83 : decode cX12_part 83 = .ok (.aload_n 0, 1) := by decide +kernel
theorem dX12_part_84 : decode cX12_part 84 = .ok (.getfield 13, 3) := by decide +kernel
theorem dX12_part_87 : decode cX12_part 87 = .ok (.iconst 4, 1) := by decide +kernel
theorem dX12_part_88 : decode cX12_part 88 = .ok (.iaload, 1) := by decide +kernel
theorem dX12_part_89 : decode cX12_part 89 = .ok (.iconst 1, 1) := by decide +kernel
theorem dX12_part_90 : decode cX12_part 90 = .ok (.iadd, 1) := by decide +kernel
theorem dX12_part_91 : decode cX12_part 91 = .ok (.imul, 1) := by decide +kernel
theorem dX12_part_92 : decode cX12_part 92 = .ok (.istore 7, 2) := by decide +kernel
theorem dX12_part_94 : decode cX12_part 94 = .ok (.iconst 0, 1) := by decide +kernel
theorem dX12_part_95 : decode cX12_part 95 = .ok (.istore 8, 2) := by decide +kernel
theorem dX12_part_97 : decode cX12_part 97 = .ok (.iload 8, 2) := by decide +kernel
theorem dX12_part_99 : decode cX12_part 99 = .ok (.iload 7, 2) := by decide +kernel
theorem dX12_part_101 : decode cX12_part 101 = .ok (.if_icmp .ge 23, 3) := by decide +kernel
theorem dX12_part_104 : decode cX12_part 104 = .ok (.aload_n 0, 1) := by decide +kernel
theorem dX12_part_105 : decode cX12_part 105 = .ok (.getfield 55, 3) := by decide +kernel
theorem dX12_part_108 : decode cX12_part 108 = .ok (.iload 8, 2) := by decide +kernel
theorem dX12_part_110 : decode cX12_part 110 = .ok (.aload_n 0, 1) := by decide +kernel
theorem dX12_part_111 : decode cX12_part 111 = .ok (.getfield 49, 3) := by decide +kernel
theorem dX12_part_114 : decode cX12_part 114 = .ok (.iload 8, 2) := by decide +kernel
theorem dX12_part_116 : decode cX12_part 116 = .ok (.iaload, 1) := by decide +kernel
theorem dX12_part_117 : decode cX12_part 117 = .ok (.iastore, 1) := by decide +kernel
theorem dX12_part_118 : decode cX12_part 118 = .ok (.iinc 8 1, 3) := by decide +kernel
theorem dX12_part_121 : decode cX12_part 121 = .ok (.goto (-24), 3) := by decide +kernel
theorem dX12_part_124 : decode cX12_part 124 = .ok (.aload_n 0, 1) := by decide +kernel
theorem dX12_part_125 : decode cX12_part 125 = .ok (.iload_n 2, 1) := by decide +kernel
theorem dX12_part_126 : decode cX12_part 126 = .ok (.iload_n 3, 1) := by decide +kernel
theorem dX12_part_127 : decode cX12_part 127 = .ok (.aload_n 0, 1) := by decide +kernel
theorem dX12_part_128 : decode cX12_part 128 = .ok (.getfield 13, 3) := by decide +kernel
theorem dX12_part_131 : decode cX12_part 131 = .ok (.iconst 4, 1) := by decide +kernel
theorem dX12_part_132 : decode cX12_part 132 = .ok (.iaload, 1) := by decide +kernel
theorem dX12_part_133 : decode cX12_part 133 = .ok (.invokevirtual 338, 3) := by decide +kernel
theorem dX12_part_136 : decode cX12_part 136 = .ok (.iconst 0, 1) := by decide +kernel
theorem dX12_part_137 : decode cX12_part 137 = .ok (.istore 8, 2) := by decide +kernel
theorem dX12_part_139 : decode cX12_part 139 = .ok (.iconst 0, 1) := by decide +kernel
theorem dX12_part_140 : decode cX12_part 140 = .ok (.istore 9, 2) := by decide +kernel
theorem dX12_part_142 : decode cX12_part 142 = .ok (.iload 9, 2) := by decide +kernel
theorem dX12_part_144 : decode cX12_part 144 = .ok (.iload 7, 2) := by decide +kernel
theorem dX12_part_146 : decode cX12_part 146 = .ok (.if_icmp .ge 40, 3) := by decide +kernel
theorem dX12_part_149 : decode cX12_part 149 = .ok (.aload_n 0, 1) := by decide +kernel
theorem dX12_part_150 : decode cX12_part 150 = .ok (.getfield 55, 3) := by decide +kernel
theorem dX12_part_153 : decode cX12_part 153 = .ok (.iload 9, 2) := by decide +kernel
theorem dX12_part_155 : decode cX12_part 155 = .ok (.iaload, 1) := by decide +kernel
theorem dX12_part_156 : decode cX12_part 156 = .ok (.aload_n 0, 1) := by decide +kernel
theorem dX12_part_157 : decode cX12_part 157 = .ok (.getfield 49, 3) := by decide +kernel
theorem dX12_part_160 : decode cX12_part 160 = .ok (.iload 9, 2) := by decide +kernel
theorem dX12_part_162 : decode cX12_part 162 = .ok (.iaload, 1) := by decide +kernel
theorem dX12_part_163 : decode cX12_part 163 = .ok (.if_icmp .ne 6, 3) := by decide +kernel
theorem dX12_part_166 : decode cX12_part 166 = .ok (.goto 14, 3) := by decide +kernel
theorem dX12_part_169 : decode cX12_part 169 = .ok (.iload 6, 2) := by decide +kernel
theorem dX12_part_171 : decode cX12_part 171 = .ok (.ifCond .eq 6, 3) := by decide +kernel
theorem dX12_part_174 : decode cX12_part 174 = .ok (.iload 9, 2) := by decide +kernel
theorem dX12_part_176 : decode cX12_part 176 = .ok (.ireturn, 1) := by decide +kernel
theorem dX12_part_177 : decode cX12_part 177 = .ok (.iinc 8 1, 3) := by decide +kernel
theorem dX12_part_180 : decode cX12_part 180 = .ok (.iinc 9 1, 3) := by decide +kernel
theorem dX12_part_183 : decode cX12_part 183 = .ok (.goto (-41), 3) := by decide +kernel
theorem dX12_part_186 : decode cX12_part 186 = .ok (.iload 6, 2) := by decide +kernel
theorem dX12_part_188 : decode cX12_part 188 = .ok (.ifCond .eq 7, 3) := by decide +kernel
theorem dX12_part_191 : decode cX12_part 191 = .ok (.iconst (-1), 1) := by decide +kernel
theorem dX12_part_192 : decode cX12_part 192 = .ok (.goto 5, 3) := by decide +kernel
theorem dX12_part_195 : decode cX12_part 195 = .ok (.iload 8, 2) := by decide +kernel
theorem dX12_part_197 : decode cX12_part 197 = .ok (.ireturn, 1) := by decide +kernel
theorem dX12_bar_0 : decode cX12_bar 0 = .ok (.aload_n 0, 1) := by decide +kernel
theorem dX12_bar_1 : decode cX12_bar 1 = .ok (.iconst 0, 1) := by decide +kernel
theorem dX12_bar_2 : decode cX12_bar 2 = .ok (.putfield 3, 3) := by decide +kernel
theorem dX12_bar_5 : decode cX12_bar 5 = .ok (.aload_n 0, 1) := by decide +kernel
theorem dX12_bar_6 : decode cX12_bar 6 = .ok (.aload_n 0, 1) := by decide +kernel
theorem dX12_bar_7 : decode cX12_bar 7 = .ok (.iload_n 1, 1) := by decide +kernel
theorem dX12_bar_8 : decode cX12_bar 8 = .ok (.invokevirtual 317, 3) := by decide +kernel
theorem dX12_bar_11 : decode cX12_bar 11 = .ok (.ifCond .ne 10, 3) := by decide +kernel
theorem dX12_bar_14 : decode cX12_bar 14 = .ok (.iload_n 2, 1) := by decide +kernel
theorem dX12_bar_15 : decode cX12_bar 15 = .ok (.invokestatic 254, 3) := by decide +kernel
theorem dX12_bar_18 : decode cX12_bar 18 = .ok (.ifCond .eq 7, 3) := by decide +kernel
theorem dX12_bar_21 : decode cX12_bar 21 = .ok (.iconst 1, 1) := by decide +kernel
theorem dX12_bar_22 : decode cX12_bar 22 = .ok (.goto 4, 3) := by decide +kernel
theorem dX12_bar_25 : decode cX12_bar 25 = .ok (.iconst 0, 1) := by decide +kernel
theorem dX12_bar_26 : decode cX12_bar 26 = .ok (.iconst 1, 1) := by decide +kernel
theorem dX12_bar_27 : decode cX12_bar 27 = .ok (.invokevirtual 237, 3) := by decide +kernel
theorem dX12_bar_30 : decode cX12_bar 30 = .ok (.ifCond .eq 5, 3) := by decide +kernel
theorem dX12_bar_33 : decode cX12_bar 33 = .ok (.iconst 0, 1) := by decide +kernel
theorem dX12_bar_34 : decode cX12_bar 34 = .ok (.ireturn, 1) := by decide +kernel
theorem dX12_bar_35 : decode cX12_bar 35 = .ok (.aload_n 0, 1) := by decide +kernel
theorem dX12_bar_36 : decode cX12_bar 36 = .ok (.aload_n 0, 1) := by decide +kernel
theorem dX12_bar_37 : decode cX12_bar 37 = .ok (.getfield 13, 3) := by decide +kernel
theorem dX12_bar_40 : decode cX12_bar 40 = .ok (.bipush 6, 2) := by decide +kernel
theorem dX12_bar_42 : decode cX12_bar 42 = .ok (.iaload, 1) := by decide +kernel
theorem dX12_bar_43 : decode cX12_bar 43 = .ok (.invokevirtual 296, 3) := by decide +kernel
theorem dX12_bar_46 : decode cX12_bar 46 = .ok (.aload_n 0, 1) := by decide +kernel
theorem dX12_bar_47 : decode cX12_bar 47 = .ok (.iload_n 1, 1) := by decide +kernel
theorem dX12_bar_48 : decode cX12_bar 48 = .ok (.iload_n 2, 1) := by decide +kernel
theorem dX12_bar_49 : decode cX12_bar 49 = .ok (.aload_n 0, 1) := by decide +kernel
theorem dX12_bar_50 : decode cX12_bar 50 = .ok (.iload_n 1, 1) := by decide +kernel
theorem dX12_bar_51 : decode cX12_bar 51 = .ok (.invokevirtual 320, 3) := by decide +kernel
theorem dX12_bar_54 : decode cX12_bar 54 = .ok (.invokevirtual 323, 3) := by decide +kernel
theorem dX12_bar_57 : decode cX12_bar 57 = .ok (.iconst 0, 1) := by decide +kernel
theorem dX12_bar_58 : decode cX12_bar 58 = .ok (.istore_n 3, 1) := by decide +kernel
theorem dX12_bar_59 : decode cX12_bar 59 = .ok (.aload_n 0, 1) := by decide +kernel
theorem dX12_bar_60 : decode cX12_bar 60 = .ok (.iconst 2, 1) := by decide +kernel
theorem dX12_bar_61 : decode cX12_bar 61 = .ok (.iconst 0, 1) := by decide +kernel
theorem dX12_bar_62 : decode cX12_bar 62 = .ok (.iconst (-1), 1) := by decide +kernel
theorem dX12_bar_63 : decode cX12_bar 63 = .ok (.invokevirtual 355, 3) := by decide +kernel
theorem dX12_bar_66 : decode cX12_bar 66 = .ok (.lstore 4, 2) := by decide +kernel
theorem dX12_bar_68 : decode cX12_bar 68 = .ok (.iconst 1, 1) := by decide +kernel
theorem dX12_bar_69 : decode cX12_bar 69 = .ok (.istore 6, 2) := by decide +kernel
theorem dX12_bar_71 : decode cX12_bar 71 = .ok (.iload 6, 2) := by decide +kernel
theorem dX12_bar_73 : decode cX12_bar 73 = .ok (.bipush 32, 2) := by decide +kernel
theorem dX12_bar_75 : decode cX12_bar 75 = .ok (.if_icmp .ge 43, 3) := by decide +kernel
theorem dX12_bar_78 : decode cX12_bar 78 = .ok (.aload_n 0, 1) := by decide +kernel
theorem dX12_bar_79 : decode cX12_bar 79 = .ok (.iconst 2, 1) := by decide +kernel
theorem dX12_bar_80 : decode cX12_bar 80 = .ok (.iload 6, 2) := by decide +kernel
theorem dX12_bar_82 : decode cX12_bar 82 = .ok (.iconst (-1), 1) := by decide +kernel
theorem dX12_bar_83 : decode cX12_bar 83 = .ok (.invokevirtual 355, 3) := by decide +kernel
theorem dX12_bar_86 : decode cX12_bar 86 = .ok (.lstore 7, 2) := by decide +kernel
theorem dX12_bar_88 : decode cX12_bar 88 = .ok (.lload 7, 2) := by decide +kernel
theorem dX12_bar_90 : decode cX12_bar 90 = .ok (.lload 4, 2) := by decide +kernel
theorem dX12_bar_92 : decode cX12_bar 92 = .ok (.lcmp, 1) := by decide +kernel
theorem dX12_bar_93 : decode cX12_bar 93 = .ok (.ifCond .ge 8, 3) := by decide +kernel
theorem dX12_bar_96 : decode cX12_bar 96 = .ok (.iload 6, 2) := by decide +kernel
theorem dX12_bar_98 : decode cX12_bar 98 = .ok (.goto 4, 3) := by decide +kernel
theorem dX12_bar_101 : decode cX12_bar 101 = .ok (.iload_n 3, 1) := by decide +kernel
theorem dX12_bar_102 : decode cX12_bar 102 = .ok (.istore_n 3, 1) := by decide +kernel
theorem dX12_bar_103 : decode cX12_bar 103 = .ok (.lload 4, 2) := by decide +kernel
theorem dX12_bar_105 : decode cX12_bar 105 = .ok (.lload 7, 2) := by decide +kernel
theorem dX12_bar_107 : decode cX12_bar 107 = .ok (.invokestatic 273, 3) := by decide +kernel
theorem dX12_bar_110 : decode cX12_bar 110 = .ok (.lstore 4, 2) := by decide +kernel
theorem dX12_bar_112 : decode cX12_bar 112 = .ok (.iinc 6 1, 3) := by decide +kernel
theorem dX12_bar_115 : decode cX12_bar 115 = .ok (.goto (-44), 3) := by decide +kernel
theorem dX12_bar_118 : decode cX12_bar 118 = .ok (.iload_n 3, 1) := by decide +kernel
theorem dX12_bar_119 : decode cX12_bar 119 = .ok (.ireturn, 1) := by decide +kernel
theorem dX12_paying_0 : decode cX12_paying 0 = .ok (.iconst 0, 1) := by decide +kernel
theorem dX12_paying_1 : decode cX12_paying 1 = .ok (.istore 5, 2) := by decide +kernel
theorem dX12_paying_3 : decode cX12_paying 3 = .ok (.iconst 0, 1) := by decide +kernel
theorem dX12_paying_4 : decode cX12_paying 4 = .ok (.istore 6, 2) := by decide +kernel
theorem dX12_paying_6 : decode cX12_paying 6 = .ok (.iload 6, 2) := by decide +kernel
theorem dX12_paying_8 : decode cX12_paying 8 = .ok (.bipush 8, 2) := by decide +kernel
theorem dX12_paying_10 : decode cX12_paying 10 = .ok (.if_icmp .ge 94, 3) := by decide +kernel
theorem dX12_paying_13 : decode cX12_paying 13 = .ok (.aload_n 0, 1) := by decide +kernel
theorem dX12_paying_14 : decode cX12_paying 14 = .ok (.iload_n 3, 1) := by decide +kernel
theorem dX12_paying_15 : decode cX12_paying 15 = .ok (.iload 6, 2) := by decide +kernel
theorem dX12_paying_17 : decode cX12_paying 17 = .ok (.iload 4, 2) := by decide +kernel
theorem dX12_paying_19 : decode cX12_paying 19 = .ok (.invokevirtual 323, 3) := by decide +kernel
theorem dX12_paying_22 : decode cX12_paying 22 = .ok (.aload_n 0, 1) := by decide +kernel
theorem dX12_paying_23 : decode cX12_paying 23 = .ok (.iload_n 1, 1) := by decide +kernel
theorem dX12_paying_24 : decode cX12_paying 24 = .ok (.iload_n 2, 1) := by decide +kernel
theorem dX12_paying_25 : decode cX12_paying 25 = .ok (.aload_n 0, 1) := by decide +kernel
theorem dX12_paying_26 : decode cX12_paying 26 = .ok (.getfield 13, 3) := by decide +kernel
theorem dX12_paying_29 : decode cX12_paying 29 = .ok (.iconst 4, 1) := by decide +kernel
theorem dX12_paying_30 : decode cX12_paying 30 = .ok (.iaload, 1) := by decide +kernel
theorem dX12_paying_31 : decode cX12_paying 31 = .ok (.invokevirtual 338, 3) := by decide +kernel
theorem dX12_paying_34 : decode cX12_paying 34 = .ok (.iconst 4, 1) := by decide +kernel
theorem dX12_paying_35 : decode cX12_paying 35 = .ok (.iload 6, 2) := by decide +kernel
theorem dX12_paying_37 : decode cX12_paying 37 = .ok (.imul, 1) := by decide +kernel
theorem dX12_paying_38 : decode cX12_paying 38 = .ok (.istore 7, 2) := by decide +kernel
theorem dX12_paying_40 : decode cX12_paying 40 = .ok (.iload 7, 2) := by decide +kernel
theorem dX12_paying_42 : decode cX12_paying 42 = .ok (.iconst 4, 1) := by decide +kernel
theorem dX12_paying_43 : decode cX12_paying 43 = .ok (.iload 6, 2) := by decide +kernel
theorem dX12_paying_45 : decode cX12_paying 45 = .ok (.imul, 1) := by decide +kernel
theorem dX12_paying_46 : decode cX12_paying 46 = .ok (.iconst 4, 1) := by decide +kernel
theorem dX12_paying_47 : decode cX12_paying 47 = .ok (.iadd, 1) := by decide +kernel
theorem dX12_paying_48 : decode cX12_paying 48 = .ok (.if_icmp .ge 50, 3) := by decide +kernel
theorem dX12_paying_51 : decode cX12_paying 51 = .ok (.iload 5, 2) := by decide +kernel
theorem dX12_paying_53 : decode cX12_paying 53 = .ok (.aload_n 0, 1) := by decide +kernel
theorem dX12_paying_54 : decode cX12_paying 54 = .ok (.getfield 42, 3) := by decide +kernel
theorem dX12_paying_57 : decode cX12_paying 57 = .ok (.bipush 32, 2) := by decide +kernel
theorem dX12_paying_59 : decode cX12_paying 59 = .ok (.aload_n 0, 1) := by decide +kernel
theorem dX12_paying_60 : decode cX12_paying 60 = .ok (.getfield 13, 3) := by decide +kernel
theorem dX12_paying_63 : decode cX12_paying 63 = .ok (.iconst 5, 1) := by decide +kernel
theorem dX12_paying_64 : decode cX12_paying 64 = .ok (.iaload, 1) := by decide +kernel
theorem dX12_paying_65 : decode cX12_paying 65 = .ok (.imul, 1) := by decide +kernel
theorem dX12_paying_66 : decode cX12_paying 66 = .ok (.iload 7, 2) := by decide +kernel
theorem dX12_paying_68 : decode cX12_paying 68 = .ok (.iadd, 1) := by decide +kernel
theorem dX12_paying_69 : decode cX12_paying 69 = .ok (.laload, 1) := by decide +kernel
theorem dX12_paying_70 : decode cX12_paying 70 = .ok (.aload_n 0, 1) := by decide +kernel
theorem dX12_paying_71 : decode cX12_paying 71 = .ok (.getfield 46, 3) := by decide +kernel
theorem dX12_paying_74 : decode cX12_paying 74 = .ok (.iload 7, 2) := by decide +kernel
theorem dX12_paying_76 : decode cX12_paying 76 = .ok (.laload, 1) := by decide +kernel
theorem dX12_paying_77 : decode cX12_paying 77 = .ok (.lcmp, 1) := by decide +kernel
theorem dX12_paying_78 : decode cX12_paying 78 = .ok (.ifCond .le 10, 3) := by decide +kernel
theorem dX12_paying_81 : decode cX12_paying 81 = .ok (.iconst 1, 1) := by decide +kernel
theorem dX12_paying_82 : decode cX12_paying 82 = .ok (.iload 7, 2) := by decide +kernel
theorem dX12_paying_84 : decode cX12_paying 84 = .ok (.ishl, 1) := by decide +kernel
theorem dX12_paying_85 : decode cX12_paying 85 = .ok (.goto 4, 3) := by decide +kernel
theorem dX12_paying_88 : decode cX12_paying 88 = .ok (.iconst 0, 1) := by decide +kernel
theorem dX12_paying_89 : decode cX12_paying 89 = .ok (.ior, 1) := by decide +kernel
theorem dX12_paying_90 : decode cX12_paying 90 = .ok (.istore 5, 2) := by decide +kernel
theorem dX12_paying_92 : decode cX12_paying 92 = .ok (.iinc 7 1, 3) := by decide +kernel
theorem dX12_paying_95 : decode cX12_paying 95 = .ok (.goto (-55), 3) := by decide +kernel
theorem dX12_paying_98 : decode cX12_paying 98 = .ok (.iinc 6 1, 3) := by decide +kernel
theorem dX12_paying_101 : decode cX12_paying 101 = .ok (.goto (-95), 3) := by decide +kernel
theorem dX12_paying_104 : decode cX12_paying 104 = .ok (.iload 5, 2) := by decide +kernel
theorem dX12_paying_106 : decode cX12_paying 106 = .ok (.ireturn, 1) := by decide +kernel
theorem dX12_pays_0 : decode cX12_pays 0 = .ok (.aload_n 0, 1) := by decide +kernel
theorem dX12_pays_1 : decode cX12_pays 1 = .ok (.iconst 0, 1) := by decide +kernel
theorem dX12_pays_2 : decode cX12_pays 2 = .ok (.putfield 3, 3) := by decide +kernel
theorem dX12_pays_5 : decode cX12_pays 5 = .ok (.aload_n 0, 1) := by decide +kernel
theorem dX12_pays_6 : decode cX12_pays 6 = .ok (.aload_n 0, 1) := by decide +kernel
theorem dX12_pays_7 : decode cX12_pays 7 = .ok (.iload_n 1, 1) := by decide +kernel
theorem dX12_pays_8 : decode cX12_pays 8 = .ok (.invokevirtual 335, 3) := by decide +kernel
theorem dX12_pays_11 : decode cX12_pays 11 = .ok (.ifCond .ne 11, 3) := by decide +kernel
theorem dX12_pays_14 : decode cX12_pays 14 = .ok (.aload_n 0, 1) := by decide +kernel
theorem dX12_pays_15 : decode cX12_pays 15 = .ok (.iload_n 3, 1) := by decide +kernel
theorem dX12_pays_16 : decode cX12_pays 16 = .ok (.invokevirtual 317, 3) := by decide +kernel
theorem dX12_pays_19 : decode cX12_pays 19 = .ok (.ifCond .eq 7, 3) := by decide +kernel
theorem dX12_pays_22 : decode cX12_pays 22 = .ok (.iconst 1, 1) := by decide +kernel
theorem dX12_pays_23 : decode cX12_pays 23 = .ok (.goto 4, 3) := by decide +kernel
theorem dX12_pays_26 : decode cX12_pays 26 = .ok (.iconst 0, 1) := by decide +kernel
theorem dX12_pays_27 : decode cX12_pays 27 = .ok (.iconst 1, 1) := by decide +kernel
theorem dX12_pays_28 : decode cX12_pays 28 = .ok (.invokevirtual 237, 3) := by decide +kernel
theorem dX12_pays_31 : decode cX12_pays 31 = .ok (.ifCond .ne 17, 3) := by decide +kernel
theorem dX12_pays_34 : decode cX12_pays 34 = .ok (.aload_n 0, 1) := by decide +kernel
theorem dX12_pays_35 : decode cX12_pays 35 = .ok (.aload_n 0, 1) := by decide +kernel
theorem dX12_pays_36 : decode cX12_pays 36 = .ok (.iload_n 1, 1) := by decide +kernel
theorem dX12_pays_37 : decode cX12_pays 37 = .ok (.iload_n 2, 1) := by decide +kernel
theorem dX12_pays_38 : decode cX12_pays 38 = .ok (.invokevirtual 344, 3) := by decide +kernel
theorem dX12_pays_41 : decode cX12_pays 41 = .ok (.iconst 2, 1) := by decide +kernel
theorem dX12_pays_42 : decode cX12_pays 42 = .ok (.invokevirtual 237, 3) := by decide +kernel
theorem dX12_pays_45 : decode cX12_pays 45 = .ok (.ifCond .eq 5, 3) := by decide +kernel
theorem dX12_pays_48 : decode cX12_pays 48 = .ok (.iconst 0, 1) := by decide +kernel
theorem dX12_pays_49 : decode cX12_pays 49 = .ok (.ireturn, 1) := by decide +kernel
theorem dX12_pays_50 : decode cX12_pays 50 = .ok (.aload_n 0, 1) := by decide +kernel
theorem dX12_pays_51 : decode cX12_pays 51 = .ok (.aload_n 0, 1) := by decide +kernel
theorem dX12_pays_52 : decode cX12_pays 52 = .ok (.getfield 13, 3) := by decide +kernel
theorem dX12_pays_55 : decode cX12_pays 55 = .ok (.bipush 6, 2) := by decide +kernel
theorem dX12_pays_57 : decode cX12_pays 57 = .ok (.iaload, 1) := by decide +kernel
theorem dX12_pays_58 : decode cX12_pays 58 = .ok (.invokevirtual 296, 3) := by decide +kernel
theorem dX12_pays_61 : decode cX12_pays 61 = .ok (.aload_n 0, 1) := by decide +kernel
theorem dX12_pays_62 : decode cX12_pays 62 = .ok (.iload_n 1, 1) := by decide +kernel
theorem dX12_pays_63 : decode cX12_pays 63 = .ok (.iload_n 2, 1) := by decide +kernel
theorem dX12_pays_64 : decode cX12_pays 64 = .ok (.iload_n 3, 1) := by decide +kernel
theorem dX12_pays_65 : decode cX12_pays 65 = .ok (.aload_n 0, 1) := by decide +kernel
theorem dX12_pays_66 : decode cX12_pays 66 = .ok (.iload_n 3, 1) := by decide +kernel
theorem dX12_pays_67 : decode cX12_pays 67 = .ok (.invokevirtual 320, 3) := by decide +kernel
theorem dX12_pays_70 : decode cX12_pays 70 = .ok (.invokevirtual 359, 3) := by decide +kernel
theorem dX12_pays_73 : decode cX12_pays 73 = .ok (.ireturn, 1) := by decide +kernel
theorem dX12_least_0 : decode cX12_least 0 = .ok (.aload_n 0, 1) := by decide +kernel
theorem dX12_least_1 : decode cX12_least 1 = .ok (.iconst 0, 1) := by decide +kernel
theorem dX12_least_2 : decode cX12_least 2 = .ok (.putfield 3, 3) := by decide +kernel
theorem dX12_least_5 : decode cX12_least 5 = .ok (.aload_n 0, 1) := by decide +kernel
theorem dX12_least_6 : decode cX12_least 6 = .ok (.aload_n 0, 1) := by decide +kernel
theorem dX12_least_7 : decode cX12_least 7 = .ok (.iload_n 1, 1) := by decide +kernel
theorem dX12_least_8 : decode cX12_least 8 = .ok (.invokevirtual 335, 3) := by decide +kernel
theorem dX12_least_11 : decode cX12_least 11 = .ok (.ifCond .ne 11, 3) := by decide +kernel
theorem dX12_least_14 : decode cX12_least 14 = .ok (.aload_n 0, 1) := by decide +kernel
theorem dX12_least_15 : decode cX12_least 15 = .ok (.iload_n 3, 1) := by decide +kernel
theorem dX12_least_16 : decode cX12_least 16 = .ok (.invokevirtual 317, 3) := by decide +kernel
theorem dX12_least_19 : decode cX12_least 19 = .ok (.ifCond .eq 7, 3) := by decide +kernel
theorem dX12_least_22 : decode cX12_least 22 = .ok (.iconst 1, 1) := by decide +kernel
theorem dX12_least_23 : decode cX12_least 23 = .ok (.goto 4, 3) := by decide +kernel
theorem dX12_least_26 : decode cX12_least 26 = .ok (.iconst 0, 1) := by decide +kernel
theorem dX12_least_27 : decode cX12_least 27 = .ok (.iconst 1, 1) := by decide +kernel
theorem dX12_least_28 : decode cX12_least 28 = .ok (.invokevirtual 237, 3) := by decide +kernel
theorem dX12_least_31 : decode cX12_least 31 = .ok (.ifCond .ne 17, 3) := by decide +kernel
theorem dX12_least_34 : decode cX12_least 34 = .ok (.aload_n 0, 1) := by decide +kernel
theorem dX12_least_35 : decode cX12_least 35 = .ok (.aload_n 0, 1) := by decide +kernel
theorem dX12_least_36 : decode cX12_least 36 = .ok (.iload_n 1, 1) := by decide +kernel
theorem dX12_least_37 : decode cX12_least 37 = .ok (.iload_n 2, 1) := by decide +kernel
theorem dX12_least_38 : decode cX12_least 38 = .ok (.invokevirtual 344, 3) := by decide +kernel
theorem dX12_least_41 : decode cX12_least 41 = .ok (.iconst 2, 1) := by decide +kernel
theorem dX12_least_42 : decode cX12_least 42 = .ok (.invokevirtual 237, 3) := by decide +kernel
theorem dX12_least_45 : decode cX12_least 45 = .ok (.ifCond .eq 5, 3) := by decide +kernel
theorem dX12_least_48 : decode cX12_least 48 = .ok (.iconst 0, 1) := by decide +kernel
theorem dX12_least_49 : decode cX12_least 49 = .ok (.ireturn, 1) := by decide +kernel
theorem dX12_least_50 : decode cX12_least 50 = .ok (.aload_n 0, 1) := by decide +kernel
theorem dX12_least_51 : decode cX12_least 51 = .ok (.aload_n 0, 1) := by decide +kernel
theorem dX12_least_52 : decode cX12_least 52 = .ok (.getfield 13, 3) := by decide +kernel
theorem dX12_least_55 : decode cX12_least 55 = .ok (.bipush 6, 2) := by decide +kernel
theorem dX12_least_57 : decode cX12_least 57 = .ok (.iaload, 1) := by decide +kernel
theorem dX12_least_58 : decode cX12_least 58 = .ok (.invokevirtual 296, 3) := by decide +kernel
theorem dX12_least_61 : decode cX12_least 61 = .ok (.iconst 0, 1) := by decide +kernel
theorem dX12_least_62 : decode cX12_least 62 = .ok (.istore 5, 2) := by decide +kernel
theorem dX12_least_64 : decode cX12_least 64 = .ok (.sipush 10000, 3) := by decide +kernel
theorem dX12_least_67 : decode cX12_least 67 = .ok (.istore 6, 2) := by decide +kernel
theorem dX12_least_69 : decode cX12_least 69 = .ok (.iload 5, 2) := by decide +kernel
theorem dX12_least_71 : decode cX12_least 71 = .ok (.iload 6, 2) := by decide +kernel
theorem dX12_least_73 : decode cX12_least 73 = .ok (.if_icmp .ge 43, 3) := by decide +kernel
theorem dX12_least_76 : decode cX12_least 76 = .ok (.iload 5, 2) := by decide +kernel
theorem dX12_least_78 : decode cX12_least 78 = .ok (.iload 6, 2) := by decide +kernel
theorem dX12_least_80 : decode cX12_least 80 = .ok (.iadd, 1) := by decide +kernel
theorem dX12_least_81 : decode cX12_least 81 = .ok (.iconst 2, 1) := by decide +kernel
theorem dX12_least_82 : decode cX12_least 82 = .ok (.idiv, 1) := by decide +kernel
theorem dX12_least_83 : decode cX12_least 83 = .ok (.istore 7, 2) := by decide +kernel
theorem dX12_least_85 : decode cX12_least 85 = .ok (.aload_n 0, 1) := by decide +kernel
theorem dX12_least_86 : decode cX12_least 86 = .ok (.iload_n 1, 1) := by decide +kernel
theorem dX12_least_87 : decode cX12_least 87 = .ok (.iload_n 2, 1) := by decide +kernel
theorem dX12_least_88 : decode cX12_least 88 = .ok (.iload_n 3, 1) := by decide +kernel
theorem dX12_least_89 : decode cX12_least 89 = .ok (.iload 7, 2) := by decide +kernel
theorem dX12_least_91 : decode cX12_least 91 = .ok (.invokevirtual 359, 3) := by decide +kernel
theorem dX12_least_94 : decode cX12_least 94 = .ok (.iload 4, 2) := by decide +kernel
theorem dX12_least_96 : decode cX12_least 96 = .ok (.iand, 1) := by decide +kernel
theorem dX12_least_97 : decode cX12_least 97 = .ok (.ifCond .ne 10, 3) := by decide +kernel
theorem dX12_least_100 : decode cX12_least 100 = .ok (.iload 7, 2) := by decide +kernel
theorem dX12_least_102 : decode cX12_least 102 = .ok (.istore 6, 2) := by decide +kernel
theorem dX12_least_104 : decode cX12_least 104 = .ok (.goto 9, 3) := by decide +kernel
theorem dX12_least_107 : decode cX12_least 107 = .ok (.iload 7, 2) := by decide +kernel
theorem dX12_least_109 : decode cX12_least 109 = .ok (.iconst 1, 1) := by decide +kernel
theorem dX12_least_110 : decode cX12_least 110 = .ok (.iadd, 1) := by decide +kernel
theorem dX12_least_111 : decode cX12_least 111 = .ok (.istore 5, 2) := by decide +kernel
theorem dX12_least_113 : decode cX12_least 113 = .ok (.goto (-44), 3) := by decide +kernel
theorem dX12_least_116 : decode cX12_least 116 = .ok (.iload 5, 2) := by decide +kernel
theorem dX12_least_118 : decode cX12_least 118 = .ok (.sipush 9999, 3) := by decide +kernel
theorem dX12_least_121 : decode cX12_least 121 = .ok (.if_icmp .le 7, 3) := by decide +kernel
theorem dX12_least_124 : decode cX12_least 124 = .ok (.iconst (-1), 1) := by decide +kernel
theorem dX12_least_125 : decode cX12_least 125 = .ok (.goto 5, 3) := by decide +kernel
theorem dX12_least_128 : decode cX12_least 128 = .ok (.iload 5, 2) := by decide +kernel
theorem dX12_least_130 : decode cX12_least 130 = .ok (.ireturn, 1) := by decide +kernel
theorem dX12_rate_0 : decode cX12_rate 0 = .ok (.aload_n 0, 1) := by decide +kernel
theorem dX12_rate_1 : decode cX12_rate 1 = .ok (.iconst 0, 1) := by decide +kernel
theorem dX12_rate_2 : decode cX12_rate 2 = .ok (.putfield 3, 3) := by decide +kernel
theorem dX12_rate_5 : decode cX12_rate 5 = .ok (.aload_n 0, 1) := by decide +kernel
theorem dX12_rate_6 : decode cX12_rate 6 = .ok (.aload_n 0, 1) := by decide +kernel
theorem dX12_rate_7 : decode cX12_rate 7 = .ok (.iload_n 1, 1) := by decide +kernel
theorem dX12_rate_8 : decode cX12_rate 8 = .ok (.invokevirtual 317, 3) := by decide +kernel
theorem dX12_rate_11 : decode cX12_rate 11 = .ok (.ifCond .ne 10, 3) := by decide +kernel
theorem dX12_rate_14 : decode cX12_rate 14 = .ok (.iload_n 2, 1) := by decide +kernel
theorem dX12_rate_15 : decode cX12_rate 15 = .ok (.invokestatic 245, 3) := by decide +kernel
theorem dX12_rate_18 : decode cX12_rate 18 = .ok (.ifCond .eq 7, 3) := by decide +kernel
theorem dX12_rate_21 : decode cX12_rate 21 = .ok (.iconst 1, 1) := by decide +kernel
theorem dX12_rate_22 : decode cX12_rate 22 = .ok (.goto 4, 3) := by decide +kernel
theorem dX12_rate_25 : decode cX12_rate 25 = .ok (.iconst 0, 1) := by decide +kernel
theorem dX12_rate_26 : decode cX12_rate 26 = .ok (.iconst 1, 1) := by decide +kernel
theorem dX12_rate_27 : decode cX12_rate 27 = .ok (.invokevirtual 237, 3) := by decide +kernel
theorem dX12_rate_30 : decode cX12_rate 30 = .ok (.ifCond .ne 27, 3) := by decide +kernel
theorem dX12_rate_33 : decode cX12_rate 33 = .ok (.aload_n 0, 1) := by decide +kernel
theorem dX12_rate_34 : decode cX12_rate 34 = .ok (.iload_n 3, 1) := by decide +kernel
theorem dX12_rate_35 : decode cX12_rate 35 = .ok (.iconst 0, 1) := by decide +kernel
theorem dX12_rate_36 : decode cX12_rate 36 = .ok (.sipush 999, 3) := by decide +kernel
theorem dX12_rate_39 : decode cX12_rate 39 = .ok (.invokestatic 77, 3) := by decide +kernel
theorem dX12_rate_42 : decode cX12_rate 42 = .ok (.ifCond .ne 7, 3) := by decide +kernel
theorem dX12_rate_45 : decode cX12_rate 45 = .ok (.iconst 1, 1) := by decide +kernel
theorem dX12_rate_46 : decode cX12_rate 46 = .ok (.goto 4, 3) := by decide +kernel
theorem dX12_rate_49 : decode cX12_rate 49 = .ok (.iconst 0, 1) := by decide +kernel
theorem dX12_rate_50 : decode cX12_rate 50 = .ok (.iconst 2, 1) := by decide +kernel
theorem dX12_rate_51 : decode cX12_rate 51 = .ok (.invokevirtual 237, 3) := by decide +kernel
theorem dX12_rate_54 : decode cX12_rate 54 = .ok (.ifCond .eq 5, 3) := by decide +kernel
theorem dX12_rate_57 : decode cX12_rate 57 = .ok (.iconst 0, 1) := by decide +kernel
theorem dX12_rate_58 : decode cX12_rate 58 = .ok (.ireturn, 1) := by decide +kernel
theorem dX12_rate_59 : decode cX12_rate 59 = .ok (.aload_n 0, 1) := by decide +kernel
theorem dX12_rate_60 : decode cX12_rate 60 = .ok (.getfield 13, 3) := by decide +kernel
theorem dX12_rate_63 : decode cX12_rate 63 = .ok (.iload_n 1, 1) := by decide +kernel
theorem dX12_rate_64 : decode cX12_rate 64 = .ok (.iconst 2, 1) := by decide +kernel
theorem dX12_rate_65 : decode cX12_rate 65 = .ok (.iload_n 2, 1) := by decide +kernel
theorem dX12_rate_66 : decode cX12_rate 66 = .ok (.iadd, 1) := by decide +kernel
theorem dX12_rate_67 : decode cX12_rate 67 = .ok (.invokestatic 282, 3) := by decide +kernel
theorem dX12_rate_70 : decode cX12_rate 70 = .ok (.iaload, 1) := by decide +kernel
theorem dX12_rate_71 : decode cX12_rate 71 = .ok (.istore 4, 2) := by decide +kernel
theorem dX12_rate_73 : decode cX12_rate 73 = .ok (.aload_n 0, 1) := by decide +kernel
theorem dX12_rate_74 : decode cX12_rate 74 = .ok (.getfield 13, 3) := by decide +kernel
theorem dX12_rate_77 : decode cX12_rate 77 = .ok (.iload_n 1, 1) := by decide +kernel
theorem dX12_rate_78 : decode cX12_rate 78 = .ok (.iconst 2, 1) := by decide +kernel
theorem dX12_rate_79 : decode cX12_rate 79 = .ok (.iload_n 2, 1) := by decide +kernel
theorem dX12_rate_80 : decode cX12_rate 80 = .ok (.iadd, 1) := by decide +kernel
theorem dX12_rate_81 : decode cX12_rate 81 = .ok (.invokestatic 282, 3) := by decide +kernel
theorem dX12_rate_84 : decode cX12_rate 84 = .ok (.iload_n 3, 1) := by decide +kernel
theorem dX12_rate_85 : decode cX12_rate 85 = .ok (.iastore, 1) := by decide +kernel
theorem dX12_rate_86 : decode cX12_rate 86 = .ok (.iload 4, 2) := by decide +kernel
theorem dX12_rate_88 : decode cX12_rate 88 = .ok (.ireturn, 1) := by decide +kernel
theorem dX12_often_0 : decode cX12_often 0 = .ok (.aload_n 0, 1) := by decide +kernel
theorem dX12_often_1 : decode cX12_often 1 = .ok (.iconst 0, 1) := by decide +kernel
theorem dX12_often_2 : decode cX12_often 2 = .ok (.putfield 3, 3) := by decide +kernel
theorem dX12_often_5 : decode cX12_often 5 = .ok (.aload_n 0, 1) := by decide +kernel
theorem dX12_often_6 : decode cX12_often 6 = .ok (.aload_n 0, 1) := by decide +kernel
theorem dX12_often_7 : decode cX12_often 7 = .ok (.iload_n 1, 1) := by decide +kernel
theorem dX12_often_8 : decode cX12_often 8 = .ok (.invokevirtual 317, 3) := by decide +kernel
theorem dX12_often_11 : decode cX12_often 11 = .ok (.ifCond .ne 10, 3) := by decide +kernel
theorem dX12_often_14 : decode cX12_often 14 = .ok (.iload_n 2, 1) := by decide +kernel
theorem dX12_often_15 : decode cX12_often 15 = .ok (.invokestatic 245, 3) := by decide +kernel
theorem dX12_often_18 : decode cX12_often 18 = .ok (.ifCond .eq 7, 3) := by decide +kernel
theorem dX12_often_21 : decode cX12_often 21 = .ok (.iconst 1, 1) := by decide +kernel
theorem dX12_often_22 : decode cX12_often 22 = .ok (.goto 4, 3) := by decide +kernel
theorem dX12_often_25 : decode cX12_often 25 = .ok (.iconst 0, 1) := by decide +kernel
theorem dX12_often_26 : decode cX12_often 26 = .ok (.iconst 1, 1) := by decide +kernel
theorem dX12_often_27 : decode cX12_often 27 = .ok (.invokevirtual 237, 3) := by decide +kernel
theorem dX12_often_30 : decode cX12_often 30 = .ok (.ifCond .eq 7, 3) := by decide +kernel
theorem dX12_often_33 : decode cX12_often 33 = .ok (.iconst 0, 1) := by decide +kernel
theorem dX12_often_34 : decode cX12_often 34 = .ok (.goto 15, 3) := by decide +kernel
theorem dX12_often_37 : decode cX12_often 37 = .ok (.aload_n 0, 1) := by decide +kernel
theorem dX12_often_38 : decode cX12_often 38 = .ok (.getfield 13, 3) := by decide +kernel
theorem dX12_often_41 : decode cX12_often 41 = .ok (.iload_n 1, 1) := by decide +kernel
theorem dX12_often_42 : decode cX12_often 42 = .ok (.iconst 2, 1) := by decide +kernel
theorem dX12_often_43 : decode cX12_often 43 = .ok (.iload_n 2, 1) := by decide +kernel
theorem dX12_often_44 : decode cX12_often 44 = .ok (.iadd, 1) := by decide +kernel
theorem dX12_often_45 : decode cX12_often 45 = .ok (.invokestatic 282, 3) := by decide +kernel
theorem dX12_often_48 : decode cX12_often 48 = .ok (.iaload, 1) := by decide +kernel
theorem dX12_often_49 : decode cX12_often 49 = .ok (.ireturn, 1) := by decide +kernel
theorem dX12_matchIn_0 : decode cX12_matchIn 0 = .ok (.aload_n 0, 1) := by decide +kernel
theorem dX12_matchIn_1 : decode cX12_matchIn 1 = .ok (.iload_n 3, 1) := by decide +kernel
theorem dX12_matchIn_2 : decode cX12_matchIn 2 = .ok (.invokevirtual 296, 3) := by decide +kernel
theorem dX12_matchIn_5 : decode cX12_matchIn 5 = .ok (.lconst 0, 1) := by decide +kernel
theorem dX12_matchIn_6 : decode cX12_matchIn 6 = .ok (.lstore 5, 2) := by decide +kernel
theorem dX12_matchIn_8 : decode cX12_matchIn 8 = .ok (.iconst 0, 1) := by decide +kernel
theorem dX12_matchIn_9 : decode cX12_matchIn 9 = .ok (.istore 7, 2) := by decide +kernel
theorem dX12_matchIn_11 : decode cX12_matchIn 11 = .ok (.iload 7, 2) := by decide +kernel
theorem dX12_matchIn_13 : decode cX12_matchIn 13 = .ok (.aload_n 0, 1) := by decide +kernel
theorem dX12_matchIn_14 : decode cX12_matchIn 14 = .ok (.getfield 13, 3) := by decide +kernel
theorem dX12_matchIn_17 : decode cX12_matchIn 17 = .ok (.iconst 2, 1) := by decide +kernel
theorem dX12_matchIn_18 : decode cX12_matchIn 18 = .ok (.iaload, 1) := by decide +kernel
theorem dX12_matchIn_19 : decode cX12_matchIn 19 = .ok (.if_icmp .ge 125, 3) := by decide +kernel
theorem dX12_matchIn_22 : decode cX12_matchIn 22 = .ok (.iconst 0, 1) := by decide +kernel
theorem dX12_matchIn_23 : decode cX12_matchIn 23 = .ok (.istore 8, 2) := by decide +kernel
theorem dX12_matchIn_25 : decode cX12_matchIn 25 = .ok (.iload 8, 2) := by decide +kernel
theorem dX12_matchIn_27 : decode cX12_matchIn 27 = .ok (.bipush 8, 2) := by decide +kernel
theorem dX12_matchIn_29 : decode cX12_matchIn 29 = .ok (.if_icmp .ge 109, 3) := by decide +kernel
theorem dX12_matchIn_32 : decode cX12_matchIn 32 = .ok (.aload_n 0, 1) := by decide +kernel
theorem dX12_matchIn_33 : decode cX12_matchIn 33 = .ok (.iload 7, 2) := by decide +kernel
theorem dX12_matchIn_35 : decode cX12_matchIn 35 = .ok (.iload 8, 2) := by decide +kernel
theorem dX12_matchIn_37 : decode cX12_matchIn 37 = .ok (.aload_n 0, 1) := by decide +kernel
theorem dX12_matchIn_38 : decode cX12_matchIn 38 = .ok (.iload 7, 2) := by decide +kernel
theorem dX12_matchIn_40 : decode cX12_matchIn 40 = .ok (.invokevirtual 320, 3) := by decide +kernel
theorem dX12_matchIn_43 : decode cX12_matchIn 43 = .ok (.invokevirtual 323, 3) := by decide +kernel
theorem dX12_matchIn_46 : decode cX12_matchIn 46 = .ok (.aload_n 0, 1) := by decide +kernel
theorem dX12_matchIn_47 : decode cX12_matchIn 47 = .ok (.iload_n 1, 1) := by decide +kernel
theorem dX12_matchIn_48 : decode cX12_matchIn 48 = .ok (.iload_n 2, 1) := by decide +kernel
theorem dX12_matchIn_49 : decode cX12_matchIn 49 = .ok (.aload_n 0, 1) := by decide +kernel
theorem dX12_matchIn_50 : decode cX12_matchIn 50 = .ok (.getfield 13, 3) := by decide +kernel
theorem dX12_matchIn_53 : decode cX12_matchIn 53 = .ok (.iconst 4, 1) := by decide +kernel
theorem dX12_matchIn_54 : decode cX12_matchIn 54 = .ok (.iaload, 1) := by decide +kernel
theorem dX12_matchIn_55 : decode cX12_matchIn 55 = .ok (.invokevirtual 338, 3) := by decide +kernel
theorem dX12_matchIn_58 : decode cX12_matchIn 58 = .ok (.iconst 4, 1) := by decide +kernel
theorem dX12_matchIn_59 : decode cX12_matchIn 59 = .ok (.iload 8, 2) := by decide +kernel
theorem dX12_matchIn_61 : decode cX12_matchIn 61 = .ok (.imul, 1) := by decide +kernel
theorem dX12_matchIn_62 : decode cX12_matchIn 62 = .ok (.istore 9, 2) := by decide +kernel
theorem dX12_matchIn_64 : decode cX12_matchIn 64 = .ok (.iload 9, 2) := by decide +kernel
theorem dX12_matchIn_66 : decode cX12_matchIn 66 = .ok (.iconst 4, 1) := by decide +kernel
theorem dX12_matchIn_67 : decode cX12_matchIn 67 = .ok (.iload 8, 2) := by decide +kernel
theorem dX12_matchIn_69 : decode cX12_matchIn 69 = .ok (.imul, 1) := by decide +kernel
theorem dX12_matchIn_70 : decode cX12_matchIn 70 = .ok (.iconst 4, 1) := by decide +kernel
theorem dX12_matchIn_71 : decode cX12_matchIn 71 = .ok (.iadd, 1) := by decide +kernel
theorem dX12_matchIn_72 : decode cX12_matchIn 72 = .ok (.if_icmp .ge 60, 3) := by decide +kernel
theorem dX12_matchIn_75 : decode cX12_matchIn 75 = .ok (.lload 5, 2) := by decide +kernel
theorem dX12_matchIn_77 : decode cX12_matchIn 77 = .ok (.aload_n 0, 1) := by decide +kernel
theorem dX12_matchIn_78 : decode cX12_matchIn 78 = .ok (.getfield 13, 3) := by decide +kernel
theorem dX12_matchIn_81 : decode cX12_matchIn 81 = .ok (.iload 7, 2) := by decide +kernel
theorem dX12_matchIn_83 : decode cX12_matchIn 83 = .ok (.iconst 2, 1) := by decide +kernel
theorem dX12_matchIn_84 : decode cX12_matchIn 84 = .ok (.iload 9, 2) := by decide +kernel
theorem dX12_matchIn_86 : decode cX12_matchIn 86 = .ok (.iadd, 1) := by decide +kernel
theorem dX12_matchIn_87 : decode cX12_matchIn 87 = .ok (.invokestatic 282, 3) := by decide +kernel
theorem dX12_matchIn_90 : decode cX12_matchIn 90 = .ok (.iaload, 1) := by decide +kernel
theorem dX12_matchIn_91 : decode cX12_matchIn 91 = .ok (.i2l, 1) := by decide +kernel
theorem dX12_matchIn_92 : decode cX12_matchIn 92 = .ok (.iload 4, 2) := by decide +kernel
theorem dX12_matchIn_94 : decode cX12_matchIn 94 = .ok (.ifCond .ne 13, 3) := by decide +kernel
theorem dX12_matchIn_97 : decode cX12_matchIn 97 = .ok (.aload_n 0, 1) := by decide +kernel
theorem dX12_matchIn_98 : decode cX12_matchIn 98 = .ok (.getfield 46, 3) := by decide +kernel
theorem dX12_matchIn_101 : decode cX12_matchIn 101 = .ok (.iload 9, 2) := by decide +kernel
theorem dX12_matchIn_103 : decode cX12_matchIn 103 = .ok (.laload, 1) := by decide +kernel
theorem dX12_matchIn_104 : decode cX12_matchIn 104 = .ok (.goto 18, 3) := by decide +kernel
theorem dX12_matchIn_107 : decode cX12_matchIn 107 = .ok (.aload_n 0, 1) := by decide +kernel
theorem dX12_matchIn_108 : decode cX12_matchIn 108 = .ok (.getfield 49, 3) := by decide +kernel
theorem dX12_matchIn_111 : decode cX12_matchIn 111 = .ok (.iload 9, 2) := by decide +kernel
theorem dX12_matchIn_113 : decode cX12_matchIn 113 = .ok (.iaload, 1) := by decide +kernel
theorem dX12_matchIn_114 : decode cX12_matchIn 114 = .ok (.ifCond .ne 7, 3) := by decide +kernel
theorem dX12_matchIn_117 : decode cX12_matchIn 117 = .ok (.lconst 1, 1) := by decide +kernel
theorem dX12_matchIn_118 : decode cX12_matchIn 118 = .ok (.goto 4, 3) := by decide +kernel
theorem dX12_matchIn_121 : decode cX12_matchIn 121 = .ok (.lconst 0, 1) := by decide +kernel
theorem dX12_matchIn_122 : decode cX12_matchIn 122 = .ok (.lmul, 1) := by decide +kernel
theorem dX12_matchIn_123 : decode cX12_matchIn 123 = .ok (.ladd, 1) := by decide +kernel
theorem dX12_matchIn_124 : decode cX12_matchIn 124 = .ok (.lstore 5, 2) := by decide +kernel
theorem dX12_matchIn_126 : decode cX12_matchIn 126 = .ok (.iinc 9 1, 3) := by decide +kernel
theorem dX12_matchIn_129 : decode cX12_matchIn 129 = .ok (.goto (-65), 3) := by decide +kernel
theorem dX12_matchIn_132 : decode cX12_matchIn 132 = .ok (.iinc 8 1, 3) := by decide +kernel
theorem dX12_matchIn_135 : decode cX12_matchIn 135 = .ok (.goto (-110), 3) := by decide +kernel
theorem dX12_matchIn_138 : decode cX12_matchIn 138 = .ok (.iinc 7 1, 3) := by decide +kernel
theorem dX12_matchIn_141 : decode cX12_matchIn 141 = .ok (.goto (-130), 3) := by decide +kernel
theorem dX12_matchIn_144 : decode cX12_matchIn 144 = .ok (.lload 5, 2) := by decide +kernel
theorem dX12_matchIn_146 : decode cX12_matchIn 146 = .ok (.lreturn, 1) := by decide +kernel
theorem dX12_match_0 : decode cX12_match 0 = .ok (.aload_n 0, 1) := by decide +kernel
theorem dX12_match_1 : decode cX12_match 1 = .ok (.iconst 0, 1) := by decide +kernel
theorem dX12_match_2 : decode cX12_match 2 = .ok (.putfield 3, 3) := by decide +kernel
theorem dX12_match_5 : decode cX12_match 5 = .ok (.aload_n 0, 1) := by decide +kernel
theorem dX12_match_6 : decode cX12_match 6 = .ok (.aload_n 0, 1) := by decide +kernel
theorem dX12_match_7 : decode cX12_match 7 = .ok (.iload_n 1, 1) := by decide +kernel
theorem dX12_match_8 : decode cX12_match 8 = .ok (.invokevirtual 335, 3) := by decide +kernel
theorem dX12_match_11 : decode cX12_match 11 = .ok (.iconst 1, 1) := by decide +kernel
theorem dX12_match_12 : decode cX12_match 12 = .ok (.invokevirtual 237, 3) := by decide +kernel
theorem dX12_match_15 : decode cX12_match 15 = .ok (.ifCond .ne 17, 3) := by decide +kernel
theorem dX12_match_18 : decode cX12_match 18 = .ok (.aload_n 0, 1) := by decide +kernel
theorem dX12_match_19 : decode cX12_match 19 = .ok (.aload_n 0, 1) := by decide +kernel
theorem dX12_match_20 : decode cX12_match 20 = .ok (.iload_n 1, 1) := by decide +kernel
theorem dX12_match_21 : decode cX12_match 21 = .ok (.iload_n 2, 1) := by decide +kernel
theorem dX12_match_22 : decode cX12_match 22 = .ok (.invokevirtual 344, 3) := by decide +kernel
theorem dX12_match_25 : decode cX12_match 25 = .ok (.iconst 2, 1) := by decide +kernel
theorem dX12_match_26 : decode cX12_match 26 = .ok (.invokevirtual 237, 3) := by decide +kernel
theorem dX12_match_29 : decode cX12_match 29 = .ok (.ifCond .eq 5, 3) := by decide +kernel
theorem dX12_match_32 : decode cX12_match 32 = .ok (.lconst 0, 1) := by decide +kernel
theorem dX12_match_33 : decode cX12_match 33 = .ok (.lreturn, 1) := by decide +kernel
theorem dX12_match_34 : decode cX12_match 34 = .ok (.iload_n 3, 1) := by decide +kernel
theorem dX12_match_35 : decode cX12_match 35 = .ok (.ifCond .eq 18, 3) := by decide +kernel
theorem dX12_match_38 : decode cX12_match 38 = .ok (.aload_n 0, 1) := by decide +kernel
theorem dX12_match_39 : decode cX12_match 39 = .ok (.iload_n 1, 1) := by decide +kernel
theorem dX12_match_40 : decode cX12_match 40 = .ok (.iload_n 2, 1) := by decide +kernel
theorem dX12_match_41 : decode cX12_match 41 = .ok (.aload_n 0, 1) := by decide +kernel
theorem dX12_match_42 : decode cX12_match 42 = .ok (.getfield 13, 3) := by decide +kernel
theorem dX12_match_45 : decode cX12_match 45 = .ok (.bipush 6, 2) := by decide +kernel
theorem dX12_match_47 : decode cX12_match 47 = .ok (.iaload, 1) := by decide +kernel
theorem dX12_match_48 : decode cX12_match 48 = .ok (.iconst 1, 1) := by decide +kernel
theorem dX12_match_49 : decode cX12_match 49 = .ok (.invokevirtual 363, 3) := by decide +kernel
theorem dX12_match_52 : decode cX12_match 52 = .ok (.lreturn, 1) := by decide +kernel
theorem dX12_match_53 : decode cX12_match 53 = .ok (.lconst 0, 1) := by decide +kernel
theorem dX12_match_54 : decode cX12_match 54 = .ok (.lstore 4, 2) := by decide +kernel
theorem dX12_match_56 : decode cX12_match 56 = .ok (.iconst 0, 1) := by decide +kernel
theorem dX12_match_57 : decode cX12_match 57 = .ok (.istore 6, 2) := by decide +kernel
theorem dX12_match_59 : decode cX12_match 59 = .ok (.iload 6, 2) := by decide +kernel
theorem dX12_match_61 : decode cX12_match 61 = .ok (.bipush 90, 2) := by decide +kernel
theorem dX12_match_63 : decode cX12_match 63 = .ok (.if_icmp .ge 23, 3) := by decide +kernel
theorem dX12_match_66 : decode cX12_match 66 = .ok (.lload 4, 2) := by decide +kernel
theorem dX12_match_68 : decode cX12_match 68 = .ok (.aload_n 0, 1) := by decide +kernel
theorem dX12_match_69 : decode cX12_match 69 = .ok (.iload_n 1, 1) := by decide +kernel
theorem dX12_match_70 : decode cX12_match 70 = .ok (.iload_n 2, 1) := by decide +kernel
theorem dX12_match_71 : decode cX12_match 71 = .ok (.iload 6, 2) := by decide +kernel
theorem dX12_match_73 : decode cX12_match 73 = .ok (.iconst 0, 1) := by decide +kernel
theorem dX12_match_74 : decode cX12_match 74 = .ok (.invokevirtual 363, 3) := by decide +kernel
theorem dX12_match_77 : decode cX12_match 77 = .ok (.ladd, 1) := by decide +kernel
theorem dX12_match_78 : decode cX12_match 78 = .ok (.lstore 4, 2) := by decide +kernel
theorem dX12_match_80 : decode cX12_match 80 = .ok (.iinc 6 10, 3) := by decide +kernel
theorem dX12_match_83 : decode cX12_match 83 = .ok (.goto (-24), 3) := by decide +kernel
theorem dX12_match_86 : decode cX12_match 86 = .ok (.lload 4, 2) := by decide +kernel
theorem dX12_match_88 : decode cX12_match 88 = .ok (.ldc2_w 367, 3) := by decide +kernel
theorem dX12_match_91 : decode cX12_match 91 = .ok (.invokestatic 293, 3) := by decide +kernel
theorem dX12_match_94 : decode cX12_match 94 = .ok (.lreturn, 1) := by decide +kernel
theorem dX12_learns_0 : decode cX12_learns 0 = .ok (.iconst 0, 1) := by decide +kernel
theorem dX12_learns_1 : decode cX12_learns 1 = .ok (.istore_n 3, 1) := by decide +kernel
theorem dX12_learns_2 : decode cX12_learns 2 = .ok (.iconst 0, 1) := by decide +kernel
theorem dX12_learns_3 : decode cX12_learns 3 = .ok (.istore 4, 2) := by decide +kernel
theorem dX12_learns_5 : decode cX12_learns 5 = .ok (.iload 4, 2) := by decide +kernel
theorem dX12_learns_7 : decode cX12_learns 7 = .ok (.aload_n 0, 1) := by decide +kernel
theorem dX12_learns_8 : decode cX12_learns 8 = .ok (.getfield 13, 3) := by decide +kernel
theorem dX12_learns_11 : decode cX12_learns 11 = .ok (.iconst 2, 1) := by decide +kernel
theorem dX12_learns_12 : decode cX12_learns 12 = .ok (.iaload, 1) := by decide +kernel
theorem dX12_learns_13 : decode cX12_learns 13 = .ok (.if_icmp .ge 173, 3) := by decide +kernel
theorem dX12_learns_16 : decode cX12_learns 16 = .ok (.iconst (-1), 1) := by decide +kernel
theorem dX12_learns_17 : decode cX12_learns 17 = .ok (.istore 5, 2) := by decide +kernel
theorem dX12_learns_19 : decode cX12_learns 19 = .ok (.iconst 0, 1) := by decide +kernel
theorem dX12_learns_20 : decode cX12_learns 20 = .ok (.istore 6, 2) := by decide +kernel
theorem dX12_learns_22 : decode cX12_learns 22 = .ok (.iconst 0, 1) := by decide +kernel
theorem dX12_learns_23 : decode cX12_learns 23 = .ok (.istore 7, 2) := by decide +kernel
theorem dX12_learns_25 : decode cX12_learns 25 = .ok (.iload 7, 2) := by decide +kernel
theorem dX12_learns_27 : decode cX12_learns 27 = .ok (.bipush 32, 2) := by decide +kernel
theorem dX12_learns_29 : decode cX12_learns 29 = .ok (.if_icmp .ge 151, 3) := by decide +kernel
theorem dX12_learns_32 : decode cX12_learns 32 = .ok (.iload 4, 2) := by decide +kernel
theorem dX12_learns_34 : decode cX12_learns 34 = .ok (.iconst 2, 1) := by decide +kernel
theorem dX12_learns_35 : decode cX12_learns 35 = .ok (.iload 7, 2) := by decide +kernel
theorem dX12_learns_37 : decode cX12_learns 37 = .ok (.iadd, 1) := by decide +kernel
theorem dX12_learns_38 : decode cX12_learns 38 = .ok (.invokestatic 282, 3) := by decide +kernel
theorem dX12_learns_41 : decode cX12_learns 41 = .ok (.istore 8, 2) := by decide +kernel
theorem dX12_learns_43 : decode cX12_learns 43 = .ok (.aload_n 0, 1) := by decide +kernel
theorem dX12_learns_44 : decode cX12_learns 44 = .ok (.getfield 13, 3) := by decide +kernel
theorem dX12_learns_47 : decode cX12_learns 47 = .ok (.iload 8, 2) := by decide +kernel
theorem dX12_learns_49 : decode cX12_learns 49 = .ok (.iaload, 1) := by decide +kernel
theorem dX12_learns_50 : decode cX12_learns 50 = .ok (.ifCond .ne 6, 3) := by decide +kernel
theorem dX12_learns_53 : decode cX12_learns 53 = .ok (.goto 121, 3) := by decide +kernel
theorem dX12_learns_56 : decode cX12_learns 56 = .ok (.iload 5, 2) := by decide +kernel
theorem dX12_learns_58 : decode cX12_learns 58 = .ok (.aload_n 0, 1) := by decide +kernel
theorem dX12_learns_59 : decode cX12_learns 59 = .ok (.iload 4, 2) := by decide +kernel
theorem dX12_learns_61 : decode cX12_learns 61 = .ok (.aload_n 0, 1) := by decide +kernel
theorem dX12_learns_62 : decode cX12_learns 62 = .ok (.iload 4, 2) := by decide +kernel
theorem dX12_learns_64 : decode cX12_learns 64 = .ok (.invokevirtual 320, 3) := by decide +kernel
theorem dX12_learns_67 : decode cX12_learns 67 = .ok (.invokevirtual 302, 3) := by decide +kernel
theorem dX12_learns_70 : decode cX12_learns 70 = .ok (.if_icmp .eq 19, 3) := by decide +kernel
theorem dX12_learns_73 : decode cX12_learns 73 = .ok (.aload_n 0, 1) := by decide +kernel
theorem dX12_learns_74 : decode cX12_learns 74 = .ok (.iload_n 1, 1) := by decide +kernel
theorem dX12_learns_75 : decode cX12_learns 75 = .ok (.iload_n 2, 1) := by decide +kernel
theorem dX12_learns_76 : decode cX12_learns 76 = .ok (.iload 4, 2) := by decide +kernel
theorem dX12_learns_78 : decode cX12_learns 78 = .ok (.aload_n 0, 1) := by decide +kernel
theorem dX12_learns_79 : decode cX12_learns 79 = .ok (.iload 4, 2) := by decide +kernel
theorem dX12_learns_81 : decode cX12_learns 81 = .ok (.invokevirtual 320, 3) := by decide +kernel
theorem dX12_learns_84 : decode cX12_learns 84 = .ok (.invokevirtual 359, 3) := by decide +kernel
theorem dX12_learns_87 : decode cX12_learns 87 = .ok (.istore 6, 2) := by decide +kernel
theorem dX12_learns_89 : decode cX12_learns 89 = .ok (.aload_n 0, 1) := by decide +kernel
theorem dX12_learns_90 : decode cX12_learns 90 = .ok (.iload 4, 2) := by decide +kernel
theorem dX12_learns_92 : decode cX12_learns 92 = .ok (.aload_n 0, 1) := by decide +kernel
theorem dX12_learns_93 : decode cX12_learns 93 = .ok (.iload 4, 2) := by decide +kernel
theorem dX12_learns_95 : decode cX12_learns 95 = .ok (.invokevirtual 320, 3) := by decide +kernel
theorem dX12_learns_98 : decode cX12_learns 98 = .ok (.invokevirtual 302, 3) := by decide +kernel
theorem dX12_learns_101 : decode cX12_learns 101 = .ok (.istore 5, 2) := by decide +kernel
theorem dX12_learns_103 : decode cX12_learns 103 = .ok (.iload 6, 2) := by decide +kernel
theorem dX12_learns_105 : decode cX12_learns 105 = .ok (.iload 7, 2) := by decide +kernel
theorem dX12_learns_107 : decode cX12_learns 107 = .ok (.ishr, 1) := by decide +kernel
theorem dX12_learns_108 : decode cX12_learns 108 = .ok (.iconst 1, 1) := by decide +kernel
theorem dX12_learns_109 : decode cX12_learns 109 = .ok (.iand, 1) := by decide +kernel
theorem dX12_learns_110 : decode cX12_learns 110 = .ok (.iconst 1, 1) := by decide +kernel
theorem dX12_learns_111 : decode cX12_learns 111 = .ok (.if_icmp .ne 21, 3) := by decide +kernel
theorem dX12_learns_114 : decode cX12_learns 114 = .ok (.sipush 999, 3) := by decide +kernel
theorem dX12_learns_117 : decode cX12_learns 117 = .ok (.aload_n 0, 1) := by decide +kernel
theorem dX12_learns_118 : decode cX12_learns 118 = .ok (.getfield 13, 3) := by decide +kernel
theorem dX12_learns_121 : decode cX12_learns 121 = .ok (.iload 8, 2) := by decide +kernel
theorem dX12_learns_123 : decode cX12_learns 123 = .ok (.iaload, 1) := by decide +kernel
theorem dX12_learns_124 : decode cX12_learns 124 = .ok (.iconst 1, 1) := by decide +kernel
theorem dX12_learns_125 : decode cX12_learns 125 = .ok (.iadd, 1) := by decide +kernel
theorem dX12_learns_126 : decode cX12_learns 126 = .ok (.invokestatic 369, 3) := by decide +kernel
theorem dX12_learns_129 : decode cX12_learns 129 = .ok (.goto 12, 3) := by decide +kernel
theorem dX12_learns_132 : decode cX12_learns 132 = .ok (.aload_n 0, 1) := by decide +kernel
theorem dX12_learns_133 : decode cX12_learns 133 = .ok (.getfield 13, 3) := by decide +kernel
theorem dX12_learns_136 : decode cX12_learns 136 = .ok (.iload 8, 2) := by decide +kernel
theorem dX12_learns_138 : decode cX12_learns 138 = .ok (.iaload, 1) := by decide +kernel
theorem dX12_learns_139 : decode cX12_learns 139 = .ok (.iconst 1, 1) := by decide +kernel
theorem dX12_learns_140 : decode cX12_learns 140 = .ok (.isub, 1) := by decide +kernel
theorem dX12_learns_141 : decode cX12_learns 141 = .ok (.istore 9, 2) := by decide +kernel
theorem dX12_learns_143 : decode cX12_learns 143 = .ok (.iload_n 3, 1) := by decide +kernel
theorem dX12_learns_144 : decode cX12_learns 144 = .ok (.ifCond .ne 15, 3) := by decide +kernel
theorem dX12_learns_147 : decode cX12_learns 147 = .ok (.iload 9, 2) := by decide +kernel
theorem dX12_learns_149 : decode cX12_learns 149 = .ok (.aload_n 0, 1) := by decide +kernel
theorem dX12_learns_150 : decode cX12_learns 150 = .ok (.getfield 13, 3) := by decide +kernel
theorem dX12_learns_153 : decode cX12_learns 153 = .ok (.iload 8, 2) := by decide +kernel
theorem dX12_learns_155 : decode cX12_learns 155 = .ok (.iaload, 1) := by decide +kernel
theorem dX12_learns_156 : decode cX12_learns 156 = .ok (.if_icmp .eq 7, 3) := by decide +kernel
theorem dX12_learns_159 : decode cX12_learns 159 = .ok (.iconst 1, 1) := by decide +kernel
theorem dX12_learns_160 : decode cX12_learns 160 = .ok (.goto 4, 3) := by decide +kernel
theorem dX12_learns_163 : decode cX12_learns 163 = .ok (.iconst 0, 1) := by decide +kernel
theorem dX12_learns_164 : decode cX12_learns 164 = .ok (.istore_n 3, 1) := by decide +kernel
theorem dX12_learns_165 : decode cX12_learns 165 = .ok (.aload_n 0, 1) := by decide +kernel
theorem dX12_learns_166 : decode cX12_learns 166 = .ok (.getfield 13, 3) := by decide +kernel
theorem dX12_learns_169 : decode cX12_learns 169 = .ok (.iload 8, 2) := by decide +kernel
theorem dX12_learns_171 : decode cX12_learns 171 = .ok (.iload 9, 2) := by decide +kernel
theorem dX12_learns_173 : decode cX12_learns 173 = .ok (.iastore, 1) := by decide +kernel
theorem dX12_learns_174 : decode cX12_learns 174 = .ok (.iinc 7 1, 3) := by decide +kernel
theorem dX12_learns_177 : decode cX12_learns 177 = .ok (.goto (-152), 3) := by decide +kernel
theorem dX12_learns_180 : decode cX12_learns 180 = .ok (.iinc 4 1, 3) := by decide +kernel
theorem dX12_learns_183 : decode cX12_learns 183 = .ok (.goto (-178), 3) := by decide +kernel
theorem dX12_learns_186 : decode cX12_learns 186 = .ok (.iload_n 3, 1) := by decide +kernel
theorem dX12_learns_187 : decode cX12_learns 187 = .ok (.ireturn, 1) := by decide +kernel
theorem dX12_learn_0 : decode cX12_learn 0 = .ok (.aload_n 0, 1) := by decide +kernel
theorem dX12_learn_1 : decode cX12_learn 1 = .ok (.iconst 0, 1) := by decide +kernel
theorem dX12_learn_2 : decode cX12_learn 2 = .ok (.putfield 3, 3) := by decide +kernel
theorem dX12_learn_5 : decode cX12_learn 5 = .ok (.aload_n 0, 1) := by decide +kernel
theorem dX12_learn_6 : decode cX12_learn 6 = .ok (.aload_n 0, 1) := by decide +kernel
theorem dX12_learn_7 : decode cX12_learn 7 = .ok (.iload_n 1, 1) := by decide +kernel
theorem dX12_learn_8 : decode cX12_learn 8 = .ok (.invokevirtual 335, 3) := by decide +kernel
theorem dX12_learn_11 : decode cX12_learn 11 = .ok (.iconst 1, 1) := by decide +kernel
theorem dX12_learn_12 : decode cX12_learn 12 = .ok (.invokevirtual 237, 3) := by decide +kernel
theorem dX12_learn_15 : decode cX12_learn 15 = .ok (.ifCond .ne 17, 3) := by decide +kernel
theorem dX12_learn_18 : decode cX12_learn 18 = .ok (.aload_n 0, 1) := by decide +kernel
theorem dX12_learn_19 : decode cX12_learn 19 = .ok (.aload_n 0, 1) := by decide +kernel
theorem dX12_learn_20 : decode cX12_learn 20 = .ok (.iload_n 1, 1) := by decide +kernel
theorem dX12_learn_21 : decode cX12_learn 21 = .ok (.iload_n 2, 1) := by decide +kernel
theorem dX12_learn_22 : decode cX12_learn 22 = .ok (.invokevirtual 344, 3) := by decide +kernel
theorem dX12_learn_25 : decode cX12_learn 25 = .ok (.iconst 2, 1) := by decide +kernel
theorem dX12_learn_26 : decode cX12_learn 26 = .ok (.invokevirtual 237, 3) := by decide +kernel
theorem dX12_learn_29 : decode cX12_learn 29 = .ok (.ifCond .eq 5, 3) := by decide +kernel
theorem dX12_learn_32 : decode cX12_learn 32 = .ok (.iconst 0, 1) := by decide +kernel
theorem dX12_learn_33 : decode cX12_learn 33 = .ok (.ireturn, 1) := by decide +kernel
theorem dX12_learn_34 : decode cX12_learn 34 = .ok (.aload_n 0, 1) := by decide +kernel
theorem dX12_learn_35 : decode cX12_learn 35 = .ok (.aload_n 0, 1) := by decide +kernel
theorem dX12_learn_36 : decode cX12_learn 36 = .ok (.getfield 13, 3) := by decide +kernel
theorem dX12_learn_39 : decode cX12_learn 39 = .ok (.bipush 6, 2) := by decide +kernel
theorem dX12_learn_41 : decode cX12_learn 41 = .ok (.iaload, 1) := by decide +kernel
theorem dX12_learn_42 : decode cX12_learn 42 = .ok (.invokevirtual 296, 3) := by decide +kernel
theorem dX12_learn_45 : decode cX12_learn 45 = .ok (.iconst 0, 1) := by decide +kernel
theorem dX12_learn_46 : decode cX12_learn 46 = .ok (.istore_n 3, 1) := by decide +kernel
theorem dX12_learn_47 : decode cX12_learn 47 = .ok (.iload_n 3, 1) := by decide +kernel
theorem dX12_learn_48 : decode cX12_learn 48 = .ok (.sipush 192, 3) := by decide +kernel
theorem dX12_learn_51 : decode cX12_learn 51 = .ok (.if_icmp .ge 33, 3) := by decide +kernel
theorem dX12_learn_54 : decode cX12_learn 54 = .ok (.aload_n 0, 1) := by decide +kernel
theorem dX12_learn_55 : decode cX12_learn 55 = .ok (.getfield 58, 3) := by decide +kernel
theorem dX12_learn_58 : decode cX12_learn 58 = .ok (.iload_n 3, 1) := by decide +kernel
theorem dX12_learn_59 : decode cX12_learn 59 = .ok (.aload_n 0, 1) := by decide +kernel
theorem dX12_learn_60 : decode cX12_learn 60 = .ok (.getfield 13, 3) := by decide +kernel
theorem dX12_learn_63 : decode cX12_learn 63 = .ok (.iload_n 3, 1) := by decide +kernel
theorem dX12_learn_64 : decode cX12_learn 64 = .ok (.bipush 32, 2) := by decide +kernel
theorem dX12_learn_66 : decode cX12_learn 66 = .ok (.idiv, 1) := by decide +kernel
theorem dX12_learn_67 : decode cX12_learn 67 = .ok (.iconst 2, 1) := by decide +kernel
theorem dX12_learn_68 : decode cX12_learn 68 = .ok (.iload_n 3, 1) := by decide +kernel
theorem dX12_learn_69 : decode cX12_learn 69 = .ok (.bipush 32, 2) := by decide +kernel
theorem dX12_learn_71 : decode cX12_learn 71 = .ok (.irem, 1) := by decide +kernel
theorem dX12_learn_72 : decode cX12_learn 72 = .ok (.iadd, 1) := by decide +kernel
theorem dX12_learn_73 : decode cX12_learn 73 = .ok (.invokestatic 282, 3) := by decide +kernel
theorem dX12_learn_76 : decode cX12_learn 76 = .ok (.iaload, 1) := by decide +kernel
theorem dX12_learn_77 : decode cX12_learn 77 = .ok (.iastore, 1) := by decide +kernel
theorem dX12_learn_78 : decode cX12_learn 78 = .ok (.iinc 3 1, 3) := by decide +kernel
theorem dX12_learn_81 : decode cX12_learn 81 = .ok (.goto (-34), 3) := by decide +kernel
theorem dX12_learn_84 : decode cX12_learn 84 = .ok (.iconst 0, 1) := by decide +kernel
theorem dX12_learn_85 : decode cX12_learn 85 = .ok (.istore_n 3, 1) := by decide +kernel
theorem dX12_learn_86 : decode cX12_learn 86 = .ok (.iload_n 3, 1) := by decide +kernel
theorem dX12_learn_87 : decode cX12_learn 87 = .ok (.bipush 60, 2) := by decide +kernel
theorem dX12_learn_89 : decode cX12_learn 89 = .ok (.if_icmp .gt 20, 3) := by decide +kernel
theorem dX12_learn_92 : decode cX12_learn 92 = .ok (.aload_n 0, 1) := by decide +kernel
theorem dX12_learn_93 : decode cX12_learn 93 = .ok (.iload_n 1, 1) := by decide +kernel
theorem dX12_learn_94 : decode cX12_learn 94 = .ok (.iload_n 2, 1) := by decide +kernel
theorem dX12_learn_95 : decode cX12_learn 95 = .ok (.invokevirtual 371, 3) := by decide +kernel
theorem dX12_learn_98 : decode cX12_learn 98 = .ok (.ifCond .ne 5, 3) := by decide +kernel
theorem dX12_learn_101 : decode cX12_learn 101 = .ok (.iload_n 3, 1) := by decide +kernel
theorem dX12_learn_102 : decode cX12_learn 102 = .ok (.ireturn, 1) := by decide +kernel
theorem dX12_learn_103 : decode cX12_learn 103 = .ok (.iinc 3 1, 3) := by decide +kernel
theorem dX12_learn_106 : decode cX12_learn 106 = .ok (.goto (-20), 3) := by decide +kernel
theorem dX12_learn_109 : decode cX12_learn 109 = .ok (.iconst 0, 1) := by decide +kernel
theorem dX12_learn_110 : decode cX12_learn 110 = .ok (.istore_n 3, 1) := by decide +kernel
theorem dX12_learn_111 : decode cX12_learn 111 = .ok (.iload_n 3, 1) := by decide +kernel
theorem dX12_learn_112 : decode cX12_learn 112 = .ok (.sipush 192, 3) := by decide +kernel
theorem dX12_learn_115 : decode cX12_learn 115 = .ok (.if_icmp .ge 33, 3) := by decide +kernel
theorem dX12_learn_118 : decode cX12_learn 118 = .ok (.aload_n 0, 1) := by decide +kernel
theorem dX12_learn_119 : decode cX12_learn 119 = .ok (.getfield 13, 3) := by decide +kernel
theorem dX12_learn_122 : decode cX12_learn 122 = .ok (.iload_n 3, 1) := by decide +kernel
theorem dX12_learn_123 : decode cX12_learn 123 = .ok (.bipush 32, 2) := by decide +kernel
theorem dX12_learn_125 : decode cX12_learn 125 = .ok (.idiv, 1) := by decide +kernel
theorem dX12_learn_126 : decode cX12_learn 126 = .ok (.iconst 2, 1) := by decide +kernel
theorem dX12_learn_127 : decode cX12_learn 127 = .ok (.iload_n 3, 1) := by decide +kernel
theorem dX12_learn_128 : decode cX12_learn 128 = .ok (.bipush 32, 2) := by decide +kernel
theorem dX12_learn_130 : decode cX12_learn 130 = .ok (.irem, 1) := by decide +kernel
theorem dX12_learn_131 : decode cX12_learn 131 = .ok (.iadd, 1) := by decide +kernel
theorem dX12_learn_132 : decode cX12_learn 132 = .ok (.invokestatic 282, 3) := by decide +kernel
theorem dX12_learn_135 : decode cX12_learn 135 = .ok (.aload_n 0, 1) := by decide +kernel
theorem dX12_learn_136 : decode cX12_learn 136 = .ok (.getfield 58, 3) := by decide +kernel
theorem dX12_learn_139 : decode cX12_learn 139 = .ok (.iload_n 3, 1) := by decide +kernel
theorem dX12_learn_140 : decode cX12_learn 140 = .ok (.iaload, 1) := by decide +kernel
theorem dX12_learn_141 : decode cX12_learn 141 = .ok (.iastore, 1) := by decide +kernel
theorem dX12_learn_142 : decode cX12_learn 142 = .ok (.iinc 3 1, 3) := by decide +kernel
theorem dX12_learn_145 : decode cX12_learn 145 = .ok (.goto (-34), 3) := by decide +kernel
theorem dX12_learn_148 : decode cX12_learn 148 = .ok (.iconst (-1), 1) := by decide +kernel
theorem dX12_learn_149 : decode cX12_learn 149 = .ok (.ireturn, 1) := by decide +kernel
theorem dX12_two_0 : decode cX12_two 0 = .ok (.aload_n 0, 1) := by decide +kernel
theorem dX12_two_1 : decode cX12_two 1 = .ok (.iconst 0, 1) := by decide +kernel
theorem dX12_two_2 : decode cX12_two 2 = .ok (.putfield 3, 3) := by decide +kernel
theorem dX12_two_5 : decode cX12_two 5 = .ok (.aload_n 0, 1) := by decide +kernel
theorem dX12_two_6 : decode cX12_two 6 = .ok (.aload_n 0, 1) := by decide +kernel
theorem dX12_two_7 : decode cX12_two 7 = .ok (.iload_n 1, 1) := by decide +kernel
theorem dX12_two_8 : decode cX12_two 8 = .ok (.invokevirtual 317, 3) := by decide +kernel
theorem dX12_two_11 : decode cX12_two 11 = .ok (.ifCond .ne 34, 3) := by decide +kernel
theorem dX12_two_14 : decode cX12_two 14 = .ok (.iload_n 2, 1) := by decide +kernel
theorem dX12_two_15 : decode cX12_two 15 = .ok (.invokestatic 254, 3) := by decide +kernel
theorem dX12_two_18 : decode cX12_two 18 = .ok (.ifCond .ne 27, 3) := by decide +kernel
theorem dX12_two_21 : decode cX12_two 21 = .ok (.aload_n 0, 1) := by decide +kernel
theorem dX12_two_22 : decode cX12_two 22 = .ok (.iload_n 3, 1) := by decide +kernel
theorem dX12_two_23 : decode cX12_two 23 = .ok (.invokevirtual 317, 3) := by decide +kernel
theorem dX12_two_26 : decode cX12_two 26 = .ok (.ifCond .ne 19, 3) := by decide +kernel
theorem dX12_two_29 : decode cX12_two 29 = .ok (.iload 4, 2) := by decide +kernel
theorem dX12_two_31 : decode cX12_two 31 = .ok (.invokestatic 254, 3) := by decide +kernel
theorem dX12_two_34 : decode cX12_two 34 = .ok (.ifCond .ne 11, 3) := by decide +kernel
theorem dX12_two_37 : decode cX12_two 37 = .ok (.iload 5, 2) := by decide +kernel
theorem dX12_two_39 : decode cX12_two 39 = .ok (.invokestatic 245, 3) := by decide +kernel
theorem dX12_two_42 : decode cX12_two 42 = .ok (.ifCond .eq 7, 3) := by decide +kernel
theorem dX12_two_45 : decode cX12_two 45 = .ok (.iconst 1, 1) := by decide +kernel
theorem dX12_two_46 : decode cX12_two 46 = .ok (.goto 4, 3) := by decide +kernel
theorem dX12_two_49 : decode cX12_two 49 = .ok (.iconst 0, 1) := by decide +kernel
theorem dX12_two_50 : decode cX12_two 50 = .ok (.iconst 1, 1) := by decide +kernel
theorem dX12_two_51 : decode cX12_two 51 = .ok (.invokevirtual 237, 3) := by decide +kernel
theorem dX12_two_54 : decode cX12_two 54 = .ok (.ifCond .eq 5, 3) := by decide +kernel
theorem dX12_two_57 : decode cX12_two 57 = .ok (.lconst 0, 1) := by decide +kernel
theorem dX12_two_58 : decode cX12_two 58 = .ok (.lreturn, 1) := by decide +kernel
theorem dX12_two_59 : decode cX12_two 59 = .ok (.aload_n 0, 1) := by decide +kernel
theorem dX12_two_60 : decode cX12_two 60 = .ok (.iload_n 3, 1) := by decide +kernel
theorem dX12_two_61 : decode cX12_two 61 = .ok (.iload 4, 2) := by decide +kernel
theorem dX12_two_63 : decode cX12_two 63 = .ok (.aload_n 0, 1) := by decide +kernel
theorem dX12_two_64 : decode cX12_two 64 = .ok (.iload_n 3, 1) := by decide +kernel
theorem dX12_two_65 : decode cX12_two 65 = .ok (.invokevirtual 320, 3) := by decide +kernel
theorem dX12_two_68 : decode cX12_two 68 = .ok (.invokevirtual 323, 3) := by decide +kernel
theorem dX12_two_71 : decode cX12_two 71 = .ok (.aload_n 0, 1) := by decide +kernel
theorem dX12_two_72 : decode cX12_two 72 = .ok (.getfield 308, 3) := by decide +kernel
theorem dX12_two_75 : decode cX12_two 75 = .ok (.istore 7, 2) := by decide +kernel
theorem dX12_two_77 : decode cX12_two 77 = .ok (.aload_n 0, 1) := by decide +kernel
theorem dX12_two_78 : decode cX12_two 78 = .ok (.iload_n 1, 1) := by decide +kernel
theorem dX12_two_79 : decode cX12_two 79 = .ok (.iload_n 2, 1) := by decide +kernel
theorem dX12_two_80 : decode cX12_two 80 = .ok (.aload_n 0, 1) := by decide +kernel
theorem dX12_two_81 : decode cX12_two 81 = .ok (.iload_n 1, 1) := by decide +kernel
theorem dX12_two_82 : decode cX12_two 82 = .ok (.invokevirtual 320, 3) := by decide +kernel
theorem dX12_two_85 : decode cX12_two 85 = .ok (.invokevirtual 323, 3) := by decide +kernel
theorem dX12_two_88 : decode cX12_two 88 = .ok (.aload_n 0, 1) := by decide +kernel
theorem dX12_two_89 : decode cX12_two 89 = .ok (.getfield 308, 3) := by decide +kernel
theorem dX12_two_92 : decode cX12_two 92 = .ok (.iload 7, 2) := by decide +kernel
theorem dX12_two_94 : decode cX12_two 94 = .ok (.if_icmp .le 7, 3) := by decide +kernel
theorem dX12_two_97 : decode cX12_two 97 = .ok (.iconst 1, 1) := by decide +kernel
theorem dX12_two_98 : decode cX12_two 98 = .ok (.goto 17, 3) := by decide +kernel
theorem dX12_two_101 : decode cX12_two 101 = .ok (.iload 7, 2) := by decide +kernel
theorem dX12_two_103 : decode cX12_two 103 = .ok (.aload_n 0, 1) := by decide +kernel
theorem dX12_two_104 : decode cX12_two 104 = .ok (.getfield 308, 3) := by decide +kernel
theorem dX12_two_107 : decode cX12_two 107 = .ok (.if_icmp .le 7, 3) := by decide +kernel
theorem dX12_two_110 : decode cX12_two 110 = .ok (.iconst 2, 1) := by decide +kernel
theorem dX12_two_111 : decode cX12_two 111 = .ok (.goto 4, 3) := by decide +kernel
theorem dX12_two_114 : decode cX12_two 114 = .ok (.iconst 0, 1) := by decide +kernel
theorem dX12_two_115 : decode cX12_two 115 = .ok (.istore 8, 2) := by decide +kernel
theorem dX12_two_117 : decode cX12_two 117 = .ok (.iload 6, 2) := by decide +kernel
theorem dX12_two_119 : decode cX12_two 119 = .ok (.ifCond .ne 7, 3) := by decide +kernel
theorem dX12_two_122 : decode cX12_two 122 = .ok (.iload 8, 2) := by decide +kernel
theorem dX12_two_124 : decode cX12_two 124 = .ok (.i2l, 1) := by decide +kernel
theorem dX12_two_125 : decode cX12_two 125 = .ok (.lreturn, 1) := by decide +kernel
theorem dX12_two_126 : decode cX12_two 126 = .ok (.iload 8, 2) := by decide +kernel
theorem dX12_two_128 : decode cX12_two 128 = .ok (.ifCond .ne 7, 3) := by decide +kernel
theorem dX12_two_131 : decode cX12_two 131 = .ok (.lconst 0, 1) := by decide +kernel
theorem dX12_two_132 : decode cX12_two 132 = .ok (.goto 30, 3) := by decide +kernel
theorem dX12_two_135 : decode cX12_two 135 = .ok (.iload 8, 2) := by decide +kernel
theorem dX12_two_137 : decode cX12_two 137 = .ok (.iconst 2, 1) := by decide +kernel
theorem dX12_two_138 : decode cX12_two 138 = .ok (.if_icmp .ne 10, 3) := by decide +kernel
theorem dX12_two_141 : decode cX12_two 141 = .ok (.iload 7, 2) := by decide +kernel
theorem dX12_two_143 : decode cX12_two 143 = .ok (.ineg, 1) := by decide +kernel
theorem dX12_two_144 : decode cX12_two 144 = .ok (.i2l, 1) := by decide +kernel
theorem dX12_two_145 : decode cX12_two 145 = .ok (.goto 17, 3) := by decide +kernel
theorem dX12_two_148 : decode cX12_two 148 = .ok (.aload_n 0, 1) := by decide +kernel
theorem dX12_two_149 : decode cX12_two 149 = .ok (.iload_n 1, 1) := by decide +kernel
theorem dX12_two_150 : decode cX12_two 150 = .ok (.iload_n 2, 1) := by decide +kernel
theorem dX12_two_151 : decode cX12_two 151 = .ok (.iload 5, 2) := by decide +kernel
theorem dX12_two_153 : decode cX12_two 153 = .ok (.aload_n 0, 1) := by decide +kernel
theorem dX12_two_154 : decode cX12_two 154 = .ok (.getfield 13, 3) := by decide +kernel
theorem dX12_two_157 : decode cX12_two 157 = .ok (.iconst 4, 1) := by decide +kernel
theorem dX12_two_158 : decode cX12_two 158 = .ok (.iaload, 1) := by decide +kernel
theorem dX12_two_159 : decode cX12_two 159 = .ok (.invokevirtual 351, 3) := by decide +kernel
theorem dX12_two_162 : decode cX12_two 162 = .ok (.lreturn, 1) := by decide +kernel
theorem dX12_choices_0 : decode cX12_choices 0 = .ok (.iload_n 1, 1) := by decide +kernel
theorem dX12_choices_1 : decode cX12_choices 1 = .ok (.ifCond .lt 8, 3) := by decide +kernel
theorem dX12_choices_4 : decode cX12_choices 4 = .ok (.iload_n 1, 1) := by decide +kernel
theorem dX12_choices_5 : decode cX12_choices 5 = .ok (.iload_n 0, 1) := by decide +kernel
theorem dX12_choices_6 : decode cX12_choices 6 = .ok (.if_icmp .le 5, 3) := by decide +kernel
theorem dX12_choices_9 : decode cX12_choices 9 = .ok (.lconst 0, 1) := by decide +kernel
theorem dX12_choices_10 : decode cX12_choices 10 = .ok (.lreturn, 1) := by decide +kernel
theorem dX12_choices_11 : decode cX12_choices 11 = .ok (.lconst 1, 1) := by decide +kernel
theorem dX12_choices_12 : decode cX12_choices 12 = .ok (.lstore_n 2, 1) := by decide +kernel
theorem dX12_choices_13 : decode cX12_choices 13 = .ok (.iconst 1, 1) := by decide +kernel
theorem dX12_choices_14 : decode cX12_choices 14 = .ok (.istore 4, 2) := by decide +kernel
theorem dX12_choices_16 : decode cX12_choices 16 = .ok (.iload 4, 2) := by decide +kernel
theorem dX12_choices_18 : decode cX12_choices 18 = .ok (.iload_n 1, 1) := by decide +kernel
theorem dX12_choices_19 : decode cX12_choices 19 = .ok (.if_icmp .gt 23, 3) := by decide +kernel
theorem dX12_choices_22 : decode cX12_choices 22 = .ok (.lload_n 2, 1) := by decide +kernel
theorem dX12_choices_23 : decode cX12_choices 23 = .ok (.iload_n 0, 1) := by decide +kernel
theorem dX12_choices_24 : decode cX12_choices 24 = .ok (.iload_n 1, 1) := by decide +kernel
theorem dX12_choices_25 : decode cX12_choices 25 = .ok (.isub, 1) := by decide +kernel
theorem dX12_choices_26 : decode cX12_choices 26 = .ok (.iload 4, 2) := by decide +kernel
theorem dX12_choices_28 : decode cX12_choices 28 = .ok (.iadd, 1) := by decide +kernel
theorem dX12_choices_29 : decode cX12_choices 29 = .ok (.i2l, 1) := by decide +kernel
theorem dX12_choices_30 : decode cX12_choices 30 = .ok (.lmul, 1) := by decide +kernel
theorem dX12_choices_31 : decode cX12_choices 31 = .ok (.iload 4, 2) := by decide +kernel
theorem dX12_choices_33 : decode cX12_choices 33 = .ok (.i2l, 1) := by decide +kernel
theorem dX12_choices_34 : decode cX12_choices 34 = .ok (.ldiv, 1) := by decide +kernel
theorem dX12_choices_35 : decode cX12_choices 35 = .ok (.lstore_n 2, 1) := by decide +kernel
theorem dX12_choices_36 : decode cX12_choices 36 = .ok (.iinc 4 1, 3) := by decide +kernel
theorem dX12_choices_39 : decode cX12_choices 39 = .ok (.goto (-23), 3) := by decide +kernel
theorem dX12_choices_42 : decode cX12_choices 42 = .ok (.lload_n 2, 1) := by decide +kernel
theorem dX12_choices_43 : decode cX12_choices 43 = .ok (.lreturn, 1) := by decide +kernel
theorem dX12_leans_0 : decode cX12_leans 0 = .ok (.aload_n 0, 1) := by decide +kernel
theorem dX12_leans_1 : decode cX12_leans 1 = .ok (.iconst 0, 1) := by decide +kernel
theorem dX12_leans_2 : decode cX12_leans 2 = .ok (.putfield 3, 3) := by decide +kernel
theorem dX12_leans_5 : decode cX12_leans 5 = .ok (.aload_n 0, 1) := by decide +kernel
theorem dX12_leans_6 : decode cX12_leans 6 = .ok (.iload_n 1, 1) := by decide +kernel
theorem dX12_leans_7 : decode cX12_leans 7 = .ok (.iconst 0, 1) := by decide +kernel
theorem dX12_leans_8 : decode cX12_leans 8 = .ok (.bipush 30, 2) := by decide +kernel
theorem dX12_leans_10 : decode cX12_leans 10 = .ok (.invokestatic 77, 3) := by decide +kernel
theorem dX12_leans_13 : decode cX12_leans 13 = .ok (.ifCond .eq 32, 3) := by decide +kernel
theorem dX12_leans_16 : decode cX12_leans 16 = .ok (.iload_n 3, 1) := by decide +kernel
theorem dX12_leans_17 : decode cX12_leans 17 = .ok (.iconst 0, 1) := by decide +kernel
theorem dX12_leans_18 : decode cX12_leans 18 = .ok (.bipush 30, 2) := by decide +kernel
theorem dX12_leans_20 : decode cX12_leans 20 = .ok (.invokestatic 77, 3) := by decide +kernel
theorem dX12_leans_23 : decode cX12_leans 23 = .ok (.ifCond .eq 22, 3) := by decide +kernel
theorem dX12_leans_26 : decode cX12_leans 26 = .ok (.iload_n 2, 1) := by decide +kernel
theorem dX12_leans_27 : decode cX12_leans 27 = .ok (.iconst 0, 1) := by decide +kernel
theorem dX12_leans_28 : decode cX12_leans 28 = .ok (.iload_n 1, 1) := by decide +kernel
theorem dX12_leans_29 : decode cX12_leans 29 = .ok (.invokestatic 77, 3) := by decide +kernel
theorem dX12_leans_32 : decode cX12_leans 32 = .ok (.ifCond .eq 13, 3) := by decide +kernel
theorem dX12_leans_35 : decode cX12_leans 35 = .ok (.iload 4, 2) := by decide +kernel
theorem dX12_leans_37 : decode cX12_leans 37 = .ok (.iconst 0, 1) := by decide +kernel
theorem dX12_leans_38 : decode cX12_leans 38 = .ok (.iload_n 3, 1) := by decide +kernel
theorem dX12_leans_39 : decode cX12_leans 39 = .ok (.invokestatic 77, 3) := by decide +kernel
theorem dX12_leans_42 : decode cX12_leans 42 = .ok (.ifCond .ne 7, 3) := by decide +kernel
theorem dX12_leans_45 : decode cX12_leans 45 = .ok (.iconst 1, 1) := by decide +kernel
theorem dX12_leans_46 : decode cX12_leans 46 = .ok (.goto 4, 3) := by decide +kernel
theorem dX12_leans_49 : decode cX12_leans 49 = .ok (.iconst 0, 1) := by decide +kernel
theorem dX12_leans_50 : decode cX12_leans 50 = .ok (.iconst 1, 1) := by decide +kernel
theorem dX12_leans_51 : decode cX12_leans 51 = .ok (.invokevirtual 237, 3) := by decide +kernel
theorem dX12_leans_54 : decode cX12_leans 54 = .ok (.ifCond .eq 5, 3) := by decide +kernel
theorem dX12_leans_57 : decode cX12_leans 57 = .ok (.lconst 0, 1) := by decide +kernel
theorem dX12_leans_58 : decode cX12_leans 58 = .ok (.lreturn, 1) := by decide +kernel
theorem dX12_leans_59 : decode cX12_leans 59 = .ok (.iload_n 2, 1) := by decide +kernel
theorem dX12_leans_60 : decode cX12_leans 60 = .ok (.iload 4, 2) := by decide +kernel
theorem dX12_leans_62 : decode cX12_leans 62 = .ok (.iadd, 1) := by decide +kernel
theorem dX12_leans_63 : decode cX12_leans 63 = .ok (.istore 6, 2) := by decide +kernel
theorem dX12_leans_65 : decode cX12_leans 65 = .ok (.lconst 0, 1) := by decide +kernel
theorem dX12_leans_66 : decode cX12_leans 66 = .ok (.lstore 7, 2) := by decide +kernel
theorem dX12_leans_68 : decode cX12_leans 68 = .ok (.iload 5, 2) := by decide +kernel
theorem dX12_leans_70 : decode cX12_leans 70 = .ok (.ifCond .eq 7, 3) := by decide +kernel
theorem dX12_leans_73 : decode cX12_leans 73 = .ok (.iconst 0, 1) := by decide +kernel
theorem dX12_leans_74 : decode cX12_leans 74 = .ok (.goto 4, 3) := by decide +kernel
theorem dX12_leans_77 : decode cX12_leans 77 = .ok (.iload_n 2, 1) := by decide +kernel
theorem dX12_leans_78 : decode cX12_leans 78 = .ok (.istore 9, 2) := by decide +kernel
theorem dX12_leans_80 : decode cX12_leans 80 = .ok (.iload 9, 2) := by decide +kernel
theorem dX12_leans_82 : decode cX12_leans 82 = .ok (.iload_n 1, 1) := by decide +kernel
theorem dX12_leans_83 : decode cX12_leans 83 = .ok (.if_icmp .gt 30, 3) := by decide +kernel
theorem dX12_leans_86 : decode cX12_leans 86 = .ok (.lload 7, 2) := by decide +kernel
theorem dX12_leans_88 : decode cX12_leans 88 = .ok (.iload_n 1, 1) := by decide +kernel
theorem dX12_leans_89 : decode cX12_leans 89 = .ok (.iload 9, 2) := by decide +kernel
theorem dX12_leans_91 : decode cX12_leans 91 = .ok (.invokestatic 374, 3) := by decide +kernel
theorem dX12_leans_94 : decode cX12_leans 94 = .ok (.iload_n 3, 1) := by decide +kernel
theorem dX12_leans_95 : decode cX12_leans 95 = .ok (.iload 6, 2) := by decide +kernel
theorem dX12_leans_97 : decode cX12_leans 97 = .ok (.iload 9, 2) := by decide +kernel
theorem dX12_leans_99 : decode cX12_leans 99 = .ok (.isub, 1) := by decide +kernel
theorem dX12_leans_100 : decode cX12_leans 100 = .ok (.invokestatic 374, 3) := by decide +kernel
theorem dX12_leans_103 : decode cX12_leans 103 = .ok (.lmul, 1) := by decide +kernel
theorem dX12_leans_104 : decode cX12_leans 104 = .ok (.ladd, 1) := by decide +kernel
theorem dX12_leans_105 : decode cX12_leans 105 = .ok (.lstore 7, 2) := by decide +kernel
theorem dX12_leans_107 : decode cX12_leans 107 = .ok (.iinc 9 1, 3) := by decide +kernel
theorem dX12_leans_110 : decode cX12_leans 110 = .ok (.goto (-30), 3) := by decide +kernel
theorem dX12_leans_113 : decode cX12_leans 113 = .ok (.lload 7, 2) := by decide +kernel
theorem dX12_leans_115 : decode cX12_leans 115 = .ok (.lreturn, 1) := by decide +kernel
theorem dX12_draw_0 : decode cX12_draw 0 = .ok (.aload_n 0, 1) := by decide +kernel
theorem dX12_draw_1 : decode cX12_draw 1 = .ok (.ldc_w 377, 3) := by decide +kernel
theorem dX12_draw_4 : decode cX12_draw 4 = .ok (.aload_n 0, 1) := by decide +kernel
theorem dX12_draw_5 : decode cX12_draw 5 = .ok (.getfield 378, 3) := by decide +kernel
theorem dX12_draw_8 : decode cX12_draw 8 = .ok (.imul, 1) := by decide +kernel
theorem dX12_draw_9 : decode cX12_draw 9 = .ok (.sipush 12345, 3) := by decide +kernel
theorem dX12_draw_12 : decode cX12_draw 12 = .ok (.iadd, 1) := by decide +kernel
theorem dX12_draw_13 : decode cX12_draw 13 = .ok (.putfield 378, 3) := by decide +kernel
theorem dX12_draw_16 : decode cX12_draw 16 = .ok (.aload_n 0, 1) := by decide +kernel
theorem dX12_draw_17 : decode cX12_draw 17 = .ok (.getfield 378, 3) := by decide +kernel
theorem dX12_draw_20 : decode cX12_draw 20 = .ok (.bipush 16, 2) := by decide +kernel
theorem dX12_draw_22 : decode cX12_draw 22 = .ok (.ishr, 1) := by decide +kernel
theorem dX12_draw_23 : decode cX12_draw 23 = .ok (.sipush 32767, 3) := by decide +kernel
theorem dX12_draw_26 : decode cX12_draw 26 = .ok (.iand, 1) := by decide +kernel
theorem dX12_draw_27 : decode cX12_draw 27 = .ok (.ireturn, 1) := by decide +kernel
theorem dX12_drawn_0 : decode cX12_drawn 0 = .ok (.aload_n 0, 1) := by decide +kernel
theorem dX12_drawn_1 : decode cX12_drawn 1 = .ok (.invokevirtual 381, 3) := by decide +kernel
theorem dX12_drawn_4 : decode cX12_drawn 4 = .ok (.bipush 100, 2) := by decide +kernel
theorem dX12_drawn_6 : decode cX12_drawn 6 = .ok (.irem, 1) := by decide +kernel
theorem dX12_drawn_7 : decode cX12_drawn 7 = .ok (.istore_n 2, 1) := by decide +kernel
theorem dX12_drawn_8 : decode cX12_drawn 8 = .ok (.iconst 0, 1) := by decide +kernel
theorem dX12_drawn_9 : decode cX12_drawn 9 = .ok (.istore_n 3, 1) := by decide +kernel
theorem dX12_drawn_10 : decode cX12_drawn 10 = .ok (.iload_n 3, 1) := by decide +kernel
theorem dX12_drawn_11 : decode cX12_drawn 11 = .ok (.bipush 34, 2) := by decide +kernel
theorem dX12_drawn_13 : decode cX12_drawn 13 = .ok (.if_icmp .ge 28, 3) := by decide +kernel
theorem dX12_drawn_16 : decode cX12_drawn 16 = .ok (.iload_n 2, 1) := by decide +kernel
theorem dX12_drawn_17 : decode cX12_drawn 17 = .ok (.aload_n 0, 1) := by decide +kernel
theorem dX12_drawn_18 : decode cX12_drawn 18 = .ok (.getfield 13, 3) := by decide +kernel
theorem dX12_drawn_21 : decode cX12_drawn 21 = .ok (.iload_n 1, 1) := by decide +kernel
theorem dX12_drawn_22 : decode cX12_drawn 22 = .ok (.iload_n 3, 1) := by decide +kernel
theorem dX12_drawn_23 : decode cX12_drawn 23 = .ok (.invokestatic 248, 3) := by decide +kernel
theorem dX12_drawn_26 : decode cX12_drawn 26 = .ok (.iaload, 1) := by decide +kernel
theorem dX12_drawn_27 : decode cX12_drawn 27 = .ok (.isub, 1) := by decide +kernel
theorem dX12_drawn_28 : decode cX12_drawn 28 = .ok (.istore_n 2, 1) := by decide +kernel
theorem dX12_drawn_29 : decode cX12_drawn 29 = .ok (.iload_n 2, 1) := by decide +kernel
theorem dX12_drawn_30 : decode cX12_drawn 30 = .ok (.ifCond .ge 5, 3) := by decide +kernel
theorem dX12_drawn_33 : decode cX12_drawn 33 = .ok (.iload_n 3, 1) := by decide +kernel
theorem dX12_drawn_34 : decode cX12_drawn 34 = .ok (.ireturn, 1) := by decide +kernel
theorem dX12_drawn_35 : decode cX12_drawn 35 = .ok (.iinc 3 1, 3) := by decide +kernel
theorem dX12_drawn_38 : decode cX12_drawn 38 = .ok (.goto (-28), 3) := by decide +kernel
theorem dX12_drawn_41 : decode cX12_drawn 41 = .ok (.iload_n 1, 1) := by decide +kernel
theorem dX12_drawn_42 : decode cX12_drawn 42 = .ok (.ireturn, 1) := by decide +kernel
theorem dX12_plays_0 : decode cX12_plays 0 = .ok (.iconst 0, 1) := by decide +kernel
theorem dX12_plays_1 : decode cX12_plays 1 = .ok (.istore_n 2, 1) := by decide +kernel
theorem dX12_plays_2 : decode cX12_plays 2 = .ok (.iload_n 1, 1) := by decide +kernel
theorem dX12_plays_3 : decode cX12_plays 3 = .ok (.istore_n 3, 1) := by decide +kernel
theorem dX12_plays_4 : decode cX12_plays 4 = .ok (.iconst 0, 1) := by decide +kernel
theorem dX12_plays_5 : decode cX12_plays 5 = .ok (.istore 4, 2) := by decide +kernel
theorem dX12_plays_7 : decode cX12_plays 7 = .ok (.iload 4, 2) := by decide +kernel
theorem dX12_plays_9 : decode cX12_plays 9 = .ok (.aload_n 0, 1) := by decide +kernel
theorem dX12_plays_10 : decode cX12_plays 10 = .ok (.getfield 13, 3) := by decide +kernel
theorem dX12_plays_13 : decode cX12_plays 13 = .ok (.iconst 5, 1) := by decide +kernel
theorem dX12_plays_14 : decode cX12_plays 14 = .ok (.iaload, 1) := by decide +kernel
theorem dX12_plays_15 : decode cX12_plays 15 = .ok (.if_icmp .ge 97, 3) := by decide +kernel
theorem dX12_plays_18 : decode cX12_plays 18 = .ok (.iload_n 2, 1) := by decide +kernel
theorem dX12_plays_19 : decode cX12_plays 19 = .ok (.ifCond .eq 7, 3) := by decide +kernel
theorem dX12_plays_22 : decode cX12_plays 22 = .ok (.iconst 1, 1) := by decide +kernel
theorem dX12_plays_23 : decode cX12_plays 23 = .ok (.goto 15, 3) := by decide +kernel
theorem dX12_plays_26 : decode cX12_plays 26 = .ok (.aload_n 0, 1) := by decide +kernel
theorem dX12_plays_27 : decode cX12_plays 27 = .ok (.getfield 49, 3) := by decide +kernel
theorem dX12_plays_30 : decode cX12_plays 30 = .ok (.bipush 32, 2) := by decide +kernel
theorem dX12_plays_32 : decode cX12_plays 32 = .ok (.iload 4, 2) := by decide +kernel
theorem dX12_plays_34 : decode cX12_plays 34 = .ok (.imul, 1) := by decide +kernel
theorem dX12_plays_35 : decode cX12_plays 35 = .ok (.iload_n 3, 1) := by decide +kernel
theorem dX12_plays_36 : decode cX12_plays 36 = .ok (.iadd, 1) := by decide +kernel
theorem dX12_plays_37 : decode cX12_plays 37 = .ok (.iaload, 1) := by decide +kernel
theorem dX12_plays_38 : decode cX12_plays 38 = .ok (.istore 5, 2) := by decide +kernel
theorem dX12_plays_40 : decode cX12_plays 40 = .ok (.iload 5, 2) := by decide +kernel
theorem dX12_plays_42 : decode cX12_plays 42 = .ok (.ifCond .ne 6, 3) := by decide +kernel
theorem dX12_plays_45 : decode cX12_plays 45 = .ok (.iload 4, 2) := by decide +kernel
theorem dX12_plays_47 : decode cX12_plays 47 = .ok (.ireturn, 1) := by decide +kernel
theorem dX12_plays_48 : decode cX12_plays 48 = .ok (.iload 5, 2) := by decide +kernel
theorem dX12_plays_50 : decode cX12_plays 50 = .ok (.iconst 1, 1) := by decide +kernel
theorem dX12_plays_51 : decode cX12_plays 51 = .ok (.if_icmp .ne 7, 3) := by decide +kernel
theorem dX12_plays_54 : decode cX12_plays 54 = .ok (.iconst 1, 1) := by decide +kernel
theorem dX12_plays_55 : decode cX12_plays 55 = .ok (.goto 4, 3) := by decide +kernel
theorem dX12_plays_58 : decode cX12_plays 58 = .ok (.iconst 0, 1) := by decide +kernel
theorem dX12_plays_59 : decode cX12_plays 59 = .ok (.istore_n 2, 1) := by decide +kernel
theorem dX12_plays_60 : decode cX12_plays 60 = .ok (.aload_n 0, 1) := by decide +kernel
theorem dX12_plays_61 : decode cX12_plays 61 = .ok (.iload_n 3, 1) := by decide +kernel
theorem dX12_plays_62 : decode cX12_plays 62 = .ok (.invokevirtual 384, 3) := by decide +kernel
theorem dX12_plays_65 : decode cX12_plays 65 = .ok (.istore_n 3, 1) := by decide +kernel
theorem dX12_plays_66 : decode cX12_plays 66 = .ok (.iload_n 3, 1) := by decide +kernel
theorem dX12_plays_67 : decode cX12_plays 67 = .ok (.bipush 32, 2) := by decide +kernel
theorem dX12_plays_69 : decode cX12_plays 69 = .ok (.if_icmp .ne 11, 3) := by decide +kernel
theorem dX12_plays_72 : decode cX12_plays 72 = .ok (.bipush 100, 2) := by decide +kernel
theorem dX12_plays_74 : decode cX12_plays 74 = .ok (.iload 4, 2) := by decide +kernel
theorem dX12_plays_76 : decode cX12_plays 76 = .ok (.iadd, 1) := by decide +kernel
theorem dX12_plays_77 : decode cX12_plays 77 = .ok (.iconst 1, 1) := by decide +kernel
theorem dX12_plays_78 : decode cX12_plays 78 = .ok (.iadd, 1) := by decide +kernel
theorem dX12_plays_79 : decode cX12_plays 79 = .ok (.ireturn, 1) := by decide +kernel
theorem dX12_plays_80 : decode cX12_plays 80 = .ok (.iload_n 3, 1) := by decide +kernel
theorem dX12_plays_81 : decode cX12_plays 81 = .ok (.bipush 33, 2) := by decide +kernel
theorem dX12_plays_83 : decode cX12_plays 83 = .ok (.if_icmp .ne 23, 3) := by decide +kernel
theorem dX12_plays_86 : decode cX12_plays 86 = .ok (.iload_n 2, 1) := by decide +kernel
theorem dX12_plays_87 : decode cX12_plays 87 = .ok (.ifCond .eq 14, 3) := by decide +kernel
theorem dX12_plays_90 : decode cX12_plays 90 = .ok (.sipush 200, 3) := by decide +kernel
theorem dX12_plays_93 : decode cX12_plays 93 = .ok (.iload 4, 2) := by decide +kernel
theorem dX12_plays_95 : decode cX12_plays 95 = .ok (.iadd, 1) := by decide +kernel
theorem dX12_plays_96 : decode cX12_plays 96 = .ok (.iconst 1, 1) := by decide +kernel
theorem dX12_plays_97 : decode cX12_plays 97 = .ok (.iadd, 1) := by decide +kernel
theorem dX12_plays_98 : decode cX12_plays 98 = .ok (.goto 7, 3) := by decide +kernel
theorem dX12_plays_101 : decode cX12_plays 101 = .ok (.iload 4, 2) := by decide +kernel
theorem dX12_plays_103 : decode cX12_plays 103 = .ok (.iconst 1, 1) := by decide +kernel
theorem dX12_plays_104 : decode cX12_plays 104 = .ok (.iadd, 1) := by decide +kernel
theorem dX12_plays_105 : decode cX12_plays 105 = .ok (.ireturn, 1) := by decide +kernel
theorem dX12_plays_106 : decode cX12_plays 106 = .ok (.iinc 4 1, 3) := by decide +kernel
theorem dX12_plays_109 : decode cX12_plays 109 = .ok (.goto (-102), 3) := by decide +kernel
theorem dX12_plays_112 : decode cX12_plays 112 = .ok (.iload_n 2, 1) := by decide +kernel
theorem dX12_plays_113 : decode cX12_plays 113 = .ok (.ifCond .eq 7, 3) := by decide +kernel
theorem dX12_plays_116 : decode cX12_plays 116 = .ok (.iconst 1, 1) := by decide +kernel
theorem dX12_plays_117 : decode cX12_plays 117 = .ok (.goto 19, 3) := by decide +kernel
theorem dX12_plays_120 : decode cX12_plays 120 = .ok (.aload_n 0, 1) := by decide +kernel
theorem dX12_plays_121 : decode cX12_plays 121 = .ok (.getfield 49, 3) := by decide +kernel
theorem dX12_plays_124 : decode cX12_plays 124 = .ok (.bipush 32, 2) := by decide +kernel
theorem dX12_plays_126 : decode cX12_plays 126 = .ok (.aload_n 0, 1) := by decide +kernel
theorem dX12_plays_127 : decode cX12_plays 127 = .ok (.getfield 13, 3) := by decide +kernel
theorem dX12_plays_130 : decode cX12_plays 130 = .ok (.iconst 5, 1) := by decide +kernel
theorem dX12_plays_131 : decode cX12_plays 131 = .ok (.iaload, 1) := by decide +kernel
theorem dX12_plays_132 : decode cX12_plays 132 = .ok (.imul, 1) := by decide +kernel
theorem dX12_plays_133 : decode cX12_plays 133 = .ok (.iload_n 3, 1) := by decide +kernel
theorem dX12_plays_134 : decode cX12_plays 134 = .ok (.iadd, 1) := by decide +kernel
theorem dX12_plays_135 : decode cX12_plays 135 = .ok (.iaload, 1) := by decide +kernel
theorem dX12_plays_136 : decode cX12_plays 136 = .ok (.istore 4, 2) := by decide +kernel
theorem dX12_plays_138 : decode cX12_plays 138 = .ok (.iload 4, 2) := by decide +kernel
theorem dX12_plays_140 : decode cX12_plays 140 = .ok (.ifCond .ne 12, 3) := by decide +kernel
theorem dX12_plays_143 : decode cX12_plays 143 = .ok (.aload_n 0, 1) := by decide +kernel
theorem dX12_plays_144 : decode cX12_plays 144 = .ok (.getfield 13, 3) := by decide +kernel
theorem dX12_plays_147 : decode cX12_plays 147 = .ok (.iconst 5, 1) := by decide +kernel
theorem dX12_plays_148 : decode cX12_plays 148 = .ok (.iaload, 1) := by decide +kernel
theorem dX12_plays_149 : decode cX12_plays 149 = .ok (.goto 13, 3) := by decide +kernel
theorem dX12_plays_152 : decode cX12_plays 152 = .ok (.sipush 300, 3) := by decide +kernel
theorem dX12_plays_155 : decode cX12_plays 155 = .ok (.aload_n 0, 1) := by decide +kernel
theorem dX12_plays_156 : decode cX12_plays 156 = .ok (.getfield 13, 3) := by decide +kernel
theorem dX12_plays_159 : decode cX12_plays 159 = .ok (.iconst 5, 1) := by decide +kernel
theorem dX12_plays_160 : decode cX12_plays 160 = .ok (.iaload, 1) := by decide +kernel
theorem dX12_plays_161 : decode cX12_plays 161 = .ok (.iadd, 1) := by decide +kernel
theorem dX12_plays_162 : decode cX12_plays 162 = .ok (.ireturn, 1) := by decide +kernel
theorem dX12_played_0 : decode cX12_played 0 = .ok (.aload_n 0, 1) := by decide +kernel
theorem dX12_played_1 : decode cX12_played 1 = .ok (.iconst 0, 1) := by decide +kernel
theorem dX12_played_2 : decode cX12_played 2 = .ok (.putfield 3, 3) := by decide +kernel
theorem dX12_played_5 : decode cX12_played 5 = .ok (.aload_n 0, 1) := by decide +kernel
theorem dX12_played_6 : decode cX12_played 6 = .ok (.aload_n 0, 1) := by decide +kernel
theorem dX12_played_7 : decode cX12_played 7 = .ok (.iload_n 1, 1) := by decide +kernel
theorem dX12_played_8 : decode cX12_played 8 = .ok (.iload_n 3, 1) := by decide +kernel
theorem dX12_played_9 : decode cX12_played 9 = .ok (.iload 4, 2) := by decide +kernel
theorem dX12_played_11 : decode cX12_played 11 = .ok (.invokevirtual 341, 3) := by decide +kernel
theorem dX12_played_14 : decode cX12_played 14 = .ok (.ifCond .ne 11, 3) := by decide +kernel
theorem dX12_played_17 : decode cX12_played 17 = .ok (.iload 5, 2) := by decide +kernel
theorem dX12_played_19 : decode cX12_played 19 = .ok (.invokestatic 245, 3) := by decide +kernel
theorem dX12_played_22 : decode cX12_played 22 = .ok (.ifCond .eq 7, 3) := by decide +kernel
theorem dX12_played_25 : decode cX12_played 25 = .ok (.iconst 1, 1) := by decide +kernel
theorem dX12_played_26 : decode cX12_played 26 = .ok (.goto 4, 3) := by decide +kernel
theorem dX12_played_29 : decode cX12_played 29 = .ok (.iconst 0, 1) := by decide +kernel
theorem dX12_played_30 : decode cX12_played 30 = .ok (.iconst 1, 1) := by decide +kernel
theorem dX12_played_31 : decode cX12_played 31 = .ok (.invokevirtual 237, 3) := by decide +kernel
theorem dX12_played_34 : decode cX12_played 34 = .ok (.ifCond .ne 17, 3) := by decide +kernel
theorem dX12_played_37 : decode cX12_played 37 = .ok (.aload_n 0, 1) := by decide +kernel
theorem dX12_played_38 : decode cX12_played 38 = .ok (.aload_n 0, 1) := by decide +kernel
theorem dX12_played_39 : decode cX12_played 39 = .ok (.iload_n 1, 1) := by decide +kernel
theorem dX12_played_40 : decode cX12_played 40 = .ok (.iload_n 2, 1) := by decide +kernel
theorem dX12_played_41 : decode cX12_played 41 = .ok (.invokevirtual 344, 3) := by decide +kernel
theorem dX12_played_44 : decode cX12_played 44 = .ok (.iconst 2, 1) := by decide +kernel
theorem dX12_played_45 : decode cX12_played 45 = .ok (.invokevirtual 237, 3) := by decide +kernel
theorem dX12_played_48 : decode cX12_played 48 = .ok (.ifCond .eq 5, 3) := by decide +kernel
theorem dX12_played_51 : decode cX12_played 51 = .ok (.iconst 0, 1) := by decide +kernel
theorem dX12_played_52 : decode cX12_played 52 = .ok (.ireturn, 1) := by decide +kernel
theorem dX12_played_53 : decode cX12_played 53 = .ok (.aload_n 0, 1) := by decide +kernel
theorem dX12_played_54 : decode cX12_played 54 = .ok (.iload_n 1, 1) := by decide +kernel
theorem dX12_played_55 : decode cX12_played 55 = .ok (.iload_n 2, 1) := by decide +kernel
theorem dX12_played_56 : decode cX12_played 56 = .ok (.iload_n 3, 1) := by decide +kernel
theorem dX12_played_57 : decode cX12_played 57 = .ok (.iload 4, 2) := by decide +kernel
theorem dX12_played_59 : decode cX12_played 59 = .ok (.invokevirtual 347, 3) := by decide +kernel
theorem dX12_played_62 : decode cX12_played 62 = .ok (.aload_n 0, 1) := by decide +kernel
theorem dX12_played_63 : decode cX12_played 63 = .ok (.iload 6, 2) := by decide +kernel
theorem dX12_played_65 : decode cX12_played 65 = .ok (.putfield 378, 3) := by decide +kernel
theorem dX12_played_68 : decode cX12_played 68 = .ok (.aload_n 0, 1) := by decide +kernel
theorem dX12_played_69 : decode cX12_played 69 = .ok (.iload 5, 2) := by decide +kernel
theorem dX12_played_71 : decode cX12_played 71 = .ok (.invokevirtual 387, 3) := by decide +kernel
theorem dX12_played_74 : decode cX12_played 74 = .ok (.ireturn, 1) := by decide +kernel
theorem dX12_endsBy_0 : decode cX12_endsBy 0 = .ok (.aload_n 0, 1) := by decide +kernel
theorem dX12_endsBy_1 : decode cX12_endsBy 1 = .ok (.iload_n 1, 1) := by decide +kernel
theorem dX12_endsBy_2 : decode cX12_endsBy 2 = .ok (.invokevirtual 251, 3) := by decide +kernel
theorem dX12_endsBy_5 : decode cX12_endsBy 5 = .ok (.i2l, 1) := by decide +kernel
theorem dX12_endsBy_6 : decode cX12_endsBy 6 = .ok (.aload_n 0, 1) := by decide +kernel
theorem dX12_endsBy_7 : decode cX12_endsBy 7 = .ok (.getfield 64, 3) := by decide +kernel
theorem dX12_endsBy_10 : decode cX12_endsBy 10 = .ok (.bipush 32, 2) := by decide +kernel
theorem dX12_endsBy_12 : decode cX12_endsBy 12 = .ok (.iload_n 2, 1) := by decide +kernel
theorem dX12_endsBy_13 : decode cX12_endsBy 13 = .ok (.imul, 1) := by decide +kernel
theorem dX12_endsBy_14 : decode cX12_endsBy 14 = .ok (.iload_n 1, 1) := by decide +kernel
theorem dX12_endsBy_15 : decode cX12_endsBy 15 = .ok (.iadd, 1) := by decide +kernel
theorem dX12_endsBy_16 : decode cX12_endsBy 16 = .ok (.laload, 1) := by decide +kernel
theorem dX12_endsBy_17 : decode cX12_endsBy 17 = .ok (.lmul, 1) := by decide +kernel
theorem dX12_endsBy_18 : decode cX12_endsBy 18 = .ok (.lstore 4, 2) := by decide +kernel
theorem dX12_endsBy_20 : decode cX12_endsBy 20 = .ok (.iconst 0, 1) := by decide +kernel
theorem dX12_endsBy_21 : decode cX12_endsBy 21 = .ok (.istore 6, 2) := by decide +kernel
theorem dX12_endsBy_23 : decode cX12_endsBy 23 = .ok (.iload 6, 2) := by decide +kernel
theorem dX12_endsBy_25 : decode cX12_endsBy 25 = .ok (.bipush 32, 2) := by decide +kernel
theorem dX12_endsBy_27 : decode cX12_endsBy 27 = .ok (.if_icmp .ge 39, 3) := by decide +kernel
theorem dX12_endsBy_30 : decode cX12_endsBy 30 = .ok (.lload 4, 2) := by decide +kernel
theorem dX12_endsBy_32 : decode cX12_endsBy 32 = .ok (.aload_n 0, 1) := by decide +kernel
theorem dX12_endsBy_33 : decode cX12_endsBy 33 = .ok (.getfield 13, 3) := by decide +kernel
theorem dX12_endsBy_36 : decode cX12_endsBy 36 = .ok (.iload_n 1, 1) := by decide +kernel
theorem dX12_endsBy_37 : decode cX12_endsBy 37 = .ok (.iload 6, 2) := by decide +kernel
theorem dX12_endsBy_39 : decode cX12_endsBy 39 = .ok (.invokestatic 248, 3) := by decide +kernel
theorem dX12_endsBy_42 : decode cX12_endsBy 42 = .ok (.iaload, 1) := by decide +kernel
theorem dX12_endsBy_43 : decode cX12_endsBy 43 = .ok (.i2l, 1) := by decide +kernel
theorem dX12_endsBy_44 : decode cX12_endsBy 44 = .ok (.aload_n 0, 1) := by decide +kernel
theorem dX12_endsBy_45 : decode cX12_endsBy 45 = .ok (.getfield 64, 3) := by decide +kernel
theorem dX12_endsBy_48 : decode cX12_endsBy 48 = .ok (.bipush 32, 2) := by decide +kernel
theorem dX12_endsBy_50 : decode cX12_endsBy 50 = .ok (.iload_n 2, 1) := by decide +kernel
theorem dX12_endsBy_51 : decode cX12_endsBy 51 = .ok (.imul, 1) := by decide +kernel
theorem dX12_endsBy_52 : decode cX12_endsBy 52 = .ok (.iload 6, 2) := by decide +kernel
theorem dX12_endsBy_54 : decode cX12_endsBy 54 = .ok (.iadd, 1) := by decide +kernel
theorem dX12_endsBy_55 : decode cX12_endsBy 55 = .ok (.laload, 1) := by decide +kernel
theorem dX12_endsBy_56 : decode cX12_endsBy 56 = .ok (.lmul, 1) := by decide +kernel
theorem dX12_endsBy_57 : decode cX12_endsBy 57 = .ok (.ladd, 1) := by decide +kernel
theorem dX12_endsBy_58 : decode cX12_endsBy 58 = .ok (.lstore 4, 2) := by decide +kernel
theorem dX12_endsBy_60 : decode cX12_endsBy 60 = .ok (.iinc 6 1, 3) := by decide +kernel
theorem dX12_endsBy_63 : decode cX12_endsBy 63 = .ok (.goto (-40), 3) := by decide +kernel
theorem dX12_endsBy_66 : decode cX12_endsBy 66 = .ok (.lload 4, 2) := by decide +kernel
theorem dX12_endsBy_68 : decode cX12_endsBy 68 = .ok (.iload_n 3, 1) := by decide +kernel
theorem dX12_endsBy_69 : decode cX12_endsBy 69 = .ok (.iconst 1, 1) := by decide +kernel
theorem dX12_endsBy_70 : decode cX12_endsBy 70 = .ok (.if_icmp .ne 22, 3) := by decide +kernel
theorem dX12_endsBy_73 : decode cX12_endsBy 73 = .ok (.ldc2_w 390, 3) := by decide +kernel
theorem dX12_endsBy_76 : decode cX12_endsBy 76 = .ok (.aload_n 0, 1) := by decide +kernel
theorem dX12_endsBy_77 : decode cX12_endsBy 77 = .ok (.getfield 13, 3) := by decide +kernel
theorem dX12_endsBy_80 : decode cX12_endsBy 80 = .ok (.iload_n 1, 1) := by decide +kernel
theorem dX12_endsBy_81 : decode cX12_endsBy 81 = .ok (.bipush 32, 2) := by decide +kernel
theorem dX12_endsBy_83 : decode cX12_endsBy 83 = .ok (.invokestatic 248, 3) := by decide +kernel
theorem dX12_endsBy_86 : decode cX12_endsBy 86 = .ok (.iaload, 1) := by decide +kernel
theorem dX12_endsBy_87 : decode cX12_endsBy 87 = .ok (.i2l, 1) := by decide +kernel
theorem dX12_endsBy_88 : decode cX12_endsBy 88 = .ok (.lmul, 1) := by decide +kernel
theorem dX12_endsBy_89 : decode cX12_endsBy 89 = .ok (.goto 4, 3) := by decide +kernel
theorem dX12_endsBy_92 : decode cX12_endsBy 92 = .ok (.lconst 0, 1) := by decide +kernel
theorem dX12_endsBy_93 : decode cX12_endsBy 93 = .ok (.ladd, 1) := by decide +kernel
theorem dX12_endsBy_94 : decode cX12_endsBy 94 = .ok (.lstore 4, 2) := by decide +kernel
theorem dX12_endsBy_96 : decode cX12_endsBy 96 = .ok (.lload 4, 2) := by decide +kernel
theorem dX12_endsBy_98 : decode cX12_endsBy 98 = .ok (.iload_n 3, 1) := by decide +kernel
theorem dX12_endsBy_99 : decode cX12_endsBy 99 = .ok (.iload_n 2, 1) := by decide +kernel
theorem dX12_endsBy_100 : decode cX12_endsBy 100 = .ok (.iconst 1, 1) := by decide +kernel
theorem dX12_endsBy_101 : decode cX12_endsBy 101 = .ok (.if_icmp .ne 7, 3) := by decide +kernel
theorem dX12_endsBy_104 : decode cX12_endsBy 104 = .ok (.iconst 2, 1) := by decide +kernel
theorem dX12_endsBy_105 : decode cX12_endsBy 105 = .ok (.goto 4, 3) := by decide +kernel
theorem dX12_endsBy_108 : decode cX12_endsBy 108 = .ok (.iconst 0, 1) := by decide +kernel
theorem dX12_endsBy_109 : decode cX12_endsBy 109 = .ok (.if_icmp .ne 22, 3) := by decide +kernel
theorem dX12_endsBy_112 : decode cX12_endsBy 112 = .ok (.ldc2_w 390, 3) := by decide +kernel
theorem dX12_endsBy_115 : decode cX12_endsBy 115 = .ok (.aload_n 0, 1) := by decide +kernel
theorem dX12_endsBy_116 : decode cX12_endsBy 116 = .ok (.getfield 13, 3) := by decide +kernel
theorem dX12_endsBy_119 : decode cX12_endsBy 119 = .ok (.iload_n 1, 1) := by decide +kernel
theorem dX12_endsBy_120 : decode cX12_endsBy 120 = .ok (.bipush 33, 2) := by decide +kernel
theorem dX12_endsBy_122 : decode cX12_endsBy 122 = .ok (.invokestatic 248, 3) := by decide +kernel
theorem dX12_endsBy_125 : decode cX12_endsBy 125 = .ok (.iaload, 1) := by decide +kernel
theorem dX12_endsBy_126 : decode cX12_endsBy 126 = .ok (.i2l, 1) := by decide +kernel
theorem dX12_endsBy_127 : decode cX12_endsBy 127 = .ok (.lmul, 1) := by decide +kernel
theorem dX12_endsBy_128 : decode cX12_endsBy 128 = .ok (.goto 4, 3) := by decide +kernel
theorem dX12_endsBy_131 : decode cX12_endsBy 131 = .ok (.lconst 0, 1) := by decide +kernel
theorem dX12_endsBy_132 : decode cX12_endsBy 132 = .ok (.ladd, 1) := by decide +kernel
theorem dX12_endsBy_133 : decode cX12_endsBy 133 = .ok (.lstore 4, 2) := by decide +kernel
theorem dX12_endsBy_135 : decode cX12_endsBy 135 = .ok (.lload 4, 2) := by decide +kernel
theorem dX12_endsBy_137 : decode cX12_endsBy 137 = .ok (.ldc2_w 291, 3) := by decide +kernel
theorem dX12_endsBy_140 : decode cX12_endsBy 140 = .ok (.invokestatic 293, 3) := by decide +kernel
theorem dX12_endsBy_143 : decode cX12_endsBy 143 = .ok (.lreturn, 1) := by decide +kernel
theorem dX12_tellsEnds_0 : decode cX12_tellsEnds 0 = .ok (.aload_n 0, 1) := by decide +kernel
theorem dX12_tellsEnds_1 : decode cX12_tellsEnds 1 = .ok (.getfield 13, 3) := by decide +kernel
theorem dX12_tellsEnds_4 : decode cX12_tellsEnds 4 = .ok (.iconst 5, 1) := by decide +kernel
theorem dX12_tellsEnds_5 : decode cX12_tellsEnds 5 = .ok (.iaload, 1) := by decide +kernel
theorem dX12_tellsEnds_6 : decode cX12_tellsEnds 6 = .ok (.istore_n 2, 1) := by decide +kernel
theorem dX12_tellsEnds_7 : decode cX12_tellsEnds 7 = .ok (.iload_n 2, 1) := by decide +kernel
theorem dX12_tellsEnds_8 : decode cX12_tellsEnds 8 = .ok (.ifCond .lt 173, 3) := by decide +kernel
theorem dX12_tellsEnds_11 : decode cX12_tellsEnds 11 = .ok (.iconst 0, 1) := by decide +kernel
theorem dX12_tellsEnds_12 : decode cX12_tellsEnds 12 = .ok (.istore_n 3, 1) := by decide +kernel
theorem dX12_tellsEnds_13 : decode cX12_tellsEnds 13 = .ok (.iload_n 3, 1) := by decide +kernel
theorem dX12_tellsEnds_14 : decode cX12_tellsEnds 14 = .ok (.bipush 32, 2) := by decide +kernel
theorem dX12_tellsEnds_16 : decode cX12_tellsEnds 16 = .ok (.if_icmp .ge 133, 3) := by decide +kernel
theorem dX12_tellsEnds_19 : decode cX12_tellsEnds 19 = .ok (.iload_n 2, 1) := by decide +kernel
theorem dX12_tellsEnds_20 : decode cX12_tellsEnds 20 = .ok (.aload_n 0, 1) := by decide +kernel
theorem dX12_tellsEnds_21 : decode cX12_tellsEnds 21 = .ok (.getfield 13, 3) := by decide +kernel
theorem dX12_tellsEnds_24 : decode cX12_tellsEnds 24 = .ok (.iconst 5, 1) := by decide +kernel
theorem dX12_tellsEnds_25 : decode cX12_tellsEnds 25 = .ok (.iaload, 1) := by decide +kernel
theorem dX12_tellsEnds_26 : decode cX12_tellsEnds 26 = .ok (.if_icmp .ne 7, 3) := by decide +kernel
theorem dX12_tellsEnds_29 : decode cX12_tellsEnds 29 = .ok (.iconst 1, 1) := by decide +kernel
theorem dX12_tellsEnds_30 : decode cX12_tellsEnds 30 = .ok (.goto 4, 3) := by decide +kernel
theorem dX12_tellsEnds_33 : decode cX12_tellsEnds 33 = .ok (.iconst 0, 1) := by decide +kernel
theorem dX12_tellsEnds_34 : decode cX12_tellsEnds 34 = .ok (.istore 4, 2) := by decide +kernel
theorem dX12_tellsEnds_36 : decode cX12_tellsEnds 36 = .ok (.iload 4, 2) := by decide +kernel
theorem dX12_tellsEnds_38 : decode cX12_tellsEnds 38 = .ok (.ifCond .eq 7, 3) := by decide +kernel
theorem dX12_tellsEnds_41 : decode cX12_tellsEnds 41 = .ok (.lconst 0, 1) := by decide +kernel
theorem dX12_tellsEnds_42 : decode cX12_tellsEnds 42 = .ok (.goto 10, 3) := by decide +kernel
theorem dX12_tellsEnds_45 : decode cX12_tellsEnds 45 = .ok (.aload_n 0, 1) := by decide +kernel
theorem dX12_tellsEnds_46 : decode cX12_tellsEnds 46 = .ok (.iload_n 3, 1) := by decide +kernel
theorem dX12_tellsEnds_47 : decode cX12_tellsEnds 47 = .ok (.iconst 1, 1) := by decide +kernel
theorem dX12_tellsEnds_48 : decode cX12_tellsEnds 48 = .ok (.iload_n 1, 1) := by decide +kernel
theorem dX12_tellsEnds_49 : decode cX12_tellsEnds 49 = .ok (.invokevirtual 392, 3) := by decide +kernel
theorem dX12_tellsEnds_52 : decode cX12_tellsEnds 52 = .ok (.lstore 5, 2) := by decide +kernel
theorem dX12_tellsEnds_54 : decode cX12_tellsEnds 54 = .ok (.aload_n 0, 1) := by decide +kernel
theorem dX12_tellsEnds_55 : decode cX12_tellsEnds 55 = .ok (.getfield 61, 3) := by decide +kernel
theorem dX12_tellsEnds_58 : decode cX12_tellsEnds 58 = .ok (.bipush 32, 2) := by decide +kernel
theorem dX12_tellsEnds_60 : decode cX12_tellsEnds 60 = .ok (.iload_n 3, 1) := by decide +kernel
theorem dX12_tellsEnds_61 : decode cX12_tellsEnds 61 = .ok (.iadd, 1) := by decide +kernel
theorem dX12_tellsEnds_62 : decode cX12_tellsEnds 62 = .ok (.lload 5, 2) := by decide +kernel
theorem dX12_tellsEnds_64 : decode cX12_tellsEnds 64 = .ok (.lastore, 1) := by decide +kernel
theorem dX12_tellsEnds_65 : decode cX12_tellsEnds 65 = .ok (.iload_n 2, 1) := by decide +kernel
theorem dX12_tellsEnds_66 : decode cX12_tellsEnds 66 = .ok (.aload_n 0, 1) := by decide +kernel
theorem dX12_tellsEnds_67 : decode cX12_tellsEnds 67 = .ok (.getfield 13, 3) := by decide +kernel
theorem dX12_tellsEnds_70 : decode cX12_tellsEnds 70 = .ok (.iconst 4, 1) := by decide +kernel
theorem dX12_tellsEnds_71 : decode cX12_tellsEnds 71 = .ok (.iaload, 1) := by decide +kernel
theorem dX12_tellsEnds_72 : decode cX12_tellsEnds 72 = .ok (.if_icmp .le 6, 3) := by decide +kernel
theorem dX12_tellsEnds_75 : decode cX12_tellsEnds 75 = .ok (.goto 68, 3) := by decide +kernel
theorem dX12_tellsEnds_78 : decode cX12_tellsEnds 78 = .ok (.aload_n 0, 1) := by decide +kernel
theorem dX12_tellsEnds_79 : decode cX12_tellsEnds 79 = .ok (.getfield 49, 3) := by decide +kernel
theorem dX12_tellsEnds_82 : decode cX12_tellsEnds 82 = .ok (.bipush 32, 2) := by decide +kernel
theorem dX12_tellsEnds_84 : decode cX12_tellsEnds 84 = .ok (.iload_n 2, 1) := by decide +kernel
theorem dX12_tellsEnds_85 : decode cX12_tellsEnds 85 = .ok (.imul, 1) := by decide +kernel
theorem dX12_tellsEnds_86 : decode cX12_tellsEnds 86 = .ok (.iload_n 3, 1) := by decide +kernel
theorem dX12_tellsEnds_87 : decode cX12_tellsEnds 87 = .ok (.iadd, 1) := by decide +kernel
theorem dX12_tellsEnds_88 : decode cX12_tellsEnds 88 = .ok (.iaload, 1) := by decide +kernel
theorem dX12_tellsEnds_89 : decode cX12_tellsEnds 89 = .ok (.istore 7, 2) := by decide +kernel
theorem dX12_tellsEnds_91 : decode cX12_tellsEnds 91 = .ok (.aload_n 0, 1) := by decide +kernel
theorem dX12_tellsEnds_92 : decode cX12_tellsEnds 92 = .ok (.getfield 61, 3) := by decide +kernel
theorem dX12_tellsEnds_95 : decode cX12_tellsEnds 95 = .ok (.iload_n 3, 1) := by decide +kernel
theorem dX12_tellsEnds_96 : decode cX12_tellsEnds 96 = .ok (.iload 7, 2) := by decide +kernel
theorem dX12_tellsEnds_98 : decode cX12_tellsEnds 98 = .ok (.ifCond .ne 17, 3) := by decide +kernel
theorem dX12_tellsEnds_101 : decode cX12_tellsEnds 101 = .ok (.iload_n 1, 1) := by decide +kernel
theorem dX12_tellsEnds_102 : decode cX12_tellsEnds 102 = .ok (.ifCond .ne 9, 3) := by decide +kernel
theorem dX12_tellsEnds_105 : decode cX12_tellsEnds 105 = .ok (.ldc2_w 390, 3) := by decide +kernel
theorem dX12_tellsEnds_108 : decode cX12_tellsEnds 108 = .ok (.goto 34, 3) := by decide +kernel
theorem dX12_tellsEnds_111 : decode cX12_tellsEnds 111 = .ok (.lconst 0, 1) := by decide +kernel
theorem dX12_tellsEnds_112 : decode cX12_tellsEnds 112 = .ok (.goto 30, 3) := by decide +kernel
theorem dX12_tellsEnds_115 : decode cX12_tellsEnds 115 = .ok (.iload 7, 2) := by decide +kernel
theorem dX12_tellsEnds_117 : decode cX12_tellsEnds 117 = .ok (.iconst 1, 1) := by decide +kernel
theorem dX12_tellsEnds_118 : decode cX12_tellsEnds 118 = .ok (.if_icmp .ne 8, 3) := by decide +kernel
theorem dX12_tellsEnds_121 : decode cX12_tellsEnds 121 = .ok (.lload 5, 2) := by decide +kernel
theorem dX12_tellsEnds_123 : decode cX12_tellsEnds 123 = .ok (.goto 19, 3) := by decide +kernel
theorem dX12_tellsEnds_126 : decode cX12_tellsEnds 126 = .ok (.iload 4, 2) := by decide +kernel
theorem dX12_tellsEnds_128 : decode cX12_tellsEnds 128 = .ok (.ifCond .eq 7, 3) := by decide +kernel
theorem dX12_tellsEnds_131 : decode cX12_tellsEnds 131 = .ok (.lconst 0, 1) := by decide +kernel
theorem dX12_tellsEnds_132 : decode cX12_tellsEnds 132 = .ok (.goto 10, 3) := by decide +kernel
theorem dX12_tellsEnds_135 : decode cX12_tellsEnds 135 = .ok (.aload_n 0, 1) := by decide +kernel
theorem dX12_tellsEnds_136 : decode cX12_tellsEnds 136 = .ok (.iload_n 3, 1) := by decide +kernel
theorem dX12_tellsEnds_137 : decode cX12_tellsEnds 137 = .ok (.iconst 0, 1) := by decide +kernel
theorem dX12_tellsEnds_138 : decode cX12_tellsEnds 138 = .ok (.iload_n 1, 1) := by decide +kernel
theorem dX12_tellsEnds_139 : decode cX12_tellsEnds 139 = .ok (.invokevirtual 392, 3) := by decide +kernel
theorem dX12_tellsEnds_142 : decode cX12_tellsEnds 142 = .ok (.lastore, 1) := by decide +kernel
theorem dX12_tellsEnds_143 : decode cX12_tellsEnds 143 = .ok (.iinc 3 1, 3) := by decide +kernel
theorem dX12_tellsEnds_146 : decode cX12_tellsEnds 146 = .ok (.goto (-133), 3) := by decide +kernel
theorem dX12_tellsEnds_149 : decode cX12_tellsEnds 149 = .ok (.iconst 0, 1) := by decide +kernel
theorem dX12_tellsEnds_150 : decode cX12_tellsEnds 150 = .ok (.istore_n 3, 1) := by decide +kernel
theorem dX12_tellsEnds_151 : decode cX12_tellsEnds 151 = .ok (.iload_n 3, 1) := by decide +kernel
theorem dX12_tellsEnds_152 : decode cX12_tellsEnds 152 = .ok (.bipush 64, 2) := by decide +kernel
theorem dX12_tellsEnds_154 : decode cX12_tellsEnds 154 = .ok (.if_icmp .ge 21, 3) := by decide +kernel
theorem dX12_tellsEnds_157 : decode cX12_tellsEnds 157 = .ok (.aload_n 0, 1) := by decide +kernel
theorem dX12_tellsEnds_158 : decode cX12_tellsEnds 158 = .ok (.getfield 64, 3) := by decide +kernel
theorem dX12_tellsEnds_161 : decode cX12_tellsEnds 161 = .ok (.iload_n 3, 1) := by decide +kernel
theorem dX12_tellsEnds_162 : decode cX12_tellsEnds 162 = .ok (.aload_n 0, 1) := by decide +kernel
theorem dX12_tellsEnds_163 : decode cX12_tellsEnds 163 = .ok (.getfield 61, 3) := by decide +kernel
theorem dX12_tellsEnds_166 : decode cX12_tellsEnds 166 = .ok (.iload_n 3, 1) := by decide +kernel
theorem dX12_tellsEnds_167 : decode cX12_tellsEnds 167 = .ok (.laload, 1) := by decide +kernel
theorem dX12_tellsEnds_168 : decode cX12_tellsEnds 168 = .ok (.lastore, 1) := by decide +kernel
theorem dX12_tellsEnds_169 : decode cX12_tellsEnds 169 = .ok (.iinc 3 1, 3) := by decide +kernel
theorem dX12_tellsEnds_172 : decode cX12_tellsEnds 172 = .ok (.goto (-21), 3) := by decide +kernel
theorem dX12_tellsEnds_175 : decode cX12_tellsEnds 175 = .ok (.iinc 2 (-1), 3) := by decide +kernel
theorem dX12_tellsEnds_178 : decode cX12_tellsEnds 178 = .ok (.goto (-171), 3) := by decide +kernel
theorem dX12_tellsEnds_181 : decode cX12_tellsEnds 181 = .ok (.return_, 1) := by decide +kernel
theorem dX12_ends_0 : decode cX12_ends 0 = .ok (.aload_n 0, 1) := by decide +kernel
theorem dX12_ends_1 : decode cX12_ends 1 = .ok (.iconst 0, 1) := by decide +kernel
theorem dX12_ends_2 : decode cX12_ends 2 = .ok (.putfield 3, 3) := by decide +kernel
theorem dX12_ends_5 : decode cX12_ends 5 = .ok (.aload_n 0, 1) := by decide +kernel
theorem dX12_ends_6 : decode cX12_ends 6 = .ok (.aload_n 0, 1) := by decide +kernel
theorem dX12_ends_7 : decode cX12_ends 7 = .ok (.iload_n 1, 1) := by decide +kernel
theorem dX12_ends_8 : decode cX12_ends 8 = .ok (.iload_n 3, 1) := by decide +kernel
theorem dX12_ends_9 : decode cX12_ends 9 = .ok (.iload 4, 2) := by decide +kernel
theorem dX12_ends_11 : decode cX12_ends 11 = .ok (.invokevirtual 341, 3) := by decide +kernel
theorem dX12_ends_14 : decode cX12_ends 14 = .ok (.ifCond .ne 11, 3) := by decide +kernel
theorem dX12_ends_17 : decode cX12_ends 17 = .ok (.iload 5, 2) := by decide +kernel
theorem dX12_ends_19 : decode cX12_ends 19 = .ok (.invokestatic 245, 3) := by decide +kernel
theorem dX12_ends_22 : decode cX12_ends 22 = .ok (.ifCond .eq 7, 3) := by decide +kernel
theorem dX12_ends_25 : decode cX12_ends 25 = .ok (.iconst 1, 1) := by decide +kernel
theorem dX12_ends_26 : decode cX12_ends 26 = .ok (.goto 4, 3) := by decide +kernel
theorem dX12_ends_29 : decode cX12_ends 29 = .ok (.iconst 0, 1) := by decide +kernel
theorem dX12_ends_30 : decode cX12_ends 30 = .ok (.iconst 1, 1) := by decide +kernel
theorem dX12_ends_31 : decode cX12_ends 31 = .ok (.invokevirtual 237, 3) := by decide +kernel
theorem dX12_ends_34 : decode cX12_ends 34 = .ok (.ifCond .ne 40, 3) := by decide +kernel
theorem dX12_ends_37 : decode cX12_ends 37 = .ok (.aload_n 0, 1) := by decide +kernel
theorem dX12_ends_38 : decode cX12_ends 38 = .ok (.aload_n 0, 1) := by decide +kernel
theorem dX12_ends_39 : decode cX12_ends 39 = .ok (.iload_n 1, 1) := by decide +kernel
theorem dX12_ends_40 : decode cX12_ends 40 = .ok (.iload_n 2, 1) := by decide +kernel
theorem dX12_ends_41 : decode cX12_ends 41 = .ok (.invokevirtual 344, 3) := by decide +kernel
theorem dX12_ends_44 : decode cX12_ends 44 = .ok (.iconst 2, 1) := by decide +kernel
theorem dX12_ends_45 : decode cX12_ends 45 = .ok (.invokevirtual 237, 3) := by decide +kernel
theorem dX12_ends_48 : decode cX12_ends 48 = .ok (.ifCond .ne 26, 3) := by decide +kernel
theorem dX12_ends_51 : decode cX12_ends 51 = .ok (.aload_n 0, 1) := by decide +kernel
theorem dX12_ends_52 : decode cX12_ends 52 = .ok (.iload 6, 2) := by decide +kernel
theorem dX12_ends_54 : decode cX12_ends 54 = .ok (.iconst 0, 1) := by decide +kernel
theorem dX12_ends_55 : decode cX12_ends 55 = .ok (.iconst 2, 1) := by decide +kernel
theorem dX12_ends_56 : decode cX12_ends 56 = .ok (.invokestatic 77, 3) := by decide +kernel
theorem dX12_ends_59 : decode cX12_ends 59 = .ok (.ifCond .ne 7, 3) := by decide +kernel
theorem dX12_ends_62 : decode cX12_ends 62 = .ok (.iconst 1, 1) := by decide +kernel
theorem dX12_ends_63 : decode cX12_ends 63 = .ok (.goto 4, 3) := by decide +kernel
theorem dX12_ends_66 : decode cX12_ends 66 = .ok (.iconst 0, 1) := by decide +kernel
theorem dX12_ends_67 : decode cX12_ends 67 = .ok (.iconst 3, 1) := by decide +kernel
theorem dX12_ends_68 : decode cX12_ends 68 = .ok (.invokevirtual 237, 3) := by decide +kernel
theorem dX12_ends_71 : decode cX12_ends 71 = .ok (.ifCond .eq 5, 3) := by decide +kernel
theorem dX12_ends_74 : decode cX12_ends 74 = .ok (.iconst 0, 1) := by decide +kernel
theorem dX12_ends_75 : decode cX12_ends 75 = .ok (.ireturn, 1) := by decide +kernel
theorem dX12_ends_76 : decode cX12_ends 76 = .ok (.aload_n 0, 1) := by decide +kernel
theorem dX12_ends_77 : decode cX12_ends 77 = .ok (.iload_n 1, 1) := by decide +kernel
theorem dX12_ends_78 : decode cX12_ends 78 = .ok (.iload_n 2, 1) := by decide +kernel
theorem dX12_ends_79 : decode cX12_ends 79 = .ok (.iload_n 3, 1) := by decide +kernel
theorem dX12_ends_80 : decode cX12_ends 80 = .ok (.iload 4, 2) := by decide +kernel
theorem dX12_ends_82 : decode cX12_ends 82 = .ok (.invokevirtual 347, 3) := by decide +kernel
theorem dX12_ends_85 : decode cX12_ends 85 = .ok (.aload_n 0, 1) := by decide +kernel
theorem dX12_ends_86 : decode cX12_ends 86 = .ok (.iload 6, 2) := by decide +kernel
theorem dX12_ends_88 : decode cX12_ends 88 = .ok (.invokevirtual 395, 3) := by decide +kernel
theorem dX12_ends_91 : decode cX12_ends 91 = .ok (.aload_n 0, 1) := by decide +kernel
theorem dX12_ends_92 : decode cX12_ends 92 = .ok (.getfield 64, 3) := by decide +kernel
theorem dX12_ends_95 : decode cX12_ends 95 = .ok (.iload 5, 2) := by decide +kernel
theorem dX12_ends_97 : decode cX12_ends 97 = .ok (.laload, 1) := by decide +kernel
theorem dX12_ends_98 : decode cX12_ends 98 = .ok (.l2i, 1) := by decide +kernel
theorem dX12_ends_99 : decode cX12_ends 99 = .ok (.ireturn, 1) := by decide +kernel
theorem dX12_mean_0 : decode cX12_mean 0 = .ok (.aload_n 0, 1) := by decide +kernel
theorem dX12_mean_1 : decode cX12_mean 1 = .ok (.iconst 0, 1) := by decide +kernel
theorem dX12_mean_2 : decode cX12_mean 2 = .ok (.putfield 3, 3) := by decide +kernel
theorem dX12_mean_5 : decode cX12_mean 5 = .ok (.aload_n 0, 1) := by decide +kernel
theorem dX12_mean_6 : decode cX12_mean 6 = .ok (.aload_n 0, 1) := by decide +kernel
theorem dX12_mean_7 : decode cX12_mean 7 = .ok (.iload_n 1, 1) := by decide +kernel
theorem dX12_mean_8 : decode cX12_mean 8 = .ok (.invokevirtual 335, 3) := by decide +kernel
theorem dX12_mean_11 : decode cX12_mean 11 = .ok (.iconst 1, 1) := by decide +kernel
theorem dX12_mean_12 : decode cX12_mean 12 = .ok (.invokevirtual 237, 3) := by decide +kernel
theorem dX12_mean_15 : decode cX12_mean 15 = .ok (.ifCond .ne 39, 3) := by decide +kernel
theorem dX12_mean_18 : decode cX12_mean 18 = .ok (.aload_n 0, 1) := by decide +kernel
theorem dX12_mean_19 : decode cX12_mean 19 = .ok (.aload_n 0, 1) := by decide +kernel
theorem dX12_mean_20 : decode cX12_mean 20 = .ok (.iload_n 1, 1) := by decide +kernel
theorem dX12_mean_21 : decode cX12_mean 21 = .ok (.iload_n 2, 1) := by decide +kernel
theorem dX12_mean_22 : decode cX12_mean 22 = .ok (.invokevirtual 344, 3) := by decide +kernel
theorem dX12_mean_25 : decode cX12_mean 25 = .ok (.iconst 2, 1) := by decide +kernel
theorem dX12_mean_26 : decode cX12_mean 26 = .ok (.invokevirtual 237, 3) := by decide +kernel
theorem dX12_mean_29 : decode cX12_mean 29 = .ok (.ifCond .ne 25, 3) := by decide +kernel
theorem dX12_mean_32 : decode cX12_mean 32 = .ok (.aload_n 0, 1) := by decide +kernel
theorem dX12_mean_33 : decode cX12_mean 33 = .ok (.iload_n 3, 1) := by decide +kernel
theorem dX12_mean_34 : decode cX12_mean 34 = .ok (.iconst 0, 1) := by decide +kernel
theorem dX12_mean_35 : decode cX12_mean 35 = .ok (.iconst 2, 1) := by decide +kernel
theorem dX12_mean_36 : decode cX12_mean 36 = .ok (.invokestatic 77, 3) := by decide +kernel
theorem dX12_mean_39 : decode cX12_mean 39 = .ok (.ifCond .ne 7, 3) := by decide +kernel
theorem dX12_mean_42 : decode cX12_mean 42 = .ok (.iconst 1, 1) := by decide +kernel
theorem dX12_mean_43 : decode cX12_mean 43 = .ok (.goto 4, 3) := by decide +kernel
theorem dX12_mean_46 : decode cX12_mean 46 = .ok (.iconst 0, 1) := by decide +kernel
theorem dX12_mean_47 : decode cX12_mean 47 = .ok (.iconst 3, 1) := by decide +kernel
theorem dX12_mean_48 : decode cX12_mean 48 = .ok (.invokevirtual 237, 3) := by decide +kernel
theorem dX12_mean_51 : decode cX12_mean 51 = .ok (.ifCond .eq 5, 3) := by decide +kernel
theorem dX12_mean_54 : decode cX12_mean 54 = .ok (.lconst 0, 1) := by decide +kernel
theorem dX12_mean_55 : decode cX12_mean 55 = .ok (.lreturn, 1) := by decide +kernel
theorem dX12_mean_56 : decode cX12_mean 56 = .ok (.lconst 0, 1) := by decide +kernel
theorem dX12_mean_57 : decode cX12_mean 57 = .ok (.lstore 4, 2) := by decide +kernel
theorem dX12_mean_59 : decode cX12_mean 59 = .ok (.iconst 0, 1) := by decide +kernel
theorem dX12_mean_60 : decode cX12_mean 60 = .ok (.istore 6, 2) := by decide +kernel
theorem dX12_mean_62 : decode cX12_mean 62 = .ok (.iload 6, 2) := by decide +kernel
theorem dX12_mean_64 : decode cX12_mean 64 = .ok (.aload_n 0, 1) := by decide +kernel
theorem dX12_mean_65 : decode cX12_mean 65 = .ok (.getfield 13, 3) := by decide +kernel
theorem dX12_mean_68 : decode cX12_mean 68 = .ok (.iconst 2, 1) := by decide +kernel
theorem dX12_mean_69 : decode cX12_mean 69 = .ok (.iaload, 1) := by decide +kernel
theorem dX12_mean_70 : decode cX12_mean 70 = .ok (.if_icmp .ge 91, 3) := by decide +kernel
theorem dX12_mean_73 : decode cX12_mean 73 = .ok (.iconst 0, 1) := by decide +kernel
theorem dX12_mean_74 : decode cX12_mean 74 = .ok (.istore 7, 2) := by decide +kernel
theorem dX12_mean_76 : decode cX12_mean 76 = .ok (.iload 7, 2) := by decide +kernel
theorem dX12_mean_78 : decode cX12_mean 78 = .ok (.bipush 8, 2) := by decide +kernel
theorem dX12_mean_80 : decode cX12_mean 80 = .ok (.if_icmp .ge 75, 3) := by decide +kernel
theorem dX12_mean_83 : decode cX12_mean 83 = .ok (.aload_n 0, 1) := by decide +kernel
theorem dX12_mean_84 : decode cX12_mean 84 = .ok (.iload_n 1, 1) := by decide +kernel
theorem dX12_mean_85 : decode cX12_mean 85 = .ok (.iload_n 2, 1) := by decide +kernel
theorem dX12_mean_86 : decode cX12_mean 86 = .ok (.iload 6, 2) := by decide +kernel
theorem dX12_mean_88 : decode cX12_mean 88 = .ok (.iload 7, 2) := by decide +kernel
theorem dX12_mean_90 : decode cX12_mean 90 = .ok (.invokevirtual 347, 3) := by decide +kernel
theorem dX12_mean_93 : decode cX12_mean 93 = .ok (.aload_n 0, 1) := by decide +kernel
theorem dX12_mean_94 : decode cX12_mean 94 = .ok (.iload_n 3, 1) := by decide +kernel
theorem dX12_mean_95 : decode cX12_mean 95 = .ok (.invokevirtual 395, 3) := by decide +kernel
theorem dX12_mean_98 : decode cX12_mean 98 = .ok (.iconst 4, 1) := by decide +kernel
theorem dX12_mean_99 : decode cX12_mean 99 = .ok (.iload 7, 2) := by decide +kernel
theorem dX12_mean_101 : decode cX12_mean 101 = .ok (.imul, 1) := by decide +kernel
theorem dX12_mean_102 : decode cX12_mean 102 = .ok (.istore 8, 2) := by decide +kernel
theorem dX12_mean_104 : decode cX12_mean 104 = .ok (.iload 8, 2) := by decide +kernel
theorem dX12_mean_106 : decode cX12_mean 106 = .ok (.iconst 4, 1) := by decide +kernel
theorem dX12_mean_107 : decode cX12_mean 107 = .ok (.iload 7, 2) := by decide +kernel
theorem dX12_mean_109 : decode cX12_mean 109 = .ok (.imul, 1) := by decide +kernel
theorem dX12_mean_110 : decode cX12_mean 110 = .ok (.iconst 4, 1) := by decide +kernel
theorem dX12_mean_111 : decode cX12_mean 111 = .ok (.iadd, 1) := by decide +kernel
theorem dX12_mean_112 : decode cX12_mean 112 = .ok (.if_icmp .ge 37, 3) := by decide +kernel
theorem dX12_mean_115 : decode cX12_mean 115 = .ok (.lload 4, 2) := by decide +kernel
theorem dX12_mean_117 : decode cX12_mean 117 = .ok (.aload_n 0, 1) := by decide +kernel
theorem dX12_mean_118 : decode cX12_mean 118 = .ok (.getfield 13, 3) := by decide +kernel
theorem dX12_mean_121 : decode cX12_mean 121 = .ok (.iload 6, 2) := by decide +kernel
theorem dX12_mean_123 : decode cX12_mean 123 = .ok (.iconst 2, 1) := by decide +kernel
theorem dX12_mean_124 : decode cX12_mean 124 = .ok (.iload 8, 2) := by decide +kernel
theorem dX12_mean_126 : decode cX12_mean 126 = .ok (.iadd, 1) := by decide +kernel
theorem dX12_mean_127 : decode cX12_mean 127 = .ok (.invokestatic 282, 3) := by decide +kernel
theorem dX12_mean_130 : decode cX12_mean 130 = .ok (.iaload, 1) := by decide +kernel
theorem dX12_mean_131 : decode cX12_mean 131 = .ok (.i2l, 1) := by decide +kernel
theorem dX12_mean_132 : decode cX12_mean 132 = .ok (.aload_n 0, 1) := by decide +kernel
theorem dX12_mean_133 : decode cX12_mean 133 = .ok (.getfield 64, 3) := by decide +kernel
theorem dX12_mean_136 : decode cX12_mean 136 = .ok (.iload 8, 2) := by decide +kernel
theorem dX12_mean_138 : decode cX12_mean 138 = .ok (.laload, 1) := by decide +kernel
theorem dX12_mean_139 : decode cX12_mean 139 = .ok (.lmul, 1) := by decide +kernel
theorem dX12_mean_140 : decode cX12_mean 140 = .ok (.ladd, 1) := by decide +kernel
theorem dX12_mean_141 : decode cX12_mean 141 = .ok (.lstore 4, 2) := by decide +kernel
theorem dX12_mean_143 : decode cX12_mean 143 = .ok (.iinc 8 1, 3) := by decide +kernel
theorem dX12_mean_146 : decode cX12_mean 146 = .ok (.goto (-42), 3) := by decide +kernel
theorem dX12_mean_149 : decode cX12_mean 149 = .ok (.iinc 7 1, 3) := by decide +kernel
theorem dX12_mean_152 : decode cX12_mean 152 = .ok (.goto (-76), 3) := by decide +kernel
theorem dX12_mean_155 : decode cX12_mean 155 = .ok (.iinc 6 1, 3) := by decide +kernel
theorem dX12_mean_158 : decode cX12_mean 158 = .ok (.goto (-96), 3) := by decide +kernel
theorem dX12_mean_161 : decode cX12_mean 161 = .ok (.lload 4, 2) := by decide +kernel
theorem dX12_mean_163 : decode cX12_mean 163 = .ok (.lreturn, 1) := by decide +kernel
theorem dX12_plain_0 : decode cX12_plain 0 = .ok (.aload_n 0, 1) := by decide +kernel
theorem dX12_plain_1 : decode cX12_plain 1 = .ok (.iconst 0, 1) := by decide +kernel
theorem dX12_plain_2 : decode cX12_plain 2 = .ok (.putfield 3, 3) := by decide +kernel
theorem dX12_plain_5 : decode cX12_plain 5 = .ok (.aload_n 0, 1) := by decide +kernel
theorem dX12_plain_6 : decode cX12_plain 6 = .ok (.aload_n 0, 1) := by decide +kernel
theorem dX12_plain_7 : decode cX12_plain 7 = .ok (.iload_n 1, 1) := by decide +kernel
theorem dX12_plain_8 : decode cX12_plain 8 = .ok (.invokevirtual 317, 3) := by decide +kernel
theorem dX12_plain_11 : decode cX12_plain 11 = .ok (.ifCond .ne 10, 3) := by decide +kernel
theorem dX12_plain_14 : decode cX12_plain 14 = .ok (.iload_n 2, 1) := by decide +kernel
theorem dX12_plain_15 : decode cX12_plain 15 = .ok (.invokestatic 254, 3) := by decide +kernel
theorem dX12_plain_18 : decode cX12_plain 18 = .ok (.ifCond .eq 7, 3) := by decide +kernel
theorem dX12_plain_21 : decode cX12_plain 21 = .ok (.iconst 1, 1) := by decide +kernel
theorem dX12_plain_22 : decode cX12_plain 22 = .ok (.goto 4, 3) := by decide +kernel
theorem dX12_plain_25 : decode cX12_plain 25 = .ok (.iconst 0, 1) := by decide +kernel
theorem dX12_plain_26 : decode cX12_plain 26 = .ok (.iconst 1, 1) := by decide +kernel
theorem dX12_plain_27 : decode cX12_plain 27 = .ok (.invokevirtual 237, 3) := by decide +kernel
theorem dX12_plain_30 : decode cX12_plain 30 = .ok (.ifCond .eq 5, 3) := by decide +kernel
theorem dX12_plain_33 : decode cX12_plain 33 = .ok (.iconst 0, 1) := by decide +kernel
theorem dX12_plain_34 : decode cX12_plain 34 = .ok (.ireturn, 1) := by decide +kernel
theorem dX12_plain_35 : decode cX12_plain 35 = .ok (.aload_n 0, 1) := by decide +kernel
theorem dX12_plain_36 : decode cX12_plain 36 = .ok (.aload_n 0, 1) := by decide +kernel
theorem dX12_plain_37 : decode cX12_plain 37 = .ok (.getfield 13, 3) := by decide +kernel
theorem dX12_plain_40 : decode cX12_plain 40 = .ok (.bipush 6, 2) := by decide +kernel
theorem dX12_plain_42 : decode cX12_plain 42 = .ok (.iaload, 1) := by decide +kernel
theorem dX12_plain_43 : decode cX12_plain 43 = .ok (.invokevirtual 296, 3) := by decide +kernel
theorem dX12_plain_46 : decode cX12_plain 46 = .ok (.aload_n 0, 1) := by decide +kernel
theorem dX12_plain_47 : decode cX12_plain 47 = .ok (.iload_n 1, 1) := by decide +kernel
theorem dX12_plain_48 : decode cX12_plain 48 = .ok (.iload_n 2, 1) := by decide +kernel
theorem dX12_plain_49 : decode cX12_plain 49 = .ok (.aload_n 0, 1) := by decide +kernel
theorem dX12_plain_50 : decode cX12_plain 50 = .ok (.iload_n 1, 1) := by decide +kernel
theorem dX12_plain_51 : decode cX12_plain 51 = .ok (.invokevirtual 320, 3) := by decide +kernel
theorem dX12_plain_54 : decode cX12_plain 54 = .ok (.invokevirtual 323, 3) := by decide +kernel
theorem dX12_plain_57 : decode cX12_plain 57 = .ok (.iconst (-1), 1) := by decide +kernel
theorem dX12_plain_58 : decode cX12_plain 58 = .ok (.istore_n 3, 1) := by decide +kernel
theorem dX12_plain_59 : decode cX12_plain 59 = .ok (.lconst 0, 1) := by decide +kernel
theorem dX12_plain_60 : decode cX12_plain 60 = .ok (.lstore 4, 2) := by decide +kernel
theorem dX12_plain_62 : decode cX12_plain 62 = .ok (.iconst 0, 1) := by decide +kernel
theorem dX12_plain_63 : decode cX12_plain 63 = .ok (.istore 6, 2) := by decide +kernel
theorem dX12_plain_65 : decode cX12_plain 65 = .ok (.iload 6, 2) := by decide +kernel
theorem dX12_plain_67 : decode cX12_plain 67 = .ok (.bipush 8, 2) := by decide +kernel
theorem dX12_plain_69 : decode cX12_plain 69 = .ok (.if_icmp .gt 71, 3) := by decide +kernel
theorem dX12_plain_72 : decode cX12_plain 72 = .ok (.iconst 0, 1) := by decide +kernel
theorem dX12_plain_73 : decode cX12_plain 73 = .ok (.istore 7, 2) := by decide +kernel
theorem dX12_plain_75 : decode cX12_plain 75 = .ok (.iload 7, 2) := by decide +kernel
theorem dX12_plain_77 : decode cX12_plain 77 = .ok (.iconst 4, 1) := by decide +kernel
theorem dX12_plain_78 : decode cX12_plain 78 = .ok (.if_icmp .gt 56, 3) := by decide +kernel
theorem dX12_plain_81 : decode cX12_plain 81 = .ok (.aload_n 0, 1) := by decide +kernel
theorem dX12_plain_82 : decode cX12_plain 82 = .ok (.bipush 100, 2) := by decide +kernel
theorem dX12_plain_84 : decode cX12_plain 84 = .ok (.bipush 10, 2) := by decide +kernel
theorem dX12_plain_86 : decode cX12_plain 86 = .ok (.iload 6, 2) := by decide +kernel
theorem dX12_plain_88 : decode cX12_plain 88 = .ok (.imul, 1) := by decide +kernel
theorem dX12_plain_89 : decode cX12_plain 89 = .ok (.iadd, 1) := by decide +kernel
theorem dX12_plain_90 : decode cX12_plain 90 = .ok (.iload 7, 2) := by decide +kernel
theorem dX12_plain_92 : decode cX12_plain 92 = .ok (.iadd, 1) := by decide +kernel
theorem dX12_plain_93 : decode cX12_plain 93 = .ok (.iconst 0, 1) := by decide +kernel
theorem dX12_plain_94 : decode cX12_plain 94 = .ok (.iconst (-1), 1) := by decide +kernel
theorem dX12_plain_95 : decode cX12_plain 95 = .ok (.invokevirtual 355, 3) := by decide +kernel
theorem dX12_plain_98 : decode cX12_plain 98 = .ok (.lstore 8, 2) := by decide +kernel
theorem dX12_plain_100 : decode cX12_plain 100 = .ok (.iload_n 3, 1) := by decide +kernel
theorem dX12_plain_101 : decode cX12_plain 101 = .ok (.ifCond .lt 14, 3) := by decide +kernel
theorem dX12_plain_104 : decode cX12_plain 104 = .ok (.lload 8, 2) := by decide +kernel
theorem dX12_plain_106 : decode cX12_plain 106 = .ok (.lload 4, 2) := by decide +kernel
theorem dX12_plain_108 : decode cX12_plain 108 = .ok (.lcmp, 1) := by decide +kernel
theorem dX12_plain_109 : decode cX12_plain 109 = .ok (.ifCond .lt 6, 3) := by decide +kernel
theorem dX12_plain_112 : decode cX12_plain 112 = .ok (.goto 16, 3) := by decide +kernel
theorem dX12_plain_115 : decode cX12_plain 115 = .ok (.bipush 10, 2) := by decide +kernel
theorem dX12_plain_117 : decode cX12_plain 117 = .ok (.iload 6, 2) := by decide +kernel
theorem dX12_plain_119 : decode cX12_plain 119 = .ok (.imul, 1) := by decide +kernel
theorem dX12_plain_120 : decode cX12_plain 120 = .ok (.iload 7, 2) := by decide +kernel
theorem dX12_plain_122 : decode cX12_plain 122 = .ok (.iadd, 1) := by decide +kernel
theorem dX12_plain_123 : decode cX12_plain 123 = .ok (.istore_n 3, 1) := by decide +kernel
theorem dX12_plain_124 : decode cX12_plain 124 = .ok (.lload 8, 2) := by decide +kernel
theorem dX12_plain_126 : decode cX12_plain 126 = .ok (.lstore 4, 2) := by decide +kernel
theorem dX12_plain_128 : decode cX12_plain 128 = .ok (.iinc 7 1, 3) := by decide +kernel
theorem dX12_plain_131 : decode cX12_plain 131 = .ok (.goto (-56), 3) := by decide +kernel
theorem dX12_plain_134 : decode cX12_plain 134 = .ok (.iinc 6 1, 3) := by decide +kernel
theorem dX12_plain_137 : decode cX12_plain 137 = .ok (.goto (-72), 3) := by decide +kernel
theorem dX12_plain_140 : decode cX12_plain 140 = .ok (.iload_n 3, 1) := by decide +kernel
theorem dX12_plain_141 : decode cX12_plain 141 = .ok (.ireturn, 1) := by decide +kernel
theorem dX12_right_0 : decode cX12_right 0 = .ok (.aload_n 0, 1) := by decide +kernel
theorem dX12_right_1 : decode cX12_right 1 = .ok (.iconst 0, 1) := by decide +kernel
theorem dX12_right_2 : decode cX12_right 2 = .ok (.putfield 3, 3) := by decide +kernel
theorem dX12_right_5 : decode cX12_right 5 = .ok (.aload_n 0, 1) := by decide +kernel
theorem dX12_right_6 : decode cX12_right 6 = .ok (.aload_n 0, 1) := by decide +kernel
theorem dX12_right_7 : decode cX12_right 7 = .ok (.iload_n 1, 1) := by decide +kernel
theorem dX12_right_8 : decode cX12_right 8 = .ok (.iload_n 3, 1) := by decide +kernel
theorem dX12_right_9 : decode cX12_right 9 = .ok (.iload 4, 2) := by decide +kernel
theorem dX12_right_11 : decode cX12_right 11 = .ok (.invokevirtual 341, 3) := by decide +kernel
theorem dX12_right_14 : decode cX12_right 14 = .ok (.iconst 1, 1) := by decide +kernel
theorem dX12_right_15 : decode cX12_right 15 = .ok (.invokevirtual 237, 3) := by decide +kernel
theorem dX12_right_18 : decode cX12_right 18 = .ok (.ifCond .ne 17, 3) := by decide +kernel
theorem dX12_right_21 : decode cX12_right 21 = .ok (.aload_n 0, 1) := by decide +kernel
theorem dX12_right_22 : decode cX12_right 22 = .ok (.aload_n 0, 1) := by decide +kernel
theorem dX12_right_23 : decode cX12_right 23 = .ok (.iload_n 1, 1) := by decide +kernel
theorem dX12_right_24 : decode cX12_right 24 = .ok (.iload_n 2, 1) := by decide +kernel
theorem dX12_right_25 : decode cX12_right 25 = .ok (.invokevirtual 344, 3) := by decide +kernel
theorem dX12_right_28 : decode cX12_right 28 = .ok (.iconst 2, 1) := by decide +kernel
theorem dX12_right_29 : decode cX12_right 29 = .ok (.invokevirtual 237, 3) := by decide +kernel
theorem dX12_right_32 : decode cX12_right 32 = .ok (.ifCond .eq 5, 3) := by decide +kernel
theorem dX12_right_35 : decode cX12_right 35 = .ok (.iconst 0, 1) := by decide +kernel
theorem dX12_right_36 : decode cX12_right 36 = .ok (.ireturn, 1) := by decide +kernel
theorem dX12_right_37 : decode cX12_right 37 = .ok (.aload_n 0, 1) := by decide +kernel
theorem dX12_right_38 : decode cX12_right 38 = .ok (.aload_n 0, 1) := by decide +kernel
theorem dX12_right_39 : decode cX12_right 39 = .ok (.getfield 13, 3) := by decide +kernel
theorem dX12_right_42 : decode cX12_right 42 = .ok (.bipush 6, 2) := by decide +kernel
theorem dX12_right_44 : decode cX12_right 44 = .ok (.iaload, 1) := by decide +kernel
theorem dX12_right_45 : decode cX12_right 45 = .ok (.invokevirtual 296, 3) := by decide +kernel
theorem dX12_right_48 : decode cX12_right 48 = .ok (.aload_n 0, 1) := by decide +kernel
theorem dX12_right_49 : decode cX12_right 49 = .ok (.iload_n 3, 1) := by decide +kernel
theorem dX12_right_50 : decode cX12_right 50 = .ok (.iload 4, 2) := by decide +kernel
theorem dX12_right_52 : decode cX12_right 52 = .ok (.aload_n 0, 1) := by decide +kernel
theorem dX12_right_53 : decode cX12_right 53 = .ok (.iload_n 3, 1) := by decide +kernel
theorem dX12_right_54 : decode cX12_right 54 = .ok (.invokevirtual 320, 3) := by decide +kernel
theorem dX12_right_57 : decode cX12_right 57 = .ok (.invokevirtual 323, 3) := by decide +kernel
theorem dX12_right_60 : decode cX12_right 60 = .ok (.aload_n 0, 1) := by decide +kernel
theorem dX12_right_61 : decode cX12_right 61 = .ok (.iload_n 1, 1) := by decide +kernel
theorem dX12_right_62 : decode cX12_right 62 = .ok (.iload_n 2, 1) := by decide +kernel
theorem dX12_right_63 : decode cX12_right 63 = .ok (.iconst (-1), 1) := by decide +kernel
theorem dX12_right_64 : decode cX12_right 64 = .ok (.invokevirtual 355, 3) := by decide +kernel
theorem dX12_right_67 : decode cX12_right 67 = .ok (.pop2, 1) := by decide +kernel
theorem dX12_right_68 : decode cX12_right 68 = .ok (.iconst 0, 1) := by decide +kernel
theorem dX12_right_69 : decode cX12_right 69 = .ok (.istore 5, 2) := by decide +kernel
theorem dX12_right_71 : decode cX12_right 71 = .ok (.iconst 0, 1) := by decide +kernel
theorem dX12_right_72 : decode cX12_right 72 = .ok (.istore 6, 2) := by decide +kernel
theorem dX12_right_74 : decode cX12_right 74 = .ok (.iload 6, 2) := by decide +kernel
theorem dX12_right_76 : decode cX12_right 76 = .ok (.bipush 32, 2) := by decide +kernel
theorem dX12_right_78 : decode cX12_right 78 = .ok (.if_icmp .ge 40, 3) := by decide +kernel
theorem dX12_right_81 : decode cX12_right 81 = .ok (.iload 5, 2) := by decide +kernel
theorem dX12_right_83 : decode cX12_right 83 = .ok (.aload_n 0, 1) := by decide +kernel
theorem dX12_right_84 : decode cX12_right 84 = .ok (.getfield 52, 3) := by decide +kernel
theorem dX12_right_87 : decode cX12_right 87 = .ok (.iload 6, 2) := by decide +kernel
theorem dX12_right_89 : decode cX12_right 89 = .ok (.laload, 1) := by decide +kernel
theorem dX12_right_90 : decode cX12_right 90 = .ok (.aload_n 0, 1) := by decide +kernel
theorem dX12_right_91 : decode cX12_right 91 = .ok (.getfield 46, 3) := by decide +kernel
theorem dX12_right_94 : decode cX12_right 94 = .ok (.iload 6, 2) := by decide +kernel
theorem dX12_right_96 : decode cX12_right 96 = .ok (.laload, 1) := by decide +kernel
theorem dX12_right_97 : decode cX12_right 97 = .ok (.lcmp, 1) := by decide +kernel
theorem dX12_right_98 : decode cX12_right 98 = .ok (.ifCond .ne 10, 3) := by decide +kernel
theorem dX12_right_101 : decode cX12_right 101 = .ok (.iconst 1, 1) := by decide +kernel
theorem dX12_right_102 : decode cX12_right 102 = .ok (.iload 6, 2) := by decide +kernel
theorem dX12_right_104 : decode cX12_right 104 = .ok (.ishl, 1) := by decide +kernel
theorem dX12_right_105 : decode cX12_right 105 = .ok (.goto 4, 3) := by decide +kernel
theorem dX12_right_108 : decode cX12_right 108 = .ok (.iconst 0, 1) := by decide +kernel
theorem dX12_right_109 : decode cX12_right 109 = .ok (.ior, 1) := by decide +kernel
theorem dX12_right_110 : decode cX12_right 110 = .ok (.istore 5, 2) := by decide +kernel
theorem dX12_right_112 : decode cX12_right 112 = .ok (.iinc 6 1, 3) := by decide +kernel
theorem dX12_right_115 : decode cX12_right 115 = .ok (.goto (-41), 3) := by decide +kernel
theorem dX12_right_118 : decode cX12_right 118 = .ok (.iload 5, 2) := by decide +kernel
theorem dX12_right_120 : decode cX12_right 120 = .ok (.ireturn, 1) := by decide +kernel
theorem dX12_rest_0 : decode cX12_rest 0 = .ok (.aload_n 0, 1) := by decide +kernel
theorem dX12_rest_1 : decode cX12_rest 1 = .ok (.iconst 0, 1) := by decide +kernel
theorem dX12_rest_2 : decode cX12_rest 2 = .ok (.putfield 3, 3) := by decide +kernel
theorem dX12_rest_5 : decode cX12_rest 5 = .ok (.aload_n 0, 1) := by decide +kernel
theorem dX12_rest_6 : decode cX12_rest 6 = .ok (.aload_n 0, 1) := by decide +kernel
theorem dX12_rest_7 : decode cX12_rest 7 = .ok (.iload_n 2, 1) := by decide +kernel
theorem dX12_rest_8 : decode cX12_rest 8 = .ok (.invokevirtual 317, 3) := by decide +kernel
theorem dX12_rest_11 : decode cX12_rest 11 = .ok (.iconst 1, 1) := by decide +kernel
theorem dX12_rest_12 : decode cX12_rest 12 = .ok (.invokevirtual 237, 3) := by decide +kernel
theorem dX12_rest_15 : decode cX12_rest 15 = .ok (.ifCond .ne 48, 3) := by decide +kernel
theorem dX12_rest_18 : decode cX12_rest 18 = .ok (.aload_n 0, 1) := by decide +kernel
theorem dX12_rest_19 : decode cX12_rest 19 = .ok (.iload_n 1, 1) := by decide +kernel
theorem dX12_rest_20 : decode cX12_rest 20 = .ok (.iconst 0, 1) := by decide +kernel
theorem dX12_rest_21 : decode cX12_rest 21 = .ok (.bipush 31, 2) := by decide +kernel
theorem dX12_rest_23 : decode cX12_rest 23 = .ok (.invokestatic 77, 3) := by decide +kernel
theorem dX12_rest_26 : decode cX12_rest 26 = .ok (.ifCond .ne 7, 3) := by decide +kernel
theorem dX12_rest_29 : decode cX12_rest 29 = .ok (.iconst 1, 1) := by decide +kernel
theorem dX12_rest_30 : decode cX12_rest 30 = .ok (.goto 4, 3) := by decide +kernel
theorem dX12_rest_33 : decode cX12_rest 33 = .ok (.iconst 0, 1) := by decide +kernel
theorem dX12_rest_34 : decode cX12_rest 34 = .ok (.iconst 2, 1) := by decide +kernel
theorem dX12_rest_35 : decode cX12_rest 35 = .ok (.invokevirtual 237, 3) := by decide +kernel
theorem dX12_rest_38 : decode cX12_rest 38 = .ok (.ifCond .ne 25, 3) := by decide +kernel
theorem dX12_rest_41 : decode cX12_rest 41 = .ok (.aload_n 0, 1) := by decide +kernel
theorem dX12_rest_42 : decode cX12_rest 42 = .ok (.iload_n 3, 1) := by decide +kernel
theorem dX12_rest_43 : decode cX12_rest 43 = .ok (.iconst 0, 1) := by decide +kernel
theorem dX12_rest_44 : decode cX12_rest 44 = .ok (.iconst 4, 1) := by decide +kernel
theorem dX12_rest_45 : decode cX12_rest 45 = .ok (.invokestatic 77, 3) := by decide +kernel
theorem dX12_rest_48 : decode cX12_rest 48 = .ok (.ifCond .ne 7, 3) := by decide +kernel
theorem dX12_rest_51 : decode cX12_rest 51 = .ok (.iconst 1, 1) := by decide +kernel
theorem dX12_rest_52 : decode cX12_rest 52 = .ok (.goto 4, 3) := by decide +kernel
theorem dX12_rest_55 : decode cX12_rest 55 = .ok (.iconst 0, 1) := by decide +kernel
theorem dX12_rest_56 : decode cX12_rest 56 = .ok (.iconst 3, 1) := by decide +kernel
theorem dX12_rest_57 : decode cX12_rest 57 = .ok (.invokevirtual 237, 3) := by decide +kernel
theorem dX12_rest_60 : decode cX12_rest 60 = .ok (.ifCond .eq 5, 3) := by decide +kernel
theorem dX12_rest_63 : decode cX12_rest 63 = .ok (.lconst 0, 1) := by decide +kernel
theorem dX12_rest_64 : decode cX12_rest 64 = .ok (.lreturn, 1) := by decide +kernel
theorem dX12_rest_65 : decode cX12_rest 65 = .ok (.aload_n 0, 1) := by decide +kernel
theorem dX12_rest_66 : decode cX12_rest 66 = .ok (.aload_n 0, 1) := by decide +kernel
theorem dX12_rest_67 : decode cX12_rest 67 = .ok (.getfield 13, 3) := by decide +kernel
theorem dX12_rest_70 : decode cX12_rest 70 = .ok (.bipush 6, 2) := by decide +kernel
theorem dX12_rest_72 : decode cX12_rest 72 = .ok (.iaload, 1) := by decide +kernel
theorem dX12_rest_73 : decode cX12_rest 73 = .ok (.invokevirtual 296, 3) := by decide +kernel
theorem dX12_rest_76 : decode cX12_rest 76 = .ok (.iconst (-1), 1) := by decide +kernel
theorem dX12_rest_77 : decode cX12_rest 77 = .ok (.istore 4, 2) := by decide +kernel
theorem dX12_rest_79 : decode cX12_rest 79 = .ok (.lconst 0, 1) := by decide +kernel
theorem dX12_rest_80 : decode cX12_rest 80 = .ok (.lstore 5, 2) := by decide +kernel
theorem dX12_rest_82 : decode cX12_rest 82 = .ok (.iconst 0, 1) := by decide +kernel
theorem dX12_rest_83 : decode cX12_rest 83 = .ok (.istore 7, 2) := by decide +kernel
theorem dX12_rest_85 : decode cX12_rest 85 = .ok (.iload 7, 2) := by decide +kernel
theorem dX12_rest_87 : decode cX12_rest 87 = .ok (.iconst 5, 1) := by decide +kernel
theorem dX12_rest_88 : decode cX12_rest 88 = .ok (.aload_n 0, 1) := by decide +kernel
theorem dX12_rest_89 : decode cX12_rest 89 = .ok (.getfield 13, 3) := by decide +kernel
theorem dX12_rest_92 : decode cX12_rest 92 = .ok (.iconst 1, 1) := by decide +kernel
theorem dX12_rest_93 : decode cX12_rest 93 = .ok (.iaload, 1) := by decide +kernel
theorem dX12_rest_94 : decode cX12_rest 94 = .ok (.iadd, 1) := by decide +kernel
theorem dX12_rest_95 : decode cX12_rest 95 = .ok (.if_icmp .ge 167, 3) := by decide +kernel
theorem dX12_rest_98 : decode cX12_rest 98 = .ok (.ldc2_w 400, 3) := by decide +kernel
theorem dX12_rest_101 : decode cX12_rest 101 = .ok (.lstore 8, 2) := by decide +kernel
theorem dX12_rest_103 : decode cX12_rest 103 = .ok (.iconst 0, 1) := by decide +kernel
theorem dX12_rest_104 : decode cX12_rest 104 = .ok (.istore 10, 2) := by decide +kernel
theorem dX12_rest_106 : decode cX12_rest 106 = .ok (.iload 10, 2) := by decide +kernel
theorem dX12_rest_108 : decode cX12_rest 108 = .ok (.bipush 8, 2) := by decide +kernel
theorem dX12_rest_110 : decode cX12_rest 110 = .ok (.if_icmp .ge 122, 3) := by decide +kernel
theorem dX12_rest_113 : decode cX12_rest 113 = .ok (.aload_n 0, 1) := by decide +kernel
theorem dX12_rest_114 : decode cX12_rest 114 = .ok (.iload_n 2, 1) := by decide +kernel
theorem dX12_rest_115 : decode cX12_rest 115 = .ok (.iload 10, 2) := by decide +kernel
theorem dX12_rest_117 : decode cX12_rest 117 = .ok (.aload_n 0, 1) := by decide +kernel
theorem dX12_rest_118 : decode cX12_rest 118 = .ok (.iload_n 2, 1) := by decide +kernel
theorem dX12_rest_119 : decode cX12_rest 119 = .ok (.invokevirtual 320, 3) := by decide +kernel
theorem dX12_rest_122 : decode cX12_rest 122 = .ok (.invokevirtual 323, 3) := by decide +kernel
theorem dX12_rest_125 : decode cX12_rest 125 = .ok (.aload_n 0, 1) := by decide +kernel
theorem dX12_rest_126 : decode cX12_rest 126 = .ok (.iload 7, 2) := by decide +kernel
theorem dX12_rest_128 : decode cX12_rest 128 = .ok (.iload_n 1, 1) := by decide +kernel
theorem dX12_rest_129 : decode cX12_rest 129 = .ok (.aload_n 0, 1) := by decide +kernel
theorem dX12_rest_130 : decode cX12_rest 130 = .ok (.getfield 13, 3) := by decide +kernel
theorem dX12_rest_133 : decode cX12_rest 133 = .ok (.iconst 4, 1) := by decide +kernel
theorem dX12_rest_134 : decode cX12_rest 134 = .ok (.iaload, 1) := by decide +kernel
theorem dX12_rest_135 : decode cX12_rest 135 = .ok (.invokevirtual 338, 3) := by decide +kernel
theorem dX12_rest_138 : decode cX12_rest 138 = .ok (.iconst 4, 1) := by decide +kernel
theorem dX12_rest_139 : decode cX12_rest 139 = .ok (.iload 10, 2) := by decide +kernel
theorem dX12_rest_141 : decode cX12_rest 141 = .ok (.imul, 1) := by decide +kernel
theorem dX12_rest_142 : decode cX12_rest 142 = .ok (.istore 11, 2) := by decide +kernel
theorem dX12_rest_144 : decode cX12_rest 144 = .ok (.iload 11, 2) := by decide +kernel
theorem dX12_rest_146 : decode cX12_rest 146 = .ok (.iconst 4, 1) := by decide +kernel
theorem dX12_rest_147 : decode cX12_rest 147 = .ok (.iload 10, 2) := by decide +kernel
theorem dX12_rest_149 : decode cX12_rest 149 = .ok (.imul, 1) := by decide +kernel
theorem dX12_rest_150 : decode cX12_rest 150 = .ok (.iconst 4, 1) := by decide +kernel
theorem dX12_rest_151 : decode cX12_rest 151 = .ok (.iadd, 1) := by decide +kernel
theorem dX12_rest_152 : decode cX12_rest 152 = .ok (.if_icmp .ge 74, 3) := by decide +kernel
theorem dX12_rest_155 : decode cX12_rest 155 = .ok (.aload_n 0, 1) := by decide +kernel
theorem dX12_rest_156 : decode cX12_rest 156 = .ok (.getfield 42, 3) := by decide +kernel
theorem dX12_rest_159 : decode cX12_rest 159 = .ok (.bipush 32, 2) := by decide +kernel
theorem dX12_rest_161 : decode cX12_rest 161 = .ok (.aload_n 0, 1) := by decide +kernel
theorem dX12_rest_162 : decode cX12_rest 162 = .ok (.getfield 13, 3) := by decide +kernel
theorem dX12_rest_165 : decode cX12_rest 165 = .ok (.iconst 5, 1) := by decide +kernel
theorem dX12_rest_166 : decode cX12_rest 166 = .ok (.iaload, 1) := by decide +kernel
theorem dX12_rest_167 : decode cX12_rest 167 = .ok (.imul, 1) := by decide +kernel
theorem dX12_rest_168 : decode cX12_rest 168 = .ok (.iload 11, 2) := by decide +kernel
theorem dX12_rest_170 : decode cX12_rest 170 = .ok (.iadd, 1) := by decide +kernel
theorem dX12_rest_171 : decode cX12_rest 171 = .ok (.laload, 1) := by decide +kernel
theorem dX12_rest_172 : decode cX12_rest 172 = .ok (.aload_n 0, 1) := by decide +kernel
theorem dX12_rest_173 : decode cX12_rest 173 = .ok (.getfield 46, 3) := by decide +kernel
theorem dX12_rest_176 : decode cX12_rest 176 = .ok (.iload 11, 2) := by decide +kernel
theorem dX12_rest_178 : decode cX12_rest 178 = .ok (.laload, 1) := by decide +kernel
theorem dX12_rest_179 : decode cX12_rest 179 = .ok (.lsub, 1) := by decide +kernel
theorem dX12_rest_180 : decode cX12_rest 180 = .ok (.lstore 12, 2) := by decide +kernel
theorem dX12_rest_182 : decode cX12_rest 182 = .ok (.lload 8, 2) := by decide +kernel
theorem dX12_rest_184 : decode cX12_rest 184 = .ok (.lload 12, 2) := by decide +kernel
theorem dX12_rest_186 : decode cX12_rest 186 = .ok (.invokestatic 277, 3) := by decide +kernel
theorem dX12_rest_189 : decode cX12_rest 189 = .ok (.lstore 8, 2) := by decide +kernel
theorem dX12_rest_191 : decode cX12_rest 191 = .ok (.aload_n 0, 1) := by decide +kernel
theorem dX12_rest_192 : decode cX12_rest 192 = .ok (.getfield 67, 3) := by decide +kernel
theorem dX12_rest_195 : decode cX12_rest 195 = .ok (.iload 11, 2) := by decide +kernel
theorem dX12_rest_197 : decode cX12_rest 197 = .ok (.iload 7, 2) := by decide +kernel
theorem dX12_rest_199 : decode cX12_rest 199 = .ok (.ifCond .ne 8, 3) := by decide +kernel
theorem dX12_rest_202 : decode cX12_rest 202 = .ok (.lload 12, 2) := by decide +kernel
theorem dX12_rest_204 : decode cX12_rest 204 = .ok (.goto 15, 3) := by decide +kernel
theorem dX12_rest_207 : decode cX12_rest 207 = .ok (.aload_n 0, 1) := by decide +kernel
theorem dX12_rest_208 : decode cX12_rest 208 = .ok (.getfield 67, 3) := by decide +kernel
theorem dX12_rest_211 : decode cX12_rest 211 = .ok (.iload 11, 2) := by decide +kernel
theorem dX12_rest_213 : decode cX12_rest 213 = .ok (.laload, 1) := by decide +kernel
theorem dX12_rest_214 : decode cX12_rest 214 = .ok (.lload 12, 2) := by decide +kernel
theorem dX12_rest_216 : decode cX12_rest 216 = .ok (.invokestatic 273, 3) := by decide +kernel
theorem dX12_rest_219 : decode cX12_rest 219 = .ok (.lastore, 1) := by decide +kernel
theorem dX12_rest_220 : decode cX12_rest 220 = .ok (.iinc 11 1, 3) := by decide +kernel
theorem dX12_rest_223 : decode cX12_rest 223 = .ok (.goto (-79), 3) := by decide +kernel
theorem dX12_rest_226 : decode cX12_rest 226 = .ok (.iinc 10 1, 3) := by decide +kernel
theorem dX12_rest_229 : decode cX12_rest 229 = .ok (.goto (-123), 3) := by decide +kernel
theorem dX12_rest_232 : decode cX12_rest 232 = .ok (.iload 4, 2) := by decide +kernel
theorem dX12_rest_234 : decode cX12_rest 234 = .ok (.ifCond .lt 14, 3) := by decide +kernel
theorem dX12_rest_237 : decode cX12_rest 237 = .ok (.lload 8, 2) := by decide +kernel
theorem dX12_rest_239 : decode cX12_rest 239 = .ok (.lload 5, 2) := by decide +kernel
theorem dX12_rest_241 : decode cX12_rest 241 = .ok (.lcmp, 1) := by decide +kernel
theorem dX12_rest_242 : decode cX12_rest 242 = .ok (.ifCond .lt 6, 3) := by decide +kernel
theorem dX12_rest_245 : decode cX12_rest 245 = .ok (.goto 11, 3) := by decide +kernel
theorem dX12_rest_248 : decode cX12_rest 248 = .ok (.iload 7, 2) := by decide +kernel
theorem dX12_rest_250 : decode cX12_rest 250 = .ok (.istore 4, 2) := by decide +kernel
theorem dX12_rest_252 : decode cX12_rest 252 = .ok (.lload 8, 2) := by decide +kernel
theorem dX12_rest_254 : decode cX12_rest 254 = .ok (.lstore 5, 2) := by decide +kernel
theorem dX12_rest_256 : decode cX12_rest 256 = .ok (.iinc 7 1, 3) := by decide +kernel
theorem dX12_rest_259 : decode cX12_rest 259 = .ok (.goto (-174), 3) := by decide +kernel
theorem dX12_rest_262 : decode cX12_rest 262 = .ok (.iconst 0, 1) := by decide +kernel
theorem dX12_rest_263 : decode cX12_rest 263 = .ok (.istore 7, 2) := by decide +kernel
theorem dX12_rest_265 : decode cX12_rest 265 = .ok (.iconst 1, 1) := by decide +kernel
theorem dX12_rest_266 : decode cX12_rest 266 = .ok (.istore 8, 2) := by decide +kernel
theorem dX12_rest_268 : decode cX12_rest 268 = .ok (.iload 8, 2) := by decide +kernel
theorem dX12_rest_270 : decode cX12_rest 270 = .ok (.bipush 32, 2) := by decide +kernel
theorem dX12_rest_272 : decode cX12_rest 272 = .ok (.if_icmp .ge 36, 3) := by decide +kernel
theorem dX12_rest_275 : decode cX12_rest 275 = .ok (.aload_n 0, 1) := by decide +kernel
theorem dX12_rest_276 : decode cX12_rest 276 = .ok (.getfield 67, 3) := by decide +kernel
theorem dX12_rest_279 : decode cX12_rest 279 = .ok (.iload 8, 2) := by decide +kernel
theorem dX12_rest_281 : decode cX12_rest 281 = .ok (.laload, 1) := by decide +kernel
theorem dX12_rest_282 : decode cX12_rest 282 = .ok (.aload_n 0, 1) := by decide +kernel
theorem dX12_rest_283 : decode cX12_rest 283 = .ok (.getfield 67, 3) := by decide +kernel
theorem dX12_rest_286 : decode cX12_rest 286 = .ok (.iload 7, 2) := by decide +kernel
theorem dX12_rest_288 : decode cX12_rest 288 = .ok (.laload, 1) := by decide +kernel
theorem dX12_rest_289 : decode cX12_rest 289 = .ok (.lcmp, 1) := by decide +kernel
theorem dX12_rest_290 : decode cX12_rest 290 = .ok (.ifCond .le 8, 3) := by decide +kernel
theorem dX12_rest_293 : decode cX12_rest 293 = .ok (.iload 8, 2) := by decide +kernel
theorem dX12_rest_295 : decode cX12_rest 295 = .ok (.goto 5, 3) := by decide +kernel
theorem dX12_rest_298 : decode cX12_rest 298 = .ok (.iload 7, 2) := by decide +kernel
theorem dX12_rest_300 : decode cX12_rest 300 = .ok (.istore 7, 2) := by decide +kernel
theorem dX12_rest_302 : decode cX12_rest 302 = .ok (.iinc 8 1, 3) := by decide +kernel
theorem dX12_rest_305 : decode cX12_rest 305 = .ok (.goto (-37), 3) := by decide +kernel
theorem dX12_rest_308 : decode cX12_rest 308 = .ok (.iload_n 3, 1) := by decide +kernel
theorem dX12_rest_309 : decode cX12_rest 309 = .ok (.ifCond .ne 9, 3) := by decide +kernel
theorem dX12_rest_312 : decode cX12_rest 312 = .ok (.iload 4, 2) := by decide +kernel
theorem dX12_rest_314 : decode cX12_rest 314 = .ok (.i2l, 1) := by decide +kernel
theorem dX12_rest_315 : decode cX12_rest 315 = .ok (.goto 57, 3) := by decide +kernel
theorem dX12_rest_318 : decode cX12_rest 318 = .ok (.iload_n 3, 1) := by decide +kernel
theorem dX12_rest_319 : decode cX12_rest 319 = .ok (.iconst 1, 1) := by decide +kernel
theorem dX12_rest_320 : decode cX12_rest 320 = .ok (.if_icmp .ne 8, 3) := by decide +kernel
theorem dX12_rest_323 : decode cX12_rest 323 = .ok (.lload 5, 2) := by decide +kernel
theorem dX12_rest_325 : decode cX12_rest 325 = .ok (.goto 47, 3) := by decide +kernel
theorem dX12_rest_328 : decode cX12_rest 328 = .ok (.iload_n 3, 1) := by decide +kernel
theorem dX12_rest_329 : decode cX12_rest 329 = .ok (.iconst 2, 1) := by decide +kernel
theorem dX12_rest_330 : decode cX12_rest 330 = .ok (.if_icmp .ne 9, 3) := by decide +kernel
theorem dX12_rest_333 : decode cX12_rest 333 = .ok (.iload 7, 2) := by decide +kernel
theorem dX12_rest_335 : decode cX12_rest 335 = .ok (.i2l, 1) := by decide +kernel
theorem dX12_rest_336 : decode cX12_rest 336 = .ok (.goto 36, 3) := by decide +kernel
theorem dX12_rest_339 : decode cX12_rest 339 = .ok (.iload_n 3, 1) := by decide +kernel
theorem dX12_rest_340 : decode cX12_rest 340 = .ok (.iconst 3, 1) := by decide +kernel
theorem dX12_rest_341 : decode cX12_rest 341 = .ok (.if_icmp .ne 13, 3) := by decide +kernel
theorem dX12_rest_344 : decode cX12_rest 344 = .ok (.aload_n 0, 1) := by decide +kernel
theorem dX12_rest_345 : decode cX12_rest 345 = .ok (.getfield 67, 3) := by decide +kernel
theorem dX12_rest_348 : decode cX12_rest 348 = .ok (.iload 7, 2) := by decide +kernel
theorem dX12_rest_350 : decode cX12_rest 350 = .ok (.laload, 1) := by decide +kernel
theorem dX12_rest_351 : decode cX12_rest 351 = .ok (.goto 21, 3) := by decide +kernel
theorem dX12_rest_354 : decode cX12_rest 354 = .ok (.lload 5, 2) := by decide +kernel
theorem dX12_rest_356 : decode cX12_rest 356 = .ok (.aload_n 0, 1) := by decide +kernel
theorem dX12_rest_357 : decode cX12_rest 357 = .ok (.getfield 67, 3) := by decide +kernel
theorem dX12_rest_360 : decode cX12_rest 360 = .ok (.iload 7, 2) := by decide +kernel
theorem dX12_rest_362 : decode cX12_rest 362 = .ok (.laload, 1) := by decide +kernel
theorem dX12_rest_363 : decode cX12_rest 363 = .ok (.lcmp, 1) := by decide +kernel
theorem dX12_rest_364 : decode cX12_rest 364 = .ok (.ifCond .ne 7, 3) := by decide +kernel
theorem dX12_rest_367 : decode cX12_rest 367 = .ok (.lconst 1, 1) := by decide +kernel
theorem dX12_rest_368 : decode cX12_rest 368 = .ok (.goto 4, 3) := by decide +kernel
theorem dX12_rest_371 : decode cX12_rest 371 = .ok (.lconst 0, 1) := by decide +kernel
theorem dX12_rest_372 : decode cX12_rest 372 = .ok (.lreturn, 1) := by decide +kernel
theorem dX12_season_0 : decode cX12_season 0 = .ok (.aload_n 0, 1) := by decide +kernel
theorem dX12_season_1 : decode cX12_season 1 = .ok (.iconst 0, 1) := by decide +kernel
theorem dX12_season_2 : decode cX12_season 2 = .ok (.putfield 3, 3) := by decide +kernel
theorem dX12_season_5 : decode cX12_season 5 = .ok (.iconst 0, 1) := by decide +kernel
theorem dX12_season_6 : decode cX12_season 6 = .ok (.istore 6, 2) := by decide +kernel
theorem dX12_season_8 : decode cX12_season 8 = .ok (.iconst 0, 1) := by decide +kernel
theorem dX12_season_9 : decode cX12_season 9 = .ok (.istore 7, 2) := by decide +kernel
theorem dX12_season_11 : decode cX12_season 11 = .ok (.iload 7, 2) := by decide +kernel
theorem dX12_season_13 : decode cX12_season 13 = .ok (.aload_n 0, 1) := by decide +kernel
theorem dX12_season_14 : decode cX12_season 14 = .ok (.getfield 13, 3) := by decide +kernel
theorem dX12_season_17 : decode cX12_season 17 = .ok (.iconst 2, 1) := by decide +kernel
theorem dX12_season_18 : decode cX12_season 18 = .ok (.iaload, 1) := by decide +kernel
theorem dX12_season_19 : decode cX12_season 19 = .ok (.if_icmp .ge 20, 3) := by decide +kernel
theorem dX12_season_22 : decode cX12_season 22 = .ok (.iload 6, 2) := by decide +kernel
theorem dX12_season_24 : decode cX12_season 24 = .ok (.aload_n 0, 1) := by decide +kernel
theorem dX12_season_25 : decode cX12_season 25 = .ok (.iload 7, 2) := by decide +kernel
theorem dX12_season_27 : decode cX12_season 27 = .ok (.invokevirtual 299, 3) := by decide +kernel
theorem dX12_season_30 : decode cX12_season 30 = .ok (.iadd, 1) := by decide +kernel
theorem dX12_season_31 : decode cX12_season 31 = .ok (.istore 6, 2) := by decide +kernel
theorem dX12_season_33 : decode cX12_season 33 = .ok (.iinc 7 1, 3) := by decide +kernel
theorem dX12_season_36 : decode cX12_season 36 = .ok (.goto (-25), 3) := by decide +kernel
theorem dX12_season_39 : decode cX12_season 39 = .ok (.aload_n 0, 1) := by decide +kernel
theorem dX12_season_40 : decode cX12_season 40 = .ok (.aload_n 0, 1) := by decide +kernel
theorem dX12_season_41 : decode cX12_season 41 = .ok (.iload_n 1, 1) := by decide +kernel
theorem dX12_season_42 : decode cX12_season 42 = .ok (.invokevirtual 335, 3) := by decide +kernel
theorem dX12_season_45 : decode cX12_season 45 = .ok (.iconst 1, 1) := by decide +kernel
theorem dX12_season_46 : decode cX12_season 46 = .ok (.invokevirtual 237, 3) := by decide +kernel
theorem dX12_season_49 : decode cX12_season 49 = .ok (.ifCond .ne 64, 3) := by decide +kernel
theorem dX12_season_52 : decode cX12_season 52 = .ok (.aload_n 0, 1) := by decide +kernel
theorem dX12_season_53 : decode cX12_season 53 = .ok (.aload_n 0, 1) := by decide +kernel
theorem dX12_season_54 : decode cX12_season 54 = .ok (.iload_n 1, 1) := by decide +kernel
theorem dX12_season_55 : decode cX12_season 55 = .ok (.iload_n 2, 1) := by decide +kernel
theorem dX12_season_56 : decode cX12_season 56 = .ok (.invokevirtual 344, 3) := by decide +kernel
theorem dX12_season_59 : decode cX12_season 59 = .ok (.ifCond .ne 19, 3) := by decide +kernel
theorem dX12_season_62 : decode cX12_season 62 = .ok (.iload_n 3, 1) := by decide +kernel
theorem dX12_season_63 : decode cX12_season 63 = .ok (.iconst 1, 1) := by decide +kernel
theorem dX12_season_64 : decode cX12_season 64 = .ok (.sipush 200, 3) := by decide +kernel
theorem dX12_season_67 : decode cX12_season 67 = .ok (.invokestatic 77, 3) := by decide +kernel
theorem dX12_season_70 : decode cX12_season 70 = .ok (.ifCond .eq 8, 3) := by decide +kernel
theorem dX12_season_73 : decode cX12_season 73 = .ok (.iload 6, 2) := by decide +kernel
theorem dX12_season_75 : decode cX12_season 75 = .ok (.ifCond .ne 7, 3) := by decide +kernel
theorem dX12_season_78 : decode cX12_season 78 = .ok (.iconst 1, 1) := by decide +kernel
theorem dX12_season_79 : decode cX12_season 79 = .ok (.goto 4, 3) := by decide +kernel
theorem dX12_season_82 : decode cX12_season 82 = .ok (.iconst 0, 1) := by decide +kernel
theorem dX12_season_83 : decode cX12_season 83 = .ok (.iconst 2, 1) := by decide +kernel
theorem dX12_season_84 : decode cX12_season 84 = .ok (.invokevirtual 237, 3) := by decide +kernel
theorem dX12_season_87 : decode cX12_season 87 = .ok (.ifCond .ne 26, 3) := by decide +kernel
theorem dX12_season_90 : decode cX12_season 90 = .ok (.aload_n 0, 1) := by decide +kernel
theorem dX12_season_91 : decode cX12_season 91 = .ok (.iload 5, 2) := by decide +kernel
theorem dX12_season_93 : decode cX12_season 93 = .ok (.iconst 0, 1) := by decide +kernel
theorem dX12_season_94 : decode cX12_season 94 = .ok (.iconst 4, 1) := by decide +kernel
theorem dX12_season_95 : decode cX12_season 95 = .ok (.invokestatic 77, 3) := by decide +kernel
theorem dX12_season_98 : decode cX12_season 98 = .ok (.ifCond .ne 7, 3) := by decide +kernel
theorem dX12_season_101 : decode cX12_season 101 = .ok (.iconst 1, 1) := by decide +kernel
theorem dX12_season_102 : decode cX12_season 102 = .ok (.goto 4, 3) := by decide +kernel
theorem dX12_season_105 : decode cX12_season 105 = .ok (.iconst 0, 1) := by decide +kernel
theorem dX12_season_106 : decode cX12_season 106 = .ok (.iconst 3, 1) := by decide +kernel
theorem dX12_season_107 : decode cX12_season 107 = .ok (.invokevirtual 237, 3) := by decide +kernel
theorem dX12_season_110 : decode cX12_season 110 = .ok (.ifCond .eq 5, 3) := by decide +kernel
theorem dX12_season_113 : decode cX12_season 113 = .ok (.iconst 0, 1) := by decide +kernel
theorem dX12_season_114 : decode cX12_season 114 = .ok (.ireturn, 1) := by decide +kernel
theorem dX12_season_115 : decode cX12_season 115 = .ok (.iconst 0, 1) := by decide +kernel
theorem dX12_season_116 : decode cX12_season 116 = .ok (.istore 7, 2) := by decide +kernel
theorem dX12_season_118 : decode cX12_season 118 = .ok (.iload 7, 2) := by decide +kernel
theorem dX12_season_120 : decode cX12_season 120 = .ok (.iconst 5, 1) := by decide +kernel
theorem dX12_season_121 : decode cX12_season 121 = .ok (.if_icmp .ge 17, 3) := by decide +kernel
theorem dX12_season_124 : decode cX12_season 124 = .ok (.aload_n 0, 1) := by decide +kernel
theorem dX12_season_125 : decode cX12_season 125 = .ok (.getfield 70, 3) := by decide +kernel
theorem dX12_season_128 : decode cX12_season 128 = .ok (.iload 7, 2) := by decide +kernel
theorem dX12_season_130 : decode cX12_season 130 = .ok (.iconst 0, 1) := by decide +kernel
theorem dX12_season_131 : decode cX12_season 131 = .ok (.iastore, 1) := by decide +kernel
theorem dX12_season_132 : decode cX12_season 132 = .ok (.iinc 7 1, 3) := by decide +kernel
theorem dX12_season_135 : decode cX12_season 135 = .ok (.goto (-17), 3) := by decide +kernel
theorem dX12_season_138 : decode cX12_season 138 = .ok (.aload_n 0, 1) := by decide +kernel
theorem dX12_season_139 : decode cX12_season 139 = .ok (.iload 4, 2) := by decide +kernel
theorem dX12_season_141 : decode cX12_season 141 = .ok (.putfield 378, 3) := by decide +kernel
theorem dX12_season_144 : decode cX12_season 144 = .ok (.iconst 0, 1) := by decide +kernel
theorem dX12_season_145 : decode cX12_season 145 = .ok (.istore 7, 2) := by decide +kernel
theorem dX12_season_147 : decode cX12_season 147 = .ok (.iload 7, 2) := by decide +kernel
theorem dX12_season_149 : decode cX12_season 149 = .ok (.iload_n 3, 1) := by decide +kernel
theorem dX12_season_150 : decode cX12_season 150 = .ok (.if_icmp .ge 134, 3) := by decide +kernel
theorem dX12_season_153 : decode cX12_season 153 = .ok (.aload_n 0, 1) := by decide +kernel
theorem dX12_season_154 : decode cX12_season 154 = .ok (.invokevirtual 381, 3) := by decide +kernel
theorem dX12_season_157 : decode cX12_season 157 = .ok (.iload 6, 2) := by decide +kernel
theorem dX12_season_159 : decode cX12_season 159 = .ok (.irem, 1) := by decide +kernel
theorem dX12_season_160 : decode cX12_season 160 = .ok (.istore 8, 2) := by decide +kernel
theorem dX12_season_162 : decode cX12_season 162 = .ok (.iconst 0, 1) := by decide +kernel
theorem dX12_season_163 : decode cX12_season 163 = .ok (.istore 9, 2) := by decide +kernel
theorem dX12_season_165 : decode cX12_season 165 = .ok (.iload 8, 2) := by decide +kernel
theorem dX12_season_167 : decode cX12_season 167 = .ok (.aload_n 0, 1) := by decide +kernel
theorem dX12_season_168 : decode cX12_season 168 = .ok (.getfield 13, 3) := by decide +kernel
theorem dX12_season_171 : decode cX12_season 171 = .ok (.iload 9, 2) := by decide +kernel
theorem dX12_season_173 : decode cX12_season 173 = .ok (.bipush 32, 2) := by decide +kernel
theorem dX12_season_175 : decode cX12_season 175 = .ok (.idiv, 1) := by decide +kernel
theorem dX12_season_176 : decode cX12_season 176 = .ok (.iconst 2, 1) := by decide +kernel
theorem dX12_season_177 : decode cX12_season 177 = .ok (.iload 9, 2) := by decide +kernel
theorem dX12_season_179 : decode cX12_season 179 = .ok (.bipush 32, 2) := by decide +kernel
theorem dX12_season_181 : decode cX12_season 181 = .ok (.irem, 1) := by decide +kernel
theorem dX12_season_182 : decode cX12_season 182 = .ok (.iadd, 1) := by decide +kernel
theorem dX12_season_183 : decode cX12_season 183 = .ok (.invokestatic 282, 3) := by decide +kernel
theorem dX12_season_186 : decode cX12_season 186 = .ok (.iaload, 1) := by decide +kernel
theorem dX12_season_187 : decode cX12_season 187 = .ok (.if_icmp .lt 34, 3) := by decide +kernel
theorem dX12_season_190 : decode cX12_season 190 = .ok (.iload 8, 2) := by decide +kernel
theorem dX12_season_192 : decode cX12_season 192 = .ok (.aload_n 0, 1) := by decide +kernel
theorem dX12_season_193 : decode cX12_season 193 = .ok (.getfield 13, 3) := by decide +kernel
theorem dX12_season_196 : decode cX12_season 196 = .ok (.iload 9, 2) := by decide +kernel
theorem dX12_season_198 : decode cX12_season 198 = .ok (.bipush 32, 2) := by decide +kernel
theorem dX12_season_200 : decode cX12_season 200 = .ok (.idiv, 1) := by decide +kernel
theorem dX12_season_201 : decode cX12_season 201 = .ok (.iconst 2, 1) := by decide +kernel
theorem dX12_season_202 : decode cX12_season 202 = .ok (.iload 9, 2) := by decide +kernel
theorem dX12_season_204 : decode cX12_season 204 = .ok (.bipush 32, 2) := by decide +kernel
theorem dX12_season_206 : decode cX12_season 206 = .ok (.irem, 1) := by decide +kernel
theorem dX12_season_207 : decode cX12_season 207 = .ok (.iadd, 1) := by decide +kernel
theorem dX12_season_208 : decode cX12_season 208 = .ok (.invokestatic 282, 3) := by decide +kernel
theorem dX12_season_211 : decode cX12_season 211 = .ok (.iaload, 1) := by decide +kernel
theorem dX12_season_212 : decode cX12_season 212 = .ok (.isub, 1) := by decide +kernel
theorem dX12_season_213 : decode cX12_season 213 = .ok (.istore 8, 2) := by decide +kernel
theorem dX12_season_215 : decode cX12_season 215 = .ok (.iinc 9 1, 3) := by decide +kernel
theorem dX12_season_218 : decode cX12_season 218 = .ok (.goto (-53), 3) := by decide +kernel
theorem dX12_season_221 : decode cX12_season 221 = .ok (.aload_n 0, 1) := by decide +kernel
theorem dX12_season_222 : decode cX12_season 222 = .ok (.iload_n 1, 1) := by decide +kernel
theorem dX12_season_223 : decode cX12_season 223 = .ok (.iload_n 2, 1) := by decide +kernel
theorem dX12_season_224 : decode cX12_season 224 = .ok (.iload 9, 2) := by decide +kernel
theorem dX12_season_226 : decode cX12_season 226 = .ok (.bipush 32, 2) := by decide +kernel
theorem dX12_season_228 : decode cX12_season 228 = .ok (.idiv, 1) := by decide +kernel
theorem dX12_season_229 : decode cX12_season 229 = .ok (.iload 9, 2) := by decide +kernel
theorem dX12_season_231 : decode cX12_season 231 = .ok (.bipush 32, 2) := by decide +kernel
theorem dX12_season_233 : decode cX12_season 233 = .ok (.irem, 1) := by decide +kernel
theorem dX12_season_234 : decode cX12_season 234 = .ok (.iconst 4, 1) := by decide +kernel
theorem dX12_season_235 : decode cX12_season 235 = .ok (.idiv, 1) := by decide +kernel
theorem dX12_season_236 : decode cX12_season 236 = .ok (.invokevirtual 347, 3) := by decide +kernel
theorem dX12_season_239 : decode cX12_season 239 = .ok (.aload_n 0, 1) := by decide +kernel
theorem dX12_season_240 : decode cX12_season 240 = .ok (.iload 9, 2) := by decide +kernel
theorem dX12_season_242 : decode cX12_season 242 = .ok (.bipush 32, 2) := by decide +kernel
theorem dX12_season_244 : decode cX12_season 244 = .ok (.irem, 1) := by decide +kernel
theorem dX12_season_245 : decode cX12_season 245 = .ok (.invokevirtual 387, 3) := by decide +kernel
theorem dX12_season_248 : decode cX12_season 248 = .ok (.istore 10, 2) := by decide +kernel
theorem dX12_season_250 : decode cX12_season 250 = .ok (.aload_n 0, 1) := by decide +kernel
theorem dX12_season_251 : decode cX12_season 251 = .ok (.getfield 70, 3) := by decide +kernel
theorem dX12_season_254 : decode cX12_season 254 = .ok (.iload 10, 2) := by decide +kernel
theorem dX12_season_256 : decode cX12_season 256 = .ok (.bipush 100, 2) := by decide +kernel
theorem dX12_season_258 : decode cX12_season 258 = .ok (.idiv, 1) := by decide +kernel
theorem dX12_season_259 : decode cX12_season 259 = .ok (.dup2, 1) := by decide +kernel
theorem dX12_season_260 : decode cX12_season 260 = .ok (.iaload, 1) := by decide +kernel
theorem dX12_season_261 : decode cX12_season 261 = .ok (.iconst 1, 1) := by decide +kernel
theorem dX12_season_262 : decode cX12_season 262 = .ok (.iadd, 1) := by decide +kernel
theorem dX12_season_263 : decode cX12_season 263 = .ok (.iastore, 1) := by decide +kernel
theorem dX12_season_264 : decode cX12_season 264 = .ok (.aload_n 0, 1) := by decide +kernel
theorem dX12_season_265 : decode cX12_season 265 = .ok (.getfield 70, 3) := by decide +kernel
theorem dX12_season_268 : decode cX12_season 268 = .ok (.iconst 4, 1) := by decide +kernel
theorem dX12_season_269 : decode cX12_season 269 = .ok (.dup2, 1) := by decide +kernel
theorem dX12_season_270 : decode cX12_season 270 = .ok (.iaload, 1) := by decide +kernel
theorem dX12_season_271 : decode cX12_season 271 = .ok (.iload 10, 2) := by decide +kernel
theorem dX12_season_273 : decode cX12_season 273 = .ok (.bipush 100, 2) := by decide +kernel
theorem dX12_season_275 : decode cX12_season 275 = .ok (.irem, 1) := by decide +kernel
theorem dX12_season_276 : decode cX12_season 276 = .ok (.iadd, 1) := by decide +kernel
theorem dX12_season_277 : decode cX12_season 277 = .ok (.iastore, 1) := by decide +kernel
theorem dX12_season_278 : decode cX12_season 278 = .ok (.iinc 7 1, 3) := by decide +kernel
theorem dX12_season_281 : decode cX12_season 281 = .ok (.goto (-134), 3) := by decide +kernel
theorem dX12_season_284 : decode cX12_season 284 = .ok (.aload_n 0, 1) := by decide +kernel
theorem dX12_season_285 : decode cX12_season 285 = .ok (.getfield 70, 3) := by decide +kernel
theorem dX12_season_288 : decode cX12_season 288 = .ok (.iload 5, 2) := by decide +kernel
theorem dX12_season_290 : decode cX12_season 290 = .ok (.iaload, 1) := by decide +kernel
theorem dX12_season_291 : decode cX12_season 291 = .ok (.ireturn, 1) := by decide +kernel
theorem dX12_count_0 : decode cX12_count 0 = .ok (.aload_n 0, 1) := by decide +kernel
theorem dX12_count_1 : decode cX12_count 1 = .ok (.iconst 0, 1) := by decide +kernel
theorem dX12_count_2 : decode cX12_count 2 = .ok (.putfield 3, 3) := by decide +kernel
theorem dX12_count_5 : decode cX12_count 5 = .ok (.iconst 0, 1) := by decide +kernel
theorem dX12_count_6 : decode cX12_count 6 = .ok (.istore_n 2, 1) := by decide +kernel
theorem dX12_count_7 : decode cX12_count 7 = .ok (.iload_n 1, 1) := by decide +kernel
theorem dX12_count_8 : decode cX12_count 8 = .ok (.tableswitch 201 0 9 #[56, 63, 83, 90, 97, 104, 111, 119, 127, 173], 56) := by decide +kernel
theorem dX12_count_64 : decode cX12_count 64 = .ok (.aload_n 0, 1) := by decide +kernel
theorem dX12_count_65 : decode cX12_count 65 = .ok (.getfield 13, 3) := by decide +kernel
theorem dX12_count_68 : decode cX12_count 68 = .ok (.iconst 0, 1) := by decide +kernel
theorem dX12_count_69 : decode cX12_count 69 = .ok (.iaload, 1) := by decide +kernel
theorem dX12_count_70 : decode cX12_count 70 = .ok (.ireturn, 1) := by decide +kernel
theorem dX12_count_71 : decode cX12_count 71 = .ok (.aload_n 0, 1) := by decide +kernel
theorem dX12_count_72 : decode cX12_count 72 = .ok (.getfield 13, 3) := by decide +kernel
theorem dX12_count_75 : decode cX12_count 75 = .ok (.iconst 3, 1) := by decide +kernel
theorem dX12_count_76 : decode cX12_count 76 = .ok (.iaload, 1) := by decide +kernel
theorem dX12_count_77 : decode cX12_count 77 = .ok (.iconst 1, 1) := by decide +kernel
theorem dX12_count_78 : decode cX12_count 78 = .ok (.if_icmp .ne 11, 3) := by decide +kernel
theorem dX12_count_81 : decode cX12_count 81 = .ok (.aload_n 0, 1) := by decide +kernel
theorem dX12_count_82 : decode cX12_count 82 = .ok (.iconst 4, 1) := by decide +kernel
theorem dX12_count_83 : decode cX12_count 83 = .ok (.invokevirtual 265, 3) := by decide +kernel
theorem dX12_count_86 : decode cX12_count 86 = .ok (.goto 4, 3) := by decide +kernel
theorem dX12_count_89 : decode cX12_count 89 = .ok (.iconst 0, 1) := by decide +kernel
theorem dX12_count_90 : decode cX12_count 90 = .ok (.ireturn, 1) := by decide +kernel
theorem dX12_count_91 : decode cX12_count 91 = .ok (.aload_n 0, 1) := by decide +kernel
theorem dX12_count_92 : decode cX12_count 92 = .ok (.getfield 13, 3) := by decide +kernel
theorem dX12_count_95 : decode cX12_count 95 = .ok (.iconst 1, 1) := by decide +kernel
theorem dX12_count_96 : decode cX12_count 96 = .ok (.iaload, 1) := by decide +kernel
theorem dX12_count_97 : decode cX12_count 97 = .ok (.ireturn, 1) := by decide +kernel
theorem dX12_count_98 : decode cX12_count 98 = .ok (.aload_n 0, 1) := by decide +kernel
theorem dX12_count_99 : decode cX12_count 99 = .ok (.getfield 13, 3) := by decide +kernel
theorem dX12_count_102 : decode cX12_count 102 = .ok (.iconst 2, 1) := by decide +kernel
theorem dX12_count_103 : decode cX12_count 103 = .ok (.iaload, 1) := by decide +kernel
theorem dX12_count_104 : decode cX12_count 104 = .ok (.ireturn, 1) := by decide +kernel
theorem dX12_count_105 : decode cX12_count 105 = .ok (.aload_n 0, 1) := by decide +kernel
theorem dX12_count_106 : decode cX12_count 106 = .ok (.getfield 13, 3) := by decide +kernel
theorem dX12_count_109 : decode cX12_count 109 = .ok (.iconst 4, 1) := by decide +kernel
theorem dX12_count_110 : decode cX12_count 110 = .ok (.iaload, 1) := by decide +kernel
theorem dX12_count_111 : decode cX12_count 111 = .ok (.ireturn, 1) := by decide +kernel
theorem dX12_count_112 : decode cX12_count 112 = .ok (.aload_n 0, 1) := by decide +kernel
theorem dX12_count_113 : decode cX12_count 113 = .ok (.getfield 13, 3) := by decide +kernel
theorem dX12_count_116 : decode cX12_count 116 = .ok (.iconst 5, 1) := by decide +kernel
theorem dX12_count_117 : decode cX12_count 117 = .ok (.iaload, 1) := by decide +kernel
theorem dX12_count_118 : decode cX12_count 118 = .ok (.ireturn, 1) := by decide +kernel
theorem dX12_count_119 : decode cX12_count 119 = .ok (.aload_n 0, 1) := by decide +kernel
theorem dX12_count_120 : decode cX12_count 120 = .ok (.getfield 13, 3) := by decide +kernel
theorem dX12_count_123 : decode cX12_count 123 = .ok (.bipush 6, 2) := by decide +kernel
theorem dX12_count_125 : decode cX12_count 125 = .ok (.iaload, 1) := by decide +kernel
theorem dX12_count_126 : decode cX12_count 126 = .ok (.ireturn, 1) := by decide +kernel
theorem dX12_count_127 : decode cX12_count 127 = .ok (.aload_n 0, 1) := by decide +kernel
theorem dX12_count_128 : decode cX12_count 128 = .ok (.getfield 13, 3) := by decide +kernel
theorem dX12_count_131 : decode cX12_count 131 = .ok (.bipush 7, 2) := by decide +kernel
theorem dX12_count_133 : decode cX12_count 133 = .ok (.iaload, 1) := by decide +kernel
theorem dX12_count_134 : decode cX12_count 134 = .ok (.ireturn, 1) := by decide +kernel
theorem dX12_count_135 : decode cX12_count 135 = .ok (.iconst 0, 1) := by decide +kernel
theorem dX12_count_136 : decode cX12_count 136 = .ok (.istore_n 3, 1) := by decide +kernel
theorem dX12_count_137 : decode cX12_count 137 = .ok (.iload_n 3, 1) := by decide +kernel
theorem dX12_count_138 : decode cX12_count 138 = .ok (.bipush 32, 2) := by decide +kernel
theorem dX12_count_140 : decode cX12_count 140 = .ok (.if_icmp .ge 39, 3) := by decide +kernel
theorem dX12_count_143 : decode cX12_count 143 = .ok (.iload_n 2, 1) := by decide +kernel
theorem dX12_count_144 : decode cX12_count 144 = .ok (.bipush 100, 2) := by decide +kernel
theorem dX12_count_146 : decode cX12_count 146 = .ok (.aload_n 0, 1) := by decide +kernel
theorem dX12_count_147 : decode cX12_count 147 = .ok (.iload_n 3, 1) := by decide +kernel
theorem dX12_count_148 : decode cX12_count 148 = .ok (.invokevirtual 251, 3) := by decide +kernel
theorem dX12_count_151 : decode cX12_count 151 = .ok (.isub, 1) := by decide +kernel
theorem dX12_count_152 : decode cX12_count 152 = .ok (.aload_n 0, 1) := by decide +kernel
theorem dX12_count_153 : decode cX12_count 153 = .ok (.getfield 13, 3) := by decide +kernel
theorem dX12_count_156 : decode cX12_count 156 = .ok (.iload_n 3, 1) := by decide +kernel
theorem dX12_count_157 : decode cX12_count 157 = .ok (.iload_n 3, 1) := by decide +kernel
theorem dX12_count_158 : decode cX12_count 158 = .ok (.invokestatic 248, 3) := by decide +kernel
theorem dX12_count_161 : decode cX12_count 161 = .ok (.iaload, 1) := by decide +kernel
theorem dX12_count_162 : decode cX12_count 162 = .ok (.isub, 1) := by decide +kernel
theorem dX12_count_163 : decode cX12_count 163 = .ok (.ifCond .le 7, 3) := by decide +kernel
theorem dX12_count_166 : decode cX12_count 166 = .ok (.iconst 1, 1) := by decide +kernel
theorem dX12_count_167 : decode cX12_count 167 = .ok (.goto 4, 3) := by decide +kernel
theorem dX12_count_170 : decode cX12_count 170 = .ok (.iconst 0, 1) := by decide +kernel
theorem dX12_count_171 : decode cX12_count 171 = .ok (.iadd, 1) := by decide +kernel
theorem dX12_count_172 : decode cX12_count 172 = .ok (.istore_n 2, 1) := by decide +kernel
theorem dX12_count_173 : decode cX12_count 173 = .ok (.iinc 3 1, 3) := by decide +kernel
theorem dX12_count_176 : decode cX12_count 176 = .ok (.goto (-39), 3) := by decide +kernel
theorem dX12_count_179 : decode cX12_count 179 = .ok (.iload_n 2, 1) := by decide +kernel
theorem dX12_count_180 : decode cX12_count 180 = .ok (.ireturn, 1) := by decide +kernel
theorem dX12_count_181 : decode cX12_count 181 = .ok (.iconst 0, 1) := by decide +kernel
theorem dX12_count_182 : decode cX12_count 182 = .ok (.istore_n 3, 1) := by decide +kernel
theorem dX12_count_183 : decode cX12_count 183 = .ok (.iload_n 3, 1) := by decide +kernel
theorem dX12_count_184 : decode cX12_count 184 = .ok (.aload_n 0, 1) := by decide +kernel
theorem dX12_count_185 : decode cX12_count 185 = .ok (.getfield 13, 3) := by decide +kernel
theorem dX12_count_188 : decode cX12_count 188 = .ok (.iconst 2, 1) := by decide +kernel
theorem dX12_count_189 : decode cX12_count 189 = .ok (.iaload, 1) := by decide +kernel
theorem dX12_count_190 : decode cX12_count 190 = .ok (.if_icmp .ge 17, 3) := by decide +kernel
theorem dX12_count_193 : decode cX12_count 193 = .ok (.iload_n 2, 1) := by decide +kernel
theorem dX12_count_194 : decode cX12_count 194 = .ok (.aload_n 0, 1) := by decide +kernel
theorem dX12_count_195 : decode cX12_count 195 = .ok (.iload_n 3, 1) := by decide +kernel
theorem dX12_count_196 : decode cX12_count 196 = .ok (.invokevirtual 299, 3) := by decide +kernel
theorem dX12_count_199 : decode cX12_count 199 = .ok (.iadd, 1) := by decide +kernel
theorem dX12_count_200 : decode cX12_count 200 = .ok (.istore_n 2, 1) := by decide +kernel
theorem dX12_count_201 : decode cX12_count 201 = .ok (.iinc 3 1, 3) := by decide +kernel
theorem dX12_count_204 : decode cX12_count 204 = .ok (.goto (-21), 3) := by decide +kernel
theorem dX12_count_207 : decode cX12_count 207 = .ok (.iload_n 2, 1) := by decide +kernel
theorem dX12_count_208 : decode cX12_count 208 = .ok (.ireturn, 1) := by decide +kernel
theorem dX12_count_209 : decode cX12_count 209 = .ok (.iconst (-1), 1) := by decide +kernel
theorem dX12_count_210 : decode cX12_count 210 = .ok (.ireturn, 1) := by decide +kernel
