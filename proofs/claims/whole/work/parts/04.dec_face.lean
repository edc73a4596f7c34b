theorem dX11_init_0 : decode cX11_init 0 = .ok (.aload_n 0, 1) := by decide +kernel
theorem dX11_init_1 : decode cX11_init 1 = .ok (.invokespecial 1, 3) := by decide +kernel
theorem dX11_init_4 : decode cX11_init 4 = .ok (.aload_n 0, 1) := by decide +kernel
theorem dX11_init_5 : decode cX11_init 5 = .ok (.new 7, 3) := by decide +kernel
theorem dX11_init_8 : decode cX11_init 8 = .ok (.dup, 1) := by decide +kernel
theorem dX11_init_9 : decode cX11_init 9 = .ok (.invokespecial 9, 3) := by decide +kernel
theorem dX11_init_12 : decode cX11_init 12 = .ok (.putfield 10, 3) := by decide +kernel
theorem dX11_init_15 : decode cX11_init 15 = .ok (.aload_n 0, 1) := by decide +kernel
theorem dX11_init_16 : decode cX11_init 16 = .ok (.new 16, 3) := by decide +kernel
theorem dX11_init_19 : decode cX11_init 19 = .ok (.dup, 1) := by decide +kernel
theorem dX11_init_20 : decode cX11_init 20 = .ok (.aload_n 0, 1) := by decide +kernel
theorem dX11_init_21 : decode cX11_init 21 = .ok (.getfield 10, 3) := by decide +kernel
theorem dX11_init_24 : decode cX11_init 24 = .ok (.invokespecial 18, 3) := by decide +kernel
theorem dX11_init_27 : decode cX11_init 27 = .ok (.putfield 21, 3) := by decide +kernel
theorem dX11_init_30 : decode cX11_init 30 = .ok (.aload_n 0, 1) := by decide +kernel
theorem dX11_init_31 : decode cX11_init 31 = .ok (.new 25, 3) := by decide +kernel
theorem dX11_init_34 : decode cX11_init 34 = .ok (.dup, 1) := by decide +kernel
theorem dX11_init_35 : decode cX11_init 35 = .ok (.invokespecial 27, 3) := by decide +kernel
theorem dX11_init_38 : decode cX11_init 38 = .ok (.putfield 28, 3) := by decide +kernel
theorem dX11_init_41 : decode cX11_init 41 = .ok (.aload_n 0, 1) := by decide +kernel
theorem dX11_init_42 : decode cX11_init 42 = .ok (.new 25, 3) := by decide +kernel
theorem dX11_init_45 : decode cX11_init 45 = .ok (.dup, 1) := by decide +kernel
theorem dX11_init_46 : decode cX11_init 46 = .ok (.invokespecial 27, 3) := by decide +kernel
theorem dX11_init_49 : decode cX11_init 49 = .ok (.putfield 32, 3) := by decide +kernel
theorem dX11_init_52 : decode cX11_init 52 = .ok (.aload_n 0, 1) := by decide +kernel
theorem dX11_init_53 : decode cX11_init 53 = .ok (.new 35, 3) := by decide +kernel
theorem dX11_init_56 : decode cX11_init 56 = .ok (.dup, 1) := by decide +kernel
theorem dX11_init_57 : decode cX11_init 57 = .ok (.aload_n 0, 1) := by decide +kernel
theorem dX11_init_58 : decode cX11_init 58 = .ok (.getfield 28, 3) := by decide +kernel
theorem dX11_init_61 : decode cX11_init 61 = .ok (.invokespecial 37, 3) := by decide +kernel
theorem dX11_init_64 : decode cX11_init 64 = .ok (.putfield 40, 3) := by decide +kernel
theorem dX11_init_67 : decode cX11_init 67 = .ok (.aload_n 0, 1) := by decide +kernel
theorem dX11_init_68 : decode cX11_init 68 = .ok (.new 44, 3) := by decide +kernel
theorem dX11_init_71 : decode cX11_init 71 = .ok (.dup, 1) := by decide +kernel
theorem dX11_init_72 : decode cX11_init 72 = .ok (.aload_n 0, 1) := by decide +kernel
theorem dX11_init_73 : decode cX11_init 73 = .ok (.getfield 28, 3) := by decide +kernel
theorem dX11_init_76 : decode cX11_init 76 = .ok (.aload_n 0, 1) := by decide +kernel
theorem dX11_init_77 : decode cX11_init 77 = .ok (.getfield 40, 3) := by decide +kernel
theorem dX11_init_80 : decode cX11_init 80 = .ok (.invokespecial 46, 3) := by decide +kernel
theorem dX11_init_83 : decode cX11_init 83 = .ok (.putfield 49, 3) := by decide +kernel
theorem dX11_init_86 : decode cX11_init 86 = .ok (.aload_n 0, 1) := by decide +kernel
theorem dX11_init_87 : decode cX11_init 87 = .ok (.new 53, 3) := by decide +kernel
theorem dX11_init_90 : decode cX11_init 90 = .ok (.dup, 1) := by decide +kernel
theorem dX11_init_91 : decode cX11_init 91 = .ok (.aload_n 0, 1) := by decide +kernel
theorem dX11_init_92 : decode cX11_init 92 = .ok (.getfield 28, 3) := by decide +kernel
theorem dX11_init_95 : decode cX11_init 95 = .ok (.aload_n 0, 1) := by decide +kernel
theorem dX11_init_96 : decode cX11_init 96 = .ok (.getfield 40, 3) := by decide +kernel
theorem dX11_init_99 : decode cX11_init 99 = .ok (.invokespecial 55, 3) := by decide +kernel
theorem dX11_init_102 : decode cX11_init 102 = .ok (.putfield 56, 3) := by decide +kernel
theorem dX11_init_105 : decode cX11_init 105 = .ok (.aload_n 0, 1) := by decide +kernel
theorem dX11_init_106 : decode cX11_init 106 = .ok (.new 60, 3) := by decide +kernel
theorem dX11_init_109 : decode cX11_init 109 = .ok (.dup, 1) := by decide +kernel
theorem dX11_init_110 : decode cX11_init 110 = .ok (.aload_n 0, 1) := by decide +kernel
theorem dX11_init_111 : decode cX11_init 111 = .ok (.getfield 28, 3) := by decide +kernel
theorem dX11_init_114 : decode cX11_init 114 = .ok (.aload_n 0, 1) := by decide +kernel
theorem dX11_init_115 : decode cX11_init 115 = .ok (.getfield 40, 3) := by decide +kernel
theorem dX11_init_118 : decode cX11_init 118 = .ok (.invokespecial 62, 3) := by decide +kernel
theorem dX11_init_121 : decode cX11_init 121 = .ok (.putfield 63, 3) := by decide +kernel
theorem dX11_init_124 : decode cX11_init 124 = .ok (.return_, 1) := by decide +kernel
theorem dX11_feed_0 : decode cX11_feed 0 = .ok (.aload_n 0, 1) := by decide +kernel
theorem dX11_feed_1 : decode cX11_feed 1 = .ok (.getfield 10, 3) := by decide +kernel
theorem dX11_feed_4 : decode cX11_feed 4 = .ok (.getfield 67, 3) := by decide +kernel
theorem dX11_feed_7 : decode cX11_feed 7 = .ok (.bipush 20, 2) := by decide +kernel
theorem dX11_feed_9 : decode cX11_feed 9 = .ok (.iadd, 1) := by decide +kernel
theorem dX11_feed_10 : decode cX11_feed 10 = .ok (.sipush 400, 3) := by decide +kernel
theorem dX11_feed_13 : decode cX11_feed 13 = .ok (.if_icmp .le 5, 3) := by decide +kernel
theorem dX11_feed_16 : decode cX11_feed 16 = .ok (.iconst (-1), 1) := by decide +kernel
theorem dX11_feed_17 : decode cX11_feed 17 = .ok (.ireturn, 1) := by decide +kernel
theorem dX11_feed_18 : decode cX11_feed 18 = .ok (.aload_n 0, 1) := by decide +kernel
theorem dX11_feed_19 : decode cX11_feed 19 = .ok (.getfield 10, 3) := by decide +kernel
theorem dX11_feed_22 : decode cX11_feed 22 = .ok (.iload_n 1, 1) := by decide +kernel
theorem dX11_feed_23 : decode cX11_feed 23 = .ok (.invokevirtual 71, 3) := by decide +kernel
theorem dX11_feed_26 : decode cX11_feed 26 = .ok (.aload_n 0, 1) := by decide +kernel
theorem dX11_feed_27 : decode cX11_feed 27 = .ok (.getfield 10, 3) := by decide +kernel
theorem dX11_feed_30 : decode cX11_feed 30 = .ok (.iload_n 2, 1) := by decide +kernel
theorem dX11_feed_31 : decode cX11_feed 31 = .ok (.invokevirtual 71, 3) := by decide +kernel
theorem dX11_feed_34 : decode cX11_feed 34 = .ok (.aload_n 0, 1) := by decide +kernel
theorem dX11_feed_35 : decode cX11_feed 35 = .ok (.getfield 10, 3) := by decide +kernel
theorem dX11_feed_38 : decode cX11_feed 38 = .ok (.iload_n 3, 1) := by decide +kernel
theorem dX11_feed_39 : decode cX11_feed 39 = .ok (.invokevirtual 71, 3) := by decide +kernel
theorem dX11_feed_42 : decode cX11_feed 42 = .ok (.aload_n 0, 1) := by decide +kernel
theorem dX11_feed_43 : decode cX11_feed 43 = .ok (.getfield 10, 3) := by decide +kernel
theorem dX11_feed_46 : decode cX11_feed 46 = .ok (.iload 4, 2) := by decide +kernel
theorem dX11_feed_48 : decode cX11_feed 48 = .ok (.invokevirtual 71, 3) := by decide +kernel
theorem dX11_feed_51 : decode cX11_feed 51 = .ok (.aload_n 0, 1) := by decide +kernel
theorem dX11_feed_52 : decode cX11_feed 52 = .ok (.getfield 10, 3) := by decide +kernel
theorem dX11_feed_55 : decode cX11_feed 55 = .ok (.iload 5, 2) := by decide +kernel
theorem dX11_feed_57 : decode cX11_feed 57 = .ok (.invokevirtual 71, 3) := by decide +kernel
theorem dX11_feed_60 : decode cX11_feed 60 = .ok (.aload_n 0, 1) := by decide +kernel
theorem dX11_feed_61 : decode cX11_feed 61 = .ok (.getfield 10, 3) := by decide +kernel
theorem dX11_feed_64 : decode cX11_feed 64 = .ok (.getfield 67, 3) := by decide +kernel
theorem dX11_feed_67 : decode cX11_feed 67 = .ok (.ireturn, 1) := by decide +kernel
theorem dX11_end_0 : decode cX11_end 0 = .ok (.iload_n 1, 1) := by decide +kernel
theorem dX11_end_1 : decode cX11_end 1 = .ok (.aload_n 0, 1) := by decide +kernel
theorem dX11_end_2 : decode cX11_end 2 = .ok (.getfield 10, 3) := by decide +kernel
theorem dX11_end_5 : decode cX11_end 5 = .ok (.getfield 67, 3) := by decide +kernel
theorem dX11_end_8 : decode cX11_end 8 = .ok (.invokestatic 75, 3) := by decide +kernel
theorem dX11_end_11 : decode cX11_end 11 = .ok (.ifCond .ne 5, 3) := by decide +kernel
theorem dX11_end_14 : decode cX11_end 14 = .ok (.iconst 0, 1) := by decide +kernel
theorem dX11_end_15 : decode cX11_end 15 = .ok (.ireturn, 1) := by decide +kernel
theorem dX11_end_16 : decode cX11_end 16 = .ok (.aload_n 0, 1) := by decide +kernel
theorem dX11_end_17 : decode cX11_end 17 = .ok (.getfield 10, 3) := by decide +kernel
theorem dX11_end_20 : decode cX11_end 20 = .ok (.iload_n 1, 1) := by decide +kernel
theorem dX11_end_21 : decode cX11_end 21 = .ok (.putfield 67, 3) := by decide +kernel
theorem dX11_end_24 : decode cX11_end 24 = .ok (.iconst 1, 1) := by decide +kernel
theorem dX11_end_25 : decode cX11_end 25 = .ok (.ireturn, 1) := by decide +kernel
theorem dX11_game_0 : decode cX11_game 0 = .ok (.aload_n 0, 1) := by decide +kernel
theorem dX11_game_1 : decode cX11_game 1 = .ok (.getfield 21, 3) := by decide +kernel
theorem dX11_game_4 : decode cX11_game 4 = .ok (.aload_n 0, 1) := by decide +kernel
theorem dX11_game_5 : decode cX11_game 5 = .ok (.getfield 28, 3) := by decide +kernel
theorem dX11_game_8 : decode cX11_game 8 = .ok (.invokevirtual 79, 3) := by decide +kernel
theorem dX11_game_11 : decode cX11_game 11 = .ok (.istore_n 1, 1) := by decide +kernel
theorem dX11_game_12 : decode cX11_game 12 = .ok (.aload_n 0, 1) := by decide +kernel
theorem dX11_game_13 : decode cX11_game 13 = .ok (.getfield 10, 3) := by decide +kernel
theorem dX11_game_16 : decode cX11_game 16 = .ok (.iconst 0, 1) := by decide +kernel
theorem dX11_game_17 : decode cX11_game 17 = .ok (.putfield 67, 3) := by decide +kernel
theorem dX11_game_20 : decode cX11_game 20 = .ok (.iload_n 1, 1) := by decide +kernel
theorem dX11_game_21 : decode cX11_game 21 = .ok (.invokestatic 83, 3) := by decide +kernel
theorem dX11_game_24 : decode cX11_game 24 = .ok (.aload_n 0, 1) := by decide +kernel
theorem dX11_game_25 : decode cX11_game 25 = .ok (.getfield 28, 3) := by decide +kernel
theorem dX11_game_28 : decode cX11_game 28 = .ok (.getfield 87, 3) := by decide +kernel
theorem dX11_game_31 : decode cX11_game 31 = .ok (.bipush 12, 2) := by decide +kernel
theorem dX11_game_33 : decode cX11_game 33 = .ok (.if_icmp .ge 7, 3) := by decide +kernel
theorem dX11_game_36 : decode cX11_game 36 = .ok (.iconst 1, 1) := by decide +kernel
theorem dX11_game_37 : decode cX11_game 37 = .ok (.goto 4, 3) := by decide +kernel
theorem dX11_game_40 : decode cX11_game 40 = .ok (.iconst 0, 1) := by decide +kernel
theorem dX11_game_41 : decode cX11_game 41 = .ok (.invokestatic 90, 3) := by decide +kernel
theorem dX11_game_44 : decode cX11_game 44 = .ok (.aload_n 0, 1) := by decide +kernel
theorem dX11_game_45 : decode cX11_game 45 = .ok (.getfield 28, 3) := by decide +kernel
theorem dX11_game_48 : decode cX11_game 48 = .ok (.aload_n 0, 1) := by decide +kernel
theorem dX11_game_49 : decode cX11_game 49 = .ok (.getfield 21, 3) := by decide +kernel
theorem dX11_game_52 : decode cX11_game 52 = .ok (.getfield 93, 3) := by decide +kernel
theorem dX11_game_55 : decode cX11_game 55 = .ok (.invokevirtual 96, 3) := by decide +kernel
theorem dX11_game_58 : decode cX11_game 58 = .ok (.aload_n 0, 1) := by decide +kernel
theorem dX11_game_59 : decode cX11_game 59 = .ok (.getfield 28, 3) := by decide +kernel
theorem dX11_game_62 : decode cX11_game 62 = .ok (.dup, 1) := by decide +kernel
theorem dX11_game_63 : decode cX11_game 63 = .ok (.getfield 87, 3) := by decide +kernel
theorem dX11_game_66 : decode cX11_game 66 = .ok (.iconst 1, 1) := by decide +kernel
theorem dX11_game_67 : decode cX11_game 67 = .ok (.iadd, 1) := by decide +kernel
theorem dX11_game_68 : decode cX11_game 68 = .ok (.putfield 87, 3) := by decide +kernel
theorem dX11_game_71 : decode cX11_game 71 = .ok (.aload_n 0, 1) := by decide +kernel
theorem dX11_game_72 : decode cX11_game 72 = .ok (.getfield 28, 3) := by decide +kernel
theorem dX11_game_75 : decode cX11_game 75 = .ok (.getfield 87, 3) := by decide +kernel
theorem dX11_game_78 : decode cX11_game 78 = .ok (.ireturn, 1) := by decide +kernel
theorem dX11_goals_0 : decode cX11_goals 0 = .ok (.aload_n 0, 1) := by decide +kernel
theorem dX11_goals_1 : decode cX11_goals 1 = .ok (.getfield 21, 3) := by decide +kernel
theorem dX11_goals_4 : decode cX11_goals 4 = .ok (.iconst 1, 1) := by decide +kernel
theorem dX11_goals_5 : decode cX11_goals 5 = .ok (.invokevirtual 99, 3) := by decide +kernel
theorem dX11_goals_8 : decode cX11_goals 8 = .ok (.istore_n 1, 1) := by decide +kernel
theorem dX11_goals_9 : decode cX11_goals 9 = .ok (.aload_n 0, 1) := by decide +kernel
theorem dX11_goals_10 : decode cX11_goals 10 = .ok (.getfield 10, 3) := by decide +kernel
theorem dX11_goals_13 : decode cX11_goals 13 = .ok (.iconst 0, 1) := by decide +kernel
theorem dX11_goals_14 : decode cX11_goals 14 = .ok (.putfield 67, 3) := by decide +kernel
theorem dX11_goals_17 : decode cX11_goals 17 = .ok (.iload_n 1, 1) := by decide +kernel
theorem dX11_goals_18 : decode cX11_goals 18 = .ok (.invokestatic 83, 3) := by decide +kernel
theorem dX11_goals_21 : decode cX11_goals 21 = .ok (.aload_n 0, 1) := by decide +kernel
theorem dX11_goals_22 : decode cX11_goals 22 = .ok (.getfield 28, 3) := by decide +kernel
theorem dX11_goals_25 : decode cX11_goals 25 = .ok (.aload_n 0, 1) := by decide +kernel
theorem dX11_goals_26 : decode cX11_goals 26 = .ok (.getfield 21, 3) := by decide +kernel
theorem dX11_goals_29 : decode cX11_goals 29 = .ok (.invokevirtual 103, 3) := by decide +kernel
theorem dX11_goals_32 : decode cX11_goals 32 = .ok (.putfield 107, 3) := by decide +kernel
theorem dX11_goals_35 : decode cX11_goals 35 = .ok (.aload_n 0, 1) := by decide +kernel
theorem dX11_goals_36 : decode cX11_goals 36 = .ok (.getfield 28, 3) := by decide +kernel
theorem dX11_goals_39 : decode cX11_goals 39 = .ok (.iconst 1, 1) := by decide +kernel
theorem dX11_goals_40 : decode cX11_goals 40 = .ok (.putfield 111, 3) := by decide +kernel
theorem dX11_goals_43 : decode cX11_goals 43 = .ok (.aload_n 0, 1) := by decide +kernel
theorem dX11_goals_44 : decode cX11_goals 44 = .ok (.getfield 28, 3) := by decide +kernel
theorem dX11_goals_47 : decode cX11_goals 47 = .ok (.getfield 107, 3) := by decide +kernel
theorem dX11_goals_50 : decode cX11_goals 50 = .ok (.getfield 115, 3) := by decide +kernel
theorem dX11_goals_53 : decode cX11_goals 53 = .ok (.ireturn, 1) := by decide +kernel
theorem dX11_rule_0 : decode cX11_rule 0 = .ok (.aload_n 0, 1) := by decide +kernel
theorem dX11_rule_1 : decode cX11_rule 1 = .ok (.getfield 21, 3) := by decide +kernel
theorem dX11_rule_4 : decode cX11_rule 4 = .ok (.iconst 2, 1) := by decide +kernel
theorem dX11_rule_5 : decode cX11_rule 5 = .ok (.invokevirtual 99, 3) := by decide +kernel
theorem dX11_rule_8 : decode cX11_rule 8 = .ok (.istore_n 1, 1) := by decide +kernel
theorem dX11_rule_9 : decode cX11_rule 9 = .ok (.aload_n 0, 1) := by decide +kernel
theorem dX11_rule_10 : decode cX11_rule 10 = .ok (.getfield 10, 3) := by decide +kernel
theorem dX11_rule_13 : decode cX11_rule 13 = .ok (.iconst 0, 1) := by decide +kernel
theorem dX11_rule_14 : decode cX11_rule 14 = .ok (.putfield 67, 3) := by decide +kernel
theorem dX11_rule_17 : decode cX11_rule 17 = .ok (.iload_n 1, 1) := by decide +kernel
theorem dX11_rule_18 : decode cX11_rule 18 = .ok (.invokestatic 83, 3) := by decide +kernel
theorem dX11_rule_21 : decode cX11_rule 21 = .ok (.aload_n 0, 1) := by decide +kernel
theorem dX11_rule_22 : decode cX11_rule 22 = .ok (.getfield 28, 3) := by decide +kernel
theorem dX11_rule_25 : decode cX11_rule 25 = .ok (.getfield 120, 3) := by decide +kernel
theorem dX11_rule_28 : decode cX11_rule 28 = .ok (.iconst 4, 1) := by decide +kernel
theorem dX11_rule_29 : decode cX11_rule 29 = .ok (.if_icmp .ge 7, 3) := by decide +kernel
theorem dX11_rule_32 : decode cX11_rule 32 = .ok (.iconst 1, 1) := by decide +kernel
theorem dX11_rule_33 : decode cX11_rule 33 = .ok (.goto 4, 3) := by decide +kernel
theorem dX11_rule_36 : decode cX11_rule 36 = .ok (.iconst 0, 1) := by decide +kernel
theorem dX11_rule_37 : decode cX11_rule 37 = .ok (.invokestatic 90, 3) := by decide +kernel
theorem dX11_rule_40 : decode cX11_rule 40 = .ok (.iconst 5, 1) := by decide +kernel
theorem dX11_rule_41 : decode cX11_rule 41 = .ok (.aload_n 0, 1) := by decide +kernel
theorem dX11_rule_42 : decode cX11_rule 42 = .ok (.getfield 28, 3) := by decide +kernel
theorem dX11_rule_45 : decode cX11_rule 45 = .ok (.aload_n 0, 1) := by decide +kernel
theorem dX11_rule_46 : decode cX11_rule 46 = .ok (.getfield 21, 3) := by decide +kernel
theorem dX11_rule_49 : decode cX11_rule 49 = .ok (.invokevirtual 103, 3) := by decide +kernel
theorem dX11_rule_52 : decode cX11_rule 52 = .ok (.invokevirtual 123, 3) := by decide +kernel
theorem dX11_rule_55 : decode cX11_rule 55 = .ok (.iadd, 1) := by decide +kernel
theorem dX11_rule_56 : decode cX11_rule 56 = .ok (.ireturn, 1) := by decide +kernel
theorem dX11_fault_0 : decode cX11_fault 0 = .ok (.aload_n 0, 1) := by decide +kernel
theorem dX11_fault_1 : decode cX11_fault 1 = .ok (.getfield 21, 3) := by decide +kernel
theorem dX11_fault_4 : decode cX11_fault 4 = .ok (.getfield 127, 3) := by decide +kernel
theorem dX11_fault_7 : decode cX11_fault 7 = .ok (.ireturn, 1) := by decide +kernel
theorem dX11_follows_0 : decode cX11_follows 0 = .ok (.iload_n 1, 1) := by decide +kernel
theorem dX11_follows_1 : decode cX11_follows 1 = .ok (.invokestatic 130, 3) := by decide +kernel
theorem dX11_follows_4 : decode cX11_follows 4 = .ok (.invokestatic 133, 3) := by decide +kernel
theorem dX11_follows_7 : decode cX11_follows 7 = .ok (.iload_n 2, 1) := by decide +kernel
theorem dX11_follows_8 : decode cX11_follows 8 = .ok (.bipush 34, 2) := by decide +kernel
theorem dX11_follows_10 : decode cX11_follows 10 = .ok (.invokestatic 136, 3) := by decide +kernel
theorem dX11_follows_13 : decode cX11_follows 13 = .ok (.iload_n 2, 1) := by decide +kernel
theorem dX11_follows_14 : decode cX11_follows 14 = .ok (.bipush 34, 2) := by decide +kernel
theorem dX11_follows_16 : decode cX11_follows 16 = .ok (.if_icmp .ne 17, 3) := by decide +kernel
theorem dX11_follows_19 : decode cX11_follows 19 = .ok (.bipush 100, 2) := by decide +kernel
theorem dX11_follows_21 : decode cX11_follows 21 = .ok (.aload_n 0, 1) := by decide +kernel
theorem dX11_follows_22 : decode cX11_follows 22 = .ok (.getfield 28, 3) := by decide +kernel
theorem dX11_follows_25 : decode cX11_follows 25 = .ok (.iload_n 1, 1) := by decide +kernel
theorem dX11_follows_26 : decode cX11_follows 26 = .ok (.invokevirtual 140, 3) := by decide +kernel
theorem dX11_follows_29 : decode cX11_follows 29 = .ok (.isub, 1) := by decide +kernel
theorem dX11_follows_30 : decode cX11_follows 30 = .ok (.goto 12, 3) := by decide +kernel
theorem dX11_follows_33 : decode cX11_follows 33 = .ok (.aload_n 0, 1) := by decide +kernel
theorem dX11_follows_34 : decode cX11_follows 34 = .ok (.getfield 28, 3) := by decide +kernel
theorem dX11_follows_37 : decode cX11_follows 37 = .ok (.iload_n 1, 1) := by decide +kernel
theorem dX11_follows_38 : decode cX11_follows 38 = .ok (.iload_n 2, 1) := by decide +kernel
theorem dX11_follows_39 : decode cX11_follows 39 = .ok (.invokevirtual 144, 3) := by decide +kernel
theorem dX11_follows_42 : decode cX11_follows 42 = .ok (.ireturn, 1) := by decide +kernel
theorem dX11_kick_0 : decode cX11_kick 0 = .ok (.iload_n 1, 1) := by decide +kernel
theorem dX11_kick_1 : decode cX11_kick 1 = .ok (.invokestatic 148, 3) := by decide +kernel
theorem dX11_kick_4 : decode cX11_kick 4 = .ok (.invokestatic 133, 3) := by decide +kernel
theorem dX11_kick_7 : decode cX11_kick 7 = .ok (.aload_n 0, 1) := by decide +kernel
theorem dX11_kick_8 : decode cX11_kick 8 = .ok (.getfield 28, 3) := by decide +kernel
theorem dX11_kick_11 : decode cX11_kick 11 = .ok (.getfield 151, 3) := by decide +kernel
theorem dX11_kick_14 : decode cX11_kick 14 = .ok (.iload_n 1, 1) := by decide +kernel
theorem dX11_kick_15 : decode cX11_kick 15 = .ok (.invokestatic 155, 3) := by decide +kernel
theorem dX11_kick_18 : decode cX11_kick 18 = .ok (.ireturn, 1) := by decide +kernel
theorem dX11_now_0 : decode cX11_now 0 = .ok (.iload_n 1, 1) := by decide +kernel
theorem dX11_now_1 : decode cX11_now 1 = .ok (.bipush 90, 2) := by decide +kernel
theorem dX11_now_3 : decode cX11_now 3 = .ok (.invokestatic 75, 3) := by decide +kernel
theorem dX11_now_6 : decode cX11_now 6 = .ok (.ifCond .eq 19, 3) := by decide +kernel
theorem dX11_now_9 : decode cX11_now 9 = .ok (.iload_n 2, 1) := by decide +kernel
theorem dX11_now_10 : decode cX11_now 10 = .ok (.bipush (-9), 2) := by decide +kernel
theorem dX11_now_12 : decode cX11_now 12 = .ok (.if_icmp .lt 13, 3) := by decide +kernel
theorem dX11_now_15 : decode cX11_now 15 = .ok (.iload_n 2, 1) := by decide +kernel
theorem dX11_now_16 : decode cX11_now 16 = .ok (.bipush 9, 2) := by decide +kernel
theorem dX11_now_18 : decode cX11_now 18 = .ok (.if_icmp .gt 7, 3) := by decide +kernel
theorem dX11_now_21 : decode cX11_now 21 = .ok (.iconst 1, 1) := by decide +kernel
theorem dX11_now_22 : decode cX11_now 22 = .ok (.goto 4, 3) := by decide +kernel
theorem dX11_now_25 : decode cX11_now 25 = .ok (.iconst 0, 1) := by decide +kernel
theorem dX11_now_26 : decode cX11_now 26 = .ok (.invokestatic 83, 3) := by decide +kernel
theorem dX11_now_29 : decode cX11_now 29 = .ok (.aload_n 0, 1) := by decide +kernel
theorem dX11_now_30 : decode cX11_now 30 = .ok (.getfield 28, 3) := by decide +kernel
theorem dX11_now_33 : decode cX11_now 33 = .ok (.iload_n 1, 1) := by decide +kernel
theorem dX11_now_34 : decode cX11_now 34 = .ok (.putfield 161, 3) := by decide +kernel
theorem dX11_now_37 : decode cX11_now 37 = .ok (.aload_n 0, 1) := by decide +kernel
theorem dX11_now_38 : decode cX11_now 38 = .ok (.getfield 28, 3) := by decide +kernel
theorem dX11_now_41 : decode cX11_now 41 = .ok (.iload_n 2, 1) := by decide +kernel
theorem dX11_now_42 : decode cX11_now 42 = .ok (.putfield 164, 3) := by decide +kernel
theorem dX11_now_45 : decode cX11_now 45 = .ok (.return_, 1) := by decide +kernel
theorem dX11_goal_0 : decode cX11_goal 0 = .ok (.aload_n 0, 1) := by decide +kernel
theorem dX11_goal_1 : decode cX11_goal 1 = .ok (.getfield 40, 3) := by decide +kernel
theorem dX11_goal_4 : decode cX11_goal 4 = .ok (.aload_n 0, 1) := by decide +kernel
theorem dX11_goal_5 : decode cX11_goal 5 = .ok (.getfield 28, 3) := by decide +kernel
theorem dX11_goal_8 : decode cX11_goal 8 = .ok (.getfield 161, 3) := by decide +kernel
theorem dX11_goal_11 : decode cX11_goal 11 = .ok (.invokevirtual 167, 3) := by decide +kernel
theorem dX11_goal_14 : decode cX11_goal 14 = .ok (.ireturn, 1) := by decide +kernel
theorem dX11_lost_0 : decode cX11_lost 0 = .ok (.iload_n 1, 1) := by decide +kernel
theorem dX11_lost_1 : decode cX11_lost 1 = .ok (.sipush 9999, 3) := by decide +kernel
theorem dX11_lost_4 : decode cX11_lost 4 = .ok (.invokestatic 75, 3) := by decide +kernel
theorem dX11_lost_7 : decode cX11_lost 7 = .ok (.invokestatic 83, 3) := by decide +kernel
theorem dX11_lost_10 : decode cX11_lost 10 = .ok (.aload_n 0, 1) := by decide +kernel
theorem dX11_lost_11 : decode cX11_lost 11 = .ok (.getfield 28, 3) := by decide +kernel
theorem dX11_lost_14 : decode cX11_lost 14 = .ok (.iload_n 1, 1) := by decide +kernel
theorem dX11_lost_15 : decode cX11_lost 15 = .ok (.putfield 170, 3) := by decide +kernel
theorem dX11_lost_18 : decode cX11_lost 18 = .ok (.return_, 1) := by decide +kernel
theorem dX11_horizon_0 : decode cX11_horizon 0 = .ok (.iload_n 1, 1) := by decide +kernel
theorem dX11_horizon_1 : decode cX11_horizon 1 = .ok (.ifCond .eq 16, 3) := by decide +kernel
theorem dX11_horizon_4 : decode cX11_horizon 4 = .ok (.iload_n 1, 1) := by decide +kernel
theorem dX11_horizon_5 : decode cX11_horizon 5 = .ok (.bipush 60, 2) := by decide +kernel
theorem dX11_horizon_7 : decode cX11_horizon 7 = .ok (.invokestatic 75, 3) := by decide +kernel
theorem dX11_horizon_10 : decode cX11_horizon 10 = .ok (.ifCond .eq 7, 3) := by decide +kernel
theorem dX11_horizon_13 : decode cX11_horizon 13 = .ok (.iconst 1, 1) := by decide +kernel
theorem dX11_horizon_14 : decode cX11_horizon 14 = .ok (.goto 4, 3) := by decide +kernel
theorem dX11_horizon_17 : decode cX11_horizon 17 = .ok (.iconst 0, 1) := by decide +kernel
theorem dX11_horizon_18 : decode cX11_horizon 18 = .ok (.invokestatic 83, 3) := by decide +kernel
theorem dX11_horizon_21 : decode cX11_horizon 21 = .ok (.aload_n 0, 1) := by decide +kernel
theorem dX11_horizon_22 : decode cX11_horizon 22 = .ok (.getfield 28, 3) := by decide +kernel
theorem dX11_horizon_25 : decode cX11_horizon 25 = .ok (.iload_n 1, 1) := by decide +kernel
theorem dX11_horizon_26 : decode cX11_horizon 26 = .ok (.putfield 173, 3) := by decide +kernel
theorem dX11_horizon_29 : decode cX11_horizon 29 = .ok (.return_, 1) := by decide +kernel
theorem dX11_grace_0 : decode cX11_grace 0 = .ok (.iload_n 1, 1) := by decide +kernel
theorem dX11_grace_1 : decode cX11_grace 1 = .ok (.bipush 10, 2) := by decide +kernel
theorem dX11_grace_3 : decode cX11_grace 3 = .ok (.invokestatic 75, 3) := by decide +kernel
theorem dX11_grace_6 : decode cX11_grace 6 = .ok (.invokestatic 83, 3) := by decide +kernel
theorem dX11_grace_9 : decode cX11_grace 9 = .ok (.aload_n 0, 1) := by decide +kernel
theorem dX11_grace_10 : decode cX11_grace 10 = .ok (.getfield 28, 3) := by decide +kernel
theorem dX11_grace_13 : decode cX11_grace 13 = .ok (.iload_n 1, 1) := by decide +kernel
theorem dX11_grace_14 : decode cX11_grace 14 = .ok (.putfield 176, 3) := by decide +kernel
theorem dX11_grace_17 : decode cX11_grace 17 = .ok (.return_, 1) := by decide +kernel
theorem dX11_sort_0 : decode cX11_sort 0 = .ok (.iload_n 1, 1) := by decide +kernel
theorem dX11_sort_1 : decode cX11_sort 1 = .ok (.sipush 9999, 3) := by decide +kernel
theorem dX11_sort_4 : decode cX11_sort 4 = .ok (.invokestatic 75, 3) := by decide +kernel
theorem dX11_sort_7 : decode cX11_sort 7 = .ok (.ifCond .eq 16, 3) := by decide +kernel
theorem dX11_sort_10 : decode cX11_sort 10 = .ok (.iload_n 2, 1) := by decide +kernel
theorem dX11_sort_11 : decode cX11_sort 11 = .ok (.bipush 100, 2) := by decide +kernel
theorem dX11_sort_13 : decode cX11_sort 13 = .ok (.invokestatic 75, 3) := by decide +kernel
theorem dX11_sort_16 : decode cX11_sort 16 = .ok (.ifCond .eq 7, 3) := by decide +kernel
theorem dX11_sort_19 : decode cX11_sort 19 = .ok (.iconst 1, 1) := by decide +kernel
theorem dX11_sort_20 : decode cX11_sort 20 = .ok (.goto 4, 3) := by decide +kernel
theorem dX11_sort_23 : decode cX11_sort 23 = .ok (.iconst 0, 1) := by decide +kernel
theorem dX11_sort_24 : decode cX11_sort 24 = .ok (.invokestatic 83, 3) := by decide +kernel
theorem dX11_sort_27 : decode cX11_sort 27 = .ok (.aload_n 0, 1) := by decide +kernel
theorem dX11_sort_28 : decode cX11_sort 28 = .ok (.getfield 28, 3) := by decide +kernel
theorem dX11_sort_31 : decode cX11_sort 31 = .ok (.getfield 179, 3) := by decide +kernel
theorem dX11_sort_34 : decode cX11_sort 34 = .ok (.bipush 6, 2) := by decide +kernel
theorem dX11_sort_36 : decode cX11_sort 36 = .ok (.if_icmp .ge 7, 3) := by decide +kernel
theorem dX11_sort_39 : decode cX11_sort 39 = .ok (.iconst 1, 1) := by decide +kernel
theorem dX11_sort_40 : decode cX11_sort 40 = .ok (.goto 4, 3) := by decide +kernel
theorem dX11_sort_43 : decode cX11_sort 43 = .ok (.iconst 0, 1) := by decide +kernel
theorem dX11_sort_44 : decode cX11_sort 44 = .ok (.invokestatic 90, 3) := by decide +kernel
theorem dX11_sort_47 : decode cX11_sort 47 = .ok (.aload_n 0, 1) := by decide +kernel
theorem dX11_sort_48 : decode cX11_sort 48 = .ok (.getfield 28, 3) := by decide +kernel
theorem dX11_sort_51 : decode cX11_sort 51 = .ok (.iload_n 1, 1) := by decide +kernel
theorem dX11_sort_52 : decode cX11_sort 52 = .ok (.iload_n 2, 1) := by decide +kernel
theorem dX11_sort_53 : decode cX11_sort 53 = .ok (.invokevirtual 182, 3) := by decide +kernel
theorem dX11_sort_56 : decode cX11_sort 56 = .ok (.ireturn, 1) := by decide +kernel
theorem dX11_patience_0 : decode cX11_patience 0 = .ok (.iload_n 1, 1) := by decide +kernel
theorem dX11_patience_1 : decode cX11_patience 1 = .ok (.bipush 99, 2) := by decide +kernel
theorem dX11_patience_3 : decode cX11_patience 3 = .ok (.invokestatic 75, 3) := by decide +kernel
theorem dX11_patience_6 : decode cX11_patience 6 = .ok (.invokestatic 83, 3) := by decide +kernel
theorem dX11_patience_9 : decode cX11_patience 9 = .ok (.aload_n 0, 1) := by decide +kernel
theorem dX11_patience_10 : decode cX11_patience 10 = .ok (.getfield 28, 3) := by decide +kernel
theorem dX11_patience_13 : decode cX11_patience 13 = .ok (.iload_n 1, 1) := by decide +kernel
theorem dX11_patience_14 : decode cX11_patience 14 = .ok (.putfield 185, 3) := by decide +kernel
theorem dX11_patience_17 : decode cX11_patience 17 = .ok (.return_, 1) := by decide +kernel
theorem dX11_worth_0 : decode cX11_worth 0 = .ok (.iload_n 1, 1) := by decide +kernel
theorem dX11_worth_1 : decode cX11_worth 1 = .ok (.invokestatic 130, 3) := by decide +kernel
theorem dX11_worth_4 : decode cX11_worth 4 = .ok (.invokestatic 133, 3) := by decide +kernel
theorem dX11_worth_7 : decode cX11_worth 7 = .ok (.iload_n 2, 1) := by decide +kernel
theorem dX11_worth_8 : decode cX11_worth 8 = .ok (.bipush 60, 2) := by decide +kernel
theorem dX11_worth_10 : decode cX11_worth 10 = .ok (.invokestatic 75, 3) := by decide +kernel
theorem dX11_worth_13 : decode cX11_worth 13 = .ok (.invokestatic 83, 3) := by decide +kernel
theorem dX11_worth_16 : decode cX11_worth 16 = .ok (.aload_n 0, 1) := by decide +kernel
theorem dX11_worth_17 : decode cX11_worth 17 = .ok (.getfield 40, 3) := by decide +kernel
theorem dX11_worth_20 : decode cX11_worth 20 = .ok (.aload_n 0, 1) := by decide +kernel
theorem dX11_worth_21 : decode cX11_worth 21 = .ok (.getfield 28, 3) := by decide +kernel
theorem dX11_worth_24 : decode cX11_worth 24 = .ok (.getfield 161, 3) := by decide +kernel
theorem dX11_worth_27 : decode cX11_worth 27 = .ok (.iload_n 2, 1) := by decide +kernel
theorem dX11_worth_28 : decode cX11_worth 28 = .ok (.invokevirtual 188, 3) := by decide +kernel
theorem dX11_worth_31 : decode cX11_worth 31 = .ok (.aload_n 0, 1) := by decide +kernel
theorem dX11_worth_32 : decode cX11_worth 32 = .ok (.getfield 40, 3) := by decide +kernel
theorem dX11_worth_35 : decode cX11_worth 35 = .ok (.iload_n 1, 1) := by decide +kernel
theorem dX11_worth_36 : decode cX11_worth 36 = .ok (.iload_n 2, 1) := by decide +kernel
theorem dX11_worth_37 : decode cX11_worth 37 = .ok (.invokevirtual 191, 3) := by decide +kernel
theorem dX11_worth_40 : decode cX11_worth 40 = .ok (.i2l, 1) := by decide +kernel
theorem dX11_worth_41 : decode cX11_worth 41 = .ok (.lreturn, 1) := by decide +kernel
theorem dX11_stop_0 : decode cX11_stop 0 = .ok (.aload_n 0, 1) := by decide +kernel
theorem dX11_stop_1 : decode cX11_stop 1 = .ok (.iload_n 1, 1) := by decide +kernel
theorem dX11_stop_2 : decode cX11_stop 2 = .ok (.iload_n 2, 1) := by decide +kernel
theorem dX11_stop_3 : decode cX11_stop 3 = .ok (.invokevirtual 194, 3) := by decide +kernel
theorem dX11_stop_6 : decode cX11_stop 6 = .ok (.aload_n 0, 1) := by decide +kernel
theorem dX11_stop_7 : decode cX11_stop 7 = .ok (.getfield 28, 3) := by decide +kernel
theorem dX11_stop_10 : decode cX11_stop 10 = .ok (.iload_n 1, 1) := by decide +kernel
theorem dX11_stop_11 : decode cX11_stop 11 = .ok (.invokevirtual 197, 3) := by decide +kernel
theorem dX11_stop_14 : decode cX11_stop 14 = .ok (.istore 4, 2) := by decide +kernel
theorem dX11_stop_16 : decode cX11_stop 16 = .ok (.iload_n 3, 1) := by decide +kernel
theorem dX11_stop_17 : decode cX11_stop 17 = .ok (.ifCond .eq 16, 3) := by decide +kernel
theorem dX11_stop_20 : decode cX11_stop 20 = .ok (.aload_n 0, 1) := by decide +kernel
theorem dX11_stop_21 : decode cX11_stop 21 = .ok (.getfield 28, 3) := by decide +kernel
theorem dX11_stop_24 : decode cX11_stop 24 = .ok (.iload_n 1, 1) := by decide +kernel
theorem dX11_stop_25 : decode cX11_stop 25 = .ok (.iload 4, 2) := by decide +kernel
theorem dX11_stop_27 : decode cX11_stop 27 = .ok (.invokevirtual 200, 3) := by decide +kernel
theorem dX11_stop_30 : decode cX11_stop 30 = .ok (.goto 13, 3) := by decide +kernel
theorem dX11_stop_33 : decode cX11_stop 33 = .ok (.aload_n 0, 1) := by decide +kernel
theorem dX11_stop_34 : decode cX11_stop 34 = .ok (.getfield 28, 3) := by decide +kernel
theorem dX11_stop_37 : decode cX11_stop 37 = .ok (.iload_n 2, 1) := by decide +kernel
theorem dX11_stop_38 : decode cX11_stop 38 = .ok (.iload 4, 2) := by decide +kernel
theorem dX11_stop_40 : decode cX11_stop 40 = .ok (.invokevirtual 203, 3) := by decide +kernel
theorem dX11_stop_43 : decode cX11_stop 43 = .ok (.ireturn, 1) := by decide +kernel
theorem dX11_judge_0 : decode cX11_judge 0 = .ok (.aload_n 0, 1) := by decide +kernel
theorem dX11_judge_1 : decode cX11_judge 1 = .ok (.iload_n 1, 1) := by decide +kernel
theorem dX11_judge_2 : decode cX11_judge 2 = .ok (.invokevirtual 206, 3) := by decide +kernel
theorem dX11_judge_5 : decode cX11_judge 5 = .ok (.aload_n 0, 1) := by decide +kernel
theorem dX11_judge_6 : decode cX11_judge 6 = .ok (.iload_n 3, 1) := by decide +kernel
theorem dX11_judge_7 : decode cX11_judge 7 = .ok (.iload 4, 2) := by decide +kernel
theorem dX11_judge_9 : decode cX11_judge 9 = .ok (.invokevirtual 194, 3) := by decide +kernel
theorem dX11_judge_12 : decode cX11_judge 12 = .ok (.iload 5, 2) := by decide +kernel
theorem dX11_judge_14 : decode cX11_judge 14 = .ok (.invokestatic 130, 3) := by decide +kernel
theorem dX11_judge_17 : decode cX11_judge 17 = .ok (.invokestatic 133, 3) := by decide +kernel
theorem dX11_judge_20 : decode cX11_judge 20 = .ok (.iload 6, 2) := by decide +kernel
theorem dX11_judge_22 : decode cX11_judge 22 = .ok (.aload_n 0, 1) := by decide +kernel
theorem dX11_judge_23 : decode cX11_judge 23 = .ok (.getfield 28, 3) := by decide +kernel
theorem dX11_judge_26 : decode cX11_judge 26 = .ok (.getfield 176, 3) := by decide +kernel
theorem dX11_judge_29 : decode cX11_judge 29 = .ok (.invokestatic 75, 3) := by decide +kernel
theorem dX11_judge_32 : decode cX11_judge 32 = .ok (.ifCond .eq 15, 3) := by decide +kernel
theorem dX11_judge_35 : decode cX11_judge 35 = .ok (.iload_n 1, 1) := by decide +kernel
theorem dX11_judge_36 : decode cX11_judge 36 = .ok (.iload_n 2, 1) := by decide +kernel
theorem dX11_judge_37 : decode cX11_judge 37 = .ok (.invokestatic 209, 3) := by decide +kernel
theorem dX11_judge_40 : decode cX11_judge 40 = .ok (.ifCond .eq 7, 3) := by decide +kernel
theorem dX11_judge_43 : decode cX11_judge 43 = .ok (.iconst 1, 1) := by decide +kernel
theorem dX11_judge_44 : decode cX11_judge 44 = .ok (.goto 4, 3) := by decide +kernel
theorem dX11_judge_47 : decode cX11_judge 47 = .ok (.iconst 0, 1) := by decide +kernel
theorem dX11_judge_48 : decode cX11_judge 48 = .ok (.invokestatic 83, 3) := by decide +kernel
theorem dX11_judge_51 : decode cX11_judge 51 = .ok (.aload_n 0, 1) := by decide +kernel
theorem dX11_judge_52 : decode cX11_judge 52 = .ok (.iload_n 1, 1) := by decide +kernel
theorem dX11_judge_53 : decode cX11_judge 53 = .ok (.iload_n 2, 1) := by decide +kernel
theorem dX11_judge_54 : decode cX11_judge 54 = .ok (.iload_n 3, 1) := by decide +kernel
theorem dX11_judge_55 : decode cX11_judge 55 = .ok (.iload 4, 2) := by decide +kernel
theorem dX11_judge_57 : decode cX11_judge 57 = .ok (.invokevirtual 212, 3) := by decide +kernel
theorem dX11_judge_60 : decode cX11_judge 60 = .ok (.aload_n 0, 1) := by decide +kernel
theorem dX11_judge_61 : decode cX11_judge 61 = .ok (.getfield 40, 3) := by decide +kernel
theorem dX11_judge_64 : decode cX11_judge 64 = .ok (.iload 6, 2) := by decide +kernel
theorem dX11_judge_66 : decode cX11_judge 66 = .ok (.iload 5, 2) := by decide +kernel
theorem dX11_judge_68 : decode cX11_judge 68 = .ok (.invokevirtual 216, 3) := by decide +kernel
theorem dX11_judge_71 : decode cX11_judge 71 = .ok (.i2l, 1) := by decide +kernel
theorem dX11_judge_72 : decode cX11_judge 72 = .ok (.lreturn, 1) := by decide +kernel
theorem dX11_does_0 : decode cX11_does 0 = .ok (.aload_n 0, 1) := by decide +kernel
theorem dX11_does_1 : decode cX11_does 1 = .ok (.iload_n 1, 1) := by decide +kernel
theorem dX11_does_2 : decode cX11_does 2 = .ok (.invokevirtual 206, 3) := by decide +kernel
theorem dX11_does_5 : decode cX11_does 5 = .ok (.aload_n 0, 1) := by decide +kernel
theorem dX11_does_6 : decode cX11_does 6 = .ok (.iload_n 3, 1) := by decide +kernel
theorem dX11_does_7 : decode cX11_does 7 = .ok (.iload 4, 2) := by decide +kernel
theorem dX11_does_9 : decode cX11_does 9 = .ok (.invokevirtual 194, 3) := by decide +kernel
theorem dX11_does_12 : decode cX11_does 12 = .ok (.iload 5, 2) := by decide +kernel
theorem dX11_does_14 : decode cX11_does 14 = .ok (.invokestatic 130, 3) := by decide +kernel
theorem dX11_does_17 : decode cX11_does 17 = .ok (.invokestatic 133, 3) := by decide +kernel
theorem dX11_does_20 : decode cX11_does 20 = .ok (.iload 6, 2) := by decide +kernel
theorem dX11_does_22 : decode cX11_does 22 = .ok (.aload_n 0, 1) := by decide +kernel
theorem dX11_does_23 : decode cX11_does 23 = .ok (.getfield 28, 3) := by decide +kernel
theorem dX11_does_26 : decode cX11_does 26 = .ok (.getfield 176, 3) := by decide +kernel
theorem dX11_does_29 : decode cX11_does 29 = .ok (.invokestatic 75, 3) := by decide +kernel
theorem dX11_does_32 : decode cX11_does 32 = .ok (.ifCond .eq 15, 3) := by decide +kernel
theorem dX11_does_35 : decode cX11_does 35 = .ok (.iload_n 1, 1) := by decide +kernel
theorem dX11_does_36 : decode cX11_does 36 = .ok (.iload_n 2, 1) := by decide +kernel
theorem dX11_does_37 : decode cX11_does 37 = .ok (.invokestatic 209, 3) := by decide +kernel
theorem dX11_does_40 : decode cX11_does 40 = .ok (.ifCond .eq 7, 3) := by decide +kernel
theorem dX11_does_43 : decode cX11_does 43 = .ok (.iconst 1, 1) := by decide +kernel
theorem dX11_does_44 : decode cX11_does 44 = .ok (.goto 4, 3) := by decide +kernel
theorem dX11_does_47 : decode cX11_does 47 = .ok (.iconst 0, 1) := by decide +kernel
theorem dX11_does_48 : decode cX11_does 48 = .ok (.invokestatic 83, 3) := by decide +kernel
theorem dX11_does_51 : decode cX11_does 51 = .ok (.aload_n 0, 1) := by decide +kernel
theorem dX11_does_52 : decode cX11_does 52 = .ok (.iload_n 1, 1) := by decide +kernel
theorem dX11_does_53 : decode cX11_does 53 = .ok (.iload_n 2, 1) := by decide +kernel
theorem dX11_does_54 : decode cX11_does 54 = .ok (.iload_n 3, 1) := by decide +kernel
theorem dX11_does_55 : decode cX11_does 55 = .ok (.iload 4, 2) := by decide +kernel
theorem dX11_does_57 : decode cX11_does 57 = .ok (.invokevirtual 212, 3) := by decide +kernel
theorem dX11_does_60 : decode cX11_does 60 = .ok (.aload_n 0, 1) := by decide +kernel
theorem dX11_does_61 : decode cX11_does 61 = .ok (.getfield 40, 3) := by decide +kernel
theorem dX11_does_64 : decode cX11_does 64 = .ok (.iload 6, 2) := by decide +kernel
theorem dX11_does_66 : decode cX11_does 66 = .ok (.iload 5, 2) := by decide +kernel
theorem dX11_does_68 : decode cX11_does 68 = .ok (.invokevirtual 219, 3) := by decide +kernel
theorem dX11_does_71 : decode cX11_does 71 = .ok (.ireturn, 1) := by decide +kernel
theorem dX11_waits_0 : decode cX11_waits 0 = .ok (.aload_n 0, 1) := by decide +kernel
theorem dX11_waits_1 : decode cX11_waits 1 = .ok (.iload_n 1, 1) := by decide +kernel
theorem dX11_waits_2 : decode cX11_waits 2 = .ok (.iload_n 2, 1) := by decide +kernel
theorem dX11_waits_3 : decode cX11_waits 3 = .ok (.invokevirtual 194, 3) := by decide +kernel
theorem dX11_waits_6 : decode cX11_waits 6 = .ok (.iload_n 3, 1) := by decide +kernel
theorem dX11_waits_7 : decode cX11_waits 7 = .ok (.invokestatic 130, 3) := by decide +kernel
theorem dX11_waits_10 : decode cX11_waits 10 = .ok (.invokestatic 133, 3) := by decide +kernel
theorem dX11_waits_13 : decode cX11_waits 13 = .ok (.aload_n 0, 1) := by decide +kernel
theorem dX11_waits_14 : decode cX11_waits 14 = .ok (.getfield 40, 3) := by decide +kernel
theorem dX11_waits_17 : decode cX11_waits 17 = .ok (.aload_n 0, 1) := by decide +kernel
theorem dX11_waits_18 : decode cX11_waits 18 = .ok (.getfield 28, 3) := by decide +kernel
theorem dX11_waits_21 : decode cX11_waits 21 = .ok (.getfield 161, 3) := by decide +kernel
theorem dX11_waits_24 : decode cX11_waits 24 = .ok (.aload_n 0, 1) := by decide +kernel
theorem dX11_waits_25 : decode cX11_waits 25 = .ok (.getfield 28, 3) := by decide +kernel
theorem dX11_waits_28 : decode cX11_waits 28 = .ok (.getfield 173, 3) := by decide +kernel
theorem dX11_waits_31 : decode cX11_waits 31 = .ok (.invokevirtual 188, 3) := by decide +kernel
theorem dX11_waits_34 : decode cX11_waits 34 = .ok (.aload_n 0, 1) := by decide +kernel
theorem dX11_waits_35 : decode cX11_waits 35 = .ok (.getfield 40, 3) := by decide +kernel
theorem dX11_waits_38 : decode cX11_waits 38 = .ok (.iconst 3, 1) := by decide +kernel
theorem dX11_waits_39 : decode cX11_waits 39 = .ok (.iconst 0, 1) := by decide +kernel
theorem dX11_waits_40 : decode cX11_waits 40 = .ok (.invokevirtual 222, 3) := by decide +kernel
theorem dX11_waits_43 : decode cX11_waits 43 = .ok (.aload_n 0, 1) := by decide +kernel
theorem dX11_waits_44 : decode cX11_waits 44 = .ok (.aload_n 0, 1) := by decide +kernel
theorem dX11_waits_45 : decode cX11_waits 45 = .ok (.getfield 28, 3) := by decide +kernel
theorem dX11_waits_48 : decode cX11_waits 48 = .ok (.getfield 176, 3) := by decide +kernel
theorem dX11_waits_51 : decode cX11_waits 51 = .ok (.iload_n 1, 1) := by decide +kernel
theorem dX11_waits_52 : decode cX11_waits 52 = .ok (.iload_n 2, 1) := by decide +kernel
theorem dX11_waits_53 : decode cX11_waits 53 = .ok (.iload_n 3, 1) := by decide +kernel
theorem dX11_waits_54 : decode cX11_waits 54 = .ok (.invokevirtual 224, 3) := by decide +kernel
theorem dX11_waits_57 : decode cX11_waits 57 = .ok (.i2l, 1) := by decide +kernel
theorem dX11_waits_58 : decode cX11_waits 58 = .ok (.aload_n 0, 1) := by decide +kernel
theorem dX11_waits_59 : decode cX11_waits 59 = .ok (.iconst 0, 1) := by decide +kernel
theorem dX11_waits_60 : decode cX11_waits 60 = .ok (.iload_n 1, 1) := by decide +kernel
theorem dX11_waits_61 : decode cX11_waits 61 = .ok (.iload_n 2, 1) := by decide +kernel
theorem dX11_waits_62 : decode cX11_waits 62 = .ok (.iload_n 3, 1) := by decide +kernel
theorem dX11_waits_63 : decode cX11_waits 63 = .ok (.invokevirtual 224, 3) := by decide +kernel
theorem dX11_waits_66 : decode cX11_waits 66 = .ok (.i2l, 1) := by decide +kernel
theorem dX11_waits_67 : decode cX11_waits 67 = .ok (.lsub, 1) := by decide +kernel
theorem dX11_waits_68 : decode cX11_waits 68 = .ok (.lreturn, 1) := by decide +kernel
theorem dX11_enough_0 : decode cX11_enough 0 = .ok (.aload_n 0, 1) := by decide +kernel
theorem dX11_enough_1 : decode cX11_enough 1 = .ok (.iload_n 1, 1) := by decide +kernel
theorem dX11_enough_2 : decode cX11_enough 2 = .ok (.iload_n 2, 1) := by decide +kernel
theorem dX11_enough_3 : decode cX11_enough 3 = .ok (.invokevirtual 194, 3) := by decide +kernel
theorem dX11_enough_6 : decode cX11_enough 6 = .ok (.iload_n 3, 1) := by decide +kernel
theorem dX11_enough_7 : decode cX11_enough 7 = .ok (.invokestatic 130, 3) := by decide +kernel
theorem dX11_enough_10 : decode cX11_enough 10 = .ok (.invokestatic 133, 3) := by decide +kernel
theorem dX11_enough_13 : decode cX11_enough 13 = .ok (.aload_n 0, 1) := by decide +kernel
theorem dX11_enough_14 : decode cX11_enough 14 = .ok (.getfield 40, 3) := by decide +kernel
theorem dX11_enough_17 : decode cX11_enough 17 = .ok (.aload_n 0, 1) := by decide +kernel
theorem dX11_enough_18 : decode cX11_enough 18 = .ok (.getfield 28, 3) := by decide +kernel
theorem dX11_enough_21 : decode cX11_enough 21 = .ok (.getfield 161, 3) := by decide +kernel
theorem dX11_enough_24 : decode cX11_enough 24 = .ok (.aload_n 0, 1) := by decide +kernel
theorem dX11_enough_25 : decode cX11_enough 25 = .ok (.getfield 28, 3) := by decide +kernel
theorem dX11_enough_28 : decode cX11_enough 28 = .ok (.getfield 173, 3) := by decide +kernel
theorem dX11_enough_31 : decode cX11_enough 31 = .ok (.invokevirtual 188, 3) := by decide +kernel
theorem dX11_enough_34 : decode cX11_enough 34 = .ok (.aload_n 0, 1) := by decide +kernel
theorem dX11_enough_35 : decode cX11_enough 35 = .ok (.getfield 40, 3) := by decide +kernel
theorem dX11_enough_38 : decode cX11_enough 38 = .ok (.iconst 3, 1) := by decide +kernel
theorem dX11_enough_39 : decode cX11_enough 39 = .ok (.iconst 0, 1) := by decide +kernel
theorem dX11_enough_40 : decode cX11_enough 40 = .ok (.invokevirtual 222, 3) := by decide +kernel
theorem dX11_enough_43 : decode cX11_enough 43 = .ok (.aload_n 0, 1) := by decide +kernel
theorem dX11_enough_44 : decode cX11_enough 44 = .ok (.bipush 10, 2) := by decide +kernel
theorem dX11_enough_46 : decode cX11_enough 46 = .ok (.iload_n 1, 1) := by decide +kernel
theorem dX11_enough_47 : decode cX11_enough 47 = .ok (.iload_n 2, 1) := by decide +kernel
theorem dX11_enough_48 : decode cX11_enough 48 = .ok (.iload_n 3, 1) := by decide +kernel
theorem dX11_enough_49 : decode cX11_enough 49 = .ok (.invokevirtual 224, 3) := by decide +kernel
theorem dX11_enough_52 : decode cX11_enough 52 = .ok (.istore 4, 2) := by decide +kernel
theorem dX11_enough_54 : decode cX11_enough 54 = .ok (.iconst 0, 1) := by decide +kernel
theorem dX11_enough_55 : decode cX11_enough 55 = .ok (.istore 5, 2) := by decide +kernel
theorem dX11_enough_57 : decode cX11_enough 57 = .ok (.iload 5, 2) := by decide +kernel
theorem dX11_enough_59 : decode cX11_enough 59 = .ok (.bipush 10, 2) := by decide +kernel
theorem dX11_enough_61 : decode cX11_enough 61 = .ok (.if_icmp .ge 26, 3) := by decide +kernel
theorem dX11_enough_64 : decode cX11_enough 64 = .ok (.aload_n 0, 1) := by decide +kernel
theorem dX11_enough_65 : decode cX11_enough 65 = .ok (.iload 5, 2) := by decide +kernel
theorem dX11_enough_67 : decode cX11_enough 67 = .ok (.iload_n 1, 1) := by decide +kernel
theorem dX11_enough_68 : decode cX11_enough 68 = .ok (.iload_n 2, 1) := by decide +kernel
theorem dX11_enough_69 : decode cX11_enough 69 = .ok (.iload_n 3, 1) := by decide +kernel
theorem dX11_enough_70 : decode cX11_enough 70 = .ok (.invokevirtual 224, 3) := by decide +kernel
theorem dX11_enough_73 : decode cX11_enough 73 = .ok (.iload 4, 2) := by decide +kernel
theorem dX11_enough_75 : decode cX11_enough 75 = .ok (.if_icmp .ne 6, 3) := by decide +kernel
theorem dX11_enough_78 : decode cX11_enough 78 = .ok (.iload 5, 2) := by decide +kernel
theorem dX11_enough_80 : decode cX11_enough 80 = .ok (.ireturn, 1) := by decide +kernel
theorem dX11_enough_81 : decode cX11_enough 81 = .ok (.iinc 5 1, 3) := by decide +kernel
theorem dX11_enough_84 : decode cX11_enough 84 = .ok (.goto (-27), 3) := by decide +kernel
theorem dX11_enough_87 : decode cX11_enough 87 = .ok (.bipush 10, 2) := by decide +kernel
theorem dX11_enough_89 : decode cX11_enough 89 = .ok (.ireturn, 1) := by decide +kernel
theorem dX11_loses_0 : decode cX11_loses 0 = .ok (.aload_n 0, 1) := by decide +kernel
theorem dX11_loses_1 : decode cX11_loses 1 = .ok (.iload_n 1, 1) := by decide +kernel
theorem dX11_loses_2 : decode cX11_loses 2 = .ok (.invokevirtual 206, 3) := by decide +kernel
theorem dX11_loses_5 : decode cX11_loses 5 = .ok (.aload_n 0, 1) := by decide +kernel
theorem dX11_loses_6 : decode cX11_loses 6 = .ok (.iload_n 3, 1) := by decide +kernel
theorem dX11_loses_7 : decode cX11_loses 7 = .ok (.iload 4, 2) := by decide +kernel
theorem dX11_loses_9 : decode cX11_loses 9 = .ok (.invokevirtual 194, 3) := by decide +kernel
theorem dX11_loses_12 : decode cX11_loses 12 = .ok (.iload 5, 2) := by decide +kernel
theorem dX11_loses_14 : decode cX11_loses 14 = .ok (.iconst (-1), 1) := by decide +kernel
theorem dX11_loses_15 : decode cX11_loses 15 = .ok (.if_icmp .eq 11, 3) := by decide +kernel
theorem dX11_loses_18 : decode cX11_loses 18 = .ok (.iload 5, 2) := by decide +kernel
theorem dX11_loses_20 : decode cX11_loses 20 = .ok (.invokestatic 130, 3) := by decide +kernel
theorem dX11_loses_23 : decode cX11_loses 23 = .ok (.ifCond .eq 7, 3) := by decide +kernel
theorem dX11_loses_26 : decode cX11_loses 26 = .ok (.iconst 1, 1) := by decide +kernel
theorem dX11_loses_27 : decode cX11_loses 27 = .ok (.goto 4, 3) := by decide +kernel
theorem dX11_loses_30 : decode cX11_loses 30 = .ok (.iconst 0, 1) := by decide +kernel
theorem dX11_loses_31 : decode cX11_loses 31 = .ok (.invokestatic 133, 3) := by decide +kernel
theorem dX11_loses_34 : decode cX11_loses 34 = .ok (.iload_n 1, 1) := by decide +kernel
theorem dX11_loses_35 : decode cX11_loses 35 = .ok (.iload_n 2, 1) := by decide +kernel
theorem dX11_loses_36 : decode cX11_loses 36 = .ok (.invokestatic 209, 3) := by decide +kernel
theorem dX11_loses_39 : decode cX11_loses 39 = .ok (.invokestatic 83, 3) := by decide +kernel
theorem dX11_loses_42 : decode cX11_loses 42 = .ok (.iload 5, 2) := by decide +kernel
theorem dX11_loses_44 : decode cX11_loses 44 = .ok (.iconst (-1), 1) := by decide +kernel
theorem dX11_loses_45 : decode cX11_loses 45 = .ok (.if_icmp .ne 7, 3) := by decide +kernel
theorem dX11_loses_48 : decode cX11_loses 48 = .ok (.iconst 0, 1) := by decide +kernel
theorem dX11_loses_49 : decode cX11_loses 49 = .ok (.goto 5, 3) := by decide +kernel
theorem dX11_loses_52 : decode cX11_loses 52 = .ok (.iload 5, 2) := by decide +kernel
theorem dX11_loses_54 : decode cX11_loses 54 = .ok (.istore 6, 2) := by decide +kernel
theorem dX11_loses_56 : decode cX11_loses 56 = .ok (.iload 5, 2) := by decide +kernel
theorem dX11_loses_58 : decode cX11_loses 58 = .ok (.iconst (-1), 1) := by decide +kernel
theorem dX11_loses_59 : decode cX11_loses 59 = .ok (.if_icmp .ne 8, 3) := by decide +kernel
theorem dX11_loses_62 : decode cX11_loses 62 = .ok (.bipush 31, 2) := by decide +kernel
theorem dX11_loses_64 : decode cX11_loses 64 = .ok (.goto 5, 3) := by decide +kernel
theorem dX11_loses_67 : decode cX11_loses 67 = .ok (.iload 5, 2) := by decide +kernel
theorem dX11_loses_69 : decode cX11_loses 69 = .ok (.istore 7, 2) := by decide +kernel
theorem dX11_loses_71 : decode cX11_loses 71 = .ok (.aload_n 0, 1) := by decide +kernel
theorem dX11_loses_72 : decode cX11_loses 72 = .ok (.iconst 3, 1) := by decide +kernel
theorem dX11_loses_73 : decode cX11_loses 73 = .ok (.iconst 0, 1) := by decide +kernel
theorem dX11_loses_74 : decode cX11_loses 74 = .ok (.iload_n 3, 1) := by decide +kernel
theorem dX11_loses_75 : decode cX11_loses 75 = .ok (.iload 4, 2) := by decide +kernel
theorem dX11_loses_77 : decode cX11_loses 77 = .ok (.invokevirtual 212, 3) := by decide +kernel
theorem dX11_loses_80 : decode cX11_loses 80 = .ok (.aload_n 0, 1) := by decide +kernel
theorem dX11_loses_81 : decode cX11_loses 81 = .ok (.getfield 40, 3) := by decide +kernel
theorem dX11_loses_84 : decode cX11_loses 84 = .ok (.iload 6, 2) := by decide +kernel
theorem dX11_loses_86 : decode cX11_loses 86 = .ok (.iload 7, 2) := by decide +kernel
theorem dX11_loses_88 : decode cX11_loses 88 = .ok (.invokevirtual 228, 3) := by decide +kernel
theorem dX11_loses_91 : decode cX11_loses 91 = .ok (.istore 8, 2) := by decide +kernel
theorem dX11_loses_93 : decode cX11_loses 93 = .ok (.aload_n 0, 1) := by decide +kernel
theorem dX11_loses_94 : decode cX11_loses 94 = .ok (.iload_n 1, 1) := by decide +kernel
theorem dX11_loses_95 : decode cX11_loses 95 = .ok (.iload_n 2, 1) := by decide +kernel
theorem dX11_loses_96 : decode cX11_loses 96 = .ok (.iload_n 3, 1) := by decide +kernel
theorem dX11_loses_97 : decode cX11_loses 97 = .ok (.iload 4, 2) := by decide +kernel
theorem dX11_loses_99 : decode cX11_loses 99 = .ok (.invokevirtual 212, 3) := by decide +kernel
theorem dX11_loses_102 : decode cX11_loses 102 = .ok (.iload 8, 2) := by decide +kernel
theorem dX11_loses_104 : decode cX11_loses 104 = .ok (.i2l, 1) := by decide +kernel
theorem dX11_loses_105 : decode cX11_loses 105 = .ok (.aload_n 0, 1) := by decide +kernel
theorem dX11_loses_106 : decode cX11_loses 106 = .ok (.getfield 40, 3) := by decide +kernel
theorem dX11_loses_109 : decode cX11_loses 109 = .ok (.iload 6, 2) := by decide +kernel
theorem dX11_loses_111 : decode cX11_loses 111 = .ok (.iload 7, 2) := by decide +kernel
theorem dX11_loses_113 : decode cX11_loses 113 = .ok (.invokevirtual 228, 3) := by decide +kernel
theorem dX11_loses_116 : decode cX11_loses 116 = .ok (.i2l, 1) := by decide +kernel
theorem dX11_loses_117 : decode cX11_loses 117 = .ok (.lsub, 1) := by decide +kernel
theorem dX11_loses_118 : decode cX11_loses 118 = .ok (.lreturn, 1) := by decide +kernel
theorem dX11_part_0 : decode cX11_part 0 = .ok (.aload_n 0, 1) := by decide +kernel
theorem dX11_part_1 : decode cX11_part 1 = .ok (.iload_n 1, 1) := by decide +kernel
theorem dX11_part_2 : decode cX11_part 2 = .ok (.invokevirtual 206, 3) := by decide +kernel
theorem dX11_part_5 : decode cX11_part 5 = .ok (.aload_n 0, 1) := by decide +kernel
theorem dX11_part_6 : decode cX11_part 6 = .ok (.iload_n 2, 1) := by decide +kernel
theorem dX11_part_7 : decode cX11_part 7 = .ok (.invokevirtual 206, 3) := by decide +kernel
theorem dX11_part_10 : decode cX11_part 10 = .ok (.aload_n 0, 1) := by decide +kernel
theorem dX11_part_11 : decode cX11_part 11 = .ok (.iload 4, 2) := by decide +kernel
theorem dX11_part_13 : decode cX11_part 13 = .ok (.iload 5, 2) := by decide +kernel
theorem dX11_part_15 : decode cX11_part 15 = .ok (.invokevirtual 194, 3) := by decide +kernel
theorem dX11_part_18 : decode cX11_part 18 = .ok (.iload_n 1, 1) := by decide +kernel
theorem dX11_part_19 : decode cX11_part 19 = .ok (.iload_n 3, 1) := by decide +kernel
theorem dX11_part_20 : decode cX11_part 20 = .ok (.invokestatic 209, 3) := by decide +kernel
theorem dX11_part_23 : decode cX11_part 23 = .ok (.ifCond .eq 15, 3) := by decide +kernel
theorem dX11_part_26 : decode cX11_part 26 = .ok (.iload_n 2, 1) := by decide +kernel
theorem dX11_part_27 : decode cX11_part 27 = .ok (.iload_n 3, 1) := by decide +kernel
theorem dX11_part_28 : decode cX11_part 28 = .ok (.invokestatic 209, 3) := by decide +kernel
theorem dX11_part_31 : decode cX11_part 31 = .ok (.ifCond .eq 7, 3) := by decide +kernel
theorem dX11_part_34 : decode cX11_part 34 = .ok (.iconst 1, 1) := by decide +kernel
theorem dX11_part_35 : decode cX11_part 35 = .ok (.goto 4, 3) := by decide +kernel
theorem dX11_part_38 : decode cX11_part 38 = .ok (.iconst 0, 1) := by decide +kernel
theorem dX11_part_39 : decode cX11_part 39 = .ok (.invokestatic 83, 3) := by decide +kernel
theorem dX11_part_42 : decode cX11_part 42 = .ok (.aload_n 0, 1) := by decide +kernel
theorem dX11_part_43 : decode cX11_part 43 = .ok (.iload_n 1, 1) := by decide +kernel
theorem dX11_part_44 : decode cX11_part 44 = .ok (.iload_n 3, 1) := by decide +kernel
theorem dX11_part_45 : decode cX11_part 45 = .ok (.iload 4, 2) := by decide +kernel
theorem dX11_part_47 : decode cX11_part 47 = .ok (.iload 5, 2) := by decide +kernel
theorem dX11_part_49 : decode cX11_part 49 = .ok (.invokevirtual 212, 3) := by decide +kernel
theorem dX11_part_52 : decode cX11_part 52 = .ok (.aload_n 0, 1) := by decide +kernel
theorem dX11_part_53 : decode cX11_part 53 = .ok (.getfield 40, 3) := by decide +kernel
theorem dX11_part_56 : decode cX11_part 56 = .ok (.invokevirtual 231, 3) := by decide +kernel
theorem dX11_part_59 : decode cX11_part 59 = .ok (.aload_n 0, 1) := by decide +kernel
theorem dX11_part_60 : decode cX11_part 60 = .ok (.iload_n 2, 1) := by decide +kernel
theorem dX11_part_61 : decode cX11_part 61 = .ok (.iload_n 3, 1) := by decide +kernel
theorem dX11_part_62 : decode cX11_part 62 = .ok (.iload 4, 2) := by decide +kernel
theorem dX11_part_64 : decode cX11_part 64 = .ok (.iload 5, 2) := by decide +kernel
theorem dX11_part_66 : decode cX11_part 66 = .ok (.invokevirtual 212, 3) := by decide +kernel
theorem dX11_part_69 : decode cX11_part 69 = .ok (.iload 6, 2) := by decide +kernel
theorem dX11_part_71 : decode cX11_part 71 = .ok (.ifCond .eq 13, 3) := by decide +kernel
theorem dX11_part_74 : decode cX11_part 74 = .ok (.aload_n 0, 1) := by decide +kernel
theorem dX11_part_75 : decode cX11_part 75 = .ok (.getfield 40, 3) := by decide +kernel
theorem dX11_part_78 : decode cX11_part 78 = .ok (.invokevirtual 234, 3) := by decide +kernel
theorem dX11_part_81 : decode cX11_part 81 = .ok (.goto 10, 3) := by decide +kernel
theorem dX11_part_84 : decode cX11_part 84 = .ok (.aload_n 0, 1) := by decide +kernel
theorem dX11_part_85 : decode cX11_part 85 = .ok (.getfield 40, 3) := by decide +kernel
theorem dX11_part_88 : decode cX11_part 88 = .ok (.invokevirtual 238, 3) := by decide +kernel
theorem dX11_part_91 : decode cX11_part 91 = .ok (.ireturn, 1) := by decide +kernel
theorem dX11_bar_0 : decode cX11_bar 0 = .ok (.aload_n 0, 1) := by decide +kernel
theorem dX11_bar_1 : decode cX11_bar 1 = .ok (.iload_n 1, 1) := by decide +kernel
theorem dX11_bar_2 : decode cX11_bar 2 = .ok (.iload_n 2, 1) := by decide +kernel
theorem dX11_bar_3 : decode cX11_bar 3 = .ok (.invokevirtual 194, 3) := by decide +kernel
theorem dX11_bar_6 : decode cX11_bar 6 = .ok (.aload_n 0, 1) := by decide +kernel
theorem dX11_bar_7 : decode cX11_bar 7 = .ok (.getfield 40, 3) := by decide +kernel
theorem dX11_bar_10 : decode cX11_bar 10 = .ok (.aload_n 0, 1) := by decide +kernel
theorem dX11_bar_11 : decode cX11_bar 11 = .ok (.getfield 28, 3) := by decide +kernel
theorem dX11_bar_14 : decode cX11_bar 14 = .ok (.getfield 161, 3) := by decide +kernel
theorem dX11_bar_17 : decode cX11_bar 17 = .ok (.aload_n 0, 1) := by decide +kernel
theorem dX11_bar_18 : decode cX11_bar 18 = .ok (.getfield 28, 3) := by decide +kernel
theorem dX11_bar_21 : decode cX11_bar 21 = .ok (.getfield 173, 3) := by decide +kernel
theorem dX11_bar_24 : decode cX11_bar 24 = .ok (.invokevirtual 188, 3) := by decide +kernel
theorem dX11_bar_27 : decode cX11_bar 27 = .ok (.iconst (-1), 1) := by decide +kernel
theorem dX11_bar_28 : decode cX11_bar 28 = .ok (.istore_n 3, 1) := by decide +kernel
theorem dX11_bar_29 : decode cX11_bar 29 = .ok (.iconst 0, 1) := by decide +kernel
theorem dX11_bar_30 : decode cX11_bar 30 = .ok (.istore 4, 2) := by decide +kernel
theorem dX11_bar_32 : decode cX11_bar 32 = .ok (.iconst 0, 1) := by decide +kernel
theorem dX11_bar_33 : decode cX11_bar 33 = .ok (.istore 5, 2) := by decide +kernel
theorem dX11_bar_35 : decode cX11_bar 35 = .ok (.iload 5, 2) := by decide +kernel
theorem dX11_bar_37 : decode cX11_bar 37 = .ok (.bipush 32, 2) := by decide +kernel
theorem dX11_bar_39 : decode cX11_bar 39 = .ok (.if_icmp .ge 67, 3) := by decide +kernel
theorem dX11_bar_42 : decode cX11_bar 42 = .ok (.aload_n 0, 1) := by decide +kernel
theorem dX11_bar_43 : decode cX11_bar 43 = .ok (.getfield 40, 3) := by decide +kernel
theorem dX11_bar_46 : decode cX11_bar 46 = .ok (.iconst 2, 1) := by decide +kernel
theorem dX11_bar_47 : decode cX11_bar 47 = .ok (.iload 5, 2) := by decide +kernel
theorem dX11_bar_49 : decode cX11_bar 49 = .ok (.invokevirtual 222, 3) := by decide +kernel
theorem dX11_bar_52 : decode cX11_bar 52 = .ok (.aload_n 0, 1) := by decide +kernel
theorem dX11_bar_53 : decode cX11_bar 53 = .ok (.getfield 40, 3) := by decide +kernel
theorem dX11_bar_56 : decode cX11_bar 56 = .ok (.iload_n 1, 1) := by decide +kernel
theorem dX11_bar_57 : decode cX11_bar 57 = .ok (.iload_n 2, 1) := by decide +kernel
theorem dX11_bar_58 : decode cX11_bar 58 = .ok (.aload_n 0, 1) := by decide +kernel
theorem dX11_bar_59 : decode cX11_bar 59 = .ok (.getfield 28, 3) := by decide +kernel
theorem dX11_bar_62 : decode cX11_bar 62 = .ok (.iload_n 1, 1) := by decide +kernel
theorem dX11_bar_63 : decode cX11_bar 63 = .ok (.invokevirtual 197, 3) := by decide +kernel
theorem dX11_bar_66 : decode cX11_bar 66 = .ok (.invokevirtual 241, 3) := by decide +kernel
theorem dX11_bar_69 : decode cX11_bar 69 = .ok (.aload_n 0, 1) := by decide +kernel
theorem dX11_bar_70 : decode cX11_bar 70 = .ok (.getfield 40, 3) := by decide +kernel
theorem dX11_bar_73 : decode cX11_bar 73 = .ok (.iconst 0, 1) := by decide +kernel
theorem dX11_bar_74 : decode cX11_bar 74 = .ok (.bipush 31, 2) := by decide +kernel
theorem dX11_bar_76 : decode cX11_bar 76 = .ok (.invokevirtual 228, 3) := by decide +kernel
theorem dX11_bar_79 : decode cX11_bar 79 = .ok (.istore 6, 2) := by decide +kernel
theorem dX11_bar_81 : decode cX11_bar 81 = .ok (.iload_n 3, 1) := by decide +kernel
theorem dX11_bar_82 : decode cX11_bar 82 = .ok (.iconst (-1), 1) := by decide +kernel
theorem dX11_bar_83 : decode cX11_bar 83 = .ok (.if_icmp .eq 10, 3) := by decide +kernel
theorem dX11_bar_86 : decode cX11_bar 86 = .ok (.iload 6, 2) := by decide +kernel
theorem dX11_bar_88 : decode cX11_bar 88 = .ok (.iload 4, 2) := by decide +kernel
theorem dX11_bar_90 : decode cX11_bar 90 = .ok (.if_icmp .le 10, 3) := by decide +kernel
theorem dX11_bar_93 : decode cX11_bar 93 = .ok (.iload 6, 2) := by decide +kernel
theorem dX11_bar_95 : decode cX11_bar 95 = .ok (.istore 4, 2) := by decide +kernel
theorem dX11_bar_97 : decode cX11_bar 97 = .ok (.iload 5, 2) := by decide +kernel
theorem dX11_bar_99 : decode cX11_bar 99 = .ok (.istore_n 3, 1) := by decide +kernel
theorem dX11_bar_100 : decode cX11_bar 100 = .ok (.iinc 5 1, 3) := by decide +kernel
theorem dX11_bar_103 : decode cX11_bar 103 = .ok (.goto (-68), 3) := by decide +kernel
theorem dX11_bar_106 : decode cX11_bar 106 = .ok (.iload_n 3, 1) := by decide +kernel
theorem dX11_bar_107 : decode cX11_bar 107 = .ok (.ireturn, 1) := by decide +kernel
theorem dX11_pays_0 : decode cX11_pays 0 = .ok (.aload_n 0, 1) := by decide +kernel
theorem dX11_pays_1 : decode cX11_pays 1 = .ok (.iload_n 1, 1) := by decide +kernel
theorem dX11_pays_2 : decode cX11_pays 2 = .ok (.invokevirtual 206, 3) := by decide +kernel
theorem dX11_pays_5 : decode cX11_pays 5 = .ok (.aload_n 0, 1) := by decide +kernel
theorem dX11_pays_6 : decode cX11_pays 6 = .ok (.iload_n 3, 1) := by decide +kernel
theorem dX11_pays_7 : decode cX11_pays 7 = .ok (.invokevirtual 245, 3) := by decide +kernel
theorem dX11_pays_10 : decode cX11_pays 10 = .ok (.invokestatic 133, 3) := by decide +kernel
theorem dX11_pays_13 : decode cX11_pays 13 = .ok (.iload_n 1, 1) := by decide +kernel
theorem dX11_pays_14 : decode cX11_pays 14 = .ok (.iload_n 2, 1) := by decide +kernel
theorem dX11_pays_15 : decode cX11_pays 15 = .ok (.invokestatic 209, 3) := by decide +kernel
theorem dX11_pays_18 : decode cX11_pays 18 = .ok (.invokestatic 83, 3) := by decide +kernel
theorem dX11_pays_21 : decode cX11_pays 21 = .ok (.aload_n 0, 1) := by decide +kernel
theorem dX11_pays_22 : decode cX11_pays 22 = .ok (.getfield 40, 3) := by decide +kernel
theorem dX11_pays_25 : decode cX11_pays 25 = .ok (.aload_n 0, 1) := by decide +kernel
theorem dX11_pays_26 : decode cX11_pays 26 = .ok (.getfield 28, 3) := by decide +kernel
theorem dX11_pays_29 : decode cX11_pays 29 = .ok (.getfield 161, 3) := by decide +kernel
theorem dX11_pays_32 : decode cX11_pays 32 = .ok (.aload_n 0, 1) := by decide +kernel
theorem dX11_pays_33 : decode cX11_pays 33 = .ok (.getfield 28, 3) := by decide +kernel
theorem dX11_pays_36 : decode cX11_pays 36 = .ok (.getfield 173, 3) := by decide +kernel
theorem dX11_pays_39 : decode cX11_pays 39 = .ok (.invokevirtual 188, 3) := by decide +kernel
theorem dX11_pays_42 : decode cX11_pays 42 = .ok (.aload_n 0, 1) := by decide +kernel
theorem dX11_pays_43 : decode cX11_pays 43 = .ok (.getfield 40, 3) := by decide +kernel
theorem dX11_pays_46 : decode cX11_pays 46 = .ok (.iload_n 1, 1) := by decide +kernel
theorem dX11_pays_47 : decode cX11_pays 47 = .ok (.iload_n 2, 1) := by decide +kernel
theorem dX11_pays_48 : decode cX11_pays 48 = .ok (.invokevirtual 222, 3) := by decide +kernel
theorem dX11_pays_51 : decode cX11_pays 51 = .ok (.aload_n 0, 1) := by decide +kernel
theorem dX11_pays_52 : decode cX11_pays 52 = .ok (.getfield 40, 3) := by decide +kernel
theorem dX11_pays_55 : decode cX11_pays 55 = .ok (.iload_n 3, 1) := by decide +kernel
theorem dX11_pays_56 : decode cX11_pays 56 = .ok (.aload_n 0, 1) := by decide +kernel
theorem dX11_pays_57 : decode cX11_pays 57 = .ok (.getfield 28, 3) := by decide +kernel
theorem dX11_pays_60 : decode cX11_pays 60 = .ok (.iload_n 3, 1) := by decide +kernel
theorem dX11_pays_61 : decode cX11_pays 61 = .ok (.invokevirtual 197, 3) := by decide +kernel
theorem dX11_pays_64 : decode cX11_pays 64 = .ok (.iconst (-1), 1) := by decide +kernel
theorem dX11_pays_65 : decode cX11_pays 65 = .ok (.invokevirtual 248, 3) := by decide +kernel
theorem dX11_pays_68 : decode cX11_pays 68 = .ok (.ireturn, 1) := by decide +kernel
theorem dX11_least_0 : decode cX11_least 0 = .ok (.aload_n 0, 1) := by decide +kernel
theorem dX11_least_1 : decode cX11_least 1 = .ok (.iload_n 1, 1) := by decide +kernel
theorem dX11_least_2 : decode cX11_least 2 = .ok (.invokevirtual 206, 3) := by decide +kernel
theorem dX11_least_5 : decode cX11_least 5 = .ok (.aload_n 0, 1) := by decide +kernel
theorem dX11_least_6 : decode cX11_least 6 = .ok (.iload_n 3, 1) := by decide +kernel
theorem dX11_least_7 : decode cX11_least 7 = .ok (.invokevirtual 245, 3) := by decide +kernel
theorem dX11_least_10 : decode cX11_least 10 = .ok (.invokestatic 133, 3) := by decide +kernel
theorem dX11_least_13 : decode cX11_least 13 = .ok (.iload_n 1, 1) := by decide +kernel
theorem dX11_least_14 : decode cX11_least 14 = .ok (.iload_n 2, 1) := by decide +kernel
theorem dX11_least_15 : decode cX11_least 15 = .ok (.invokestatic 209, 3) := by decide +kernel
theorem dX11_least_18 : decode cX11_least 18 = .ok (.invokestatic 83, 3) := by decide +kernel
theorem dX11_least_21 : decode cX11_least 21 = .ok (.aload_n 0, 1) := by decide +kernel
theorem dX11_least_22 : decode cX11_least 22 = .ok (.getfield 40, 3) := by decide +kernel
theorem dX11_least_25 : decode cX11_least 25 = .ok (.aload_n 0, 1) := by decide +kernel
theorem dX11_least_26 : decode cX11_least 26 = .ok (.getfield 28, 3) := by decide +kernel
theorem dX11_least_29 : decode cX11_least 29 = .ok (.getfield 161, 3) := by decide +kernel
theorem dX11_least_32 : decode cX11_least 32 = .ok (.aload_n 0, 1) := by decide +kernel
theorem dX11_least_33 : decode cX11_least 33 = .ok (.getfield 28, 3) := by decide +kernel
theorem dX11_least_36 : decode cX11_least 36 = .ok (.getfield 173, 3) := by decide +kernel
theorem dX11_least_39 : decode cX11_least 39 = .ok (.invokevirtual 188, 3) := by decide +kernel
theorem dX11_least_42 : decode cX11_least 42 = .ok (.aload_n 0, 1) := by decide +kernel
theorem dX11_least_43 : decode cX11_least 43 = .ok (.getfield 40, 3) := by decide +kernel
theorem dX11_least_46 : decode cX11_least 46 = .ok (.iload_n 1, 1) := by decide +kernel
theorem dX11_least_47 : decode cX11_least 47 = .ok (.iload_n 2, 1) := by decide +kernel
theorem dX11_least_48 : decode cX11_least 48 = .ok (.invokevirtual 222, 3) := by decide +kernel
theorem dX11_least_51 : decode cX11_least 51 = .ok (.aload_n 0, 1) := by decide +kernel
theorem dX11_least_52 : decode cX11_least 52 = .ok (.iload_n 3, 1) := by decide +kernel
theorem dX11_least_53 : decode cX11_least 53 = .ok (.iload 4, 2) := by decide +kernel
theorem dX11_least_55 : decode cX11_least 55 = .ok (.invokevirtual 252, 3) := by decide +kernel
theorem dX11_least_58 : decode cX11_least 58 = .ok (.ireturn, 1) := by decide +kernel
theorem dX11_rate_0 : decode cX11_rate 0 = .ok (.aload_n 0, 1) := by decide +kernel
theorem dX11_rate_1 : decode cX11_rate 1 = .ok (.iload_n 1, 1) := by decide +kernel
theorem dX11_rate_2 : decode cX11_rate 2 = .ok (.invokevirtual 245, 3) := by decide +kernel
theorem dX11_rate_5 : decode cX11_rate 5 = .ok (.ifCond .eq 14, 3) := by decide +kernel
theorem dX11_rate_8 : decode cX11_rate 8 = .ok (.iload_n 2, 1) := by decide +kernel
theorem dX11_rate_9 : decode cX11_rate 9 = .ok (.invokestatic 130, 3) := by decide +kernel
theorem dX11_rate_12 : decode cX11_rate 12 = .ok (.ifCond .eq 7, 3) := by decide +kernel
theorem dX11_rate_15 : decode cX11_rate 15 = .ok (.iconst 1, 1) := by decide +kernel
theorem dX11_rate_16 : decode cX11_rate 16 = .ok (.goto 4, 3) := by decide +kernel
theorem dX11_rate_19 : decode cX11_rate 19 = .ok (.iconst 0, 1) := by decide +kernel
theorem dX11_rate_20 : decode cX11_rate 20 = .ok (.invokestatic 133, 3) := by decide +kernel
theorem dX11_rate_23 : decode cX11_rate 23 = .ok (.iload_n 3, 1) := by decide +kernel
theorem dX11_rate_24 : decode cX11_rate 24 = .ok (.sipush 999, 3) := by decide +kernel
theorem dX11_rate_27 : decode cX11_rate 27 = .ok (.invokestatic 75, 3) := by decide +kernel
theorem dX11_rate_30 : decode cX11_rate 30 = .ok (.invokestatic 83, 3) := by decide +kernel
theorem dX11_rate_33 : decode cX11_rate 33 = .ok (.aload_n 0, 1) := by decide +kernel
theorem dX11_rate_34 : decode cX11_rate 34 = .ok (.getfield 28, 3) := by decide +kernel
theorem dX11_rate_37 : decode cX11_rate 37 = .ok (.iload_n 1, 1) := by decide +kernel
theorem dX11_rate_38 : decode cX11_rate 38 = .ok (.iload_n 2, 1) := by decide +kernel
theorem dX11_rate_39 : decode cX11_rate 39 = .ok (.invokevirtual 255, 3) := by decide +kernel
theorem dX11_rate_42 : decode cX11_rate 42 = .ok (.istore 4, 2) := by decide +kernel
theorem dX11_rate_44 : decode cX11_rate 44 = .ok (.aload_n 0, 1) := by decide +kernel
theorem dX11_rate_45 : decode cX11_rate 45 = .ok (.getfield 28, 3) := by decide +kernel
theorem dX11_rate_48 : decode cX11_rate 48 = .ok (.iload_n 1, 1) := by decide +kernel
theorem dX11_rate_49 : decode cX11_rate 49 = .ok (.iload_n 2, 1) := by decide +kernel
theorem dX11_rate_50 : decode cX11_rate 50 = .ok (.iload_n 3, 1) := by decide +kernel
theorem dX11_rate_51 : decode cX11_rate 51 = .ok (.invokevirtual 258, 3) := by decide +kernel
theorem dX11_rate_54 : decode cX11_rate 54 = .ok (.iload 4, 2) := by decide +kernel
theorem dX11_rate_56 : decode cX11_rate 56 = .ok (.ireturn, 1) := by decide +kernel
theorem dX11_often_0 : decode cX11_often 0 = .ok (.aload_n 0, 1) := by decide +kernel
theorem dX11_often_1 : decode cX11_often 1 = .ok (.iload_n 1, 1) := by decide +kernel
theorem dX11_often_2 : decode cX11_often 2 = .ok (.invokevirtual 245, 3) := by decide +kernel
theorem dX11_often_5 : decode cX11_often 5 = .ok (.ifCond .eq 14, 3) := by decide +kernel
theorem dX11_often_8 : decode cX11_often 8 = .ok (.iload_n 2, 1) := by decide +kernel
theorem dX11_often_9 : decode cX11_often 9 = .ok (.invokestatic 130, 3) := by decide +kernel
theorem dX11_often_12 : decode cX11_often 12 = .ok (.ifCond .eq 7, 3) := by decide +kernel
theorem dX11_often_15 : decode cX11_often 15 = .ok (.iconst 1, 1) := by decide +kernel
theorem dX11_often_16 : decode cX11_often 16 = .ok (.goto 4, 3) := by decide +kernel
theorem dX11_often_19 : decode cX11_often 19 = .ok (.iconst 0, 1) := by decide +kernel
theorem dX11_often_20 : decode cX11_often 20 = .ok (.invokestatic 133, 3) := by decide +kernel
theorem dX11_often_23 : decode cX11_often 23 = .ok (.aload_n 0, 1) := by decide +kernel
theorem dX11_often_24 : decode cX11_often 24 = .ok (.getfield 28, 3) := by decide +kernel
theorem dX11_often_27 : decode cX11_often 27 = .ok (.iload_n 1, 1) := by decide +kernel
theorem dX11_often_28 : decode cX11_often 28 = .ok (.iload_n 2, 1) := by decide +kernel
theorem dX11_often_29 : decode cX11_often 29 = .ok (.invokevirtual 255, 3) := by decide +kernel
theorem dX11_often_32 : decode cX11_often 32 = .ok (.ireturn, 1) := by decide +kernel
theorem dX11_match_0 : decode cX11_match 0 = .ok (.aload_n 0, 1) := by decide +kernel
theorem dX11_match_1 : decode cX11_match 1 = .ok (.iload_n 1, 1) := by decide +kernel
theorem dX11_match_2 : decode cX11_match 2 = .ok (.invokevirtual 206, 3) := by decide +kernel
theorem dX11_match_5 : decode cX11_match 5 = .ok (.iload_n 1, 1) := by decide +kernel
theorem dX11_match_6 : decode cX11_match 6 = .ok (.iload_n 2, 1) := by decide +kernel
theorem dX11_match_7 : decode cX11_match 7 = .ok (.invokestatic 209, 3) := by decide +kernel
theorem dX11_match_10 : decode cX11_match 10 = .ok (.invokestatic 83, 3) := by decide +kernel
theorem dX11_match_13 : decode cX11_match 13 = .ok (.aload_n 0, 1) := by decide +kernel
theorem dX11_match_14 : decode cX11_match 14 = .ok (.getfield 40, 3) := by decide +kernel
theorem dX11_match_17 : decode cX11_match 17 = .ok (.iload_n 1, 1) := by decide +kernel
theorem dX11_match_18 : decode cX11_match 18 = .ok (.iload_n 2, 1) := by decide +kernel
theorem dX11_match_19 : decode cX11_match 19 = .ok (.invokevirtual 222, 3) := by decide +kernel
theorem dX11_match_22 : decode cX11_match 22 = .ok (.iload_n 3, 1) := by decide +kernel
theorem dX11_match_23 : decode cX11_match 23 = .ok (.ifCond .eq 30, 3) := by decide +kernel
theorem dX11_match_26 : decode cX11_match 26 = .ok (.aload_n 0, 1) := by decide +kernel
theorem dX11_match_27 : decode cX11_match 27 = .ok (.getfield 40, 3) := by decide +kernel
theorem dX11_match_30 : decode cX11_match 30 = .ok (.aload_n 0, 1) := by decide +kernel
theorem dX11_match_31 : decode cX11_match 31 = .ok (.getfield 28, 3) := by decide +kernel
theorem dX11_match_34 : decode cX11_match 34 = .ok (.getfield 161, 3) := by decide +kernel
theorem dX11_match_37 : decode cX11_match 37 = .ok (.aload_n 0, 1) := by decide +kernel
theorem dX11_match_38 : decode cX11_match 38 = .ok (.getfield 28, 3) := by decide +kernel
theorem dX11_match_41 : decode cX11_match 41 = .ok (.getfield 173, 3) := by decide +kernel
theorem dX11_match_44 : decode cX11_match 44 = .ok (.invokevirtual 188, 3) := by decide +kernel
theorem dX11_match_47 : decode cX11_match 47 = .ok (.aload_n 0, 1) := by decide +kernel
theorem dX11_match_48 : decode cX11_match 48 = .ok (.iconst 1, 1) := by decide +kernel
theorem dX11_match_49 : decode cX11_match 49 = .ok (.invokevirtual 261, 3) := by decide +kernel
theorem dX11_match_52 : decode cX11_match 52 = .ok (.lreturn, 1) := by decide +kernel
theorem dX11_match_53 : decode cX11_match 53 = .ok (.lconst 0, 1) := by decide +kernel
theorem dX11_match_54 : decode cX11_match 54 = .ok (.lstore 4, 2) := by decide +kernel
theorem dX11_match_56 : decode cX11_match 56 = .ok (.iconst 0, 1) := by decide +kernel
theorem dX11_match_57 : decode cX11_match 57 = .ok (.istore 6, 2) := by decide +kernel
theorem dX11_match_59 : decode cX11_match 59 = .ok (.iload 6, 2) := by decide +kernel
theorem dX11_match_61 : decode cX11_match 61 = .ok (.bipush 80, 2) := by decide +kernel
theorem dX11_match_63 : decode cX11_match 63 = .ok (.if_icmp .gt 35, 3) := by decide +kernel
theorem dX11_match_66 : decode cX11_match 66 = .ok (.aload_n 0, 1) := by decide +kernel
theorem dX11_match_67 : decode cX11_match 67 = .ok (.getfield 40, 3) := by decide +kernel
theorem dX11_match_70 : decode cX11_match 70 = .ok (.iload 6, 2) := by decide +kernel
theorem dX11_match_72 : decode cX11_match 72 = .ok (.aload_n 0, 1) := by decide +kernel
theorem dX11_match_73 : decode cX11_match 73 = .ok (.getfield 28, 3) := by decide +kernel
theorem dX11_match_76 : decode cX11_match 76 = .ok (.getfield 173, 3) := by decide +kernel
theorem dX11_match_79 : decode cX11_match 79 = .ok (.invokevirtual 188, 3) := by decide +kernel
theorem dX11_match_82 : decode cX11_match 82 = .ok (.lload 4, 2) := by decide +kernel
theorem dX11_match_84 : decode cX11_match 84 = .ok (.aload_n 0, 1) := by decide +kernel
theorem dX11_match_85 : decode cX11_match 85 = .ok (.iconst 0, 1) := by decide +kernel
theorem dX11_match_86 : decode cX11_match 86 = .ok (.invokevirtual 261, 3) := by decide +kernel
theorem dX11_match_89 : decode cX11_match 89 = .ok (.ladd, 1) := by decide +kernel
theorem dX11_match_90 : decode cX11_match 90 = .ok (.lstore 4, 2) := by decide +kernel
theorem dX11_match_92 : decode cX11_match 92 = .ok (.iinc 6 10, 3) := by decide +kernel
theorem dX11_match_95 : decode cX11_match 95 = .ok (.goto (-36), 3) := by decide +kernel
theorem dX11_match_98 : decode cX11_match 98 = .ok (.lload 4, 2) := by decide +kernel
theorem dX11_match_100 : decode cX11_match 100 = .ok (.ldc2_w 265, 3) := by decide +kernel
theorem dX11_match_103 : decode cX11_match 103 = .ok (.invokestatic 267, 3) := by decide +kernel
theorem dX11_match_106 : decode cX11_match 106 = .ok (.lreturn, 1) := by decide +kernel
theorem dX11_learn_0 : decode cX11_learn 0 = .ok (.aload_n 0, 1) := by decide +kernel
theorem dX11_learn_1 : decode cX11_learn 1 = .ok (.iload_n 1, 1) := by decide +kernel
theorem dX11_learn_2 : decode cX11_learn 2 = .ok (.invokevirtual 206, 3) := by decide +kernel
theorem dX11_learn_5 : decode cX11_learn 5 = .ok (.iload_n 1, 1) := by decide +kernel
theorem dX11_learn_6 : decode cX11_learn 6 = .ok (.iload_n 2, 1) := by decide +kernel
theorem dX11_learn_7 : decode cX11_learn 7 = .ok (.invokestatic 209, 3) := by decide +kernel
theorem dX11_learn_10 : decode cX11_learn 10 = .ok (.invokestatic 83, 3) := by decide +kernel
theorem dX11_learn_13 : decode cX11_learn 13 = .ok (.aload_n 0, 1) := by decide +kernel
theorem dX11_learn_14 : decode cX11_learn 14 = .ok (.getfield 40, 3) := by decide +kernel
theorem dX11_learn_17 : decode cX11_learn 17 = .ok (.aload_n 0, 1) := by decide +kernel
theorem dX11_learn_18 : decode cX11_learn 18 = .ok (.getfield 28, 3) := by decide +kernel
theorem dX11_learn_21 : decode cX11_learn 21 = .ok (.getfield 161, 3) := by decide +kernel
theorem dX11_learn_24 : decode cX11_learn 24 = .ok (.aload_n 0, 1) := by decide +kernel
theorem dX11_learn_25 : decode cX11_learn 25 = .ok (.getfield 28, 3) := by decide +kernel
theorem dX11_learn_28 : decode cX11_learn 28 = .ok (.getfield 173, 3) := by decide +kernel
theorem dX11_learn_31 : decode cX11_learn 31 = .ok (.invokevirtual 188, 3) := by decide +kernel
theorem dX11_learn_34 : decode cX11_learn 34 = .ok (.aload_n 0, 1) := by decide +kernel
theorem dX11_learn_35 : decode cX11_learn 35 = .ok (.getfield 40, 3) := by decide +kernel
theorem dX11_learn_38 : decode cX11_learn 38 = .ok (.iload_n 1, 1) := by decide +kernel
theorem dX11_learn_39 : decode cX11_learn 39 = .ok (.iload_n 2, 1) := by decide +kernel
theorem dX11_learn_40 : decode cX11_learn 40 = .ok (.invokevirtual 222, 3) := by decide +kernel
theorem dX11_learn_43 : decode cX11_learn 43 = .ok (.aload_n 0, 1) := by decide +kernel
theorem dX11_learn_44 : decode cX11_learn 44 = .ok (.getfield 49, 3) := by decide +kernel
theorem dX11_learn_47 : decode cX11_learn 47 = .ok (.invokevirtual 273, 3) := by decide +kernel
theorem dX11_learn_50 : decode cX11_learn 50 = .ok (.iconst 0, 1) := by decide +kernel
theorem dX11_learn_51 : decode cX11_learn 51 = .ok (.istore_n 3, 1) := by decide +kernel
theorem dX11_learn_52 : decode cX11_learn 52 = .ok (.iload_n 3, 1) := by decide +kernel
theorem dX11_learn_53 : decode cX11_learn 53 = .ok (.bipush 60, 2) := by decide +kernel
theorem dX11_learn_55 : decode cX11_learn 55 = .ok (.if_icmp .gt 21, 3) := by decide +kernel
theorem dX11_learn_58 : decode cX11_learn 58 = .ok (.aload_n 0, 1) := by decide +kernel
theorem dX11_learn_59 : decode cX11_learn 59 = .ok (.getfield 49, 3) := by decide +kernel
theorem dX11_learn_62 : decode cX11_learn 62 = .ok (.invokevirtual 276, 3) := by decide +kernel
theorem dX11_learn_65 : decode cX11_learn 65 = .ok (.ifCond .ne 5, 3) := by decide +kernel
theorem dX11_learn_68 : decode cX11_learn 68 = .ok (.iload_n 3, 1) := by decide +kernel
theorem dX11_learn_69 : decode cX11_learn 69 = .ok (.ireturn, 1) := by decide +kernel
theorem dX11_learn_70 : decode cX11_learn 70 = .ok (.iinc 3 1, 3) := by decide +kernel
theorem dX11_learn_73 : decode cX11_learn 73 = .ok (.goto (-21), 3) := by decide +kernel
theorem dX11_learn_76 : decode cX11_learn 76 = .ok (.aload_n 0, 1) := by decide +kernel
theorem dX11_learn_77 : decode cX11_learn 77 = .ok (.getfield 49, 3) := by decide +kernel
theorem dX11_learn_80 : decode cX11_learn 80 = .ok (.invokevirtual 280, 3) := by decide +kernel
theorem dX11_learn_83 : decode cX11_learn 83 = .ok (.iconst (-1), 1) := by decide +kernel
theorem dX11_learn_84 : decode cX11_learn 84 = .ok (.ireturn, 1) := by decide +kernel
theorem dX11_two_0 : decode cX11_two 0 = .ok (.aload_n 0, 1) := by decide +kernel
theorem dX11_two_1 : decode cX11_two 1 = .ok (.iload_n 1, 1) := by decide +kernel
theorem dX11_two_2 : decode cX11_two 2 = .ok (.iload_n 2, 1) := by decide +kernel
theorem dX11_two_3 : decode cX11_two 3 = .ok (.invokevirtual 194, 3) := by decide +kernel
theorem dX11_two_6 : decode cX11_two 6 = .ok (.aload_n 0, 1) := by decide +kernel
theorem dX11_two_7 : decode cX11_two 7 = .ok (.iload_n 3, 1) := by decide +kernel
theorem dX11_two_8 : decode cX11_two 8 = .ok (.iload 4, 2) := by decide +kernel
theorem dX11_two_10 : decode cX11_two 10 = .ok (.invokevirtual 194, 3) := by decide +kernel
theorem dX11_two_13 : decode cX11_two 13 = .ok (.iload 5, 2) := by decide +kernel
theorem dX11_two_15 : decode cX11_two 15 = .ok (.invokestatic 130, 3) := by decide +kernel
theorem dX11_two_18 : decode cX11_two 18 = .ok (.invokestatic 133, 3) := by decide +kernel
theorem dX11_two_21 : decode cX11_two 21 = .ok (.aload_n 0, 1) := by decide +kernel
theorem dX11_two_22 : decode cX11_two 22 = .ok (.getfield 28, 3) := by decide +kernel
theorem dX11_two_25 : decode cX11_two 25 = .ok (.iload_n 2, 1) := by decide +kernel
theorem dX11_two_26 : decode cX11_two 26 = .ok (.aload_n 0, 1) := by decide +kernel
theorem dX11_two_27 : decode cX11_two 27 = .ok (.getfield 28, 3) := by decide +kernel
theorem dX11_two_30 : decode cX11_two 30 = .ok (.iload_n 1, 1) := by decide +kernel
theorem dX11_two_31 : decode cX11_two 31 = .ok (.invokevirtual 197, 3) := by decide +kernel
theorem dX11_two_34 : decode cX11_two 34 = .ok (.invokevirtual 203, 3) := by decide +kernel
theorem dX11_two_37 : decode cX11_two 37 = .ok (.istore 7, 2) := by decide +kernel
theorem dX11_two_39 : decode cX11_two 39 = .ok (.aload_n 0, 1) := by decide +kernel
theorem dX11_two_40 : decode cX11_two 40 = .ok (.getfield 28, 3) := by decide +kernel
theorem dX11_two_43 : decode cX11_two 43 = .ok (.iload 4, 2) := by decide +kernel
theorem dX11_two_45 : decode cX11_two 45 = .ok (.aload_n 0, 1) := by decide +kernel
theorem dX11_two_46 : decode cX11_two 46 = .ok (.getfield 28, 3) := by decide +kernel
theorem dX11_two_49 : decode cX11_two 49 = .ok (.iload_n 3, 1) := by decide +kernel
theorem dX11_two_50 : decode cX11_two 50 = .ok (.invokevirtual 197, 3) := by decide +kernel
theorem dX11_two_53 : decode cX11_two 53 = .ok (.invokevirtual 203, 3) := by decide +kernel
theorem dX11_two_56 : decode cX11_two 56 = .ok (.istore 8, 2) := by decide +kernel
theorem dX11_two_58 : decode cX11_two 58 = .ok (.iload 7, 2) := by decide +kernel
theorem dX11_two_60 : decode cX11_two 60 = .ok (.iload 8, 2) := by decide +kernel
theorem dX11_two_62 : decode cX11_two 62 = .ok (.if_icmp .ne 5, 3) := by decide +kernel
theorem dX11_two_65 : decode cX11_two 65 = .ok (.lconst 0, 1) := by decide +kernel
theorem dX11_two_66 : decode cX11_two 66 = .ok (.lreturn, 1) := by decide +kernel
theorem dX11_two_67 : decode cX11_two 67 = .ok (.iload 7, 2) := by decide +kernel
theorem dX11_two_69 : decode cX11_two 69 = .ok (.iload 8, 2) := by decide +kernel
theorem dX11_two_71 : decode cX11_two 71 = .ok (.if_icmp .ge 19, 3) := by decide +kernel
theorem dX11_two_74 : decode cX11_two 74 = .ok (.iload 6, 2) := by decide +kernel
theorem dX11_two_76 : decode cX11_two 76 = .ok (.ifCond .eq 10, 3) := by decide +kernel
theorem dX11_two_79 : decode cX11_two 79 = .ok (.iload 8, 2) := by decide +kernel
theorem dX11_two_81 : decode cX11_two 81 = .ok (.ineg, 1) := by decide +kernel
theorem dX11_two_82 : decode cX11_two 82 = .ok (.i2l, 1) := by decide +kernel
theorem dX11_two_83 : decode cX11_two 83 = .ok (.goto 6, 3) := by decide +kernel
theorem dX11_two_86 : decode cX11_two 86 = .ok (.ldc2_w 283, 3) := by decide +kernel
theorem dX11_two_89 : decode cX11_two 89 = .ok (.lreturn, 1) := by decide +kernel
theorem dX11_two_90 : decode cX11_two 90 = .ok (.iload 6, 2) := by decide +kernel
theorem dX11_two_92 : decode cX11_two 92 = .ok (.ifCond .ne 5, 3) := by decide +kernel
theorem dX11_two_95 : decode cX11_two 95 = .ok (.lconst 1, 1) := by decide +kernel
theorem dX11_two_96 : decode cX11_two 96 = .ok (.lreturn, 1) := by decide +kernel
theorem dX11_two_97 : decode cX11_two 97 = .ok (.aload_n 0, 1) := by decide +kernel
theorem dX11_two_98 : decode cX11_two 98 = .ok (.iconst 3, 1) := by decide +kernel
theorem dX11_two_99 : decode cX11_two 99 = .ok (.iconst 0, 1) := by decide +kernel
theorem dX11_two_100 : decode cX11_two 100 = .ok (.iload_n 1, 1) := by decide +kernel
theorem dX11_two_101 : decode cX11_two 101 = .ok (.iload_n 2, 1) := by decide +kernel
theorem dX11_two_102 : decode cX11_two 102 = .ok (.invokevirtual 212, 3) := by decide +kernel
theorem dX11_two_105 : decode cX11_two 105 = .ok (.aload_n 0, 1) := by decide +kernel
theorem dX11_two_106 : decode cX11_two 106 = .ok (.getfield 40, 3) := by decide +kernel
theorem dX11_two_109 : decode cX11_two 109 = .ok (.iconst 0, 1) := by decide +kernel
theorem dX11_two_110 : decode cX11_two 110 = .ok (.iload 5, 2) := by decide +kernel
theorem dX11_two_112 : decode cX11_two 112 = .ok (.invokevirtual 216, 3) := by decide +kernel
theorem dX11_two_115 : decode cX11_two 115 = .ok (.i2l, 1) := by decide +kernel
theorem dX11_two_116 : decode cX11_two 116 = .ok (.lreturn, 1) := by decide +kernel
theorem dX11_leans_0 : decode cX11_leans 0 = .ok (.iload_n 1, 1) := by decide +kernel
theorem dX11_leans_1 : decode cX11_leans 1 = .ok (.bipush 30, 2) := by decide +kernel
theorem dX11_leans_3 : decode cX11_leans 3 = .ok (.invokestatic 75, 3) := by decide +kernel
theorem dX11_leans_6 : decode cX11_leans 6 = .ok (.ifCond .eq 15, 3) := by decide +kernel
theorem dX11_leans_9 : decode cX11_leans 9 = .ok (.iload_n 2, 1) := by decide +kernel
theorem dX11_leans_10 : decode cX11_leans 10 = .ok (.iload_n 1, 1) := by decide +kernel
theorem dX11_leans_11 : decode cX11_leans 11 = .ok (.invokestatic 75, 3) := by decide +kernel
theorem dX11_leans_14 : decode cX11_leans 14 = .ok (.ifCond .eq 7, 3) := by decide +kernel
theorem dX11_leans_17 : decode cX11_leans 17 = .ok (.iconst 1, 1) := by decide +kernel
theorem dX11_leans_18 : decode cX11_leans 18 = .ok (.goto 4, 3) := by decide +kernel
theorem dX11_leans_21 : decode cX11_leans 21 = .ok (.iconst 0, 1) := by decide +kernel
theorem dX11_leans_22 : decode cX11_leans 22 = .ok (.invokestatic 83, 3) := by decide +kernel
theorem dX11_leans_25 : decode cX11_leans 25 = .ok (.iload_n 3, 1) := by decide +kernel
theorem dX11_leans_26 : decode cX11_leans 26 = .ok (.bipush 30, 2) := by decide +kernel
theorem dX11_leans_28 : decode cX11_leans 28 = .ok (.invokestatic 75, 3) := by decide +kernel
theorem dX11_leans_31 : decode cX11_leans 31 = .ok (.ifCond .eq 16, 3) := by decide +kernel
theorem dX11_leans_34 : decode cX11_leans 34 = .ok (.iload 4, 2) := by decide +kernel
theorem dX11_leans_36 : decode cX11_leans 36 = .ok (.iload_n 3, 1) := by decide +kernel
theorem dX11_leans_37 : decode cX11_leans 37 = .ok (.invokestatic 75, 3) := by decide +kernel
theorem dX11_leans_40 : decode cX11_leans 40 = .ok (.ifCond .eq 7, 3) := by decide +kernel
theorem dX11_leans_43 : decode cX11_leans 43 = .ok (.iconst 1, 1) := by decide +kernel
theorem dX11_leans_44 : decode cX11_leans 44 = .ok (.goto 4, 3) := by decide +kernel
theorem dX11_leans_47 : decode cX11_leans 47 = .ok (.iconst 0, 1) := by decide +kernel
theorem dX11_leans_48 : decode cX11_leans 48 = .ok (.invokestatic 83, 3) := by decide +kernel
theorem dX11_leans_51 : decode cX11_leans 51 = .ok (.iload_n 2, 1) := by decide +kernel
theorem dX11_leans_52 : decode cX11_leans 52 = .ok (.iload 4, 2) := by decide +kernel
theorem dX11_leans_54 : decode cX11_leans 54 = .ok (.iadd, 1) := by decide +kernel
theorem dX11_leans_55 : decode cX11_leans 55 = .ok (.istore 6, 2) := by decide +kernel
theorem dX11_leans_57 : decode cX11_leans 57 = .ok (.iload 5, 2) := by decide +kernel
theorem dX11_leans_59 : decode cX11_leans 59 = .ok (.ifCond .eq 12, 3) := by decide +kernel
theorem dX11_leans_62 : decode cX11_leans 62 = .ok (.iload_n 1, 1) := by decide +kernel
theorem dX11_leans_63 : decode cX11_leans 63 = .ok (.iload_n 3, 1) := by decide +kernel
theorem dX11_leans_64 : decode cX11_leans 64 = .ok (.iadd, 1) := by decide +kernel
theorem dX11_leans_65 : decode cX11_leans 65 = .ok (.iload 6, 2) := by decide +kernel
theorem dX11_leans_67 : decode cX11_leans 67 = .ok (.invokestatic 285, 3) := by decide +kernel
theorem dX11_leans_70 : decode cX11_leans 70 = .ok (.lreturn, 1) := by decide +kernel
theorem dX11_leans_71 : decode cX11_leans 71 = .ok (.lconst 0, 1) := by decide +kernel
theorem dX11_leans_72 : decode cX11_leans 72 = .ok (.lstore 7, 2) := by decide +kernel
theorem dX11_leans_74 : decode cX11_leans 74 = .ok (.iload_n 2, 1) := by decide +kernel
theorem dX11_leans_75 : decode cX11_leans 75 = .ok (.istore 9, 2) := by decide +kernel
theorem dX11_leans_77 : decode cX11_leans 77 = .ok (.iload 9, 2) := by decide +kernel
theorem dX11_leans_79 : decode cX11_leans 79 = .ok (.iload_n 1, 1) := by decide +kernel
theorem dX11_leans_80 : decode cX11_leans 80 = .ok (.if_icmp .gt 37, 3) := by decide +kernel
theorem dX11_leans_83 : decode cX11_leans 83 = .ok (.iload 9, 2) := by decide +kernel
theorem dX11_leans_85 : decode cX11_leans 85 = .ok (.iload 6, 2) := by decide +kernel
theorem dX11_leans_87 : decode cX11_leans 87 = .ok (.if_icmp .gt 30, 3) := by decide +kernel
theorem dX11_leans_90 : decode cX11_leans 90 = .ok (.lload 7, 2) := by decide +kernel
theorem dX11_leans_92 : decode cX11_leans 92 = .ok (.iload_n 1, 1) := by decide +kernel
theorem dX11_leans_93 : decode cX11_leans 93 = .ok (.iload 9, 2) := by decide +kernel
theorem dX11_leans_95 : decode cX11_leans 95 = .ok (.invokestatic 285, 3) := by decide +kernel
theorem dX11_leans_98 : decode cX11_leans 98 = .ok (.iload_n 3, 1) := by decide +kernel
theorem dX11_leans_99 : decode cX11_leans 99 = .ok (.iload 6, 2) := by decide +kernel
theorem dX11_leans_101 : decode cX11_leans 101 = .ok (.iload 9, 2) := by decide +kernel
theorem dX11_leans_103 : decode cX11_leans 103 = .ok (.isub, 1) := by decide +kernel
theorem dX11_leans_104 : decode cX11_leans 104 = .ok (.invokestatic 285, 3) := by decide +kernel
theorem dX11_leans_107 : decode cX11_leans 107 = .ok (.lmul, 1) := by decide +kernel
theorem dX11_leans_108 : decode cX11_leans 108 = .ok (.ladd, 1) := by decide +kernel
theorem dX11_leans_109 : decode cX11_leans 109 = .ok (.lstore 7, 2) := by decide +kernel
theorem dX11_leans_111 : decode cX11_leans 111 = .ok (.iinc 9 1, 3) := by decide +kernel
theorem dX11_leans_114 : decode cX11_leans 114 = .ok (.goto (-37), 3) := by decide +kernel
theorem dX11_leans_117 : decode cX11_leans 117 = .ok (.lload 7, 2) := by decide +kernel
theorem dX11_leans_119 : decode cX11_leans 119 = .ok (.lreturn, 1) := by decide +kernel
theorem dX11_played_0 : decode cX11_played 0 = .ok (.aload_n 0, 1) := by decide +kernel
theorem dX11_played_1 : decode cX11_played 1 = .ok (.iload_n 1, 1) := by decide +kernel
theorem dX11_played_2 : decode cX11_played 2 = .ok (.invokevirtual 206, 3) := by decide +kernel
theorem dX11_played_5 : decode cX11_played 5 = .ok (.aload_n 0, 1) := by decide +kernel
theorem dX11_played_6 : decode cX11_played 6 = .ok (.iload_n 3, 1) := by decide +kernel
theorem dX11_played_7 : decode cX11_played 7 = .ok (.iload 4, 2) := by decide +kernel
theorem dX11_played_9 : decode cX11_played 9 = .ok (.invokevirtual 194, 3) := by decide +kernel
theorem dX11_played_12 : decode cX11_played 12 = .ok (.iload 5, 2) := by decide +kernel
theorem dX11_played_14 : decode cX11_played 14 = .ok (.invokestatic 130, 3) := by decide +kernel
theorem dX11_played_17 : decode cX11_played 17 = .ok (.invokestatic 133, 3) := by decide +kernel
theorem dX11_played_20 : decode cX11_played 20 = .ok (.iload_n 1, 1) := by decide +kernel
theorem dX11_played_21 : decode cX11_played 21 = .ok (.iload_n 2, 1) := by decide +kernel
theorem dX11_played_22 : decode cX11_played 22 = .ok (.invokestatic 209, 3) := by decide +kernel
theorem dX11_played_25 : decode cX11_played 25 = .ok (.invokestatic 83, 3) := by decide +kernel
theorem dX11_played_28 : decode cX11_played 28 = .ok (.aload_n 0, 1) := by decide +kernel
theorem dX11_played_29 : decode cX11_played 29 = .ok (.iload_n 1, 1) := by decide +kernel
theorem dX11_played_30 : decode cX11_played 30 = .ok (.iload_n 2, 1) := by decide +kernel
theorem dX11_played_31 : decode cX11_played 31 = .ok (.iload_n 3, 1) := by decide +kernel
theorem dX11_played_32 : decode cX11_played 32 = .ok (.iload 4, 2) := by decide +kernel
theorem dX11_played_34 : decode cX11_played 34 = .ok (.invokevirtual 212, 3) := by decide +kernel
theorem dX11_played_37 : decode cX11_played 37 = .ok (.aload_n 0, 1) := by decide +kernel
theorem dX11_played_38 : decode cX11_played 38 = .ok (.getfield 56, 3) := by decide +kernel
theorem dX11_played_41 : decode cX11_played 41 = .ok (.iload 6, 2) := by decide +kernel
theorem dX11_played_43 : decode cX11_played 43 = .ok (.putfield 289, 3) := by decide +kernel
theorem dX11_played_46 : decode cX11_played 46 = .ok (.aload_n 0, 1) := by decide +kernel
theorem dX11_played_47 : decode cX11_played 47 = .ok (.getfield 56, 3) := by decide +kernel
theorem dX11_played_50 : decode cX11_played 50 = .ok (.iload 5, 2) := by decide +kernel
theorem dX11_played_52 : decode cX11_played 52 = .ok (.invokevirtual 292, 3) := by decide +kernel
theorem dX11_played_55 : decode cX11_played 55 = .ok (.bipush 100, 2) := by decide +kernel
theorem dX11_played_57 : decode cX11_played 57 = .ok (.aload_n 0, 1) := by decide +kernel
theorem dX11_played_58 : decode cX11_played 58 = .ok (.getfield 56, 3) := by decide +kernel
theorem dX11_played_61 : decode cX11_played 61 = .ok (.getfield 295, 3) := by decide +kernel
theorem dX11_played_64 : decode cX11_played 64 = .ok (.imul, 1) := by decide +kernel
theorem dX11_played_65 : decode cX11_played 65 = .ok (.aload_n 0, 1) := by decide +kernel
theorem dX11_played_66 : decode cX11_played 66 = .ok (.getfield 56, 3) := by decide +kernel
theorem dX11_played_69 : decode cX11_played 69 = .ok (.getfield 298, 3) := by decide +kernel
theorem dX11_played_72 : decode cX11_played 72 = .ok (.iadd, 1) := by decide +kernel
theorem dX11_played_73 : decode cX11_played 73 = .ok (.ireturn, 1) := by decide +kernel
theorem dX11_ends_0 : decode cX11_ends 0 = .ok (.aload_n 0, 1) := by decide +kernel
theorem dX11_ends_1 : decode cX11_ends 1 = .ok (.iload_n 1, 1) := by decide +kernel
theorem dX11_ends_2 : decode cX11_ends 2 = .ok (.invokevirtual 206, 3) := by decide +kernel
theorem dX11_ends_5 : decode cX11_ends 5 = .ok (.aload_n 0, 1) := by decide +kernel
theorem dX11_ends_6 : decode cX11_ends 6 = .ok (.iload_n 3, 1) := by decide +kernel
theorem dX11_ends_7 : decode cX11_ends 7 = .ok (.iload 4, 2) := by decide +kernel
theorem dX11_ends_9 : decode cX11_ends 9 = .ok (.invokevirtual 194, 3) := by decide +kernel
theorem dX11_ends_12 : decode cX11_ends 12 = .ok (.iload 5, 2) := by decide +kernel
theorem dX11_ends_14 : decode cX11_ends 14 = .ok (.invokestatic 130, 3) := by decide +kernel
theorem dX11_ends_17 : decode cX11_ends 17 = .ok (.invokestatic 133, 3) := by decide +kernel
theorem dX11_ends_20 : decode cX11_ends 20 = .ok (.iload_n 1, 1) := by decide +kernel
theorem dX11_ends_21 : decode cX11_ends 21 = .ok (.iload_n 2, 1) := by decide +kernel
theorem dX11_ends_22 : decode cX11_ends 22 = .ok (.invokestatic 209, 3) := by decide +kernel
theorem dX11_ends_25 : decode cX11_ends 25 = .ok (.invokestatic 83, 3) := by decide +kernel
theorem dX11_ends_28 : decode cX11_ends 28 = .ok (.iload 6, 2) := by decide +kernel
theorem dX11_ends_30 : decode cX11_ends 30 = .ok (.iconst 2, 1) := by decide +kernel
theorem dX11_ends_31 : decode cX11_ends 31 = .ok (.invokestatic 136, 3) := by decide +kernel
theorem dX11_ends_34 : decode cX11_ends 34 = .ok (.aload_n 0, 1) := by decide +kernel
theorem dX11_ends_35 : decode cX11_ends 35 = .ok (.iload_n 1, 1) := by decide +kernel
theorem dX11_ends_36 : decode cX11_ends 36 = .ok (.iload_n 2, 1) := by decide +kernel
theorem dX11_ends_37 : decode cX11_ends 37 = .ok (.iload_n 3, 1) := by decide +kernel
theorem dX11_ends_38 : decode cX11_ends 38 = .ok (.iload 4, 2) := by decide +kernel
theorem dX11_ends_40 : decode cX11_ends 40 = .ok (.invokevirtual 212, 3) := by decide +kernel
theorem dX11_ends_43 : decode cX11_ends 43 = .ok (.aload_n 0, 1) := by decide +kernel
theorem dX11_ends_44 : decode cX11_ends 44 = .ok (.getfield 56, 3) := by decide +kernel
theorem dX11_ends_47 : decode cX11_ends 47 = .ok (.iload 6, 2) := by decide +kernel
theorem dX11_ends_49 : decode cX11_ends 49 = .ok (.invokevirtual 301, 3) := by decide +kernel
theorem dX11_ends_52 : decode cX11_ends 52 = .ok (.aload_n 0, 1) := by decide +kernel
theorem dX11_ends_53 : decode cX11_ends 53 = .ok (.getfield 56, 3) := by decide +kernel
theorem dX11_ends_56 : decode cX11_ends 56 = .ok (.invokevirtual 304, 3) := by decide +kernel
theorem dX11_ends_59 : decode cX11_ends 59 = .ok (.aload_n 0, 1) := by decide +kernel
theorem dX11_ends_60 : decode cX11_ends 60 = .ok (.getfield 56, 3) := by decide +kernel
theorem dX11_ends_63 : decode cX11_ends 63 = .ok (.iload 5, 2) := by decide +kernel
theorem dX11_ends_65 : decode cX11_ends 65 = .ok (.invokevirtual 307, 3) := by decide +kernel
theorem dX11_ends_68 : decode cX11_ends 68 = .ok (.ireturn, 1) := by decide +kernel
theorem dX11_mean_0 : decode cX11_mean 0 = .ok (.aload_n 0, 1) := by decide +kernel
theorem dX11_mean_1 : decode cX11_mean 1 = .ok (.iload_n 1, 1) := by decide +kernel
theorem dX11_mean_2 : decode cX11_mean 2 = .ok (.invokevirtual 206, 3) := by decide +kernel
theorem dX11_mean_5 : decode cX11_mean 5 = .ok (.iload_n 1, 1) := by decide +kernel
theorem dX11_mean_6 : decode cX11_mean 6 = .ok (.iload_n 2, 1) := by decide +kernel
theorem dX11_mean_7 : decode cX11_mean 7 = .ok (.invokestatic 209, 3) := by decide +kernel
theorem dX11_mean_10 : decode cX11_mean 10 = .ok (.invokestatic 83, 3) := by decide +kernel
theorem dX11_mean_13 : decode cX11_mean 13 = .ok (.iload_n 3, 1) := by decide +kernel
theorem dX11_mean_14 : decode cX11_mean 14 = .ok (.iconst 2, 1) := by decide +kernel
theorem dX11_mean_15 : decode cX11_mean 15 = .ok (.invokestatic 136, 3) := by decide +kernel
theorem dX11_mean_18 : decode cX11_mean 18 = .ok (.aload_n 0, 1) := by decide +kernel
theorem dX11_mean_19 : decode cX11_mean 19 = .ok (.getfield 40, 3) := by decide +kernel
theorem dX11_mean_22 : decode cX11_mean 22 = .ok (.aload_n 0, 1) := by decide +kernel
theorem dX11_mean_23 : decode cX11_mean 23 = .ok (.getfield 28, 3) := by decide +kernel
theorem dX11_mean_26 : decode cX11_mean 26 = .ok (.getfield 161, 3) := by decide +kernel
theorem dX11_mean_29 : decode cX11_mean 29 = .ok (.aload_n 0, 1) := by decide +kernel
theorem dX11_mean_30 : decode cX11_mean 30 = .ok (.getfield 28, 3) := by decide +kernel
theorem dX11_mean_33 : decode cX11_mean 33 = .ok (.getfield 173, 3) := by decide +kernel
theorem dX11_mean_36 : decode cX11_mean 36 = .ok (.invokevirtual 188, 3) := by decide +kernel
theorem dX11_mean_39 : decode cX11_mean 39 = .ok (.aload_n 0, 1) := by decide +kernel
theorem dX11_mean_40 : decode cX11_mean 40 = .ok (.getfield 40, 3) := by decide +kernel
theorem dX11_mean_43 : decode cX11_mean 43 = .ok (.iload_n 1, 1) := by decide +kernel
theorem dX11_mean_44 : decode cX11_mean 44 = .ok (.iload_n 2, 1) := by decide +kernel
theorem dX11_mean_45 : decode cX11_mean 45 = .ok (.invokevirtual 222, 3) := by decide +kernel
theorem dX11_mean_48 : decode cX11_mean 48 = .ok (.aload_n 0, 1) := by decide +kernel
theorem dX11_mean_49 : decode cX11_mean 49 = .ok (.getfield 56, 3) := by decide +kernel
theorem dX11_mean_52 : decode cX11_mean 52 = .ok (.iload_n 3, 1) := by decide +kernel
theorem dX11_mean_53 : decode cX11_mean 53 = .ok (.invokevirtual 301, 3) := by decide +kernel
theorem dX11_mean_56 : decode cX11_mean 56 = .ok (.lconst 0, 1) := by decide +kernel
theorem dX11_mean_57 : decode cX11_mean 57 = .ok (.lstore 4, 2) := by decide +kernel
theorem dX11_mean_59 : decode cX11_mean 59 = .ok (.iconst 0, 1) := by decide +kernel
theorem dX11_mean_60 : decode cX11_mean 60 = .ok (.istore 6, 2) := by decide +kernel
theorem dX11_mean_62 : decode cX11_mean 62 = .ok (.iload 6, 2) := by decide +kernel
theorem dX11_mean_64 : decode cX11_mean 64 = .ok (.aload_n 0, 1) := by decide +kernel
theorem dX11_mean_65 : decode cX11_mean 65 = .ok (.getfield 28, 3) := by decide +kernel
theorem dX11_mean_68 : decode cX11_mean 68 = .ok (.getfield 179, 3) := by decide +kernel
theorem dX11_mean_71 : decode cX11_mean 71 = .ok (.if_icmp .ge 38, 3) := by decide +kernel
theorem dX11_mean_74 : decode cX11_mean 74 = .ok (.iconst 0, 1) := by decide +kernel
theorem dX11_mean_75 : decode cX11_mean 75 = .ok (.istore 7, 2) := by decide +kernel
theorem dX11_mean_77 : decode cX11_mean 77 = .ok (.iload 7, 2) := by decide +kernel
theorem dX11_mean_79 : decode cX11_mean 79 = .ok (.bipush 8, 2) := by decide +kernel
theorem dX11_mean_81 : decode cX11_mean 81 = .ok (.if_icmp .ge 22, 3) := by decide +kernel
theorem dX11_mean_84 : decode cX11_mean 84 = .ok (.lload 4, 2) := by decide +kernel
theorem dX11_mean_86 : decode cX11_mean 86 = .ok (.aload_n 0, 1) := by decide +kernel
theorem dX11_mean_87 : decode cX11_mean 87 = .ok (.iload 6, 2) := by decide +kernel
theorem dX11_mean_89 : decode cX11_mean 89 = .ok (.iload 7, 2) := by decide +kernel
theorem dX11_mean_91 : decode cX11_mean 91 = .ok (.invokevirtual 310, 3) := by decide +kernel
theorem dX11_mean_94 : decode cX11_mean 94 = .ok (.ladd, 1) := by decide +kernel
theorem dX11_mean_95 : decode cX11_mean 95 = .ok (.lstore 4, 2) := by decide +kernel
theorem dX11_mean_97 : decode cX11_mean 97 = .ok (.iinc 7 1, 3) := by decide +kernel
theorem dX11_mean_100 : decode cX11_mean 100 = .ok (.goto (-23), 3) := by decide +kernel
theorem dX11_mean_103 : decode cX11_mean 103 = .ok (.iinc 6 1, 3) := by decide +kernel
theorem dX11_mean_106 : decode cX11_mean 106 = .ok (.goto (-44), 3) := by decide +kernel
theorem dX11_mean_109 : decode cX11_mean 109 = .ok (.lload 4, 2) := by decide +kernel
theorem dX11_mean_111 : decode cX11_mean 111 = .ok (.lreturn, 1) := by decide +kernel
theorem dX11_plain_0 : decode cX11_plain 0 = .ok (.aload_n 0, 1) := by decide +kernel
theorem dX11_plain_1 : decode cX11_plain 1 = .ok (.iload_n 1, 1) := by decide +kernel
theorem dX11_plain_2 : decode cX11_plain 2 = .ok (.iload_n 2, 1) := by decide +kernel
theorem dX11_plain_3 : decode cX11_plain 3 = .ok (.invokevirtual 194, 3) := by decide +kernel
theorem dX11_plain_6 : decode cX11_plain 6 = .ok (.aload_n 0, 1) := by decide +kernel
theorem dX11_plain_7 : decode cX11_plain 7 = .ok (.getfield 40, 3) := by decide +kernel
theorem dX11_plain_10 : decode cX11_plain 10 = .ok (.aload_n 0, 1) := by decide +kernel
theorem dX11_plain_11 : decode cX11_plain 11 = .ok (.getfield 28, 3) := by decide +kernel
theorem dX11_plain_14 : decode cX11_plain 14 = .ok (.getfield 161, 3) := by decide +kernel
theorem dX11_plain_17 : decode cX11_plain 17 = .ok (.aload_n 0, 1) := by decide +kernel
theorem dX11_plain_18 : decode cX11_plain 18 = .ok (.getfield 28, 3) := by decide +kernel
theorem dX11_plain_21 : decode cX11_plain 21 = .ok (.getfield 173, 3) := by decide +kernel
theorem dX11_plain_24 : decode cX11_plain 24 = .ok (.invokevirtual 188, 3) := by decide +kernel
theorem dX11_plain_27 : decode cX11_plain 27 = .ok (.iconst (-1), 1) := by decide +kernel
theorem dX11_plain_28 : decode cX11_plain 28 = .ok (.istore_n 3, 1) := by decide +kernel
theorem dX11_plain_29 : decode cX11_plain 29 = .ok (.iconst 0, 1) := by decide +kernel
theorem dX11_plain_30 : decode cX11_plain 30 = .ok (.istore 4, 2) := by decide +kernel
theorem dX11_plain_32 : decode cX11_plain 32 = .ok (.iconst 0, 1) := by decide +kernel
theorem dX11_plain_33 : decode cX11_plain 33 = .ok (.istore 5, 2) := by decide +kernel
theorem dX11_plain_35 : decode cX11_plain 35 = .ok (.iload 5, 2) := by decide +kernel
theorem dX11_plain_37 : decode cX11_plain 37 = .ok (.bipush 8, 2) := by decide +kernel
theorem dX11_plain_39 : decode cX11_plain 39 = .ok (.if_icmp .gt 89, 3) := by decide +kernel
theorem dX11_plain_42 : decode cX11_plain 42 = .ok (.iconst 0, 1) := by decide +kernel
theorem dX11_plain_43 : decode cX11_plain 43 = .ok (.istore 6, 2) := by decide +kernel
theorem dX11_plain_45 : decode cX11_plain 45 = .ok (.iload 6, 2) := by decide +kernel
theorem dX11_plain_47 : decode cX11_plain 47 = .ok (.iconst 4, 1) := by decide +kernel
theorem dX11_plain_48 : decode cX11_plain 48 = .ok (.if_icmp .gt 74, 3) := by decide +kernel
theorem dX11_plain_51 : decode cX11_plain 51 = .ok (.aload_n 0, 1) := by decide +kernel
theorem dX11_plain_52 : decode cX11_plain 52 = .ok (.getfield 40, 3) := by decide +kernel
theorem dX11_plain_55 : decode cX11_plain 55 = .ok (.iload 5, 2) := by decide +kernel
theorem dX11_plain_57 : decode cX11_plain 57 = .ok (.iload 6, 2) := by decide +kernel
theorem dX11_plain_59 : decode cX11_plain 59 = .ok (.invokevirtual 313, 3) := by decide +kernel
theorem dX11_plain_62 : decode cX11_plain 62 = .ok (.aload_n 0, 1) := by decide +kernel
theorem dX11_plain_63 : decode cX11_plain 63 = .ok (.getfield 40, 3) := by decide +kernel
theorem dX11_plain_66 : decode cX11_plain 66 = .ok (.iload_n 1, 1) := by decide +kernel
theorem dX11_plain_67 : decode cX11_plain 67 = .ok (.iload_n 2, 1) := by decide +kernel
theorem dX11_plain_68 : decode cX11_plain 68 = .ok (.aload_n 0, 1) := by decide +kernel
theorem dX11_plain_69 : decode cX11_plain 69 = .ok (.getfield 28, 3) := by decide +kernel
theorem dX11_plain_72 : decode cX11_plain 72 = .ok (.iload_n 1, 1) := by decide +kernel
theorem dX11_plain_73 : decode cX11_plain 73 = .ok (.invokevirtual 197, 3) := by decide +kernel
theorem dX11_plain_76 : decode cX11_plain 76 = .ok (.invokevirtual 241, 3) := by decide +kernel
theorem dX11_plain_79 : decode cX11_plain 79 = .ok (.aload_n 0, 1) := by decide +kernel
theorem dX11_plain_80 : decode cX11_plain 80 = .ok (.getfield 40, 3) := by decide +kernel
theorem dX11_plain_83 : decode cX11_plain 83 = .ok (.iconst 0, 1) := by decide +kernel
theorem dX11_plain_84 : decode cX11_plain 84 = .ok (.bipush 31, 2) := by decide +kernel
theorem dX11_plain_86 : decode cX11_plain 86 = .ok (.invokevirtual 228, 3) := by decide +kernel
theorem dX11_plain_89 : decode cX11_plain 89 = .ok (.istore 7, 2) := by decide +kernel
theorem dX11_plain_91 : decode cX11_plain 91 = .ok (.iload_n 3, 1) := by decide +kernel
theorem dX11_plain_92 : decode cX11_plain 92 = .ok (.iconst (-1), 1) := by decide +kernel
theorem dX11_plain_93 : decode cX11_plain 93 = .ok (.if_icmp .eq 10, 3) := by decide +kernel
theorem dX11_plain_96 : decode cX11_plain 96 = .ok (.iload 7, 2) := by decide +kernel
theorem dX11_plain_98 : decode cX11_plain 98 = .ok (.iload 4, 2) := by decide +kernel
theorem dX11_plain_100 : decode cX11_plain 100 = .ok (.if_icmp .le 16, 3) := by decide +kernel
theorem dX11_plain_103 : decode cX11_plain 103 = .ok (.iload 7, 2) := by decide +kernel
theorem dX11_plain_105 : decode cX11_plain 105 = .ok (.istore 4, 2) := by decide +kernel
theorem dX11_plain_107 : decode cX11_plain 107 = .ok (.bipush 10, 2) := by decide +kernel
theorem dX11_plain_109 : decode cX11_plain 109 = .ok (.iload 5, 2) := by decide +kernel
theorem dX11_plain_111 : decode cX11_plain 111 = .ok (.imul, 1) := by decide +kernel
theorem dX11_plain_112 : decode cX11_plain 112 = .ok (.iload 6, 2) := by decide +kernel
theorem dX11_plain_114 : decode cX11_plain 114 = .ok (.iadd, 1) := by decide +kernel
theorem dX11_plain_115 : decode cX11_plain 115 = .ok (.istore_n 3, 1) := by decide +kernel
theorem dX11_plain_116 : decode cX11_plain 116 = .ok (.iinc 6 1, 3) := by decide +kernel
theorem dX11_plain_119 : decode cX11_plain 119 = .ok (.goto (-74), 3) := by decide +kernel
theorem dX11_plain_122 : decode cX11_plain 122 = .ok (.iinc 5 1, 3) := by decide +kernel
theorem dX11_plain_125 : decode cX11_plain 125 = .ok (.goto (-90), 3) := by decide +kernel
theorem dX11_plain_128 : decode cX11_plain 128 = .ok (.iload_n 3, 1) := by decide +kernel
theorem dX11_plain_129 : decode cX11_plain 129 = .ok (.ireturn, 1) := by decide +kernel
theorem dX11_right_0 : decode cX11_right 0 = .ok (.aload_n 0, 1) := by decide +kernel
theorem dX11_right_1 : decode cX11_right 1 = .ok (.iload_n 1, 1) := by decide +kernel
theorem dX11_right_2 : decode cX11_right 2 = .ok (.invokevirtual 206, 3) := by decide +kernel
theorem dX11_right_5 : decode cX11_right 5 = .ok (.aload_n 0, 1) := by decide +kernel
theorem dX11_right_6 : decode cX11_right 6 = .ok (.iload_n 3, 1) := by decide +kernel
theorem dX11_right_7 : decode cX11_right 7 = .ok (.iload 4, 2) := by decide +kernel
theorem dX11_right_9 : decode cX11_right 9 = .ok (.invokevirtual 194, 3) := by decide +kernel
theorem dX11_right_12 : decode cX11_right 12 = .ok (.iload_n 1, 1) := by decide +kernel
theorem dX11_right_13 : decode cX11_right 13 = .ok (.iload_n 2, 1) := by decide +kernel
theorem dX11_right_14 : decode cX11_right 14 = .ok (.invokestatic 209, 3) := by decide +kernel
theorem dX11_right_17 : decode cX11_right 17 = .ok (.invokestatic 83, 3) := by decide +kernel
theorem dX11_right_20 : decode cX11_right 20 = .ok (.aload_n 0, 1) := by decide +kernel
theorem dX11_right_21 : decode cX11_right 21 = .ok (.iload_n 1, 1) := by decide +kernel
theorem dX11_right_22 : decode cX11_right 22 = .ok (.iload_n 2, 1) := by decide +kernel
theorem dX11_right_23 : decode cX11_right 23 = .ok (.iload_n 3, 1) := by decide +kernel
theorem dX11_right_24 : decode cX11_right 24 = .ok (.iload 4, 2) := by decide +kernel
theorem dX11_right_26 : decode cX11_right 26 = .ok (.invokevirtual 212, 3) := by decide +kernel
theorem dX11_right_29 : decode cX11_right 29 = .ok (.aload_n 0, 1) := by decide +kernel
theorem dX11_right_30 : decode cX11_right 30 = .ok (.getfield 40, 3) := by decide +kernel
theorem dX11_right_33 : decode cX11_right 33 = .ok (.invokevirtual 316, 3) := by decide +kernel
theorem dX11_right_36 : decode cX11_right 36 = .ok (.aload_n 0, 1) := by decide +kernel
theorem dX11_right_37 : decode cX11_right 37 = .ok (.iconst 3, 1) := by decide +kernel
theorem dX11_right_38 : decode cX11_right 38 = .ok (.iconst 0, 1) := by decide +kernel
theorem dX11_right_39 : decode cX11_right 39 = .ok (.iload_n 3, 1) := by decide +kernel
theorem dX11_right_40 : decode cX11_right 40 = .ok (.iload 4, 2) := by decide +kernel
theorem dX11_right_42 : decode cX11_right 42 = .ok (.invokevirtual 212, 3) := by decide +kernel
theorem dX11_right_45 : decode cX11_right 45 = .ok (.aload_n 0, 1) := by decide +kernel
theorem dX11_right_46 : decode cX11_right 46 = .ok (.getfield 40, 3) := by decide +kernel
theorem dX11_right_49 : decode cX11_right 49 = .ok (.invokevirtual 319, 3) := by decide +kernel
theorem dX11_right_52 : decode cX11_right 52 = .ok (.ireturn, 1) := by decide +kernel
theorem dX11_rest_0 : decode cX11_rest 0 = .ok (.aload_n 0, 1) := by decide +kernel
theorem dX11_rest_1 : decode cX11_rest 1 = .ok (.iload_n 2, 1) := by decide +kernel
theorem dX11_rest_2 : decode cX11_rest 2 = .ok (.invokevirtual 245, 3) := by decide +kernel
theorem dX11_rest_5 : decode cX11_rest 5 = .ok (.invokestatic 133, 3) := by decide +kernel
theorem dX11_rest_8 : decode cX11_rest 8 = .ok (.iload_n 1, 1) := by decide +kernel
theorem dX11_rest_9 : decode cX11_rest 9 = .ok (.invokestatic 130, 3) := by decide +kernel
theorem dX11_rest_12 : decode cX11_rest 12 = .ok (.invokestatic 83, 3) := by decide +kernel
theorem dX11_rest_15 : decode cX11_rest 15 = .ok (.iload_n 3, 1) := by decide +kernel
theorem dX11_rest_16 : decode cX11_rest 16 = .ok (.iconst 4, 1) := by decide +kernel
theorem dX11_rest_17 : decode cX11_rest 17 = .ok (.invokestatic 136, 3) := by decide +kernel
theorem dX11_rest_20 : decode cX11_rest 20 = .ok (.aload_n 0, 1) := by decide +kernel
theorem dX11_rest_21 : decode cX11_rest 21 = .ok (.getfield 40, 3) := by decide +kernel
theorem dX11_rest_24 : decode cX11_rest 24 = .ok (.aload_n 0, 1) := by decide +kernel
theorem dX11_rest_25 : decode cX11_rest 25 = .ok (.getfield 28, 3) := by decide +kernel
theorem dX11_rest_28 : decode cX11_rest 28 = .ok (.getfield 161, 3) := by decide +kernel
theorem dX11_rest_31 : decode cX11_rest 31 = .ok (.aload_n 0, 1) := by decide +kernel
theorem dX11_rest_32 : decode cX11_rest 32 = .ok (.getfield 28, 3) := by decide +kernel
theorem dX11_rest_35 : decode cX11_rest 35 = .ok (.getfield 173, 3) := by decide +kernel
theorem dX11_rest_38 : decode cX11_rest 38 = .ok (.invokevirtual 188, 3) := by decide +kernel
theorem dX11_rest_41 : decode cX11_rest 41 = .ok (.aload_n 0, 1) := by decide +kernel
theorem dX11_rest_42 : decode cX11_rest 42 = .ok (.getfield 63, 3) := by decide +kernel
theorem dX11_rest_45 : decode cX11_rest 45 = .ok (.iload_n 1, 1) := by decide +kernel
theorem dX11_rest_46 : decode cX11_rest 46 = .ok (.iload_n 2, 1) := by decide +kernel
theorem dX11_rest_47 : decode cX11_rest 47 = .ok (.invokevirtual 322, 3) := by decide +kernel
theorem dX11_rest_50 : decode cX11_rest 50 = .ok (.iload_n 3, 1) := by decide +kernel
theorem dX11_rest_51 : decode cX11_rest 51 = .ok (.tableswitch 65 0 3 #[29, 38, 47, 56], 29) := by decide +kernel
theorem dX11_rest_80 : decode cX11_rest 80 = .ok (.aload_n 0, 1) := by decide +kernel
theorem dX11_rest_81 : decode cX11_rest 81 = .ok (.getfield 63, 3) := by decide +kernel
theorem dX11_rest_84 : decode cX11_rest 84 = .ok (.getfield 325, 3) := by decide +kernel
theorem dX11_rest_87 : decode cX11_rest 87 = .ok (.i2l, 1) := by decide +kernel
theorem dX11_rest_88 : decode cX11_rest 88 = .ok (.lreturn, 1) := by decide +kernel
theorem dX11_rest_89 : decode cX11_rest 89 = .ok (.aload_n 0, 1) := by decide +kernel
theorem dX11_rest_90 : decode cX11_rest 90 = .ok (.getfield 63, 3) := by decide +kernel
theorem dX11_rest_93 : decode cX11_rest 93 = .ok (.getfield 328, 3) := by decide +kernel
theorem dX11_rest_96 : decode cX11_rest 96 = .ok (.i2l, 1) := by decide +kernel
theorem dX11_rest_97 : decode cX11_rest 97 = .ok (.lreturn, 1) := by decide +kernel
theorem dX11_rest_98 : decode cX11_rest 98 = .ok (.aload_n 0, 1) := by decide +kernel
theorem dX11_rest_99 : decode cX11_rest 99 = .ok (.getfield 63, 3) := by decide +kernel
theorem dX11_rest_102 : decode cX11_rest 102 = .ok (.getfield 331, 3) := by decide +kernel
theorem dX11_rest_105 : decode cX11_rest 105 = .ok (.i2l, 1) := by decide +kernel
theorem dX11_rest_106 : decode cX11_rest 106 = .ok (.lreturn, 1) := by decide +kernel
theorem dX11_rest_107 : decode cX11_rest 107 = .ok (.aload_n 0, 1) := by decide +kernel
theorem dX11_rest_108 : decode cX11_rest 108 = .ok (.getfield 63, 3) := by decide +kernel
theorem dX11_rest_111 : decode cX11_rest 111 = .ok (.getfield 334, 3) := by decide +kernel
theorem dX11_rest_114 : decode cX11_rest 114 = .ok (.i2l, 1) := by decide +kernel
theorem dX11_rest_115 : decode cX11_rest 115 = .ok (.lreturn, 1) := by decide +kernel
theorem dX11_rest_116 : decode cX11_rest 116 = .ok (.aload_n 0, 1) := by decide +kernel
theorem dX11_rest_117 : decode cX11_rest 117 = .ok (.getfield 63, 3) := by decide +kernel
theorem dX11_rest_120 : decode cX11_rest 120 = .ok (.getfield 328, 3) := by decide +kernel
theorem dX11_rest_123 : decode cX11_rest 123 = .ok (.aload_n 0, 1) := by decide +kernel
theorem dX11_rest_124 : decode cX11_rest 124 = .ok (.getfield 63, 3) := by decide +kernel
theorem dX11_rest_127 : decode cX11_rest 127 = .ok (.getfield 334, 3) := by decide +kernel
theorem dX11_rest_130 : decode cX11_rest 130 = .ok (.if_icmp .ne 7, 3) := by decide +kernel
theorem dX11_rest_133 : decode cX11_rest 133 = .ok (.lconst 1, 1) := by decide +kernel
theorem dX11_rest_134 : decode cX11_rest 134 = .ok (.goto 4, 3) := by decide +kernel
theorem dX11_rest_137 : decode cX11_rest 137 = .ok (.lconst 0, 1) := by decide +kernel
theorem dX11_rest_138 : decode cX11_rest 138 = .ok (.lreturn, 1) := by decide +kernel
theorem dX11_season_0 : decode cX11_season 0 = .ok (.aload_n 0, 1) := by decide +kernel
theorem dX11_season_1 : decode cX11_season 1 = .ok (.iload_n 1, 1) := by decide +kernel
theorem dX11_season_2 : decode cX11_season 2 = .ok (.invokevirtual 206, 3) := by decide +kernel
theorem dX11_season_5 : decode cX11_season 5 = .ok (.aload_n 0, 1) := by decide +kernel
theorem dX11_season_6 : decode cX11_season 6 = .ok (.getfield 28, 3) := by decide +kernel
theorem dX11_season_9 : decode cX11_season 9 = .ok (.invokevirtual 337, 3) := by decide +kernel
theorem dX11_season_12 : decode cX11_season 12 = .ok (.istore 6, 2) := by decide +kernel
theorem dX11_season_14 : decode cX11_season 14 = .ok (.iload_n 1, 1) := by decide +kernel
theorem dX11_season_15 : decode cX11_season 15 = .ok (.iload_n 2, 1) := by decide +kernel
theorem dX11_season_16 : decode cX11_season 16 = .ok (.invokestatic 209, 3) := by decide +kernel
theorem dX11_season_19 : decode cX11_season 19 = .ok (.ifCond .eq 24, 3) := by decide +kernel
theorem dX11_season_22 : decode cX11_season 22 = .ok (.iload_n 3, 1) := by decide +kernel
theorem dX11_season_23 : decode cX11_season 23 = .ok (.iconst 1, 1) := by decide +kernel
theorem dX11_season_24 : decode cX11_season 24 = .ok (.if_icmp .lt 19, 3) := by decide +kernel
theorem dX11_season_27 : decode cX11_season 27 = .ok (.iload_n 3, 1) := by decide +kernel
theorem dX11_season_28 : decode cX11_season 28 = .ok (.sipush 200, 3) := by decide +kernel
theorem dX11_season_31 : decode cX11_season 31 = .ok (.if_icmp .gt 12, 3) := by decide +kernel
theorem dX11_season_34 : decode cX11_season 34 = .ok (.iload 6, 2) := by decide +kernel
theorem dX11_season_36 : decode cX11_season 36 = .ok (.ifCond .le 7, 3) := by decide +kernel
theorem dX11_season_39 : decode cX11_season 39 = .ok (.iconst 1, 1) := by decide +kernel
theorem dX11_season_40 : decode cX11_season 40 = .ok (.goto 4, 3) := by decide +kernel
theorem dX11_season_43 : decode cX11_season 43 = .ok (.iconst 0, 1) := by decide +kernel
theorem dX11_season_44 : decode cX11_season 44 = .ok (.invokestatic 83, 3) := by decide +kernel
theorem dX11_season_47 : decode cX11_season 47 = .ok (.iload 5, 2) := by decide +kernel
theorem dX11_season_49 : decode cX11_season 49 = .ok (.iconst 4, 1) := by decide +kernel
theorem dX11_season_50 : decode cX11_season 50 = .ok (.invokestatic 136, 3) := by decide +kernel
theorem dX11_season_53 : decode cX11_season 53 = .ok (.aload_n 0, 1) := by decide +kernel
theorem dX11_season_54 : decode cX11_season 54 = .ok (.getfield 40, 3) := by decide +kernel
theorem dX11_season_57 : decode cX11_season 57 = .ok (.aload_n 0, 1) := by decide +kernel
theorem dX11_season_58 : decode cX11_season 58 = .ok (.getfield 28, 3) := by decide +kernel
theorem dX11_season_61 : decode cX11_season 61 = .ok (.getfield 161, 3) := by decide +kernel
theorem dX11_season_64 : decode cX11_season 64 = .ok (.aload_n 0, 1) := by decide +kernel
theorem dX11_season_65 : decode cX11_season 65 = .ok (.getfield 28, 3) := by decide +kernel
theorem dX11_season_68 : decode cX11_season 68 = .ok (.getfield 173, 3) := by decide +kernel
theorem dX11_season_71 : decode cX11_season 71 = .ok (.invokevirtual 188, 3) := by decide +kernel
theorem dX11_season_74 : decode cX11_season 74 = .ok (.aload_n 0, 1) := by decide +kernel
theorem dX11_season_75 : decode cX11_season 75 = .ok (.getfield 40, 3) := by decide +kernel
theorem dX11_season_78 : decode cX11_season 78 = .ok (.iload_n 1, 1) := by decide +kernel
theorem dX11_season_79 : decode cX11_season 79 = .ok (.iload_n 2, 1) := by decide +kernel
theorem dX11_season_80 : decode cX11_season 80 = .ok (.invokevirtual 222, 3) := by decide +kernel
theorem dX11_season_83 : decode cX11_season 83 = .ok (.aload_n 0, 1) := by decide +kernel
theorem dX11_season_84 : decode cX11_season 84 = .ok (.getfield 56, 3) := by decide +kernel
theorem dX11_season_87 : decode cX11_season 87 = .ok (.iload 4, 2) := by decide +kernel
theorem dX11_season_89 : decode cX11_season 89 = .ok (.putfield 289, 3) := by decide +kernel
theorem dX11_season_92 : decode cX11_season 92 = .ok (.iconst 0, 1) := by decide +kernel
theorem dX11_season_93 : decode cX11_season 93 = .ok (.istore 7, 2) := by decide +kernel
theorem dX11_season_95 : decode cX11_season 95 = .ok (.iconst 0, 1) := by decide +kernel
theorem dX11_season_96 : decode cX11_season 96 = .ok (.istore 8, 2) := by decide +kernel
theorem dX11_season_98 : decode cX11_season 98 = .ok (.iload 8, 2) := by decide +kernel
theorem dX11_season_100 : decode cX11_season 100 = .ok (.iload_n 3, 1) := by decide +kernel
theorem dX11_season_101 : decode cX11_season 101 = .ok (.if_icmp .ge 108, 3) := by decide +kernel
theorem dX11_season_104 : decode cX11_season 104 = .ok (.aload_n 0, 1) := by decide +kernel
theorem dX11_season_105 : decode cX11_season 105 = .ok (.getfield 28, 3) := by decide +kernel
theorem dX11_season_108 : decode cX11_season 108 = .ok (.aload_n 0, 1) := by decide +kernel
theorem dX11_season_109 : decode cX11_season 109 = .ok (.getfield 56, 3) := by decide +kernel
theorem dX11_season_112 : decode cX11_season 112 = .ok (.iload 6, 2) := by decide +kernel
theorem dX11_season_114 : decode cX11_season 114 = .ok (.invokevirtual 340, 3) := by decide +kernel
theorem dX11_season_117 : decode cX11_season 117 = .ok (.invokevirtual 343, 3) := by decide +kernel
theorem dX11_season_120 : decode cX11_season 120 = .ok (.istore 9, 2) := by decide +kernel
theorem dX11_season_122 : decode cX11_season 122 = .ok (.iload 9, 2) := by decide +kernel
theorem dX11_season_124 : decode cX11_season 124 = .ok (.bipush 32, 2) := by decide +kernel
theorem dX11_season_126 : decode cX11_season 126 = .ok (.idiv, 1) := by decide +kernel
theorem dX11_season_127 : decode cX11_season 127 = .ok (.istore 10, 2) := by decide +kernel
theorem dX11_season_129 : decode cX11_season 129 = .ok (.iload 9, 2) := by decide +kernel
theorem dX11_season_131 : decode cX11_season 131 = .ok (.bipush 32, 2) := by decide +kernel
theorem dX11_season_133 : decode cX11_season 133 = .ok (.irem, 1) := by decide +kernel
theorem dX11_season_134 : decode cX11_season 134 = .ok (.istore 11, 2) := by decide +kernel
theorem dX11_season_136 : decode cX11_season 136 = .ok (.aload_n 0, 1) := by decide +kernel
theorem dX11_season_137 : decode cX11_season 137 = .ok (.getfield 40, 3) := by decide +kernel
theorem dX11_season_140 : decode cX11_season 140 = .ok (.iload 10, 2) := by decide +kernel
theorem dX11_season_142 : decode cX11_season 142 = .ok (.iload 11, 2) := by decide +kernel
theorem dX11_season_144 : decode cX11_season 144 = .ok (.iconst 4, 1) := by decide +kernel
theorem dX11_season_145 : decode cX11_season 145 = .ok (.idiv, 1) := by decide +kernel
theorem dX11_season_146 : decode cX11_season 146 = .ok (.aload_n 0, 1) := by decide +kernel
theorem dX11_season_147 : decode cX11_season 147 = .ok (.getfield 28, 3) := by decide +kernel
theorem dX11_season_150 : decode cX11_season 150 = .ok (.iload 10, 2) := by decide +kernel
theorem dX11_season_152 : decode cX11_season 152 = .ok (.invokevirtual 197, 3) := by decide +kernel
theorem dX11_season_155 : decode cX11_season 155 = .ok (.invokevirtual 241, 3) := by decide +kernel
theorem dX11_season_158 : decode cX11_season 158 = .ok (.aload_n 0, 1) := by decide +kernel
theorem dX11_season_159 : decode cX11_season 159 = .ok (.getfield 56, 3) := by decide +kernel
theorem dX11_season_162 : decode cX11_season 162 = .ok (.iload 11, 2) := by decide +kernel
theorem dX11_season_164 : decode cX11_season 164 = .ok (.invokevirtual 292, 3) := by decide +kernel
theorem dX11_season_167 : decode cX11_season 167 = .ok (.iload 5, 2) := by decide +kernel
theorem dX11_season_169 : decode cX11_season 169 = .ok (.iconst 4, 1) := by decide +kernel
theorem dX11_season_170 : decode cX11_season 170 = .ok (.if_icmp .ne 18, 3) := by decide +kernel
theorem dX11_season_173 : decode cX11_season 173 = .ok (.iload 7, 2) := by decide +kernel
theorem dX11_season_175 : decode cX11_season 175 = .ok (.aload_n 0, 1) := by decide +kernel
theorem dX11_season_176 : decode cX11_season 176 = .ok (.getfield 56, 3) := by decide +kernel
theorem dX11_season_179 : decode cX11_season 179 = .ok (.getfield 298, 3) := by decide +kernel
theorem dX11_season_182 : decode cX11_season 182 = .ok (.iadd, 1) := by decide +kernel
theorem dX11_season_183 : decode cX11_season 183 = .ok (.istore 7, 2) := by decide +kernel
theorem dX11_season_185 : decode cX11_season 185 = .ok (.goto 18, 3) := by decide +kernel
theorem dX11_season_188 : decode cX11_season 188 = .ok (.iload 5, 2) := by decide +kernel
theorem dX11_season_190 : decode cX11_season 190 = .ok (.aload_n 0, 1) := by decide +kernel
theorem dX11_season_191 : decode cX11_season 191 = .ok (.getfield 56, 3) := by decide +kernel
theorem dX11_season_194 : decode cX11_season 194 = .ok (.getfield 295, 3) := by decide +kernel
theorem dX11_season_197 : decode cX11_season 197 = .ok (.if_icmp .ne 6, 3) := by decide +kernel
theorem dX11_season_200 : decode cX11_season 200 = .ok (.iinc 7 1, 3) := by decide +kernel
theorem dX11_season_203 : decode cX11_season 203 = .ok (.iinc 8 1, 3) := by decide +kernel
theorem dX11_season_206 : decode cX11_season 206 = .ok (.goto (-108), 3) := by decide +kernel
theorem dX11_season_209 : decode cX11_season 209 = .ok (.iload 7, 2) := by decide +kernel
theorem dX11_season_211 : decode cX11_season 211 = .ok (.ireturn, 1) := by decide +kernel
theorem dX11_image_0 : decode cX11_image 0 = .ok (.aload_n 0, 1) := by decide +kernel
theorem dX11_image_1 : decode cX11_image 1 = .ok (.getfield 32, 3) := by decide +kernel
theorem dX11_image_4 : decode cX11_image 4 = .ok (.aload_n 0, 1) := by decide +kernel
theorem dX11_image_5 : decode cX11_image 5 = .ok (.getfield 28, 3) := by decide +kernel
theorem dX11_image_8 : decode cX11_image 8 = .ok (.invokevirtual 96, 3) := by decide +kernel
theorem dX11_image_11 : decode cX11_image 11 = .ok (.aload_n 0, 1) := by decide +kernel
theorem dX11_image_12 : decode cX11_image 12 = .ok (.iconst 1, 1) := by decide +kernel
theorem dX11_image_13 : decode cX11_image 13 = .ok (.putfield 346, 3) := by decide +kernel
theorem dX11_image_16 : decode cX11_image 16 = .ok (.return_, 1) := by decide +kernel
theorem dX11_back_0 : decode cX11_back 0 = .ok (.aload_n 0, 1) := by decide +kernel
theorem dX11_back_1 : decode cX11_back 1 = .ok (.getfield 346, 3) := by decide +kernel
theorem dX11_back_4 : decode cX11_back 4 = .ok (.ifCond .ne 5, 3) := by decide +kernel
theorem dX11_back_7 : decode cX11_back 7 = .ok (.iconst 0, 1) := by decide +kernel
theorem dX11_back_8 : decode cX11_back 8 = .ok (.ireturn, 1) := by decide +kernel
theorem dX11_back_9 : decode cX11_back 9 = .ok (.aload_n 0, 1) := by decide +kernel
theorem dX11_back_10 : decode cX11_back 10 = .ok (.getfield 28, 3) := by decide +kernel
theorem dX11_back_13 : decode cX11_back 13 = .ok (.aload_n 0, 1) := by decide +kernel
theorem dX11_back_14 : decode cX11_back 14 = .ok (.getfield 32, 3) := by decide +kernel
theorem dX11_back_17 : decode cX11_back 17 = .ok (.invokevirtual 96, 3) := by decide +kernel
theorem dX11_back_20 : decode cX11_back 20 = .ok (.iconst 1, 1) := by decide +kernel
theorem dX11_back_21 : decode cX11_back 21 = .ok (.ireturn, 1) := by decide +kernel
theorem dX11_count_0 : decode cX11_count 0 = .ok (.iload_n 1, 1) := by decide +kernel
theorem dX11_count_1 : decode cX11_count 1 = .ok (.tableswitch 138 0 9 #[55, 63, 74, 82, 90, 98, 106, 114, 122, 130], 55) := by decide +kernel
theorem dX11_count_56 : decode cX11_count 56 = .ok (.aload_n 0, 1) := by decide +kernel
theorem dX11_count_57 : decode cX11_count 57 = .ok (.getfield 28, 3) := by decide +kernel
theorem dX11_count_60 : decode cX11_count 60 = .ok (.getfield 87, 3) := by decide +kernel
theorem dX11_count_63 : decode cX11_count 63 = .ok (.ireturn, 1) := by decide +kernel
theorem dX11_count_64 : decode cX11_count 64 = .ok (.aload_n 0, 1) := by decide +kernel
theorem dX11_count_65 : decode cX11_count 65 = .ok (.getfield 28, 3) := by decide +kernel
theorem dX11_count_68 : decode cX11_count 68 = .ok (.getfield 107, 3) := by decide +kernel
theorem dX11_count_71 : decode cX11_count 71 = .ok (.getfield 115, 3) := by decide +kernel
theorem dX11_count_74 : decode cX11_count 74 = .ok (.ireturn, 1) := by decide +kernel
theorem dX11_count_75 : decode cX11_count 75 = .ok (.aload_n 0, 1) := by decide +kernel
theorem dX11_count_76 : decode cX11_count 76 = .ok (.getfield 28, 3) := by decide +kernel
theorem dX11_count_79 : decode cX11_count 79 = .ok (.getfield 120, 3) := by decide +kernel
theorem dX11_count_82 : decode cX11_count 82 = .ok (.ireturn, 1) := by decide +kernel
theorem dX11_count_83 : decode cX11_count 83 = .ok (.aload_n 0, 1) := by decide +kernel
theorem dX11_count_84 : decode cX11_count 84 = .ok (.getfield 28, 3) := by decide +kernel
theorem dX11_count_87 : decode cX11_count 87 = .ok (.getfield 179, 3) := by decide +kernel
theorem dX11_count_90 : decode cX11_count 90 = .ok (.ireturn, 1) := by decide +kernel
theorem dX11_count_91 : decode cX11_count 91 = .ok (.aload_n 0, 1) := by decide +kernel
theorem dX11_count_92 : decode cX11_count 92 = .ok (.getfield 28, 3) := by decide +kernel
theorem dX11_count_95 : decode cX11_count 95 = .ok (.getfield 176, 3) := by decide +kernel
theorem dX11_count_98 : decode cX11_count 98 = .ok (.ireturn, 1) := by decide +kernel
theorem dX11_count_99 : decode cX11_count 99 = .ok (.aload_n 0, 1) := by decide +kernel
theorem dX11_count_100 : decode cX11_count 100 = .ok (.getfield 28, 3) := by decide +kernel
theorem dX11_count_103 : decode cX11_count 103 = .ok (.getfield 173, 3) := by decide +kernel
theorem dX11_count_106 : decode cX11_count 106 = .ok (.ireturn, 1) := by decide +kernel
theorem dX11_count_107 : decode cX11_count 107 = .ok (.aload_n 0, 1) := by decide +kernel
theorem dX11_count_108 : decode cX11_count 108 = .ok (.getfield 28, 3) := by decide +kernel
theorem dX11_count_111 : decode cX11_count 111 = .ok (.getfield 161, 3) := by decide +kernel
theorem dX11_count_114 : decode cX11_count 114 = .ok (.ireturn, 1) := by decide +kernel
theorem dX11_count_115 : decode cX11_count 115 = .ok (.aload_n 0, 1) := by decide +kernel
theorem dX11_count_116 : decode cX11_count 116 = .ok (.getfield 28, 3) := by decide +kernel
theorem dX11_count_119 : decode cX11_count 119 = .ok (.getfield 164, 3) := by decide +kernel
theorem dX11_count_122 : decode cX11_count 122 = .ok (.ireturn, 1) := by decide +kernel
theorem dX11_count_123 : decode cX11_count 123 = .ok (.aload_n 0, 1) := by decide +kernel
theorem dX11_count_124 : decode cX11_count 124 = .ok (.getfield 28, 3) := by decide +kernel
theorem dX11_count_127 : decode cX11_count 127 = .ok (.invokevirtual 349, 3) := by decide +kernel
theorem dX11_count_130 : decode cX11_count 130 = .ok (.ireturn, 1) := by decide +kernel
theorem dX11_count_131 : decode cX11_count 131 = .ok (.aload_n 0, 1) := by decide +kernel
theorem dX11_count_132 : decode cX11_count 132 = .ok (.getfield 28, 3) := by decide +kernel
theorem dX11_count_135 : decode cX11_count 135 = .ok (.invokevirtual 337, 3) := by decide +kernel
theorem dX11_count_138 : decode cX11_count 138 = .ok (.ireturn, 1) := by decide +kernel
theorem dX11_count_139 : decode cX11_count 139 = .ok (.iconst (-1), 1) := by decide +kernel
theorem dX11_count_140 : decode cX11_count 140 = .ok (.ireturn, 1) := by decide +kernel
theorem dX11_requirePlace_0 : decode cX11_requirePlace 0 = .ok (.iload_n 0, 1) := by decide +kernel
theorem dX11_requirePlace_1 : decode cX11_requirePlace 1 = .ok (.ifCond .ne 11, 3) := by decide +kernel
theorem dX11_requirePlace_4 : decode cX11_requirePlace 4 = .ok (.new 352, 3) := by decide +kernel
theorem dX11_requirePlace_7 : decode cX11_requirePlace 7 = .ok (.dup, 1) := by decide +kernel
theorem dX11_requirePlace_8 : decode cX11_requirePlace 8 = .ok (.invokespecial 354, 3) := by decide +kernel
theorem dX11_requirePlace_11 : decode cX11_requirePlace 11 = .ok (.athrow, 1) := by decide +kernel
theorem dX11_requirePlace_12 : decode cX11_requirePlace 12 = .ok (.return_, 1) := by decide +kernel
theorem dX11_requireNumber_0 : decode cX11_requireNumber 0 = .ok (.iload_n 0, 1) := by decide +kernel
theorem dX11_requireNumber_1 : decode cX11_requireNumber 1 = .ok (.ifCond .ne 11, 3) := by decide +kernel
theorem dX11_requireNumber_4 : decode cX11_requireNumber 4 = .ok (.new 355, 3) := by decide +kernel
theorem dX11_requireNumber_7 : decode cX11_requireNumber 7 = .ok (.dup, 1) := by decide +kernel
theorem dX11_requireNumber_8 : decode cX11_requireNumber 8 = .ok (.invokespecial 357, 3) := by decide +kernel
theorem dX11_requireNumber_11 : decode cX11_requireNumber 11 = .ok (.athrow, 1) := by decide +kernel
theorem dX11_requireNumber_12 : decode cX11_requireNumber 12 = .ok (.return_, 1) := by decide +kernel
theorem dX11_requireRoom_0 : decode cX11_requireRoom 0 = .ok (.iload_n 0, 1) := by decide +kernel
theorem dX11_requireRoom_1 : decode cX11_requireRoom 1 = .ok (.ifCond .ne 11, 3) := by decide +kernel
theorem dX11_requireRoom_4 : decode cX11_requireRoom 4 = .ok (.new 358, 3) := by decide +kernel
theorem dX11_requireRoom_7 : decode cX11_requireRoom 7 = .ok (.dup, 1) := by decide +kernel
theorem dX11_requireRoom_8 : decode cX11_requireRoom 8 = .ok (.invokespecial 360, 3) := by decide +kernel
theorem dX11_requireRoom_11 : decode cX11_requireRoom 11 = .ok (.athrow, 1) := by decide +kernel
theorem dX11_requireRoom_12 : decode cX11_requireRoom 12 = .ok (.return_, 1) := by decide +kernel
theorem dX11_requireWhat_0 : decode cX11_requireWhat 0 = .ok (.iload_n 0, 1) := by decide +kernel
theorem dX11_requireWhat_1 : decode cX11_requireWhat 1 = .ok (.iload_n 1, 1) := by decide +kernel
theorem dX11_requireWhat_2 : decode cX11_requireWhat 2 = .ok (.invokestatic 75, 3) := by decide +kernel
theorem dX11_requireWhat_5 : decode cX11_requireWhat 5 = .ok (.ifCond .ne 11, 3) := by decide +kernel
theorem dX11_requireWhat_8 : decode cX11_requireWhat 8 = .ok (.new 361, 3) := by decide +kernel
theorem dX11_requireWhat_11 : decode cX11_requireWhat 11 = .ok (.dup, 1) := by decide +kernel
theorem dX11_requireWhat_12 : decode cX11_requireWhat 12 = .ok (.invokespecial 363, 3) := by decide +kernel
theorem dX11_requireWhat_15 : decode cX11_requireWhat 15 = .ok (.athrow, 1) := by decide +kernel
theorem dX11_requireWhat_16 : decode cX11_requireWhat 16 = .ok (.return_, 1) := by decide +kernel
theorem dX11_requireJudge_0 : decode cX11_requireJudge 0 = .ok (.iload_n 1, 1) := by decide +kernel
theorem dX11_requireJudge_1 : decode cX11_requireJudge 1 = .ok (.ifCond .lt 20, 3) := by decide +kernel
theorem dX11_requireJudge_4 : decode cX11_requireJudge 4 = .ok (.iload_n 1, 1) := by decide +kernel
theorem dX11_requireJudge_5 : decode cX11_requireJudge 5 = .ok (.iconst 5, 1) := by decide +kernel
theorem dX11_requireJudge_6 : decode cX11_requireJudge 6 = .ok (.aload_n 0, 1) := by decide +kernel
theorem dX11_requireJudge_7 : decode cX11_requireJudge 7 = .ok (.getfield 28, 3) := by decide +kernel
theorem dX11_requireJudge_10 : decode cX11_requireJudge 10 = .ok (.getfield 120, 3) := by decide +kernel
theorem dX11_requireJudge_13 : decode cX11_requireJudge 13 = .ok (.iadd, 1) := by decide +kernel
theorem dX11_requireJudge_14 : decode cX11_requireJudge 14 = .ok (.if_icmp .ge 7, 3) := by decide +kernel
theorem dX11_requireJudge_17 : decode cX11_requireJudge 17 = .ok (.iconst 1, 1) := by decide +kernel
theorem dX11_requireJudge_18 : decode cX11_requireJudge 18 = .ok (.goto 4, 3) := by decide +kernel
theorem dX11_requireJudge_21 : decode cX11_requireJudge 21 = .ok (.iconst 0, 1) := by decide +kernel
theorem dX11_requireJudge_22 : decode cX11_requireJudge 22 = .ok (.invokestatic 133, 3) := by decide +kernel
theorem dX11_requireJudge_25 : decode cX11_requireJudge 25 = .ok (.return_, 1) := by decide +kernel
theorem dX11_requireFoul_0 : decode cX11_requireFoul 0 = .ok (.aload_n 0, 1) := by decide +kernel
theorem dX11_requireFoul_1 : decode cX11_requireFoul 1 = .ok (.iload_n 1, 1) := by decide +kernel
theorem dX11_requireFoul_2 : decode cX11_requireFoul 2 = .ok (.invokevirtual 245, 3) := by decide +kernel
theorem dX11_requireFoul_5 : decode cX11_requireFoul 5 = .ok (.ifCond .eq 14, 3) := by decide +kernel
theorem dX11_requireFoul_8 : decode cX11_requireFoul 8 = .ok (.iload_n 2, 1) := by decide +kernel
theorem dX11_requireFoul_9 : decode cX11_requireFoul 9 = .ok (.invokestatic 148, 3) := by decide +kernel
theorem dX11_requireFoul_12 : decode cX11_requireFoul 12 = .ok (.ifCond .eq 7, 3) := by decide +kernel
theorem dX11_requireFoul_15 : decode cX11_requireFoul 15 = .ok (.iconst 1, 1) := by decide +kernel
theorem dX11_requireFoul_16 : decode cX11_requireFoul 16 = .ok (.goto 4, 3) := by decide +kernel
theorem dX11_requireFoul_19 : decode cX11_requireFoul 19 = .ok (.iconst 0, 1) := by decide +kernel
theorem dX11_requireFoul_20 : decode cX11_requireFoul 20 = .ok (.invokestatic 133, 3) := by decide +kernel
theorem dX11_requireFoul_23 : decode cX11_requireFoul 23 = .ok (.return_, 1) := by decide +kernel
theorem dX11_within_0 : decode cX11_within 0 = .ok (.iload_n 0, 1) := by decide +kernel
theorem dX11_within_1 : decode cX11_within 1 = .ok (.ifCond .lt 12, 3) := by decide +kernel
theorem dX11_within_4 : decode cX11_within 4 = .ok (.iload_n 0, 1) := by decide +kernel
theorem dX11_within_5 : decode cX11_within 5 = .ok (.iload_n 1, 1) := by decide +kernel
theorem dX11_within_6 : decode cX11_within 6 = .ok (.if_icmp .gt 7, 3) := by decide +kernel
theorem dX11_within_9 : decode cX11_within 9 = .ok (.iconst 1, 1) := by decide +kernel
theorem dX11_within_10 : decode cX11_within 10 = .ok (.goto 4, 3) := by decide +kernel
theorem dX11_within_13 : decode cX11_within 13 = .ok (.iconst 0, 1) := by decide +kernel
theorem dX11_within_14 : decode cX11_within 14 = .ok (.ireturn, 1) := by decide +kernel
theorem dX11_isState_0 : decode cX11_isState 0 = .ok (.iload_n 0, 1) := by decide +kernel
theorem dX11_isState_1 : decode cX11_isState 1 = .ok (.ifCond .lt 13, 3) := by decide +kernel
theorem dX11_isState_4 : decode cX11_isState 4 = .ok (.iload_n 0, 1) := by decide +kernel
theorem dX11_isState_5 : decode cX11_isState 5 = .ok (.bipush 32, 2) := by decide +kernel
theorem dX11_isState_7 : decode cX11_isState 7 = .ok (.if_icmp .ge 7, 3) := by decide +kernel
theorem dX11_isState_10 : decode cX11_isState 10 = .ok (.iconst 1, 1) := by decide +kernel
theorem dX11_isState_11 : decode cX11_isState 11 = .ok (.goto 4, 3) := by decide +kernel
theorem dX11_isState_14 : decode cX11_isState 14 = .ok (.iconst 0, 1) := by decide +kernel
theorem dX11_isState_15 : decode cX11_isState 15 = .ok (.ireturn, 1) := by decide +kernel
theorem dX11_isZone_0 : decode cX11_isZone 0 = .ok (.iload_n 0, 1) := by decide +kernel
theorem dX11_isZone_1 : decode cX11_isZone 1 = .ok (.ifCond .lt 13, 3) := by decide +kernel
theorem dX11_isZone_4 : decode cX11_isZone 4 = .ok (.iload_n 0, 1) := by decide +kernel
theorem dX11_isZone_5 : decode cX11_isZone 5 = .ok (.bipush 8, 2) := by decide +kernel
theorem dX11_isZone_7 : decode cX11_isZone 7 = .ok (.if_icmp .ge 7, 3) := by decide +kernel
theorem dX11_isZone_10 : decode cX11_isZone 10 = .ok (.iconst 1, 1) := by decide +kernel
theorem dX11_isZone_11 : decode cX11_isZone 11 = .ok (.goto 4, 3) := by decide +kernel
theorem dX11_isZone_14 : decode cX11_isZone 14 = .ok (.iconst 0, 1) := by decide +kernel
theorem dX11_isZone_15 : decode cX11_isZone 15 = .ok (.ireturn, 1) := by decide +kernel
theorem dX11_isSort_0 : decode cX11_isSort 0 = .ok (.iload_n 1, 1) := by decide +kernel
theorem dX11_isSort_1 : decode cX11_isSort 1 = .ok (.ifCond .lt 18, 3) := by decide +kernel
theorem dX11_isSort_4 : decode cX11_isSort 4 = .ok (.iload_n 1, 1) := by decide +kernel
theorem dX11_isSort_5 : decode cX11_isSort 5 = .ok (.aload_n 0, 1) := by decide +kernel
theorem dX11_isSort_6 : decode cX11_isSort 6 = .ok (.getfield 28, 3) := by decide +kernel
theorem dX11_isSort_9 : decode cX11_isSort 9 = .ok (.getfield 179, 3) := by decide +kernel
theorem dX11_isSort_12 : decode cX11_isSort 12 = .ok (.if_icmp .ge 7, 3) := by decide +kernel
theorem dX11_isSort_15 : decode cX11_isSort 15 = .ok (.iconst 1, 1) := by decide +kernel
theorem dX11_isSort_16 : decode cX11_isSort 16 = .ok (.goto 4, 3) := by decide +kernel
theorem dX11_isSort_19 : decode cX11_isSort 19 = .ok (.iconst 0, 1) := by decide +kernel
theorem dX11_isSort_20 : decode cX11_isSort 20 = .ok (.ireturn, 1) := by decide +kernel
theorem dX11_isBarFor_0 : decode cX11_isBarFor 0 = .ok (.iload_n 0, 1) := by decide +kernel
theorem dX11_isBarFor_1 : decode cX11_isBarFor 1 = .ok (.iconst 2, 1) := by decide +kernel
theorem dX11_isBarFor_2 : decode cX11_isBarFor 2 = .ok (.if_icmp .ne 10, 3) := by decide +kernel
theorem dX11_isBarFor_5 : decode cX11_isBarFor 5 = .ok (.iload_n 1, 1) := by decide +kernel
theorem dX11_isBarFor_6 : decode cX11_isBarFor 6 = .ok (.invokestatic 130, 3) := by decide +kernel
theorem dX11_isBarFor_9 : decode cX11_isBarFor 9 = .ok (.ifCond .eq 7, 3) := by decide +kernel
theorem dX11_isBarFor_12 : decode cX11_isBarFor 12 = .ok (.iconst 1, 1) := by decide +kernel
theorem dX11_isBarFor_13 : decode cX11_isBarFor 13 = .ok (.goto 4, 3) := by decide +kernel
theorem dX11_isBarFor_16 : decode cX11_isBarFor 16 = .ok (.iconst 0, 1) := by decide +kernel
theorem dX11_isBarFor_17 : decode cX11_isBarFor 17 = .ok (.ireturn, 1) := by decide +kernel
theorem dX11_seat_0 : decode cX11_seat 0 = .ok (.aload_n 0, 1) := by decide +kernel
theorem dX11_seat_1 : decode cX11_seat 1 = .ok (.getfield 40, 3) := by decide +kernel
theorem dX11_seat_4 : decode cX11_seat 4 = .ok (.aload_n 0, 1) := by decide +kernel
theorem dX11_seat_5 : decode cX11_seat 5 = .ok (.getfield 28, 3) := by decide +kernel
theorem dX11_seat_8 : decode cX11_seat 8 = .ok (.getfield 161, 3) := by decide +kernel
theorem dX11_seat_11 : decode cX11_seat 11 = .ok (.aload_n 0, 1) := by decide +kernel
theorem dX11_seat_12 : decode cX11_seat 12 = .ok (.getfield 28, 3) := by decide +kernel
theorem dX11_seat_15 : decode cX11_seat 15 = .ok (.getfield 173, 3) := by decide +kernel
theorem dX11_seat_18 : decode cX11_seat 18 = .ok (.invokevirtual 188, 3) := by decide +kernel
theorem dX11_seat_21 : decode cX11_seat 21 = .ok (.aload_n 0, 1) := by decide +kernel
theorem dX11_seat_22 : decode cX11_seat 22 = .ok (.getfield 40, 3) := by decide +kernel
theorem dX11_seat_25 : decode cX11_seat 25 = .ok (.iload_n 1, 1) := by decide +kernel
theorem dX11_seat_26 : decode cX11_seat 26 = .ok (.iload_n 2, 1) := by decide +kernel
theorem dX11_seat_27 : decode cX11_seat 27 = .ok (.invokevirtual 222, 3) := by decide +kernel
theorem dX11_seat_30 : decode cX11_seat 30 = .ok (.aload_n 0, 1) := by decide +kernel
theorem dX11_seat_31 : decode cX11_seat 31 = .ok (.getfield 40, 3) := by decide +kernel
theorem dX11_seat_34 : decode cX11_seat 34 = .ok (.iload_n 3, 1) := by decide +kernel
theorem dX11_seat_35 : decode cX11_seat 35 = .ok (.iload 4, 2) := by decide +kernel
theorem dX11_seat_37 : decode cX11_seat 37 = .ok (.aload_n 0, 1) := by decide +kernel
theorem dX11_seat_38 : decode cX11_seat 38 = .ok (.getfield 28, 3) := by decide +kernel
theorem dX11_seat_41 : decode cX11_seat 41 = .ok (.iload_n 3, 1) := by decide +kernel
theorem dX11_seat_42 : decode cX11_seat 42 = .ok (.invokevirtual 197, 3) := by decide +kernel
theorem dX11_seat_45 : decode cX11_seat 45 = .ok (.invokevirtual 241, 3) := by decide +kernel
theorem dX11_seat_48 : decode cX11_seat 48 = .ok (.return_, 1) := by decide +kernel
theorem dX11_bestBy_0 : decode cX11_bestBy 0 = .ok (.aload_n 0, 1) := by decide +kernel
theorem dX11_bestBy_1 : decode cX11_bestBy 1 = .ok (.getfield 40, 3) := by decide +kernel
theorem dX11_bestBy_4 : decode cX11_bestBy 4 = .ok (.iload_n 1, 1) := by decide +kernel
theorem dX11_bestBy_5 : decode cX11_bestBy 5 = .ok (.putfield 364, 3) := by decide +kernel
theorem dX11_bestBy_8 : decode cX11_bestBy 8 = .ok (.aload_n 0, 1) := by decide +kernel
theorem dX11_bestBy_9 : decode cX11_bestBy 9 = .ok (.getfield 40, 3) := by decide +kernel
theorem dX11_bestBy_12 : decode cX11_bestBy 12 = .ok (.iload_n 2, 1) := by decide +kernel
theorem dX11_bestBy_13 : decode cX11_bestBy 13 = .ok (.iload_n 3, 1) := by decide +kernel
theorem dX11_bestBy_14 : decode cX11_bestBy 14 = .ok (.aload_n 0, 1) := by decide +kernel
theorem dX11_bestBy_15 : decode cX11_bestBy 15 = .ok (.getfield 28, 3) := by decide +kernel
theorem dX11_bestBy_18 : decode cX11_bestBy 18 = .ok (.iload_n 2, 1) := by decide +kernel
theorem dX11_bestBy_19 : decode cX11_bestBy 19 = .ok (.invokevirtual 197, 3) := by decide +kernel
theorem dX11_bestBy_22 : decode cX11_bestBy 22 = .ok (.invokevirtual 241, 3) := by decide +kernel
theorem dX11_bestBy_25 : decode cX11_bestBy 25 = .ok (.aload_n 0, 1) := by decide +kernel
theorem dX11_bestBy_26 : decode cX11_bestBy 26 = .ok (.getfield 40, 3) := by decide +kernel
theorem dX11_bestBy_29 : decode cX11_bestBy 29 = .ok (.iconst 0, 1) := by decide +kernel
theorem dX11_bestBy_30 : decode cX11_bestBy 30 = .ok (.iload 4, 2) := by decide +kernel
theorem dX11_bestBy_32 : decode cX11_bestBy 32 = .ok (.invokevirtual 216, 3) := by decide +kernel
theorem dX11_bestBy_35 : decode cX11_bestBy 35 = .ok (.ireturn, 1) := by decide +kernel
theorem dX11_leastCard_0 : decode cX11_leastCard 0 = .ok (.aload_n 0, 1) := by decide +kernel
theorem dX11_leastCard_1 : decode cX11_leastCard 1 = .ok (.getfield 28, 3) := by decide +kernel
theorem dX11_leastCard_4 : decode cX11_leastCard 4 = .ok (.iload_n 1, 1) := by decide +kernel
theorem dX11_leastCard_5 : decode cX11_leastCard 5 = .ok (.invokevirtual 197, 3) := by decide +kernel
theorem dX11_leastCard_8 : decode cX11_leastCard 8 = .ok (.aload_n 0, 1) := by decide +kernel
theorem dX11_leastCard_9 : decode cX11_leastCard 9 = .ok (.getfield 28, 3) := by decide +kernel
theorem dX11_leastCard_12 : decode cX11_leastCard 12 = .ok (.getfield 367, 3) := by decide +kernel
theorem dX11_leastCard_15 : decode cX11_leastCard 15 = .ok (.iload_n 1, 1) := by decide +kernel
theorem dX11_leastCard_16 : decode cX11_leastCard 16 = .ok (.invokestatic 155, 3) := by decide +kernel
theorem dX11_leastCard_19 : decode cX11_leastCard 19 = .ok (.isub, 1) := by decide +kernel
theorem dX11_leastCard_20 : decode cX11_leastCard 20 = .ok (.istore_n 3, 1) := by decide +kernel
theorem dX11_leastCard_21 : decode cX11_leastCard 21 = .ok (.aload_n 0, 1) := by decide +kernel
theorem dX11_leastCard_22 : decode cX11_leastCard 22 = .ok (.getfield 40, 3) := by decide +kernel
theorem dX11_leastCard_25 : decode cX11_leastCard 25 = .ok (.iload_n 1, 1) := by decide +kernel
theorem dX11_leastCard_26 : decode cX11_leastCard 26 = .ok (.sipush 9999, 3) := by decide +kernel
theorem dX11_leastCard_29 : decode cX11_leastCard 29 = .ok (.iload_n 3, 1) := by decide +kernel
theorem dX11_leastCard_30 : decode cX11_leastCard 30 = .ok (.iadd, 1) := by decide +kernel
theorem dX11_leastCard_31 : decode cX11_leastCard 31 = .ok (.iload_n 2, 1) := by decide +kernel
theorem dX11_leastCard_32 : decode cX11_leastCard 32 = .ok (.invokevirtual 248, 3) := by decide +kernel
theorem dX11_leastCard_35 : decode cX11_leastCard 35 = .ok (.ifCond .eq 5, 3) := by decide +kernel
theorem dX11_leastCard_38 : decode cX11_leastCard 38 = .ok (.iconst (-1), 1) := by decide +kernel
theorem dX11_leastCard_39 : decode cX11_leastCard 39 = .ok (.ireturn, 1) := by decide +kernel
theorem dX11_leastCard_40 : decode cX11_leastCard 40 = .ok (.iconst 0, 1) := by decide +kernel
theorem dX11_leastCard_41 : decode cX11_leastCard 41 = .ok (.istore 4, 2) := by decide +kernel
theorem dX11_leastCard_43 : decode cX11_leastCard 43 = .ok (.sipush 9999, 3) := by decide +kernel
theorem dX11_leastCard_46 : decode cX11_leastCard 46 = .ok (.istore 5, 2) := by decide +kernel
theorem dX11_leastCard_48 : decode cX11_leastCard 48 = .ok (.iconst 0, 1) := by decide +kernel
theorem dX11_leastCard_49 : decode cX11_leastCard 49 = .ok (.istore 6, 2) := by decide +kernel
theorem dX11_leastCard_51 : decode cX11_leastCard 51 = .ok (.iload 6, 2) := by decide +kernel
theorem dX11_leastCard_53 : decode cX11_leastCard 53 = .ok (.bipush 14, 2) := by decide +kernel
theorem dX11_leastCard_55 : decode cX11_leastCard 55 = .ok (.if_icmp .ge 54, 3) := by decide +kernel
theorem dX11_leastCard_58 : decode cX11_leastCard 58 = .ok (.iload 4, 2) := by decide +kernel
theorem dX11_leastCard_60 : decode cX11_leastCard 60 = .ok (.iload 5, 2) := by decide +kernel
theorem dX11_leastCard_62 : decode cX11_leastCard 62 = .ok (.if_icmp .ge 47, 3) := by decide +kernel
theorem dX11_leastCard_65 : decode cX11_leastCard 65 = .ok (.iload 4, 2) := by decide +kernel
theorem dX11_leastCard_67 : decode cX11_leastCard 67 = .ok (.iload 5, 2) := by decide +kernel
theorem dX11_leastCard_69 : decode cX11_leastCard 69 = .ok (.iadd, 1) := by decide +kernel
theorem dX11_leastCard_70 : decode cX11_leastCard 70 = .ok (.iconst 2, 1) := by decide +kernel
theorem dX11_leastCard_71 : decode cX11_leastCard 71 = .ok (.idiv, 1) := by decide +kernel
theorem dX11_leastCard_72 : decode cX11_leastCard 72 = .ok (.istore 7, 2) := by decide +kernel
theorem dX11_leastCard_74 : decode cX11_leastCard 74 = .ok (.aload_n 0, 1) := by decide +kernel
theorem dX11_leastCard_75 : decode cX11_leastCard 75 = .ok (.getfield 40, 3) := by decide +kernel
theorem dX11_leastCard_78 : decode cX11_leastCard 78 = .ok (.iload_n 1, 1) := by decide +kernel
theorem dX11_leastCard_79 : decode cX11_leastCard 79 = .ok (.iload 7, 2) := by decide +kernel
theorem dX11_leastCard_81 : decode cX11_leastCard 81 = .ok (.iload_n 3, 1) := by decide +kernel
theorem dX11_leastCard_82 : decode cX11_leastCard 82 = .ok (.iadd, 1) := by decide +kernel
theorem dX11_leastCard_83 : decode cX11_leastCard 83 = .ok (.iload_n 2, 1) := by decide +kernel
theorem dX11_leastCard_84 : decode cX11_leastCard 84 = .ok (.invokevirtual 248, 3) := by decide +kernel
theorem dX11_leastCard_87 : decode cX11_leastCard 87 = .ok (.ifCond .ne 10, 3) := by decide +kernel
theorem dX11_leastCard_90 : decode cX11_leastCard 90 = .ok (.iload 7, 2) := by decide +kernel
theorem dX11_leastCard_92 : decode cX11_leastCard 92 = .ok (.istore 5, 2) := by decide +kernel
theorem dX11_leastCard_94 : decode cX11_leastCard 94 = .ok (.goto 9, 3) := by decide +kernel
theorem dX11_leastCard_97 : decode cX11_leastCard 97 = .ok (.iload 7, 2) := by decide +kernel
theorem dX11_leastCard_99 : decode cX11_leastCard 99 = .ok (.iconst 1, 1) := by decide +kernel
theorem dX11_leastCard_100 : decode cX11_leastCard 100 = .ok (.iadd, 1) := by decide +kernel
theorem dX11_leastCard_101 : decode cX11_leastCard 101 = .ok (.istore 4, 2) := by decide +kernel
theorem dX11_leastCard_103 : decode cX11_leastCard 103 = .ok (.iinc 6 1, 3) := by decide +kernel
theorem dX11_leastCard_106 : decode cX11_leastCard 106 = .ok (.goto (-55), 3) := by decide +kernel
theorem dX11_leastCard_109 : decode cX11_leastCard 109 = .ok (.iload 5, 2) := by decide +kernel
theorem dX11_leastCard_111 : decode cX11_leastCard 111 = .ok (.ireturn, 1) := by decide +kernel
theorem dX11_matchSum_0 : decode cX11_matchSum 0 = .ok (.lconst 0, 1) := by decide +kernel
theorem dX11_matchSum_1 : decode cX11_matchSum 1 = .ok (.lstore_n 2, 1) := by decide +kernel
theorem dX11_matchSum_2 : decode cX11_matchSum 2 = .ok (.iconst 0, 1) := by decide +kernel
theorem dX11_matchSum_3 : decode cX11_matchSum 3 = .ok (.istore 4, 2) := by decide +kernel
theorem dX11_matchSum_5 : decode cX11_matchSum 5 = .ok (.iload 4, 2) := by decide +kernel
theorem dX11_matchSum_7 : decode cX11_matchSum 7 = .ok (.aload_n 0, 1) := by decide +kernel
theorem dX11_matchSum_8 : decode cX11_matchSum 8 = .ok (.getfield 28, 3) := by decide +kernel
theorem dX11_matchSum_11 : decode cX11_matchSum 11 = .ok (.getfield 179, 3) := by decide +kernel
theorem dX11_matchSum_14 : decode cX11_matchSum 14 = .ok (.if_icmp .ge 95, 3) := by decide +kernel
theorem dX11_matchSum_17 : decode cX11_matchSum 17 = .ok (.aload_n 0, 1) := by decide +kernel
theorem dX11_matchSum_18 : decode cX11_matchSum 18 = .ok (.getfield 28, 3) := by decide +kernel
theorem dX11_matchSum_21 : decode cX11_matchSum 21 = .ok (.iload 4, 2) := by decide +kernel
theorem dX11_matchSum_23 : decode cX11_matchSum 23 = .ok (.invokevirtual 197, 3) := by decide +kernel
theorem dX11_matchSum_26 : decode cX11_matchSum 26 = .ok (.istore 5, 2) := by decide +kernel
theorem dX11_matchSum_28 : decode cX11_matchSum 28 = .ok (.iconst 0, 1) := by decide +kernel
theorem dX11_matchSum_29 : decode cX11_matchSum 29 = .ok (.istore 6, 2) := by decide +kernel
theorem dX11_matchSum_31 : decode cX11_matchSum 31 = .ok (.iload 6, 2) := by decide +kernel
theorem dX11_matchSum_33 : decode cX11_matchSum 33 = .ok (.bipush 8, 2) := by decide +kernel
theorem dX11_matchSum_35 : decode cX11_matchSum 35 = .ok (.if_icmp .ge 68, 3) := by decide +kernel
theorem dX11_matchSum_38 : decode cX11_matchSum 38 = .ok (.aload_n 0, 1) := by decide +kernel
theorem dX11_matchSum_39 : decode cX11_matchSum 39 = .ok (.getfield 28, 3) := by decide +kernel
theorem dX11_matchSum_42 : decode cX11_matchSum 42 = .ok (.iload 4, 2) := by decide +kernel
theorem dX11_matchSum_44 : decode cX11_matchSum 44 = .ok (.iload 6, 2) := by decide +kernel
theorem dX11_matchSum_46 : decode cX11_matchSum 46 = .ok (.invokevirtual 370, 3) := by decide +kernel
theorem dX11_matchSum_49 : decode cX11_matchSum 49 = .ok (.ifCond .eq 48, 3) := by decide +kernel
theorem dX11_matchSum_52 : decode cX11_matchSum 52 = .ok (.aload_n 0, 1) := by decide +kernel
theorem dX11_matchSum_53 : decode cX11_matchSum 53 = .ok (.getfield 40, 3) := by decide +kernel
theorem dX11_matchSum_56 : decode cX11_matchSum 56 = .ok (.iload 4, 2) := by decide +kernel
theorem dX11_matchSum_58 : decode cX11_matchSum 58 = .ok (.iload 6, 2) := by decide +kernel
theorem dX11_matchSum_60 : decode cX11_matchSum 60 = .ok (.iload 5, 2) := by decide +kernel
theorem dX11_matchSum_62 : decode cX11_matchSum 62 = .ok (.invokevirtual 241, 3) := by decide +kernel
theorem dX11_matchSum_65 : decode cX11_matchSum 65 = .ok (.lload_n 2, 1) := by decide +kernel
theorem dX11_matchSum_66 : decode cX11_matchSum 66 = .ok (.iload_n 1, 1) := by decide +kernel
theorem dX11_matchSum_67 : decode cX11_matchSum 67 = .ok (.ifCond .eq 17, 3) := by decide +kernel
theorem dX11_matchSum_70 : decode cX11_matchSum 70 = .ok (.aload_n 0, 1) := by decide +kernel
theorem dX11_matchSum_71 : decode cX11_matchSum 71 = .ok (.getfield 40, 3) := by decide +kernel
theorem dX11_matchSum_74 : decode cX11_matchSum 74 = .ok (.iload 4, 2) := by decide +kernel
theorem dX11_matchSum_76 : decode cX11_matchSum 76 = .ok (.iload 6, 2) := by decide +kernel
theorem dX11_matchSum_78 : decode cX11_matchSum 78 = .ok (.invokevirtual 373, 3) := by decide +kernel
theorem dX11_matchSum_81 : decode cX11_matchSum 81 = .ok (.goto 14, 3) := by decide +kernel
theorem dX11_matchSum_84 : decode cX11_matchSum 84 = .ok (.aload_n 0, 1) := by decide +kernel
theorem dX11_matchSum_85 : decode cX11_matchSum 85 = .ok (.getfield 40, 3) := by decide +kernel
theorem dX11_matchSum_88 : decode cX11_matchSum 88 = .ok (.iload 4, 2) := by decide +kernel
theorem dX11_matchSum_90 : decode cX11_matchSum 90 = .ok (.iload 6, 2) := by decide +kernel
theorem dX11_matchSum_92 : decode cX11_matchSum 92 = .ok (.invokevirtual 376, 3) := by decide +kernel
theorem dX11_matchSum_95 : decode cX11_matchSum 95 = .ok (.ladd, 1) := by decide +kernel
theorem dX11_matchSum_96 : decode cX11_matchSum 96 = .ok (.lstore_n 2, 1) := by decide +kernel
theorem dX11_matchSum_97 : decode cX11_matchSum 97 = .ok (.iinc 6 1, 3) := by decide +kernel
theorem dX11_matchSum_100 : decode cX11_matchSum 100 = .ok (.goto (-69), 3) := by decide +kernel
theorem dX11_matchSum_103 : decode cX11_matchSum 103 = .ok (.iinc 4 1, 3) := by decide +kernel
theorem dX11_matchSum_106 : decode cX11_matchSum 106 = .ok (.goto (-101), 3) := by decide +kernel
theorem dX11_matchSum_109 : decode cX11_matchSum 109 = .ok (.lload_n 2, 1) := by decide +kernel
theorem dX11_matchSum_110 : decode cX11_matchSum 110 = .ok (.lreturn, 1) := by decide +kernel
theorem dX11_meanOf_0 : decode cX11_meanOf 0 = .ok (.aload_n 0, 1) := by decide +kernel
theorem dX11_meanOf_1 : decode cX11_meanOf 1 = .ok (.getfield 28, 3) := by decide +kernel
theorem dX11_meanOf_4 : decode cX11_meanOf 4 = .ok (.iload_n 1, 1) := by decide +kernel
theorem dX11_meanOf_5 : decode cX11_meanOf 5 = .ok (.iload_n 2, 1) := by decide +kernel
theorem dX11_meanOf_6 : decode cX11_meanOf 6 = .ok (.invokevirtual 370, 3) := by decide +kernel
theorem dX11_meanOf_9 : decode cX11_meanOf 9 = .ok (.ifCond .ne 5, 3) := by decide +kernel
theorem dX11_meanOf_12 : decode cX11_meanOf 12 = .ok (.lconst 0, 1) := by decide +kernel
theorem dX11_meanOf_13 : decode cX11_meanOf 13 = .ok (.lreturn, 1) := by decide +kernel
theorem dX11_meanOf_14 : decode cX11_meanOf 14 = .ok (.aload_n 0, 1) := by decide +kernel
theorem dX11_meanOf_15 : decode cX11_meanOf 15 = .ok (.getfield 40, 3) := by decide +kernel
theorem dX11_meanOf_18 : decode cX11_meanOf 18 = .ok (.iload_n 1, 1) := by decide +kernel
theorem dX11_meanOf_19 : decode cX11_meanOf 19 = .ok (.iload_n 2, 1) := by decide +kernel
theorem dX11_meanOf_20 : decode cX11_meanOf 20 = .ok (.aload_n 0, 1) := by decide +kernel
theorem dX11_meanOf_21 : decode cX11_meanOf 21 = .ok (.getfield 28, 3) := by decide +kernel
theorem dX11_meanOf_24 : decode cX11_meanOf 24 = .ok (.iload_n 1, 1) := by decide +kernel
theorem dX11_meanOf_25 : decode cX11_meanOf 25 = .ok (.invokevirtual 197, 3) := by decide +kernel
theorem dX11_meanOf_28 : decode cX11_meanOf 28 = .ok (.invokevirtual 241, 3) := by decide +kernel
theorem dX11_meanOf_31 : decode cX11_meanOf 31 = .ok (.aload_n 0, 1) := by decide +kernel
theorem dX11_meanOf_32 : decode cX11_meanOf 32 = .ok (.getfield 56, 3) := by decide +kernel
theorem dX11_meanOf_35 : decode cX11_meanOf 35 = .ok (.invokevirtual 304, 3) := by decide +kernel
theorem dX11_meanOf_38 : decode cX11_meanOf 38 = .ok (.lconst 0, 1) := by decide +kernel
theorem dX11_meanOf_39 : decode cX11_meanOf 39 = .ok (.lstore_n 3, 1) := by decide +kernel
theorem dX11_meanOf_40 : decode cX11_meanOf 40 = .ok (.iconst 4, 1) := by decide +kernel
theorem dX11_meanOf_41 : decode cX11_meanOf 41 = .ok (.iload_n 2, 1) := by decide +kernel
theorem dX11_meanOf_42 : decode cX11_meanOf 42 = .ok (.imul, 1) := by decide +kernel
theorem dX11_meanOf_43 : decode cX11_meanOf 43 = .ok (.istore 5, 2) := by decide +kernel
theorem dX11_meanOf_45 : decode cX11_meanOf 45 = .ok (.iload 5, 2) := by decide +kernel
theorem dX11_meanOf_47 : decode cX11_meanOf 47 = .ok (.iconst 4, 1) := by decide +kernel
theorem dX11_meanOf_48 : decode cX11_meanOf 48 = .ok (.iload_n 2, 1) := by decide +kernel
theorem dX11_meanOf_49 : decode cX11_meanOf 49 = .ok (.iconst 1, 1) := by decide +kernel
theorem dX11_meanOf_50 : decode cX11_meanOf 50 = .ok (.iadd, 1) := by decide +kernel
theorem dX11_meanOf_51 : decode cX11_meanOf 51 = .ok (.imul, 1) := by decide +kernel
theorem dX11_meanOf_52 : decode cX11_meanOf 52 = .ok (.if_icmp .ge 34, 3) := by decide +kernel
theorem dX11_meanOf_55 : decode cX11_meanOf 55 = .ok (.lload_n 3, 1) := by decide +kernel
theorem dX11_meanOf_56 : decode cX11_meanOf 56 = .ok (.aload_n 0, 1) := by decide +kernel
theorem dX11_meanOf_57 : decode cX11_meanOf 57 = .ok (.getfield 28, 3) := by decide +kernel
theorem dX11_meanOf_60 : decode cX11_meanOf 60 = .ok (.iload_n 1, 1) := by decide +kernel
theorem dX11_meanOf_61 : decode cX11_meanOf 61 = .ok (.iload 5, 2) := by decide +kernel
theorem dX11_meanOf_63 : decode cX11_meanOf 63 = .ok (.invokevirtual 255, 3) := by decide +kernel
theorem dX11_meanOf_66 : decode cX11_meanOf 66 = .ok (.i2l, 1) := by decide +kernel
theorem dX11_meanOf_67 : decode cX11_meanOf 67 = .ok (.aload_n 0, 1) := by decide +kernel
theorem dX11_meanOf_68 : decode cX11_meanOf 68 = .ok (.getfield 56, 3) := by decide +kernel
theorem dX11_meanOf_71 : decode cX11_meanOf 71 = .ok (.iload 5, 2) := by decide +kernel
theorem dX11_meanOf_73 : decode cX11_meanOf 73 = .ok (.invokevirtual 307, 3) := by decide +kernel
theorem dX11_meanOf_76 : decode cX11_meanOf 76 = .ok (.i2l, 1) := by decide +kernel
theorem dX11_meanOf_77 : decode cX11_meanOf 77 = .ok (.lmul, 1) := by decide +kernel
theorem dX11_meanOf_78 : decode cX11_meanOf 78 = .ok (.ladd, 1) := by decide +kernel
theorem dX11_meanOf_79 : decode cX11_meanOf 79 = .ok (.lstore_n 3, 1) := by decide +kernel
theorem dX11_meanOf_80 : decode cX11_meanOf 80 = .ok (.iinc 5 1, 3) := by decide +kernel
theorem dX11_meanOf_83 : decode cX11_meanOf 83 = .ok (.goto (-38), 3) := by decide +kernel
theorem dX11_meanOf_86 : decode cX11_meanOf 86 = .ok (.lload_n 3, 1) := by decide +kernel
theorem dX11_meanOf_87 : decode cX11_meanOf 87 = .ok (.lreturn, 1) := by decide +kernel
theorem dX11_waysOf_0 : decode cX11_waysOf 0 = .ok (.lconst 1, 1) := by decide +kernel
theorem dX11_waysOf_1 : decode cX11_waysOf 1 = .ok (.lstore_n 2, 1) := by decide +kernel
theorem dX11_waysOf_2 : decode cX11_waysOf 2 = .ok (.iconst 0, 1) := by decide +kernel
theorem dX11_waysOf_3 : decode cX11_waysOf 3 = .ok (.istore 4, 2) := by decide +kernel
theorem dX11_waysOf_5 : decode cX11_waysOf 5 = .ok (.iload 4, 2) := by decide +kernel
theorem dX11_waysOf_7 : decode cX11_waysOf 7 = .ok (.iload_n 1, 1) := by decide +kernel
theorem dX11_waysOf_8 : decode cX11_waysOf 8 = .ok (.if_icmp .ge 23, 3) := by decide +kernel
theorem dX11_waysOf_11 : decode cX11_waysOf 11 = .ok (.lload_n 2, 1) := by decide +kernel
theorem dX11_waysOf_12 : decode cX11_waysOf 12 = .ok (.iload_n 0, 1) := by decide +kernel
theorem dX11_waysOf_13 : decode cX11_waysOf 13 = .ok (.iload 4, 2) := by decide +kernel
theorem dX11_waysOf_15 : decode cX11_waysOf 15 = .ok (.isub, 1) := by decide +kernel
theorem dX11_waysOf_16 : decode cX11_waysOf 16 = .ok (.i2l, 1) := by decide +kernel
theorem dX11_waysOf_17 : decode cX11_waysOf 17 = .ok (.lmul, 1) := by decide +kernel
theorem dX11_waysOf_18 : decode cX11_waysOf 18 = .ok (.iload 4, 2) := by decide +kernel
theorem dX11_waysOf_20 : decode cX11_waysOf 20 = .ok (.iconst 1, 1) := by decide +kernel
theorem dX11_waysOf_21 : decode cX11_waysOf 21 = .ok (.iadd, 1) := by decide +kernel
theorem dX11_waysOf_22 : decode cX11_waysOf 22 = .ok (.i2l, 1) := by decide +kernel
theorem dX11_waysOf_23 : decode cX11_waysOf 23 = .ok (.ldiv, 1) := by decide +kernel
theorem dX11_waysOf_24 : decode cX11_waysOf 24 = .ok (.lstore_n 2, 1) := by decide +kernel
theorem dX11_waysOf_25 : decode cX11_waysOf 25 = .ok (.iinc 4 1, 3) := by decide +kernel
theorem dX11_waysOf_28 : decode cX11_waysOf 28 = .ok (.goto (-23), 3) := by decide +kernel
theorem dX11_waysOf_31 : decode cX11_waysOf 31 = .ok (.lload_n 2, 1) := by decide +kernel
theorem dX11_waysOf_32 : decode cX11_waysOf 32 = .ok (.lreturn, 1) := by decide +kernel
