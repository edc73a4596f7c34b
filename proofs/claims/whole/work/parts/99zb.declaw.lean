/-! decode rows of what catches, in the law -/
theorem dL_game_0 : decode cL_game 0 = .ok (.aload_n 1, 1) := by decide +kernel
theorem dL_game_1 : decode cL_game 1 = .ok (.iconst 0, 1) := by decide +kernel
theorem dL_game_2 : decode cL_game 2 = .ok (.aload_n 0, 1) := by decide +kernel
theorem dL_game_3 : decode cL_game 3 = .ok (.invokevirtual 7, 3) := by decide +kernel
theorem dL_game_6 : decode cL_game 6 = .ok (.i2l, 1) := by decide +kernel
theorem dL_game_7 : decode cL_game 7 = .ok (.lastore, 1) := by decide +kernel
theorem dL_game_8 : decode cL_game 8 = .ok (.goto 9, 3) := by decide +kernel
theorem dL_game_11 : decode cL_game 11 = .ok (.astore_n 2, 1) := by decide +kernel
theorem dL_game_12 : decode cL_game 12 = .ok (.iconst 1, 1) := by decide +kernel
theorem dL_game_13 : decode cL_game 13 = .ok (.ireturn, 1) := by decide +kernel
theorem dL_game_14 : decode cL_game 14 = .ok (.astore_n 2, 1) := by decide +kernel
theorem dL_game_15 : decode cL_game 15 = .ok (.iconst 2, 1) := by decide +kernel
theorem dL_game_16 : decode cL_game 16 = .ok (.ireturn, 1) := by decide +kernel
theorem dL_game_17 : decode cL_game 17 = .ok (.iconst 0, 1) := by decide +kernel
theorem dL_game_18 : decode cL_game 18 = .ok (.ireturn, 1) := by decide +kernel
theorem dL_goals_0 : decode cL_goals 0 = .ok (.aload_n 1, 1) := by decide +kernel
theorem dL_goals_1 : decode cL_goals 1 = .ok (.iconst 0, 1) := by decide +kernel
theorem dL_goals_2 : decode cL_goals 2 = .ok (.aload_n 0, 1) := by decide +kernel
theorem dL_goals_3 : decode cL_goals 3 = .ok (.invokevirtual 17, 3) := by decide +kernel
theorem dL_goals_6 : decode cL_goals 6 = .ok (.i2l, 1) := by decide +kernel
theorem dL_goals_7 : decode cL_goals 7 = .ok (.lastore, 1) := by decide +kernel
theorem dL_goals_8 : decode cL_goals 8 = .ok (.goto 6, 3) := by decide +kernel
theorem dL_goals_11 : decode cL_goals 11 = .ok (.astore_n 2, 1) := by decide +kernel
theorem dL_goals_12 : decode cL_goals 12 = .ok (.iconst 1, 1) := by decide +kernel
theorem dL_goals_13 : decode cL_goals 13 = .ok (.ireturn, 1) := by decide +kernel
theorem dL_goals_14 : decode cL_goals 14 = .ok (.iconst 0, 1) := by decide +kernel
theorem dL_goals_15 : decode cL_goals 15 = .ok (.ireturn, 1) := by decide +kernel
theorem dL_rule_0 : decode cL_rule 0 = .ok (.aload_n 1, 1) := by decide +kernel
theorem dL_rule_1 : decode cL_rule 1 = .ok (.iconst 0, 1) := by decide +kernel
theorem dL_rule_2 : decode cL_rule 2 = .ok (.aload_n 0, 1) := by decide +kernel
theorem dL_rule_3 : decode cL_rule 3 = .ok (.invokevirtual 20, 3) := by decide +kernel
theorem dL_rule_6 : decode cL_rule 6 = .ok (.i2l, 1) := by decide +kernel
theorem dL_rule_7 : decode cL_rule 7 = .ok (.lastore, 1) := by decide +kernel
theorem dL_rule_8 : decode cL_rule 8 = .ok (.goto 9, 3) := by decide +kernel
theorem dL_rule_11 : decode cL_rule 11 = .ok (.astore_n 2, 1) := by decide +kernel
theorem dL_rule_12 : decode cL_rule 12 = .ok (.iconst 1, 1) := by decide +kernel
theorem dL_rule_13 : decode cL_rule 13 = .ok (.ireturn, 1) := by decide +kernel
theorem dL_rule_14 : decode cL_rule 14 = .ok (.astore_n 2, 1) := by decide +kernel
theorem dL_rule_15 : decode cL_rule 15 = .ok (.iconst 2, 1) := by decide +kernel
theorem dL_rule_16 : decode cL_rule 16 = .ok (.ireturn, 1) := by decide +kernel
theorem dL_rule_17 : decode cL_rule 17 = .ok (.iconst 0, 1) := by decide +kernel
theorem dL_rule_18 : decode cL_rule 18 = .ok (.ireturn, 1) := by decide +kernel
theorem dL_follows_0 : decode cL_follows 0 = .ok (.aload_n 3, 1) := by decide +kernel
theorem dL_follows_1 : decode cL_follows 1 = .ok (.iconst 0, 1) := by decide +kernel
theorem dL_follows_2 : decode cL_follows 2 = .ok (.aload_n 0, 1) := by decide +kernel
theorem dL_follows_3 : decode cL_follows 3 = .ok (.iload_n 1, 1) := by decide +kernel
theorem dL_follows_4 : decode cL_follows 4 = .ok (.iload_n 2, 1) := by decide +kernel
theorem dL_follows_5 : decode cL_follows 5 = .ok (.invokevirtual 23, 3) := by decide +kernel
theorem dL_follows_8 : decode cL_follows 8 = .ok (.i2l, 1) := by decide +kernel
theorem dL_follows_9 : decode cL_follows 9 = .ok (.lastore, 1) := by decide +kernel
theorem dL_follows_10 : decode cL_follows 10 = .ok (.goto 11, 3) := by decide +kernel
theorem dL_follows_13 : decode cL_follows 13 = .ok (.astore 4, 2) := by decide +kernel
theorem dL_follows_15 : decode cL_follows 15 = .ok (.iconst 1, 1) := by decide +kernel
theorem dL_follows_16 : decode cL_follows 16 = .ok (.ireturn, 1) := by decide +kernel
theorem dL_follows_17 : decode cL_follows 17 = .ok (.astore 4, 2) := by decide +kernel
theorem dL_follows_19 : decode cL_follows 19 = .ok (.iconst 2, 1) := by decide +kernel
theorem dL_follows_20 : decode cL_follows 20 = .ok (.ireturn, 1) := by decide +kernel
theorem dL_follows_21 : decode cL_follows 21 = .ok (.iconst 0, 1) := by decide +kernel
theorem dL_follows_22 : decode cL_follows 22 = .ok (.ireturn, 1) := by decide +kernel
theorem dL_kick_0 : decode cL_kick 0 = .ok (.aload_n 2, 1) := by decide +kernel
theorem dL_kick_1 : decode cL_kick 1 = .ok (.iconst 0, 1) := by decide +kernel
theorem dL_kick_2 : decode cL_kick 2 = .ok (.aload_n 0, 1) := by decide +kernel
theorem dL_kick_3 : decode cL_kick 3 = .ok (.iload_n 1, 1) := by decide +kernel
theorem dL_kick_4 : decode cL_kick 4 = .ok (.invokevirtual 31, 3) := by decide +kernel
theorem dL_kick_7 : decode cL_kick 7 = .ok (.i2l, 1) := by decide +kernel
theorem dL_kick_8 : decode cL_kick 8 = .ok (.lastore, 1) := by decide +kernel
theorem dL_kick_9 : decode cL_kick 9 = .ok (.goto 6, 3) := by decide +kernel
theorem dL_kick_12 : decode cL_kick 12 = .ok (.astore_n 3, 1) := by decide +kernel
theorem dL_kick_13 : decode cL_kick 13 = .ok (.iconst 1, 1) := by decide +kernel
theorem dL_kick_14 : decode cL_kick 14 = .ok (.ireturn, 1) := by decide +kernel
theorem dL_kick_15 : decode cL_kick 15 = .ok (.iconst 0, 1) := by decide +kernel
theorem dL_kick_16 : decode cL_kick 16 = .ok (.ireturn, 1) := by decide +kernel
theorem dL_now_0 : decode cL_now 0 = .ok (.aload_n 0, 1) := by decide +kernel
theorem dL_now_1 : decode cL_now 1 = .ok (.iload_n 1, 1) := by decide +kernel
theorem dL_now_2 : decode cL_now 2 = .ok (.iload_n 2, 1) := by decide +kernel
theorem dL_now_3 : decode cL_now 3 = .ok (.invokevirtual 35, 3) := by decide +kernel
theorem dL_now_6 : decode cL_now 6 = .ok (.goto 6, 3) := by decide +kernel
theorem dL_now_9 : decode cL_now 9 = .ok (.astore_n 3, 1) := by decide +kernel
theorem dL_now_10 : decode cL_now 10 = .ok (.iconst 1, 1) := by decide +kernel
theorem dL_now_11 : decode cL_now 11 = .ok (.ireturn, 1) := by decide +kernel
theorem dL_now_12 : decode cL_now 12 = .ok (.iconst 0, 1) := by decide +kernel
theorem dL_now_13 : decode cL_now 13 = .ok (.ireturn, 1) := by decide +kernel
theorem dL_lost_0 : decode cL_lost 0 = .ok (.aload_n 0, 1) := by decide +kernel
theorem dL_lost_1 : decode cL_lost 1 = .ok (.iload_n 1, 1) := by decide +kernel
theorem dL_lost_2 : decode cL_lost 2 = .ok (.invokevirtual 39, 3) := by decide +kernel
theorem dL_lost_5 : decode cL_lost 5 = .ok (.goto 6, 3) := by decide +kernel
theorem dL_lost_8 : decode cL_lost 8 = .ok (.astore_n 2, 1) := by decide +kernel
theorem dL_lost_9 : decode cL_lost 9 = .ok (.iconst 1, 1) := by decide +kernel
theorem dL_lost_10 : decode cL_lost 10 = .ok (.ireturn, 1) := by decide +kernel
theorem dL_lost_11 : decode cL_lost 11 = .ok (.iconst 0, 1) := by decide +kernel
theorem dL_lost_12 : decode cL_lost 12 = .ok (.ireturn, 1) := by decide +kernel
theorem dL_horizon_0 : decode cL_horizon 0 = .ok (.aload_n 0, 1) := by decide +kernel
theorem dL_horizon_1 : decode cL_horizon 1 = .ok (.iload_n 1, 1) := by decide +kernel
theorem dL_horizon_2 : decode cL_horizon 2 = .ok (.invokevirtual 43, 3) := by decide +kernel
theorem dL_horizon_5 : decode cL_horizon 5 = .ok (.goto 6, 3) := by decide +kernel
theorem dL_horizon_8 : decode cL_horizon 8 = .ok (.astore_n 2, 1) := by decide +kernel
theorem dL_horizon_9 : decode cL_horizon 9 = .ok (.iconst 1, 1) := by decide +kernel
theorem dL_horizon_10 : decode cL_horizon 10 = .ok (.ireturn, 1) := by decide +kernel
theorem dL_horizon_11 : decode cL_horizon 11 = .ok (.iconst 0, 1) := by decide +kernel
theorem dL_horizon_12 : decode cL_horizon 12 = .ok (.ireturn, 1) := by decide +kernel
theorem dL_grace_0 : decode cL_grace 0 = .ok (.aload_n 0, 1) := by decide +kernel
theorem dL_grace_1 : decode cL_grace 1 = .ok (.iload_n 1, 1) := by decide +kernel
theorem dL_grace_2 : decode cL_grace 2 = .ok (.invokevirtual 46, 3) := by decide +kernel
theorem dL_grace_5 : decode cL_grace 5 = .ok (.goto 6, 3) := by decide +kernel
theorem dL_grace_8 : decode cL_grace 8 = .ok (.astore_n 2, 1) := by decide +kernel
theorem dL_grace_9 : decode cL_grace 9 = .ok (.iconst 1, 1) := by decide +kernel
theorem dL_grace_10 : decode cL_grace 10 = .ok (.ireturn, 1) := by decide +kernel
theorem dL_grace_11 : decode cL_grace 11 = .ok (.iconst 0, 1) := by decide +kernel
theorem dL_grace_12 : decode cL_grace 12 = .ok (.ireturn, 1) := by decide +kernel
theorem dL_sort_0 : decode cL_sort 0 = .ok (.aload_n 3, 1) := by decide +kernel
theorem dL_sort_1 : decode cL_sort 1 = .ok (.iconst 0, 1) := by decide +kernel
theorem dL_sort_2 : decode cL_sort 2 = .ok (.aload_n 0, 1) := by decide +kernel
theorem dL_sort_3 : decode cL_sort 3 = .ok (.iload_n 1, 1) := by decide +kernel
theorem dL_sort_4 : decode cL_sort 4 = .ok (.iload_n 2, 1) := by decide +kernel
theorem dL_sort_5 : decode cL_sort 5 = .ok (.invokevirtual 49, 3) := by decide +kernel
theorem dL_sort_8 : decode cL_sort 8 = .ok (.i2l, 1) := by decide +kernel
theorem dL_sort_9 : decode cL_sort 9 = .ok (.lastore, 1) := by decide +kernel
theorem dL_sort_10 : decode cL_sort 10 = .ok (.goto 11, 3) := by decide +kernel
theorem dL_sort_13 : decode cL_sort 13 = .ok (.astore 4, 2) := by decide +kernel
theorem dL_sort_15 : decode cL_sort 15 = .ok (.iconst 1, 1) := by decide +kernel
theorem dL_sort_16 : decode cL_sort 16 = .ok (.ireturn, 1) := by decide +kernel
theorem dL_sort_17 : decode cL_sort 17 = .ok (.astore 4, 2) := by decide +kernel
theorem dL_sort_19 : decode cL_sort 19 = .ok (.iconst 2, 1) := by decide +kernel
theorem dL_sort_20 : decode cL_sort 20 = .ok (.ireturn, 1) := by decide +kernel
theorem dL_sort_21 : decode cL_sort 21 = .ok (.iconst 0, 1) := by decide +kernel
theorem dL_sort_22 : decode cL_sort 22 = .ok (.ireturn, 1) := by decide +kernel
theorem dL_patience_0 : decode cL_patience 0 = .ok (.aload_n 0, 1) := by decide +kernel
theorem dL_patience_1 : decode cL_patience 1 = .ok (.iload_n 1, 1) := by decide +kernel
theorem dL_patience_2 : decode cL_patience 2 = .ok (.invokevirtual 52, 3) := by decide +kernel
theorem dL_patience_5 : decode cL_patience 5 = .ok (.goto 6, 3) := by decide +kernel
theorem dL_patience_8 : decode cL_patience 8 = .ok (.astore_n 2, 1) := by decide +kernel
theorem dL_patience_9 : decode cL_patience 9 = .ok (.iconst 1, 1) := by decide +kernel
theorem dL_patience_10 : decode cL_patience 10 = .ok (.ireturn, 1) := by decide +kernel
theorem dL_patience_11 : decode cL_patience 11 = .ok (.iconst 0, 1) := by decide +kernel
theorem dL_patience_12 : decode cL_patience 12 = .ok (.ireturn, 1) := by decide +kernel
theorem dL_worth_0 : decode cL_worth 0 = .ok (.aload_n 3, 1) := by decide +kernel
theorem dL_worth_1 : decode cL_worth 1 = .ok (.iconst 0, 1) := by decide +kernel
theorem dL_worth_2 : decode cL_worth 2 = .ok (.aload_n 0, 1) := by decide +kernel
theorem dL_worth_3 : decode cL_worth 3 = .ok (.iload_n 1, 1) := by decide +kernel
theorem dL_worth_4 : decode cL_worth 4 = .ok (.iload_n 2, 1) := by decide +kernel
theorem dL_worth_5 : decode cL_worth 5 = .ok (.invokevirtual 55, 3) := by decide +kernel
theorem dL_worth_8 : decode cL_worth 8 = .ok (.lastore, 1) := by decide +kernel
theorem dL_worth_9 : decode cL_worth 9 = .ok (.goto 11, 3) := by decide +kernel
theorem dL_worth_12 : decode cL_worth 12 = .ok (.astore 4, 2) := by decide +kernel
theorem dL_worth_14 : decode cL_worth 14 = .ok (.iconst 1, 1) := by decide +kernel
theorem dL_worth_15 : decode cL_worth 15 = .ok (.ireturn, 1) := by decide +kernel
theorem dL_worth_16 : decode cL_worth 16 = .ok (.astore 4, 2) := by decide +kernel
theorem dL_worth_18 : decode cL_worth 18 = .ok (.iconst 2, 1) := by decide +kernel
theorem dL_worth_19 : decode cL_worth 19 = .ok (.ireturn, 1) := by decide +kernel
theorem dL_worth_20 : decode cL_worth 20 = .ok (.iconst 0, 1) := by decide +kernel
theorem dL_worth_21 : decode cL_worth 21 = .ok (.ireturn, 1) := by decide +kernel
theorem dL_stop_0 : decode cL_stop 0 = .ok (.aload 4, 2) := by decide +kernel
theorem dL_stop_2 : decode cL_stop 2 = .ok (.iconst 0, 1) := by decide +kernel
theorem dL_stop_3 : decode cL_stop 3 = .ok (.aload_n 0, 1) := by decide +kernel
theorem dL_stop_4 : decode cL_stop 4 = .ok (.iload_n 1, 1) := by decide +kernel
theorem dL_stop_5 : decode cL_stop 5 = .ok (.iload_n 2, 1) := by decide +kernel
theorem dL_stop_6 : decode cL_stop 6 = .ok (.iload_n 3, 1) := by decide +kernel
theorem dL_stop_7 : decode cL_stop 7 = .ok (.invokevirtual 59, 3) := by decide +kernel
theorem dL_stop_10 : decode cL_stop 10 = .ok (.i2l, 1) := by decide +kernel
theorem dL_stop_11 : decode cL_stop 11 = .ok (.lastore, 1) := by decide +kernel
theorem dL_stop_12 : decode cL_stop 12 = .ok (.goto 7, 3) := by decide +kernel
theorem dL_stop_15 : decode cL_stop 15 = .ok (.astore 5, 2) := by decide +kernel
theorem dL_stop_17 : decode cL_stop 17 = .ok (.iconst 1, 1) := by decide +kernel
theorem dL_stop_18 : decode cL_stop 18 = .ok (.ireturn, 1) := by decide +kernel
theorem dL_stop_19 : decode cL_stop 19 = .ok (.iconst 0, 1) := by decide +kernel
theorem dL_stop_20 : decode cL_stop 20 = .ok (.ireturn, 1) := by decide +kernel
theorem dL_judge_0 : decode cL_judge 0 = .ok (.aload 7, 2) := by decide +kernel
theorem dL_judge_2 : decode cL_judge 2 = .ok (.iconst 0, 1) := by decide +kernel
theorem dL_judge_3 : decode cL_judge 3 = .ok (.aload_n 0, 1) := by decide +kernel
theorem dL_judge_4 : decode cL_judge 4 = .ok (.iload_n 1, 1) := by decide +kernel
theorem dL_judge_5 : decode cL_judge 5 = .ok (.iload_n 2, 1) := by decide +kernel
theorem dL_judge_6 : decode cL_judge 6 = .ok (.iload_n 3, 1) := by decide +kernel
theorem dL_judge_7 : decode cL_judge 7 = .ok (.iload 4, 2) := by decide +kernel
theorem dL_judge_9 : decode cL_judge 9 = .ok (.iload 5, 2) := by decide +kernel
theorem dL_judge_11 : decode cL_judge 11 = .ok (.iload 6, 2) := by decide +kernel
theorem dL_judge_13 : decode cL_judge 13 = .ok (.invokevirtual 63, 3) := by decide +kernel
theorem dL_judge_16 : decode cL_judge 16 = .ok (.lastore, 1) := by decide +kernel
theorem dL_judge_17 : decode cL_judge 17 = .ok (.goto 11, 3) := by decide +kernel
theorem dL_judge_20 : decode cL_judge 20 = .ok (.astore 8, 2) := by decide +kernel
theorem dL_judge_22 : decode cL_judge 22 = .ok (.iconst 1, 1) := by decide +kernel
theorem dL_judge_23 : decode cL_judge 23 = .ok (.ireturn, 1) := by decide +kernel
theorem dL_judge_24 : decode cL_judge 24 = .ok (.astore 8, 2) := by decide +kernel
theorem dL_judge_26 : decode cL_judge 26 = .ok (.iconst 2, 1) := by decide +kernel
theorem dL_judge_27 : decode cL_judge 27 = .ok (.ireturn, 1) := by decide +kernel
theorem dL_judge_28 : decode cL_judge 28 = .ok (.iconst 0, 1) := by decide +kernel
theorem dL_judge_29 : decode cL_judge 29 = .ok (.ireturn, 1) := by decide +kernel
theorem dL_does_0 : decode cL_does 0 = .ok (.aload 7, 2) := by decide +kernel
theorem dL_does_2 : decode cL_does 2 = .ok (.iconst 0, 1) := by decide +kernel
theorem dL_does_3 : decode cL_does 3 = .ok (.aload_n 0, 1) := by decide +kernel
theorem dL_does_4 : decode cL_does 4 = .ok (.iload_n 1, 1) := by decide +kernel
theorem dL_does_5 : decode cL_does 5 = .ok (.iload_n 2, 1) := by decide +kernel
theorem dL_does_6 : decode cL_does 6 = .ok (.iload_n 3, 1) := by decide +kernel
theorem dL_does_7 : decode cL_does 7 = .ok (.iload 4, 2) := by decide +kernel
theorem dL_does_9 : decode cL_does 9 = .ok (.iload 5, 2) := by decide +kernel
theorem dL_does_11 : decode cL_does 11 = .ok (.iload 6, 2) := by decide +kernel
theorem dL_does_13 : decode cL_does 13 = .ok (.invokevirtual 67, 3) := by decide +kernel
theorem dL_does_16 : decode cL_does 16 = .ok (.i2l, 1) := by decide +kernel
theorem dL_does_17 : decode cL_does 17 = .ok (.lastore, 1) := by decide +kernel
theorem dL_does_18 : decode cL_does 18 = .ok (.goto 11, 3) := by decide +kernel
theorem dL_does_21 : decode cL_does 21 = .ok (.astore 8, 2) := by decide +kernel
theorem dL_does_23 : decode cL_does 23 = .ok (.iconst 1, 1) := by decide +kernel
theorem dL_does_24 : decode cL_does 24 = .ok (.ireturn, 1) := by decide +kernel
theorem dL_does_25 : decode cL_does 25 = .ok (.astore 8, 2) := by decide +kernel
theorem dL_does_27 : decode cL_does 27 = .ok (.iconst 2, 1) := by decide +kernel
theorem dL_does_28 : decode cL_does 28 = .ok (.ireturn, 1) := by decide +kernel
theorem dL_does_29 : decode cL_does 29 = .ok (.iconst 0, 1) := by decide +kernel
theorem dL_does_30 : decode cL_does 30 = .ok (.ireturn, 1) := by decide +kernel
theorem dL_waits_0 : decode cL_waits 0 = .ok (.aload 4, 2) := by decide +kernel
theorem dL_waits_2 : decode cL_waits 2 = .ok (.iconst 0, 1) := by decide +kernel
theorem dL_waits_3 : decode cL_waits 3 = .ok (.aload_n 0, 1) := by decide +kernel
theorem dL_waits_4 : decode cL_waits 4 = .ok (.iload_n 1, 1) := by decide +kernel
theorem dL_waits_5 : decode cL_waits 5 = .ok (.iload_n 2, 1) := by decide +kernel
theorem dL_waits_6 : decode cL_waits 6 = .ok (.iload_n 3, 1) := by decide +kernel
theorem dL_waits_7 : decode cL_waits 7 = .ok (.invokevirtual 71, 3) := by decide +kernel
theorem dL_waits_10 : decode cL_waits 10 = .ok (.lastore, 1) := by decide +kernel
theorem dL_waits_11 : decode cL_waits 11 = .ok (.goto 7, 3) := by decide +kernel
theorem dL_waits_14 : decode cL_waits 14 = .ok (.astore 5, 2) := by decide +kernel
theorem dL_waits_16 : decode cL_waits 16 = .ok (.iconst 1, 1) := by decide +kernel
theorem dL_waits_17 : decode cL_waits 17 = .ok (.ireturn, 1) := by decide +kernel
theorem dL_waits_18 : decode cL_waits 18 = .ok (.iconst 0, 1) := by decide +kernel
theorem dL_waits_19 : decode cL_waits 19 = .ok (.ireturn, 1) := by decide +kernel
theorem dL_enough_0 : decode cL_enough 0 = .ok (.aload 4, 2) := by decide +kernel
theorem dL_enough_2 : decode cL_enough 2 = .ok (.iconst 0, 1) := by decide +kernel
theorem dL_enough_3 : decode cL_enough 3 = .ok (.aload_n 0, 1) := by decide +kernel
theorem dL_enough_4 : decode cL_enough 4 = .ok (.iload_n 1, 1) := by decide +kernel
theorem dL_enough_5 : decode cL_enough 5 = .ok (.iload_n 2, 1) := by decide +kernel
theorem dL_enough_6 : decode cL_enough 6 = .ok (.iload_n 3, 1) := by decide +kernel
theorem dL_enough_7 : decode cL_enough 7 = .ok (.invokevirtual 75, 3) := by decide +kernel
theorem dL_enough_10 : decode cL_enough 10 = .ok (.i2l, 1) := by decide +kernel
theorem dL_enough_11 : decode cL_enough 11 = .ok (.lastore, 1) := by decide +kernel
theorem dL_enough_12 : decode cL_enough 12 = .ok (.goto 7, 3) := by decide +kernel
theorem dL_enough_15 : decode cL_enough 15 = .ok (.astore 5, 2) := by decide +kernel
theorem dL_enough_17 : decode cL_enough 17 = .ok (.iconst 1, 1) := by decide +kernel
theorem dL_enough_18 : decode cL_enough 18 = .ok (.ireturn, 1) := by decide +kernel
theorem dL_enough_19 : decode cL_enough 19 = .ok (.iconst 0, 1) := by decide +kernel
theorem dL_enough_20 : decode cL_enough 20 = .ok (.ireturn, 1) := by decide +kernel
theorem dL_loses_0 : decode cL_loses 0 = .ok (.aload 6, 2) := by decide +kernel
theorem dL_loses_2 : decode cL_loses 2 = .ok (.iconst 0, 1) := by decide +kernel
theorem dL_loses_3 : decode cL_loses 3 = .ok (.aload_n 0, 1) := by decide +kernel
theorem dL_loses_4 : decode cL_loses 4 = .ok (.iload_n 1, 1) := by decide +kernel
theorem dL_loses_5 : decode cL_loses 5 = .ok (.iload_n 2, 1) := by decide +kernel
theorem dL_loses_6 : decode cL_loses 6 = .ok (.iload_n 3, 1) := by decide +kernel
theorem dL_loses_7 : decode cL_loses 7 = .ok (.iload 4, 2) := by decide +kernel
theorem dL_loses_9 : decode cL_loses 9 = .ok (.iload 5, 2) := by decide +kernel
theorem dL_loses_11 : decode cL_loses 11 = .ok (.invokevirtual 79, 3) := by decide +kernel
theorem dL_loses_14 : decode cL_loses 14 = .ok (.lastore, 1) := by decide +kernel
theorem dL_loses_15 : decode cL_loses 15 = .ok (.goto 11, 3) := by decide +kernel
theorem dL_loses_18 : decode cL_loses 18 = .ok (.astore 7, 2) := by decide +kernel
theorem dL_loses_20 : decode cL_loses 20 = .ok (.iconst 1, 1) := by decide +kernel
theorem dL_loses_21 : decode cL_loses 21 = .ok (.ireturn, 1) := by decide +kernel
theorem dL_loses_22 : decode cL_loses 22 = .ok (.astore 7, 2) := by decide +kernel
theorem dL_loses_24 : decode cL_loses 24 = .ok (.iconst 2, 1) := by decide +kernel
theorem dL_loses_25 : decode cL_loses 25 = .ok (.ireturn, 1) := by decide +kernel
theorem dL_loses_26 : decode cL_loses 26 = .ok (.iconst 0, 1) := by decide +kernel
theorem dL_loses_27 : decode cL_loses 27 = .ok (.ireturn, 1) := by decide +kernel
theorem dL_part_0 : decode cL_part 0 = .ok (.aload 7, 2) := by decide +kernel
theorem dL_part_2 : decode cL_part 2 = .ok (.iconst 0, 1) := by decide +kernel
theorem dL_part_3 : decode cL_part 3 = .ok (.aload_n 0, 1) := by decide +kernel
theorem dL_part_4 : decode cL_part 4 = .ok (.iload_n 1, 1) := by decide +kernel
theorem dL_part_5 : decode cL_part 5 = .ok (.iload_n 2, 1) := by decide +kernel
theorem dL_part_6 : decode cL_part 6 = .ok (.iload_n 3, 1) := by decide +kernel
theorem dL_part_7 : decode cL_part 7 = .ok (.iload 4, 2) := by decide +kernel
theorem dL_part_9 : decode cL_part 9 = .ok (.iload 5, 2) := by decide +kernel
theorem dL_part_11 : decode cL_part 11 = .ok (.iload 6, 2) := by decide +kernel
theorem dL_part_13 : decode cL_part 13 = .ok (.invokevirtual 83, 3) := by decide +kernel
theorem dL_part_16 : decode cL_part 16 = .ok (.i2l, 1) := by decide +kernel
theorem dL_part_17 : decode cL_part 17 = .ok (.lastore, 1) := by decide +kernel
theorem dL_part_18 : decode cL_part 18 = .ok (.goto 11, 3) := by decide +kernel
theorem dL_part_21 : decode cL_part 21 = .ok (.astore 8, 2) := by decide +kernel
theorem dL_part_23 : decode cL_part 23 = .ok (.iconst 1, 1) := by decide +kernel
theorem dL_part_24 : decode cL_part 24 = .ok (.ireturn, 1) := by decide +kernel
theorem dL_part_25 : decode cL_part 25 = .ok (.astore 8, 2) := by decide +kernel
theorem dL_part_27 : decode cL_part 27 = .ok (.iconst 2, 1) := by decide +kernel
theorem dL_part_28 : decode cL_part 28 = .ok (.ireturn, 1) := by decide +kernel
theorem dL_part_29 : decode cL_part 29 = .ok (.iconst 0, 1) := by decide +kernel
theorem dL_part_30 : decode cL_part 30 = .ok (.ireturn, 1) := by decide +kernel
theorem dL_bar_0 : decode cL_bar 0 = .ok (.aload_n 3, 1) := by decide +kernel
theorem dL_bar_1 : decode cL_bar 1 = .ok (.iconst 0, 1) := by decide +kernel
theorem dL_bar_2 : decode cL_bar 2 = .ok (.aload_n 0, 1) := by decide +kernel
theorem dL_bar_3 : decode cL_bar 3 = .ok (.iload_n 1, 1) := by decide +kernel
theorem dL_bar_4 : decode cL_bar 4 = .ok (.iload_n 2, 1) := by decide +kernel
theorem dL_bar_5 : decode cL_bar 5 = .ok (.invokevirtual 87, 3) := by decide +kernel
theorem dL_bar_8 : decode cL_bar 8 = .ok (.i2l, 1) := by decide +kernel
theorem dL_bar_9 : decode cL_bar 9 = .ok (.lastore, 1) := by decide +kernel
theorem dL_bar_10 : decode cL_bar 10 = .ok (.goto 7, 3) := by decide +kernel
theorem dL_bar_13 : decode cL_bar 13 = .ok (.astore 4, 2) := by decide +kernel
theorem dL_bar_15 : decode cL_bar 15 = .ok (.iconst 1, 1) := by decide +kernel
theorem dL_bar_16 : decode cL_bar 16 = .ok (.ireturn, 1) := by decide +kernel
theorem dL_bar_17 : decode cL_bar 17 = .ok (.iconst 0, 1) := by decide +kernel
theorem dL_bar_18 : decode cL_bar 18 = .ok (.ireturn, 1) := by decide +kernel
theorem dL_pays_0 : decode cL_pays 0 = .ok (.aload 4, 2) := by decide +kernel
theorem dL_pays_2 : decode cL_pays 2 = .ok (.iconst 0, 1) := by decide +kernel
theorem dL_pays_3 : decode cL_pays 3 = .ok (.aload_n 0, 1) := by decide +kernel
theorem dL_pays_4 : decode cL_pays 4 = .ok (.iload_n 1, 1) := by decide +kernel
theorem dL_pays_5 : decode cL_pays 5 = .ok (.iload_n 2, 1) := by decide +kernel
theorem dL_pays_6 : decode cL_pays 6 = .ok (.iload_n 3, 1) := by decide +kernel
theorem dL_pays_7 : decode cL_pays 7 = .ok (.invokevirtual 90, 3) := by decide +kernel
theorem dL_pays_10 : decode cL_pays 10 = .ok (.i2l, 1) := by decide +kernel
theorem dL_pays_11 : decode cL_pays 11 = .ok (.lastore, 1) := by decide +kernel
theorem dL_pays_12 : decode cL_pays 12 = .ok (.goto 11, 3) := by decide +kernel
theorem dL_pays_15 : decode cL_pays 15 = .ok (.astore 5, 2) := by decide +kernel
theorem dL_pays_17 : decode cL_pays 17 = .ok (.iconst 1, 1) := by decide +kernel
theorem dL_pays_18 : decode cL_pays 18 = .ok (.ireturn, 1) := by decide +kernel
theorem dL_pays_19 : decode cL_pays 19 = .ok (.astore 5, 2) := by decide +kernel
theorem dL_pays_21 : decode cL_pays 21 = .ok (.iconst 2, 1) := by decide +kernel
theorem dL_pays_22 : decode cL_pays 22 = .ok (.ireturn, 1) := by decide +kernel
theorem dL_pays_23 : decode cL_pays 23 = .ok (.iconst 0, 1) := by decide +kernel
theorem dL_pays_24 : decode cL_pays 24 = .ok (.ireturn, 1) := by decide +kernel
theorem dL_least_0 : decode cL_least 0 = .ok (.aload 5, 2) := by decide +kernel
theorem dL_least_2 : decode cL_least 2 = .ok (.iconst 0, 1) := by decide +kernel
theorem dL_least_3 : decode cL_least 3 = .ok (.aload_n 0, 1) := by decide +kernel
theorem dL_least_4 : decode cL_least 4 = .ok (.iload_n 1, 1) := by decide +kernel
theorem dL_least_5 : decode cL_least 5 = .ok (.iload_n 2, 1) := by decide +kernel
theorem dL_least_6 : decode cL_least 6 = .ok (.iload_n 3, 1) := by decide +kernel
theorem dL_least_7 : decode cL_least 7 = .ok (.iload 4, 2) := by decide +kernel
theorem dL_least_9 : decode cL_least 9 = .ok (.invokevirtual 93, 3) := by decide +kernel
theorem dL_least_12 : decode cL_least 12 = .ok (.i2l, 1) := by decide +kernel
theorem dL_least_13 : decode cL_least 13 = .ok (.lastore, 1) := by decide +kernel
theorem dL_least_14 : decode cL_least 14 = .ok (.goto 11, 3) := by decide +kernel
theorem dL_least_17 : decode cL_least 17 = .ok (.astore 6, 2) := by decide +kernel
theorem dL_least_19 : decode cL_least 19 = .ok (.iconst 1, 1) := by decide +kernel
theorem dL_least_20 : decode cL_least 20 = .ok (.ireturn, 1) := by decide +kernel
theorem dL_least_21 : decode cL_least 21 = .ok (.astore 6, 2) := by decide +kernel
theorem dL_least_23 : decode cL_least 23 = .ok (.iconst 2, 1) := by decide +kernel
theorem dL_least_24 : decode cL_least 24 = .ok (.ireturn, 1) := by decide +kernel
theorem dL_least_25 : decode cL_least 25 = .ok (.iconst 0, 1) := by decide +kernel
theorem dL_least_26 : decode cL_least 26 = .ok (.ireturn, 1) := by decide +kernel
theorem dL_rate_0 : decode cL_rate 0 = .ok (.aload 4, 2) := by decide +kernel
theorem dL_rate_2 : decode cL_rate 2 = .ok (.iconst 0, 1) := by decide +kernel
theorem dL_rate_3 : decode cL_rate 3 = .ok (.aload_n 0, 1) := by decide +kernel
theorem dL_rate_4 : decode cL_rate 4 = .ok (.iload_n 1, 1) := by decide +kernel
theorem dL_rate_5 : decode cL_rate 5 = .ok (.iload_n 2, 1) := by decide +kernel
theorem dL_rate_6 : decode cL_rate 6 = .ok (.iload_n 3, 1) := by decide +kernel
theorem dL_rate_7 : decode cL_rate 7 = .ok (.invokevirtual 97, 3) := by decide +kernel
theorem dL_rate_10 : decode cL_rate 10 = .ok (.i2l, 1) := by decide +kernel
theorem dL_rate_11 : decode cL_rate 11 = .ok (.lastore, 1) := by decide +kernel
theorem dL_rate_12 : decode cL_rate 12 = .ok (.goto 11, 3) := by decide +kernel
theorem dL_rate_15 : decode cL_rate 15 = .ok (.astore 5, 2) := by decide +kernel
theorem dL_rate_17 : decode cL_rate 17 = .ok (.iconst 1, 1) := by decide +kernel
theorem dL_rate_18 : decode cL_rate 18 = .ok (.ireturn, 1) := by decide +kernel
theorem dL_rate_19 : decode cL_rate 19 = .ok (.astore 5, 2) := by decide +kernel
theorem dL_rate_21 : decode cL_rate 21 = .ok (.iconst 2, 1) := by decide +kernel
theorem dL_rate_22 : decode cL_rate 22 = .ok (.ireturn, 1) := by decide +kernel
theorem dL_rate_23 : decode cL_rate 23 = .ok (.iconst 0, 1) := by decide +kernel
theorem dL_rate_24 : decode cL_rate 24 = .ok (.ireturn, 1) := by decide +kernel
theorem dL_often_0 : decode cL_often 0 = .ok (.aload_n 3, 1) := by decide +kernel
theorem dL_often_1 : decode cL_often 1 = .ok (.iconst 0, 1) := by decide +kernel
theorem dL_often_2 : decode cL_often 2 = .ok (.aload_n 0, 1) := by decide +kernel
theorem dL_often_3 : decode cL_often 3 = .ok (.iload_n 1, 1) := by decide +kernel
theorem dL_often_4 : decode cL_often 4 = .ok (.iload_n 2, 1) := by decide +kernel
theorem dL_often_5 : decode cL_often 5 = .ok (.invokevirtual 100, 3) := by decide +kernel
theorem dL_often_8 : decode cL_often 8 = .ok (.i2l, 1) := by decide +kernel
theorem dL_often_9 : decode cL_often 9 = .ok (.lastore, 1) := by decide +kernel
theorem dL_often_10 : decode cL_often 10 = .ok (.goto 7, 3) := by decide +kernel
theorem dL_often_13 : decode cL_often 13 = .ok (.astore 4, 2) := by decide +kernel
theorem dL_often_15 : decode cL_often 15 = .ok (.iconst 1, 1) := by decide +kernel
theorem dL_often_16 : decode cL_often 16 = .ok (.ireturn, 1) := by decide +kernel
theorem dL_often_17 : decode cL_often 17 = .ok (.iconst 0, 1) := by decide +kernel
theorem dL_often_18 : decode cL_often 18 = .ok (.ireturn, 1) := by decide +kernel
theorem dL_match_0 : decode cL_match 0 = .ok (.aload 4, 2) := by decide +kernel
theorem dL_match_2 : decode cL_match 2 = .ok (.iconst 0, 1) := by decide +kernel
theorem dL_match_3 : decode cL_match 3 = .ok (.aload_n 0, 1) := by decide +kernel
theorem dL_match_4 : decode cL_match 4 = .ok (.iload_n 1, 1) := by decide +kernel
theorem dL_match_5 : decode cL_match 5 = .ok (.iload_n 2, 1) := by decide +kernel
theorem dL_match_6 : decode cL_match 6 = .ok (.iload_n 3, 1) := by decide +kernel
theorem dL_match_7 : decode cL_match 7 = .ok (.invokevirtual 103, 3) := by decide +kernel
theorem dL_match_10 : decode cL_match 10 = .ok (.lastore, 1) := by decide +kernel
theorem dL_match_11 : decode cL_match 11 = .ok (.goto 11, 3) := by decide +kernel
theorem dL_match_14 : decode cL_match 14 = .ok (.astore 5, 2) := by decide +kernel
theorem dL_match_16 : decode cL_match 16 = .ok (.iconst 1, 1) := by decide +kernel
theorem dL_match_17 : decode cL_match 17 = .ok (.ireturn, 1) := by decide +kernel
theorem dL_match_18 : decode cL_match 18 = .ok (.astore 5, 2) := by decide +kernel
theorem dL_match_20 : decode cL_match 20 = .ok (.iconst 2, 1) := by decide +kernel
theorem dL_match_21 : decode cL_match 21 = .ok (.ireturn, 1) := by decide +kernel
theorem dL_match_22 : decode cL_match 22 = .ok (.iconst 0, 1) := by decide +kernel
theorem dL_match_23 : decode cL_match 23 = .ok (.ireturn, 1) := by decide +kernel
theorem dL_learn_0 : decode cL_learn 0 = .ok (.aload_n 3, 1) := by decide +kernel
theorem dL_learn_1 : decode cL_learn 1 = .ok (.iconst 0, 1) := by decide +kernel
theorem dL_learn_2 : decode cL_learn 2 = .ok (.aload_n 0, 1) := by decide +kernel
theorem dL_learn_3 : decode cL_learn 3 = .ok (.iload_n 1, 1) := by decide +kernel
theorem dL_learn_4 : decode cL_learn 4 = .ok (.iload_n 2, 1) := by decide +kernel
theorem dL_learn_5 : decode cL_learn 5 = .ok (.invokevirtual 107, 3) := by decide +kernel
theorem dL_learn_8 : decode cL_learn 8 = .ok (.i2l, 1) := by decide +kernel
theorem dL_learn_9 : decode cL_learn 9 = .ok (.lastore, 1) := by decide +kernel
theorem dL_learn_10 : decode cL_learn 10 = .ok (.goto 11, 3) := by decide +kernel
theorem dL_learn_13 : decode cL_learn 13 = .ok (.astore 4, 2) := by decide +kernel
theorem dL_learn_15 : decode cL_learn 15 = .ok (.iconst 1, 1) := by decide +kernel
theorem dL_learn_16 : decode cL_learn 16 = .ok (.ireturn, 1) := by decide +kernel
theorem dL_learn_17 : decode cL_learn 17 = .ok (.astore 4, 2) := by decide +kernel
theorem dL_learn_19 : decode cL_learn 19 = .ok (.iconst 2, 1) := by decide +kernel
theorem dL_learn_20 : decode cL_learn 20 = .ok (.ireturn, 1) := by decide +kernel
theorem dL_learn_21 : decode cL_learn 21 = .ok (.iconst 0, 1) := by decide +kernel
theorem dL_learn_22 : decode cL_learn 22 = .ok (.ireturn, 1) := by decide +kernel
theorem dL_two_0 : decode cL_two 0 = .ok (.aload 7, 2) := by decide +kernel
theorem dL_two_2 : decode cL_two 2 = .ok (.iconst 0, 1) := by decide +kernel
theorem dL_two_3 : decode cL_two 3 = .ok (.aload_n 0, 1) := by decide +kernel
theorem dL_two_4 : decode cL_two 4 = .ok (.iload_n 1, 1) := by decide +kernel
theorem dL_two_5 : decode cL_two 5 = .ok (.iload_n 2, 1) := by decide +kernel
theorem dL_two_6 : decode cL_two 6 = .ok (.iload_n 3, 1) := by decide +kernel
theorem dL_two_7 : decode cL_two 7 = .ok (.iload 4, 2) := by decide +kernel
theorem dL_two_9 : decode cL_two 9 = .ok (.iload 5, 2) := by decide +kernel
theorem dL_two_11 : decode cL_two 11 = .ok (.iload 6, 2) := by decide +kernel
theorem dL_two_13 : decode cL_two 13 = .ok (.invokevirtual 110, 3) := by decide +kernel
theorem dL_two_16 : decode cL_two 16 = .ok (.lastore, 1) := by decide +kernel
theorem dL_two_17 : decode cL_two 17 = .ok (.goto 7, 3) := by decide +kernel
theorem dL_two_20 : decode cL_two 20 = .ok (.astore 8, 2) := by decide +kernel
theorem dL_two_22 : decode cL_two 22 = .ok (.iconst 1, 1) := by decide +kernel
theorem dL_two_23 : decode cL_two 23 = .ok (.ireturn, 1) := by decide +kernel
theorem dL_two_24 : decode cL_two 24 = .ok (.iconst 0, 1) := by decide +kernel
theorem dL_two_25 : decode cL_two 25 = .ok (.ireturn, 1) := by decide +kernel
theorem dL_leans_0 : decode cL_leans 0 = .ok (.aload 6, 2) := by decide +kernel
theorem dL_leans_2 : decode cL_leans 2 = .ok (.iconst 0, 1) := by decide +kernel
theorem dL_leans_3 : decode cL_leans 3 = .ok (.aload_n 0, 1) := by decide +kernel
theorem dL_leans_4 : decode cL_leans 4 = .ok (.iload_n 1, 1) := by decide +kernel
theorem dL_leans_5 : decode cL_leans 5 = .ok (.iload_n 2, 1) := by decide +kernel
theorem dL_leans_6 : decode cL_leans 6 = .ok (.iload_n 3, 1) := by decide +kernel
theorem dL_leans_7 : decode cL_leans 7 = .ok (.iload 4, 2) := by decide +kernel
theorem dL_leans_9 : decode cL_leans 9 = .ok (.iload 5, 2) := by decide +kernel
theorem dL_leans_11 : decode cL_leans 11 = .ok (.invokevirtual 114, 3) := by decide +kernel
theorem dL_leans_14 : decode cL_leans 14 = .ok (.lastore, 1) := by decide +kernel
theorem dL_leans_15 : decode cL_leans 15 = .ok (.goto 7, 3) := by decide +kernel
theorem dL_leans_18 : decode cL_leans 18 = .ok (.astore 7, 2) := by decide +kernel
theorem dL_leans_20 : decode cL_leans 20 = .ok (.iconst 1, 1) := by decide +kernel
theorem dL_leans_21 : decode cL_leans 21 = .ok (.ireturn, 1) := by decide +kernel
theorem dL_leans_22 : decode cL_leans 22 = .ok (.iconst 0, 1) := by decide +kernel
theorem dL_leans_23 : decode cL_leans 23 = .ok (.ireturn, 1) := by decide +kernel
theorem dL_played_0 : decode cL_played 0 = .ok (.aload 7, 2) := by decide +kernel
theorem dL_played_2 : decode cL_played 2 = .ok (.iconst 0, 1) := by decide +kernel
theorem dL_played_3 : decode cL_played 3 = .ok (.aload_n 0, 1) := by decide +kernel
theorem dL_played_4 : decode cL_played 4 = .ok (.iload_n 1, 1) := by decide +kernel
theorem dL_played_5 : decode cL_played 5 = .ok (.iload_n 2, 1) := by decide +kernel
theorem dL_played_6 : decode cL_played 6 = .ok (.iload_n 3, 1) := by decide +kernel
theorem dL_played_7 : decode cL_played 7 = .ok (.iload 4, 2) := by decide +kernel
theorem dL_played_9 : decode cL_played 9 = .ok (.iload 5, 2) := by decide +kernel
theorem dL_played_11 : decode cL_played 11 = .ok (.iload 6, 2) := by decide +kernel
theorem dL_played_13 : decode cL_played 13 = .ok (.invokevirtual 118, 3) := by decide +kernel
theorem dL_played_16 : decode cL_played 16 = .ok (.i2l, 1) := by decide +kernel
theorem dL_played_17 : decode cL_played 17 = .ok (.lastore, 1) := by decide +kernel
theorem dL_played_18 : decode cL_played 18 = .ok (.goto 11, 3) := by decide +kernel
theorem dL_played_21 : decode cL_played 21 = .ok (.astore 8, 2) := by decide +kernel
theorem dL_played_23 : decode cL_played 23 = .ok (.iconst 1, 1) := by decide +kernel
theorem dL_played_24 : decode cL_played 24 = .ok (.ireturn, 1) := by decide +kernel
theorem dL_played_25 : decode cL_played 25 = .ok (.astore 8, 2) := by decide +kernel
theorem dL_played_27 : decode cL_played 27 = .ok (.iconst 2, 1) := by decide +kernel
theorem dL_played_28 : decode cL_played 28 = .ok (.ireturn, 1) := by decide +kernel
theorem dL_played_29 : decode cL_played 29 = .ok (.iconst 0, 1) := by decide +kernel
theorem dL_played_30 : decode cL_played 30 = .ok (.ireturn, 1) := by decide +kernel
theorem dL_ends_0 : decode cL_ends 0 = .ok (.aload 7, 2) := by decide +kernel
theorem dL_ends_2 : decode cL_ends 2 = .ok (.iconst 0, 1) := by decide +kernel
theorem dL_ends_3 : decode cL_ends 3 = .ok (.aload_n 0, 1) := by decide +kernel
theorem dL_ends_4 : decode cL_ends 4 = .ok (.iload_n 1, 1) := by decide +kernel
theorem dL_ends_5 : decode cL_ends 5 = .ok (.iload_n 2, 1) := by decide +kernel
theorem dL_ends_6 : decode cL_ends 6 = .ok (.iload_n 3, 1) := by decide +kernel
theorem dL_ends_7 : decode cL_ends 7 = .ok (.iload 4, 2) := by decide +kernel
theorem dL_ends_9 : decode cL_ends 9 = .ok (.iload 5, 2) := by decide +kernel
theorem dL_ends_11 : decode cL_ends 11 = .ok (.iload 6, 2) := by decide +kernel
theorem dL_ends_13 : decode cL_ends 13 = .ok (.invokevirtual 121, 3) := by decide +kernel
theorem dL_ends_16 : decode cL_ends 16 = .ok (.i2l, 1) := by decide +kernel
theorem dL_ends_17 : decode cL_ends 17 = .ok (.lastore, 1) := by decide +kernel
theorem dL_ends_18 : decode cL_ends 18 = .ok (.goto 15, 3) := by decide +kernel
theorem dL_ends_21 : decode cL_ends 21 = .ok (.astore 8, 2) := by decide +kernel
theorem dL_ends_23 : decode cL_ends 23 = .ok (.iconst 1, 1) := by decide +kernel
theorem dL_ends_24 : decode cL_ends 24 = .ok (.ireturn, 1) := by decide +kernel
theorem dL_ends_25 : decode cL_ends 25 = .ok (.astore 8, 2) := by decide +kernel
theorem dL_ends_27 : decode cL_ends 27 = .ok (.iconst 2, 1) := by decide +kernel
theorem dL_ends_28 : decode cL_ends 28 = .ok (.ireturn, 1) := by decide +kernel
theorem dL_ends_29 : decode cL_ends 29 = .ok (.astore 8, 2) := by decide +kernel
theorem dL_ends_31 : decode cL_ends 31 = .ok (.iconst 3, 1) := by decide +kernel
theorem dL_ends_32 : decode cL_ends 32 = .ok (.ireturn, 1) := by decide +kernel
theorem dL_ends_33 : decode cL_ends 33 = .ok (.iconst 0, 1) := by decide +kernel
theorem dL_ends_34 : decode cL_ends 34 = .ok (.ireturn, 1) := by decide +kernel
theorem dL_mean_0 : decode cL_mean 0 = .ok (.aload 4, 2) := by decide +kernel
theorem dL_mean_2 : decode cL_mean 2 = .ok (.iconst 0, 1) := by decide +kernel
theorem dL_mean_3 : decode cL_mean 3 = .ok (.aload_n 0, 1) := by decide +kernel
theorem dL_mean_4 : decode cL_mean 4 = .ok (.iload_n 1, 1) := by decide +kernel
theorem dL_mean_5 : decode cL_mean 5 = .ok (.iload_n 2, 1) := by decide +kernel
theorem dL_mean_6 : decode cL_mean 6 = .ok (.iload_n 3, 1) := by decide +kernel
theorem dL_mean_7 : decode cL_mean 7 = .ok (.invokevirtual 124, 3) := by decide +kernel
theorem dL_mean_10 : decode cL_mean 10 = .ok (.lastore, 1) := by decide +kernel
theorem dL_mean_11 : decode cL_mean 11 = .ok (.goto 15, 3) := by decide +kernel
theorem dL_mean_14 : decode cL_mean 14 = .ok (.astore 5, 2) := by decide +kernel
theorem dL_mean_16 : decode cL_mean 16 = .ok (.iconst 1, 1) := by decide +kernel
theorem dL_mean_17 : decode cL_mean 17 = .ok (.ireturn, 1) := by decide +kernel
theorem dL_mean_18 : decode cL_mean 18 = .ok (.astore 5, 2) := by decide +kernel
theorem dL_mean_20 : decode cL_mean 20 = .ok (.iconst 2, 1) := by decide +kernel
theorem dL_mean_21 : decode cL_mean 21 = .ok (.ireturn, 1) := by decide +kernel
theorem dL_mean_22 : decode cL_mean 22 = .ok (.astore 5, 2) := by decide +kernel
theorem dL_mean_24 : decode cL_mean 24 = .ok (.iconst 3, 1) := by decide +kernel
theorem dL_mean_25 : decode cL_mean 25 = .ok (.ireturn, 1) := by decide +kernel
theorem dL_mean_26 : decode cL_mean 26 = .ok (.iconst 0, 1) := by decide +kernel
theorem dL_mean_27 : decode cL_mean 27 = .ok (.ireturn, 1) := by decide +kernel
theorem dL_plain_0 : decode cL_plain 0 = .ok (.aload_n 3, 1) := by decide +kernel
theorem dL_plain_1 : decode cL_plain 1 = .ok (.iconst 0, 1) := by decide +kernel
theorem dL_plain_2 : decode cL_plain 2 = .ok (.aload_n 0, 1) := by decide +kernel
theorem dL_plain_3 : decode cL_plain 3 = .ok (.iload_n 1, 1) := by decide +kernel
theorem dL_plain_4 : decode cL_plain 4 = .ok (.iload_n 2, 1) := by decide +kernel
theorem dL_plain_5 : decode cL_plain 5 = .ok (.invokevirtual 127, 3) := by decide +kernel
theorem dL_plain_8 : decode cL_plain 8 = .ok (.i2l, 1) := by decide +kernel
theorem dL_plain_9 : decode cL_plain 9 = .ok (.lastore, 1) := by decide +kernel
theorem dL_plain_10 : decode cL_plain 10 = .ok (.goto 7, 3) := by decide +kernel
theorem dL_plain_13 : decode cL_plain 13 = .ok (.astore 4, 2) := by decide +kernel
theorem dL_plain_15 : decode cL_plain 15 = .ok (.iconst 1, 1) := by decide +kernel
theorem dL_plain_16 : decode cL_plain 16 = .ok (.ireturn, 1) := by decide +kernel
theorem dL_plain_17 : decode cL_plain 17 = .ok (.iconst 0, 1) := by decide +kernel
theorem dL_plain_18 : decode cL_plain 18 = .ok (.ireturn, 1) := by decide +kernel
theorem dL_right_0 : decode cL_right 0 = .ok (.aload 5, 2) := by decide +kernel
theorem dL_right_2 : decode cL_right 2 = .ok (.iconst 0, 1) := by decide +kernel
theorem dL_right_3 : decode cL_right 3 = .ok (.aload_n 0, 1) := by decide +kernel
theorem dL_right_4 : decode cL_right 4 = .ok (.iload_n 1, 1) := by decide +kernel
theorem dL_right_5 : decode cL_right 5 = .ok (.iload_n 2, 1) := by decide +kernel
theorem dL_right_6 : decode cL_right 6 = .ok (.iload_n 3, 1) := by decide +kernel
theorem dL_right_7 : decode cL_right 7 = .ok (.iload 4, 2) := by decide +kernel
theorem dL_right_9 : decode cL_right 9 = .ok (.invokevirtual 130, 3) := by decide +kernel
theorem dL_right_12 : decode cL_right 12 = .ok (.i2l, 1) := by decide +kernel
theorem dL_right_13 : decode cL_right 13 = .ok (.lastore, 1) := by decide +kernel
theorem dL_right_14 : decode cL_right 14 = .ok (.goto 11, 3) := by decide +kernel
theorem dL_right_17 : decode cL_right 17 = .ok (.astore 6, 2) := by decide +kernel
theorem dL_right_19 : decode cL_right 19 = .ok (.iconst 1, 1) := by decide +kernel
theorem dL_right_20 : decode cL_right 20 = .ok (.ireturn, 1) := by decide +kernel
theorem dL_right_21 : decode cL_right 21 = .ok (.astore 6, 2) := by decide +kernel
theorem dL_right_23 : decode cL_right 23 = .ok (.iconst 2, 1) := by decide +kernel
theorem dL_right_24 : decode cL_right 24 = .ok (.ireturn, 1) := by decide +kernel
theorem dL_right_25 : decode cL_right 25 = .ok (.iconst 0, 1) := by decide +kernel
theorem dL_right_26 : decode cL_right 26 = .ok (.ireturn, 1) := by decide +kernel
theorem dL_rest_0 : decode cL_rest 0 = .ok (.aload 4, 2) := by decide +kernel
theorem dL_rest_2 : decode cL_rest 2 = .ok (.iconst 0, 1) := by decide +kernel
theorem dL_rest_3 : decode cL_rest 3 = .ok (.aload_n 0, 1) := by decide +kernel
theorem dL_rest_4 : decode cL_rest 4 = .ok (.iload_n 1, 1) := by decide +kernel
theorem dL_rest_5 : decode cL_rest 5 = .ok (.iload_n 2, 1) := by decide +kernel
theorem dL_rest_6 : decode cL_rest 6 = .ok (.iload_n 3, 1) := by decide +kernel
theorem dL_rest_7 : decode cL_rest 7 = .ok (.invokevirtual 133, 3) := by decide +kernel
theorem dL_rest_10 : decode cL_rest 10 = .ok (.lastore, 1) := by decide +kernel
theorem dL_rest_11 : decode cL_rest 11 = .ok (.goto 15, 3) := by decide +kernel
theorem dL_rest_14 : decode cL_rest 14 = .ok (.astore 5, 2) := by decide +kernel
theorem dL_rest_16 : decode cL_rest 16 = .ok (.iconst 1, 1) := by decide +kernel
theorem dL_rest_17 : decode cL_rest 17 = .ok (.ireturn, 1) := by decide +kernel
theorem dL_rest_18 : decode cL_rest 18 = .ok (.astore 5, 2) := by decide +kernel
theorem dL_rest_20 : decode cL_rest 20 = .ok (.iconst 2, 1) := by decide +kernel
theorem dL_rest_21 : decode cL_rest 21 = .ok (.ireturn, 1) := by decide +kernel
theorem dL_rest_22 : decode cL_rest 22 = .ok (.astore 5, 2) := by decide +kernel
theorem dL_rest_24 : decode cL_rest 24 = .ok (.iconst 3, 1) := by decide +kernel
theorem dL_rest_25 : decode cL_rest 25 = .ok (.ireturn, 1) := by decide +kernel
theorem dL_rest_26 : decode cL_rest 26 = .ok (.iconst 0, 1) := by decide +kernel
theorem dL_rest_27 : decode cL_rest 27 = .ok (.ireturn, 1) := by decide +kernel
theorem dL_season_0 : decode cL_season 0 = .ok (.aload 6, 2) := by decide +kernel
theorem dL_season_2 : decode cL_season 2 = .ok (.iconst 0, 1) := by decide +kernel
theorem dL_season_3 : decode cL_season 3 = .ok (.aload_n 0, 1) := by decide +kernel
theorem dL_season_4 : decode cL_season 4 = .ok (.iload_n 1, 1) := by decide +kernel
theorem dL_season_5 : decode cL_season 5 = .ok (.iload_n 2, 1) := by decide +kernel
theorem dL_season_6 : decode cL_season 6 = .ok (.iload_n 3, 1) := by decide +kernel
theorem dL_season_7 : decode cL_season 7 = .ok (.iload 4, 2) := by decide +kernel
theorem dL_season_9 : decode cL_season 9 = .ok (.iload 5, 2) := by decide +kernel
theorem dL_season_11 : decode cL_season 11 = .ok (.invokevirtual 136, 3) := by decide +kernel
theorem dL_season_14 : decode cL_season 14 = .ok (.i2l, 1) := by decide +kernel
theorem dL_season_15 : decode cL_season 15 = .ok (.lastore, 1) := by decide +kernel
theorem dL_season_16 : decode cL_season 16 = .ok (.goto 15, 3) := by decide +kernel
theorem dL_season_19 : decode cL_season 19 = .ok (.astore 7, 2) := by decide +kernel
theorem dL_season_21 : decode cL_season 21 = .ok (.iconst 1, 1) := by decide +kernel
theorem dL_season_22 : decode cL_season 22 = .ok (.ireturn, 1) := by decide +kernel
theorem dL_season_23 : decode cL_season 23 = .ok (.astore 7, 2) := by decide +kernel
theorem dL_season_25 : decode cL_season 25 = .ok (.iconst 2, 1) := by decide +kernel
theorem dL_season_26 : decode cL_season 26 = .ok (.ireturn, 1) := by decide +kernel
theorem dL_season_27 : decode cL_season 27 = .ok (.astore 7, 2) := by decide +kernel
theorem dL_season_29 : decode cL_season 29 = .ok (.iconst 3, 1) := by decide +kernel
theorem dL_season_30 : decode cL_season 30 = .ok (.ireturn, 1) := by decide +kernel
theorem dL_season_31 : decode cL_season 31 = .ok (.iconst 0, 1) := by decide +kernel
theorem dL_season_32 : decode cL_season 32 = .ok (.ireturn, 1) := by decide +kernel
