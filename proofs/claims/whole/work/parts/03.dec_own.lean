theorem dX0_init_0 : decode cX0_init 0 = .ok (.aload_n 0, 1) := by decide +kernel
theorem dX0_init_1 : decode cX0_init 1 = .ok (.invokespecial 3, 3) := by decide +kernel
theorem dX0_init_4 : decode cX0_init 4 = .ok (.aload_n 0, 1) := by decide +kernel
theorem dX0_init_5 : decode cX0_init 5 = .ok (.new 9, 3) := by decide +kernel
theorem dX0_init_8 : decode cX0_init 8 = .ok (.dup, 1) := by decide +kernel
theorem dX0_init_9 : decode cX0_init 9 = .ok (.invokespecial 11, 3) := by decide +kernel
theorem dX0_init_12 : decode cX0_init 12 = .ok (.putfield 12, 3) := by decide +kernel
theorem dX0_init_15 : decode cX0_init 15 = .ok (.aload_n 0, 1) := by decide +kernel
theorem dX0_init_16 : decode cX0_init 16 = .ok (.bipush 8, 2) := by decide +kernel
theorem dX0_init_18 : decode cX0_init 18 = .ok (.newarray .int, 2) := by decide +kernel
theorem dX0_init_20 : decode cX0_init 20 = .ok (.putfield 18, 3) := by decide +kernel
theorem dX0_init_23 : decode cX0_init 23 = .ok (.aload_n 0, 1) := by decide +kernel
theorem dX0_init_24 : decode cX0_init 24 = .ok (.bipush 32, 2) := by decide +kernel
theorem dX0_init_26 : decode cX0_init 26 = .ok (.newarray .int, 2) := by decide +kernel
theorem dX0_init_28 : decode cX0_init 28 = .ok (.putfield 22, 3) := by decide +kernel
theorem dX0_init_31 : decode cX0_init 31 = .ok (.aload_n 0, 1) := by decide +kernel
theorem dX0_init_32 : decode cX0_init 32 = .ok (.sipush 1952, 3) := by decide +kernel
theorem dX0_init_35 : decode cX0_init 35 = .ok (.newarray .int, 2) := by decide +kernel
theorem dX0_init_37 : decode cX0_init 37 = .ok (.putfield 25, 3) := by decide +kernel
theorem dX0_init_40 : decode cX0_init 40 = .ok (.aload_n 0, 1) := by decide +kernel
theorem dX0_init_41 : decode cX0_init 41 = .ok (.sipush 352, 3) := by decide +kernel
theorem dX0_init_44 : decode cX0_init 44 = .ok (.newarray .int, 2) := by decide +kernel
theorem dX0_init_46 : decode cX0_init 46 = .ok (.putfield 28, 3) := by decide +kernel
theorem dX0_init_49 : decode cX0_init 49 = .ok (.aload_n 0, 1) := by decide +kernel
theorem dX0_init_50 : decode cX0_init 50 = .ok (.sipush 352, 3) := by decide +kernel
theorem dX0_init_53 : decode cX0_init 53 = .ok (.newarray .int, 2) := by decide +kernel
theorem dX0_init_55 : decode cX0_init 55 = .ok (.putfield 31, 3) := by decide +kernel
theorem dX0_init_58 : decode cX0_init 58 = .ok (.aload_n 0, 1) := by decide +kernel
theorem dX0_init_59 : decode cX0_init 59 = .ok (.sipush 352, 3) := by decide +kernel
theorem dX0_init_62 : decode cX0_init 62 = .ok (.newarray .int, 2) := by decide +kernel
theorem dX0_init_64 : decode cX0_init 64 = .ok (.putfield 34, 3) := by decide +kernel
theorem dX0_init_67 : decode cX0_init 67 = .ok (.aload_n 0, 1) := by decide +kernel
theorem dX0_init_68 : decode cX0_init 68 = .ok (.aload_n 1, 1) := by decide +kernel
theorem dX0_init_69 : decode cX0_init 69 = .ok (.putfield 37, 3) := by decide +kernel
theorem dX0_init_72 : decode cX0_init 72 = .ok (.return_, 1) := by decide +kernel
theorem dX0_goalWorthAt_0 : decode cX0_goalWorthAt 0 = .ok (.aload_n 0, 1) := by decide +kernel
theorem dX0_goalWorthAt_1 : decode cX0_goalWorthAt 1 = .ok (.getfield 18, 3) := by decide +kernel
theorem dX0_goalWorthAt_4 : decode cX0_goalWorthAt 4 = .ok (.iconst 4, 1) := by decide +kernel
theorem dX0_goalWorthAt_5 : decode cX0_goalWorthAt 5 = .ok (.iload_n 1, 1) := by decide +kernel
theorem dX0_goalWorthAt_6 : decode cX0_goalWorthAt 6 = .ok (.invokestatic 41, 3) := by decide +kernel
theorem dX0_goalWorthAt_9 : decode cX0_goalWorthAt 9 = .ok (.aload_n 0, 1) := by decide +kernel
theorem dX0_goalWorthAt_10 : decode cX0_goalWorthAt 10 = .ok (.getfield 18, 3) := by decide +kernel
theorem dX0_goalWorthAt_13 : decode cX0_goalWorthAt 13 = .ok (.iconst 5, 1) := by decide +kernel
theorem dX0_goalWorthAt_14 : decode cX0_goalWorthAt 14 = .ok (.iconst 0, 1) := by decide +kernel
theorem dX0_goalWorthAt_15 : decode cX0_goalWorthAt 15 = .ok (.aload_n 0, 1) := by decide +kernel
theorem dX0_goalWorthAt_16 : decode cX0_goalWorthAt 16 = .ok (.getfield 37, 3) := by decide +kernel
theorem dX0_goalWorthAt_19 : decode cX0_goalWorthAt 19 = .ok (.getfield 47, 3) := by decide +kernel
theorem dX0_goalWorthAt_22 : decode cX0_goalWorthAt 22 = .ok (.invokestatic 53, 3) := by decide +kernel
theorem dX0_goalWorthAt_25 : decode cX0_goalWorthAt 25 = .ok (.invokestatic 41, 3) := by decide +kernel
theorem dX0_goalWorthAt_28 : decode cX0_goalWorthAt 28 = .ok (.aload_n 0, 1) := by decide +kernel
theorem dX0_goalWorthAt_29 : decode cX0_goalWorthAt 29 = .ok (.getfield 18, 3) := by decide +kernel
theorem dX0_goalWorthAt_32 : decode cX0_goalWorthAt 32 = .ok (.bipush 6, 2) := by decide +kernel
theorem dX0_goalWorthAt_34 : decode cX0_goalWorthAt 34 = .ok (.iconst 0, 1) := by decide +kernel
theorem dX0_goalWorthAt_35 : decode cX0_goalWorthAt 35 = .ok (.aload_n 0, 1) := by decide +kernel
theorem dX0_goalWorthAt_36 : decode cX0_goalWorthAt 36 = .ok (.getfield 37, 3) := by decide +kernel
theorem dX0_goalWorthAt_39 : decode cX0_goalWorthAt 39 = .ok (.getfield 47, 3) := by decide +kernel
theorem dX0_goalWorthAt_42 : decode cX0_goalWorthAt 42 = .ok (.ineg, 1) := by decide +kernel
theorem dX0_goalWorthAt_43 : decode cX0_goalWorthAt 43 = .ok (.invokestatic 53, 3) := by decide +kernel
theorem dX0_goalWorthAt_46 : decode cX0_goalWorthAt 46 = .ok (.invokestatic 41, 3) := by decide +kernel
theorem dX0_goalWorthAt_49 : decode cX0_goalWorthAt 49 = .ok (.aload_n 0, 1) := by decide +kernel
theorem dX0_goalWorthAt_50 : decode cX0_goalWorthAt 50 = .ok (.getfield 37, 3) := by decide +kernel
theorem dX0_goalWorthAt_53 : decode cX0_goalWorthAt 53 = .ok (.getfield 59, 3) := by decide +kernel
theorem dX0_goalWorthAt_56 : decode cX0_goalWorthAt 56 = .ok (.ifCond .ne 7, 3) := by decide +kernel
theorem dX0_goalWorthAt_59 : decode cX0_goalWorthAt 59 = .ok (.sipush 10000, 3) := by decide +kernel
theorem dX0_goalWorthAt_62 : decode cX0_goalWorthAt 62 = .ok (.ireturn, 1) := by decide +kernel
theorem dX0_goalWorthAt_63 : decode cX0_goalWorthAt 63 = .ok (.iconst 0, 1) := by decide +kernel
theorem dX0_goalWorthAt_64 : decode cX0_goalWorthAt 64 = .ok (.sipush 30000, 3) := by decide +kernel
theorem dX0_goalWorthAt_67 : decode cX0_goalWorthAt 67 = .ok (.aload_n 0, 1) := by decide +kernel
theorem dX0_goalWorthAt_68 : decode cX0_goalWorthAt 68 = .ok (.getfield 37, 3) := by decide +kernel
theorem dX0_goalWorthAt_71 : decode cX0_goalWorthAt 71 = .ok (.getfield 63, 3) := by decide +kernel
theorem dX0_goalWorthAt_74 : decode cX0_goalWorthAt 74 = .ok (.aload_n 0, 1) := by decide +kernel
theorem dX0_goalWorthAt_75 : decode cX0_goalWorthAt 75 = .ok (.getfield 18, 3) := by decide +kernel
theorem dX0_goalWorthAt_78 : decode cX0_goalWorthAt 78 = .ok (.aload_n 0, 1) := by decide +kernel
theorem dX0_goalWorthAt_79 : decode cX0_goalWorthAt 79 = .ok (.getfield 22, 3) := by decide +kernel
theorem dX0_goalWorthAt_82 : decode cX0_goalWorthAt 82 = .ok (.invokevirtual 67, 3) := by decide +kernel
theorem dX0_goalWorthAt_85 : decode cX0_goalWorthAt 85 = .ok (.invokestatic 73, 3) := by decide +kernel
theorem dX0_goalWorthAt_88 : decode cX0_goalWorthAt 88 = .ok (.invokestatic 53, 3) := by decide +kernel
theorem dX0_goalWorthAt_91 : decode cX0_goalWorthAt 91 = .ok (.ireturn, 1) := by decide +kernel
theorem dX0_open_0 : decode cX0_open 0 = .ok (.aload_n 0, 1) := by decide +kernel
theorem dX0_open_1 : decode cX0_open 1 = .ok (.aload_n 0, 1) := by decide +kernel
theorem dX0_open_2 : decode cX0_open 2 = .ok (.iload_n 1, 1) := by decide +kernel
theorem dX0_open_3 : decode cX0_open 3 = .ok (.invokevirtual 76, 3) := by decide +kernel
theorem dX0_open_6 : decode cX0_open 6 = .ok (.putfield 80, 3) := by decide +kernel
theorem dX0_open_9 : decode cX0_open 9 = .ok (.aload_n 0, 1) := by decide +kernel
theorem dX0_open_10 : decode cX0_open 10 = .ok (.aload_n 0, 1) := by decide +kernel
theorem dX0_open_11 : decode cX0_open 11 = .ok (.getfield 37, 3) := by decide +kernel
theorem dX0_open_14 : decode cX0_open 14 = .ok (.getfield 83, 3) := by decide +kernel
theorem dX0_open_17 : decode cX0_open 17 = .ok (.putfield 86, 3) := by decide +kernel
theorem dX0_open_20 : decode cX0_open 20 = .ok (.aload_n 0, 1) := by decide +kernel
theorem dX0_open_21 : decode cX0_open 21 = .ok (.getfield 12, 3) := by decide +kernel
theorem dX0_open_24 : decode cX0_open 24 = .ok (.aload_n 0, 1) := by decide +kernel
theorem dX0_open_25 : decode cX0_open 25 = .ok (.getfield 37, 3) := by decide +kernel
theorem dX0_open_28 : decode cX0_open 28 = .ok (.invokevirtual 89, 3) := by decide +kernel
theorem dX0_open_31 : decode cX0_open 31 = .ok (.iconst 1, 1) := by decide +kernel
theorem dX0_open_32 : decode cX0_open 32 = .ok (.istore_n 3, 1) := by decide +kernel
theorem dX0_open_33 : decode cX0_open 33 = .ok (.iload_n 3, 1) := by decide +kernel
theorem dX0_open_34 : decode cX0_open 34 = .ok (.iload_n 2, 1) := by decide +kernel
theorem dX0_open_35 : decode cX0_open 35 = .ok (.if_icmp .gt 74, 3) := by decide +kernel
theorem dX0_open_38 : decode cX0_open 38 = .ok (.iconst 0, 1) := by decide +kernel
theorem dX0_open_39 : decode cX0_open 39 = .ok (.istore 4, 2) := by decide +kernel
theorem dX0_open_41 : decode cX0_open 41 = .ok (.iload 4, 2) := by decide +kernel
theorem dX0_open_43 : decode cX0_open 43 = .ok (.bipush 32, 2) := by decide +kernel
theorem dX0_open_45 : decode cX0_open 45 = .ok (.if_icmp .ge 58, 3) := by decide +kernel
theorem dX0_open_48 : decode cX0_open 48 = .ok (.aload_n 0, 1) := by decide +kernel
theorem dX0_open_49 : decode cX0_open 49 = .ok (.getfield 12, 3) := by decide +kernel
theorem dX0_open_52 : decode cX0_open 52 = .ok (.iload 4, 2) := by decide +kernel
theorem dX0_open_54 : decode cX0_open 54 = .ok (.aload_n 0, 1) := by decide +kernel
theorem dX0_open_55 : decode cX0_open 55 = .ok (.getfield 25, 3) := by decide +kernel
theorem dX0_open_58 : decode cX0_open 58 = .ok (.iload_n 3, 1) := by decide +kernel
theorem dX0_open_59 : decode cX0_open 59 = .ok (.iconst 1, 1) := by decide +kernel
theorem dX0_open_60 : decode cX0_open 60 = .ok (.isub, 1) := by decide +kernel
theorem dX0_open_61 : decode cX0_open 61 = .ok (.bipush 32, 2) := by decide +kernel
theorem dX0_open_63 : decode cX0_open 63 = .ok (.imul, 1) := by decide +kernel
theorem dX0_open_64 : decode cX0_open 64 = .ok (.aload_n 0, 1) := by decide +kernel
theorem dX0_open_65 : decode cX0_open 65 = .ok (.getfield 80, 3) := by decide +kernel
theorem dX0_open_68 : decode cX0_open 68 = .ok (.aload_n 0, 1) := by decide +kernel
theorem dX0_open_69 : decode cX0_open 69 = .ok (.getfield 37, 3) := by decide +kernel
theorem dX0_open_72 : decode cX0_open 72 = .ok (.getfield 93, 3) := by decide +kernel
theorem dX0_open_75 : decode cX0_open 75 = .ok (.ineg, 1) := by decide +kernel
theorem dX0_open_76 : decode cX0_open 76 = .ok (.invokevirtual 96, 3) := by decide +kernel
theorem dX0_open_79 : decode cX0_open 79 = .ok (.istore 5, 2) := by decide +kernel
theorem dX0_open_81 : decode cX0_open 81 = .ok (.aload_n 0, 1) := by decide +kernel
theorem dX0_open_82 : decode cX0_open 82 = .ok (.getfield 25, 3) := by decide +kernel
theorem dX0_open_85 : decode cX0_open 85 = .ok (.iload_n 3, 1) := by decide +kernel
theorem dX0_open_86 : decode cX0_open 86 = .ok (.bipush 32, 2) := by decide +kernel
theorem dX0_open_88 : decode cX0_open 88 = .ok (.imul, 1) := by decide +kernel
theorem dX0_open_89 : decode cX0_open 89 = .ok (.iload 4, 2) := by decide +kernel
theorem dX0_open_91 : decode cX0_open 91 = .ok (.iadd, 1) := by decide +kernel
theorem dX0_open_92 : decode cX0_open 92 = .ok (.iload 5, 2) := by decide +kernel
theorem dX0_open_94 : decode cX0_open 94 = .ok (.invokestatic 41, 3) := by decide +kernel
theorem dX0_open_97 : decode cX0_open 97 = .ok (.iinc 4 1, 3) := by decide +kernel
theorem dX0_open_100 : decode cX0_open 100 = .ok (.goto (-59), 3) := by decide +kernel
theorem dX0_open_103 : decode cX0_open 103 = .ok (.iinc 3 1, 3) := by decide +kernel
theorem dX0_open_106 : decode cX0_open 106 = .ok (.goto (-73), 3) := by decide +kernel
theorem dX0_open_109 : decode cX0_open 109 = .ok (.return_, 1) := by decide +kernel
theorem dX0_lettingOn_0 : decode cX0_lettingOn 0 = .ok (.aload_n 0, 1) := by decide +kernel
theorem dX0_lettingOn_1 : decode cX0_lettingOn 1 = .ok (.getfield 25, 3) := by decide +kernel
theorem dX0_lettingOn_4 : decode cX0_lettingOn 4 = .ok (.iconst 0, 1) := by decide +kernel
theorem dX0_lettingOn_5 : decode cX0_lettingOn 5 = .ok (.iload_n 2, 1) := by decide +kernel
theorem dX0_lettingOn_6 : decode cX0_lettingOn 6 = .ok (.invokestatic 53, 3) := by decide +kernel
theorem dX0_lettingOn_9 : decode cX0_lettingOn 9 = .ok (.bipush 32, 2) := by decide +kernel
theorem dX0_lettingOn_11 : decode cX0_lettingOn 11 = .ok (.imul, 1) := by decide +kernel
theorem dX0_lettingOn_12 : decode cX0_lettingOn 12 = .ok (.iload_n 1, 1) := by decide +kernel
theorem dX0_lettingOn_13 : decode cX0_lettingOn 13 = .ok (.iadd, 1) := by decide +kernel
theorem dX0_lettingOn_14 : decode cX0_lettingOn 14 = .ok (.invokestatic 100, 3) := by decide +kernel
theorem dX0_lettingOn_17 : decode cX0_lettingOn 17 = .ok (.ireturn, 1) := by decide +kernel
theorem dX0_seat_0 : decode cX0_seat 0 = .ok (.aload_n 0, 1) := by decide +kernel
theorem dX0_seat_1 : decode cX0_seat 1 = .ok (.iload_n 1, 1) := by decide +kernel
theorem dX0_seat_2 : decode cX0_seat 2 = .ok (.putfield 104, 3) := by decide +kernel
theorem dX0_seat_5 : decode cX0_seat 5 = .ok (.aload_n 0, 1) := by decide +kernel
theorem dX0_seat_6 : decode cX0_seat 6 = .ok (.iload_n 2, 1) := by decide +kernel
theorem dX0_seat_7 : decode cX0_seat 7 = .ok (.putfield 107, 3) := by decide +kernel
theorem dX0_seat_10 : decode cX0_seat 10 = .ok (.return_, 1) := by decide +kernel
theorem dX0_seatPlain_0 : decode cX0_seatPlain 0 = .ok (.aload_n 0, 1) := by decide +kernel
theorem dX0_seatPlain_1 : decode cX0_seatPlain 1 = .ok (.iconst (-1), 1) := by decide +kernel
theorem dX0_seatPlain_2 : decode cX0_seatPlain 2 = .ok (.putfield 104, 3) := by decide +kernel
theorem dX0_seatPlain_5 : decode cX0_seatPlain 5 = .ok (.aload_n 0, 1) := by decide +kernel
theorem dX0_seatPlain_6 : decode cX0_seatPlain 6 = .ok (.iload_n 1, 1) := by decide +kernel
theorem dX0_seatPlain_7 : decode cX0_seatPlain 7 = .ok (.putfield 110, 3) := by decide +kernel
theorem dX0_seatPlain_10 : decode cX0_seatPlain 10 = .ok (.aload_n 0, 1) := by decide +kernel
theorem dX0_seatPlain_11 : decode cX0_seatPlain 11 = .ok (.iload_n 2, 1) := by decide +kernel
theorem dX0_seatPlain_12 : decode cX0_seatPlain 12 = .ok (.putfield 113, 3) := by decide +kernel
theorem dX0_seatPlain_15 : decode cX0_seatPlain 15 = .ok (.return_, 1) := by decide +kernel
theorem dX0_lay_0 : decode cX0_lay 0 = .ok (.aload_n 0, 1) := by decide +kernel
theorem dX0_lay_1 : decode cX0_lay 1 = .ok (.aload_n 0, 1) := by decide +kernel
theorem dX0_lay_2 : decode cX0_lay 2 = .ok (.getfield 37, 3) := by decide +kernel
theorem dX0_lay_5 : decode cX0_lay 5 = .ok (.iload_n 2, 1) := by decide +kernel
theorem dX0_lay_6 : decode cX0_lay 6 = .ok (.iload_n 3, 1) := by decide +kernel
theorem dX0_lay_7 : decode cX0_lay 7 = .ok (.invokevirtual 116, 3) := by decide +kernel
theorem dX0_lay_10 : decode cX0_lay 10 = .ok (.putfield 119, 3) := by decide +kernel
theorem dX0_lay_13 : decode cX0_lay 13 = .ok (.aload_n 0, 1) := by decide +kernel
theorem dX0_lay_14 : decode cX0_lay 14 = .ok (.aload_n 0, 1) := by decide +kernel
theorem dX0_lay_15 : decode cX0_lay 15 = .ok (.getfield 37, 3) := by decide +kernel
theorem dX0_lay_18 : decode cX0_lay 18 = .ok (.iload_n 1, 1) := by decide +kernel
theorem dX0_lay_19 : decode cX0_lay 19 = .ok (.iload_n 3, 1) := by decide +kernel
theorem dX0_lay_20 : decode cX0_lay 20 = .ok (.invokevirtual 121, 3) := by decide +kernel
theorem dX0_lay_23 : decode cX0_lay 23 = .ok (.putfield 124, 3) := by decide +kernel
theorem dX0_lay_26 : decode cX0_lay 26 = .ok (.aload_n 0, 1) := by decide +kernel
theorem dX0_lay_27 : decode cX0_lay 27 = .ok (.getfield 18, 3) := by decide +kernel
theorem dX0_lay_30 : decode cX0_lay 30 = .ok (.iconst 3, 1) := by decide +kernel
theorem dX0_lay_31 : decode cX0_lay 31 = .ok (.aload_n 0, 1) := by decide +kernel
theorem dX0_lay_32 : decode cX0_lay 32 = .ok (.getfield 37, 3) := by decide +kernel
theorem dX0_lay_35 : decode cX0_lay 35 = .ok (.getfield 127, 3) := by decide +kernel
theorem dX0_lay_38 : decode cX0_lay 38 = .ok (.iload_n 2, 1) := by decide +kernel
theorem dX0_lay_39 : decode cX0_lay 39 = .ok (.invokestatic 100, 3) := by decide +kernel
theorem dX0_lay_42 : decode cX0_lay 42 = .ok (.invokestatic 41, 3) := by decide +kernel
theorem dX0_lay_45 : decode cX0_lay 45 = .ok (.aload_n 0, 1) := by decide +kernel
theorem dX0_lay_46 : decode cX0_lay 46 = .ok (.getfield 18, 3) := by decide +kernel
theorem dX0_lay_49 : decode cX0_lay 49 = .ok (.bipush 7, 2) := by decide +kernel
theorem dX0_lay_51 : decode cX0_lay 51 = .ok (.aload_n 0, 1) := by decide +kernel
theorem dX0_lay_52 : decode cX0_lay 52 = .ok (.getfield 37, 3) := by decide +kernel
theorem dX0_lay_55 : decode cX0_lay 55 = .ok (.getfield 130, 3) := by decide +kernel
theorem dX0_lay_58 : decode cX0_lay 58 = .ok (.iload_n 1, 1) := by decide +kernel
theorem dX0_lay_59 : decode cX0_lay 59 = .ok (.invokestatic 100, 3) := by decide +kernel
theorem dX0_lay_62 : decode cX0_lay 62 = .ok (.bipush 100, 2) := by decide +kernel
theorem dX0_lay_64 : decode cX0_lay 64 = .ok (.if_icmp .ne 7, 3) := by decide +kernel
theorem dX0_lay_67 : decode cX0_lay 67 = .ok (.iconst 1, 1) := by decide +kernel
theorem dX0_lay_68 : decode cX0_lay 68 = .ok (.goto 4, 3) := by decide +kernel
theorem dX0_lay_71 : decode cX0_lay 71 = .ok (.iconst 0, 1) := by decide +kernel
theorem dX0_lay_72 : decode cX0_lay 72 = .ok (.invokestatic 41, 3) := by decide +kernel
theorem dX0_lay_75 : decode cX0_lay 75 = .ok (.aload_n 0, 1) := by decide +kernel
theorem dX0_lay_76 : decode cX0_lay 76 = .ok (.getfield 86, 3) := by decide +kernel
theorem dX0_lay_79 : decode cX0_lay 79 = .ok (.istore 4, 2) := by decide +kernel
theorem dX0_lay_81 : decode cX0_lay 81 = .ok (.iload 4, 2) := by decide +kernel
theorem dX0_lay_83 : decode cX0_lay 83 = .ok (.ifCond .lt 33, 3) := by decide +kernel
theorem dX0_lay_86 : decode cX0_lay 86 = .ok (.iconst 0, 1) := by decide +kernel
theorem dX0_lay_87 : decode cX0_lay 87 = .ok (.istore 5, 2) := by decide +kernel
theorem dX0_lay_89 : decode cX0_lay 89 = .ok (.iload 5, 2) := by decide +kernel
theorem dX0_lay_91 : decode cX0_lay 91 = .ok (.bipush 32, 2) := by decide +kernel
theorem dX0_lay_93 : decode cX0_lay 93 = .ok (.if_icmp .ge 17, 3) := by decide +kernel
theorem dX0_lay_96 : decode cX0_lay 96 = .ok (.aload_n 0, 1) := by decide +kernel
theorem dX0_lay_97 : decode cX0_lay 97 = .ok (.iload 4, 2) := by decide +kernel
theorem dX0_lay_99 : decode cX0_lay 99 = .ok (.iload 5, 2) := by decide +kernel
theorem dX0_lay_101 : decode cX0_lay 101 = .ok (.invokevirtual 133, 3) := by decide +kernel
theorem dX0_lay_104 : decode cX0_lay 104 = .ok (.iinc 5 1, 3) := by decide +kernel
theorem dX0_lay_107 : decode cX0_lay 107 = .ok (.goto (-18), 3) := by decide +kernel
theorem dX0_lay_110 : decode cX0_lay 110 = .ok (.iinc 4 (-1), 3) := by decide +kernel
theorem dX0_lay_113 : decode cX0_lay 113 = .ok (.goto (-32), 3) := by decide +kernel
theorem dX0_lay_116 : decode cX0_lay 116 = .ok (.return_, 1) := by decide +kernel
theorem dX0_decide_0 : decode cX0_decide 0 = .ok (.aload_n 0, 1) := by decide +kernel
theorem dX0_decide_1 : decode cX0_decide 1 = .ok (.iload_n 2, 1) := by decide +kernel
theorem dX0_decide_2 : decode cX0_decide 2 = .ok (.aload_n 0, 1) := by decide +kernel
theorem dX0_decide_3 : decode cX0_decide 3 = .ok (.getfield 37, 3) := by decide +kernel
theorem dX0_decide_6 : decode cX0_decide 6 = .ok (.getfield 137, 3) := by decide +kernel
theorem dX0_decide_9 : decode cX0_decide 9 = .ok (.iload_n 1, 1) := by decide +kernel
theorem dX0_decide_10 : decode cX0_decide 10 = .ok (.isub, 1) := by decide +kernel
theorem dX0_decide_11 : decode cX0_decide 11 = .ok (.invokevirtual 140, 3) := by decide +kernel
theorem dX0_decide_14 : decode cX0_decide 14 = .ok (.aload_n 0, 1) := by decide +kernel
theorem dX0_decide_15 : decode cX0_decide 15 = .ok (.getfield 124, 3) := by decide +kernel
theorem dX0_decide_18 : decode cX0_decide 18 = .ok (.iadd, 1) := by decide +kernel
theorem dX0_decide_19 : decode cX0_decide 19 = .ok (.istore_n 3, 1) := by decide +kernel
theorem dX0_decide_20 : decode cX0_decide 20 = .ok (.iload_n 3, 1) := by decide +kernel
theorem dX0_decide_21 : decode cX0_decide 21 = .ok (.istore 4, 2) := by decide +kernel
theorem dX0_decide_23 : decode cX0_decide 23 = .ok (.iload_n 1, 1) := by decide +kernel
theorem dX0_decide_24 : decode cX0_decide 24 = .ok (.aload_n 0, 1) := by decide +kernel
theorem dX0_decide_25 : decode cX0_decide 25 = .ok (.getfield 86, 3) := by decide +kernel
theorem dX0_decide_28 : decode cX0_decide 28 = .ok (.if_icmp .ge 36, 3) := by decide +kernel
theorem dX0_decide_31 : decode cX0_decide 31 = .ok (.aload_n 0, 1) := by decide +kernel
theorem dX0_decide_32 : decode cX0_decide 32 = .ok (.getfield 12, 3) := by decide +kernel
theorem dX0_decide_35 : decode cX0_decide 35 = .ok (.iload_n 2, 1) := by decide +kernel
theorem dX0_decide_36 : decode cX0_decide 36 = .ok (.aload_n 0, 1) := by decide +kernel
theorem dX0_decide_37 : decode cX0_decide 37 = .ok (.getfield 28, 3) := by decide +kernel
theorem dX0_decide_40 : decode cX0_decide 40 = .ok (.iload_n 1, 1) := by decide +kernel
theorem dX0_decide_41 : decode cX0_decide 41 = .ok (.iconst 1, 1) := by decide +kernel
theorem dX0_decide_42 : decode cX0_decide 42 = .ok (.iadd, 1) := by decide +kernel
theorem dX0_decide_43 : decode cX0_decide 43 = .ok (.bipush 32, 2) := by decide +kernel
theorem dX0_decide_45 : decode cX0_decide 45 = .ok (.imul, 1) := by decide +kernel
theorem dX0_decide_46 : decode cX0_decide 46 = .ok (.aload_n 0, 1) := by decide +kernel
theorem dX0_decide_47 : decode cX0_decide 47 = .ok (.getfield 80, 3) := by decide +kernel
theorem dX0_decide_50 : decode cX0_decide 50 = .ok (.aload_n 0, 1) := by decide +kernel
theorem dX0_decide_51 : decode cX0_decide 51 = .ok (.getfield 124, 3) := by decide +kernel
theorem dX0_decide_54 : decode cX0_decide 54 = .ok (.iadd, 1) := by decide +kernel
theorem dX0_decide_55 : decode cX0_decide 55 = .ok (.aload_n 0, 1) := by decide +kernel
theorem dX0_decide_56 : decode cX0_decide 56 = .ok (.getfield 119, 3) := by decide +kernel
theorem dX0_decide_59 : decode cX0_decide 59 = .ok (.invokevirtual 96, 3) := by decide +kernel
theorem dX0_decide_62 : decode cX0_decide 62 = .ok (.istore 4, 2) := by decide +kernel
theorem dX0_decide_64 : decode cX0_decide 64 = .ok (.aload_n 0, 1) := by decide +kernel
theorem dX0_decide_65 : decode cX0_decide 65 = .ok (.iload_n 1, 1) := by decide +kernel
theorem dX0_decide_66 : decode cX0_decide 66 = .ok (.iload_n 2, 1) := by decide +kernel
theorem dX0_decide_67 : decode cX0_decide 67 = .ok (.iload_n 3, 1) := by decide +kernel
theorem dX0_decide_68 : decode cX0_decide 68 = .ok (.iload 4, 2) := by decide +kernel
theorem dX0_decide_70 : decode cX0_decide 70 = .ok (.invokevirtual 143, 3) := by decide +kernel
theorem dX0_decide_73 : decode cX0_decide 73 = .ok (.istore 5, 2) := by decide +kernel
theorem dX0_decide_75 : decode cX0_decide 75 = .ok (.aload_n 0, 1) := by decide +kernel
theorem dX0_decide_76 : decode cX0_decide 76 = .ok (.getfield 104, 3) := by decide +kernel
theorem dX0_decide_79 : decode cX0_decide 79 = .ok (.iconst 5, 1) := by decide +kernel
theorem dX0_decide_80 : decode cX0_decide 80 = .ok (.if_icmp .lt 60, 3) := by decide +kernel
theorem dX0_decide_83 : decode cX0_decide 83 = .ok (.aload_n 0, 1) := by decide +kernel
theorem dX0_decide_84 : decode cX0_decide 84 = .ok (.getfield 18, 3) := by decide +kernel
theorem dX0_decide_87 : decode cX0_decide 87 = .ok (.iconst 0, 1) := by decide +kernel
theorem dX0_decide_88 : decode cX0_decide 88 = .ok (.iload_n 2, 1) := by decide +kernel
theorem dX0_decide_89 : decode cX0_decide 89 = .ok (.iconst 4, 1) := by decide +kernel
theorem dX0_decide_90 : decode cX0_decide 90 = .ok (.idiv, 1) := by decide +kernel
theorem dX0_decide_91 : decode cX0_decide 91 = .ok (.invokestatic 41, 3) := by decide +kernel
theorem dX0_decide_94 : decode cX0_decide 94 = .ok (.aload_n 0, 1) := by decide +kernel
theorem dX0_decide_95 : decode cX0_decide 95 = .ok (.getfield 18, 3) := by decide +kernel
theorem dX0_decide_98 : decode cX0_decide 98 = .ok (.iconst 1, 1) := by decide +kernel
theorem dX0_decide_99 : decode cX0_decide 99 = .ok (.iload_n 2, 1) := by decide +kernel
theorem dX0_decide_100 : decode cX0_decide 100 = .ok (.iconst 4, 1) := by decide +kernel
theorem dX0_decide_101 : decode cX0_decide 101 = .ok (.irem, 1) := by decide +kernel
theorem dX0_decide_102 : decode cX0_decide 102 = .ok (.invokestatic 41, 3) := by decide +kernel
theorem dX0_decide_105 : decode cX0_decide 105 = .ok (.aload_n 0, 1) := by decide +kernel
theorem dX0_decide_106 : decode cX0_decide 106 = .ok (.getfield 18, 3) := by decide +kernel
theorem dX0_decide_109 : decode cX0_decide 109 = .ok (.iconst 2, 1) := by decide +kernel
theorem dX0_decide_110 : decode cX0_decide 110 = .ok (.iload_n 1, 1) := by decide +kernel
theorem dX0_decide_111 : decode cX0_decide 111 = .ok (.invokestatic 41, 3) := by decide +kernel
theorem dX0_decide_114 : decode cX0_decide 114 = .ok (.aload_n 0, 1) := by decide +kernel
theorem dX0_decide_115 : decode cX0_decide 115 = .ok (.getfield 37, 3) := by decide +kernel
theorem dX0_decide_118 : decode cX0_decide 118 = .ok (.aload_n 0, 1) := by decide +kernel
theorem dX0_decide_119 : decode cX0_decide 119 = .ok (.getfield 104, 3) := by decide +kernel
theorem dX0_decide_122 : decode cX0_decide 122 = .ok (.iconst 5, 1) := by decide +kernel
theorem dX0_decide_123 : decode cX0_decide 123 = .ok (.isub, 1) := by decide +kernel
theorem dX0_decide_124 : decode cX0_decide 124 = .ok (.invokevirtual 147, 3) := by decide +kernel
theorem dX0_decide_127 : decode cX0_decide 127 = .ok (.aload_n 0, 1) := by decide +kernel
theorem dX0_decide_128 : decode cX0_decide 128 = .ok (.getfield 18, 3) := by decide +kernel
theorem dX0_decide_131 : decode cX0_decide 131 = .ok (.aload_n 0, 1) := by decide +kernel
theorem dX0_decide_132 : decode cX0_decide 132 = .ok (.getfield 22, 3) := by decide +kernel
theorem dX0_decide_135 : decode cX0_decide 135 = .ok (.invokevirtual 151, 3) := by decide +kernel
theorem dX0_decide_138 : decode cX0_decide 138 = .ok (.istore 5, 2) := by decide +kernel
theorem dX0_decide_140 : decode cX0_decide 140 = .ok (.iload 5, 2) := by decide +kernel
theorem dX0_decide_142 : decode cX0_decide 142 = .ok (.iconst 2, 1) := by decide +kernel
theorem dX0_decide_143 : decode cX0_decide 143 = .ok (.if_icmp .ne 14, 3) := by decide +kernel
theorem dX0_decide_146 : decode cX0_decide 146 = .ok (.iload_n 1, 1) := by decide +kernel
theorem dX0_decide_147 : decode cX0_decide 147 = .ok (.aload_n 0, 1) := by decide +kernel
theorem dX0_decide_148 : decode cX0_decide 148 = .ok (.getfield 86, 3) := by decide +kernel
theorem dX0_decide_151 : decode cX0_decide 151 = .ok (.if_icmp .lt 6, 3) := by decide +kernel
theorem dX0_decide_154 : decode cX0_decide 154 = .ok (.iconst 1, 1) := by decide +kernel
theorem dX0_decide_155 : decode cX0_decide 155 = .ok (.istore 5, 2) := by decide +kernel
theorem dX0_decide_157 : decode cX0_decide 157 = .ok (.aload_n 0, 1) := by decide +kernel
theorem dX0_decide_158 : decode cX0_decide 158 = .ok (.getfield 31, 3) := by decide +kernel
theorem dX0_decide_161 : decode cX0_decide 161 = .ok (.iload_n 1, 1) := by decide +kernel
theorem dX0_decide_162 : decode cX0_decide 162 = .ok (.bipush 32, 2) := by decide +kernel
theorem dX0_decide_164 : decode cX0_decide 164 = .ok (.imul, 1) := by decide +kernel
theorem dX0_decide_165 : decode cX0_decide 165 = .ok (.iload_n 2, 1) := by decide +kernel
theorem dX0_decide_166 : decode cX0_decide 166 = .ok (.iadd, 1) := by decide +kernel
theorem dX0_decide_167 : decode cX0_decide 167 = .ok (.iload 5, 2) := by decide +kernel
theorem dX0_decide_169 : decode cX0_decide 169 = .ok (.invokestatic 41, 3) := by decide +kernel
theorem dX0_decide_172 : decode cX0_decide 172 = .ok (.aload_n 0, 1) := by decide +kernel
theorem dX0_decide_173 : decode cX0_decide 173 = .ok (.getfield 28, 3) := by decide +kernel
theorem dX0_decide_176 : decode cX0_decide 176 = .ok (.iload_n 1, 1) := by decide +kernel
theorem dX0_decide_177 : decode cX0_decide 177 = .ok (.bipush 32, 2) := by decide +kernel
theorem dX0_decide_179 : decode cX0_decide 179 = .ok (.imul, 1) := by decide +kernel
theorem dX0_decide_180 : decode cX0_decide 180 = .ok (.iload_n 2, 1) := by decide +kernel
theorem dX0_decide_181 : decode cX0_decide 181 = .ok (.iadd, 1) := by decide +kernel
theorem dX0_decide_182 : decode cX0_decide 182 = .ok (.iload 5, 2) := by decide +kernel
theorem dX0_decide_184 : decode cX0_decide 184 = .ok (.ifCond .ne 10, 3) := by decide +kernel
theorem dX0_decide_187 : decode cX0_decide 187 = .ok (.aload_n 0, 1) := by decide +kernel
theorem dX0_decide_188 : decode cX0_decide 188 = .ok (.getfield 119, 3) := by decide +kernel
theorem dX0_decide_191 : decode cX0_decide 191 = .ok (.goto 15, 3) := by decide +kernel
theorem dX0_decide_194 : decode cX0_decide 194 = .ok (.iload 5, 2) := by decide +kernel
theorem dX0_decide_196 : decode cX0_decide 196 = .ok (.iconst 1, 1) := by decide +kernel
theorem dX0_decide_197 : decode cX0_decide 197 = .ok (.if_icmp .ne 7, 3) := by decide +kernel
theorem dX0_decide_200 : decode cX0_decide 200 = .ok (.iload_n 3, 1) := by decide +kernel
theorem dX0_decide_201 : decode cX0_decide 201 = .ok (.goto 5, 3) := by decide +kernel
theorem dX0_decide_204 : decode cX0_decide 204 = .ok (.iload 4, 2) := by decide +kernel
theorem dX0_decide_206 : decode cX0_decide 206 = .ok (.invokestatic 41, 3) := by decide +kernel
theorem dX0_decide_209 : decode cX0_decide 209 = .ok (.return_, 1) := by decide +kernel
theorem dX0_wish_0 : decode cX0_wish 0 = .ok (.aload_n 0, 1) := by decide +kernel
theorem dX0_wish_1 : decode cX0_wish 1 = .ok (.getfield 104, 3) := by decide +kernel
theorem dX0_wish_4 : decode cX0_wish 4 = .ok (.tableswitch 143 (-1) 4 #[117, 40, 42, 44, 58, 91], 40) := by decide +kernel
theorem dX0_wish_44 : decode cX0_wish 44 = .ok (.iconst 0, 1) := by decide +kernel
theorem dX0_wish_45 : decode cX0_wish 45 = .ok (.ireturn, 1) := by decide +kernel
theorem dX0_wish_46 : decode cX0_wish 46 = .ok (.iconst 1, 1) := by decide +kernel
theorem dX0_wish_47 : decode cX0_wish 47 = .ok (.ireturn, 1) := by decide +kernel
theorem dX0_wish_48 : decode cX0_wish 48 = .ok (.iload_n 2, 1) := by decide +kernel
theorem dX0_wish_49 : decode cX0_wish 49 = .ok (.aload_n 0, 1) := by decide +kernel
theorem dX0_wish_50 : decode cX0_wish 50 = .ok (.getfield 107, 3) := by decide +kernel
theorem dX0_wish_53 : decode cX0_wish 53 = .ok (.if_icmp .lt 7, 3) := by decide +kernel
theorem dX0_wish_56 : decode cX0_wish 56 = .ok (.iconst 2, 1) := by decide +kernel
theorem dX0_wish_57 : decode cX0_wish 57 = .ok (.goto 4, 3) := by decide +kernel
theorem dX0_wish_60 : decode cX0_wish 60 = .ok (.iconst 0, 1) := by decide +kernel
theorem dX0_wish_61 : decode cX0_wish 61 = .ok (.ireturn, 1) := by decide +kernel
theorem dX0_wish_62 : decode cX0_wish 62 = .ok (.aload_n 0, 1) := by decide +kernel
theorem dX0_wish_63 : decode cX0_wish 63 = .ok (.getfield 119, 3) := by decide +kernel
theorem dX0_wish_66 : decode cX0_wish 66 = .ok (.iload_n 3, 1) := by decide +kernel
theorem dX0_wish_67 : decode cX0_wish 67 = .ok (.if_icmp .lt 16, 3) := by decide +kernel
theorem dX0_wish_70 : decode cX0_wish 70 = .ok (.aload_n 0, 1) := by decide +kernel
theorem dX0_wish_71 : decode cX0_wish 71 = .ok (.getfield 119, 3) := by decide +kernel
theorem dX0_wish_74 : decode cX0_wish 74 = .ok (.iload 4, 2) := by decide +kernel
theorem dX0_wish_76 : decode cX0_wish 76 = .ok (.if_icmp .lt 7, 3) := by decide +kernel
theorem dX0_wish_79 : decode cX0_wish 79 = .ok (.iconst 0, 1) := by decide +kernel
theorem dX0_wish_80 : decode cX0_wish 80 = .ok (.goto 14, 3) := by decide +kernel
theorem dX0_wish_83 : decode cX0_wish 83 = .ok (.iload_n 3, 1) := by decide +kernel
theorem dX0_wish_84 : decode cX0_wish 84 = .ok (.iload 4, 2) := by decide +kernel
theorem dX0_wish_86 : decode cX0_wish 86 = .ok (.if_icmp .lt 7, 3) := by decide +kernel
theorem dX0_wish_89 : decode cX0_wish 89 = .ok (.iconst 1, 1) := by decide +kernel
theorem dX0_wish_90 : decode cX0_wish 90 = .ok (.goto 4, 3) := by decide +kernel
theorem dX0_wish_93 : decode cX0_wish 93 = .ok (.iconst 2, 1) := by decide +kernel
theorem dX0_wish_94 : decode cX0_wish 94 = .ok (.ireturn, 1) := by decide +kernel
theorem dX0_wish_95 : decode cX0_wish 95 = .ok (.iload_n 1, 1) := by decide +kernel
theorem dX0_wish_96 : decode cX0_wish 96 = .ok (.aload_n 0, 1) := by decide +kernel
theorem dX0_wish_97 : decode cX0_wish 97 = .ok (.getfield 86, 3) := by decide +kernel
theorem dX0_wish_100 : decode cX0_wish 100 = .ok (.if_icmp .ge 7, 3) := by decide +kernel
theorem dX0_wish_103 : decode cX0_wish 103 = .ok (.iconst 2, 1) := by decide +kernel
theorem dX0_wish_104 : decode cX0_wish 104 = .ok (.goto 16, 3) := by decide +kernel
theorem dX0_wish_107 : decode cX0_wish 107 = .ok (.aload_n 0, 1) := by decide +kernel
theorem dX0_wish_108 : decode cX0_wish 108 = .ok (.getfield 119, 3) := by decide +kernel
theorem dX0_wish_111 : decode cX0_wish 111 = .ok (.iload_n 3, 1) := by decide +kernel
theorem dX0_wish_112 : decode cX0_wish 112 = .ok (.if_icmp .lt 7, 3) := by decide +kernel
theorem dX0_wish_115 : decode cX0_wish 115 = .ok (.iconst 0, 1) := by decide +kernel
theorem dX0_wish_116 : decode cX0_wish 116 = .ok (.goto 4, 3) := by decide +kernel
theorem dX0_wish_119 : decode cX0_wish 119 = .ok (.iconst 1, 1) := by decide +kernel
theorem dX0_wish_120 : decode cX0_wish 120 = .ok (.ireturn, 1) := by decide +kernel
theorem dX0_wish_121 : decode cX0_wish 121 = .ok (.iload_n 2, 1) := by decide +kernel
theorem dX0_wish_122 : decode cX0_wish 122 = .ok (.iconst 4, 1) := by decide +kernel
theorem dX0_wish_123 : decode cX0_wish 123 = .ok (.idiv, 1) := by decide +kernel
theorem dX0_wish_124 : decode cX0_wish 124 = .ok (.aload_n 0, 1) := by decide +kernel
theorem dX0_wish_125 : decode cX0_wish 125 = .ok (.getfield 110, 3) := by decide +kernel
theorem dX0_wish_128 : decode cX0_wish 128 = .ok (.if_icmp .lt 13, 3) := by decide +kernel
theorem dX0_wish_131 : decode cX0_wish 131 = .ok (.iload_n 2, 1) := by decide +kernel
theorem dX0_wish_132 : decode cX0_wish 132 = .ok (.iconst 4, 1) := by decide +kernel
theorem dX0_wish_133 : decode cX0_wish 133 = .ok (.irem, 1) := by decide +kernel
theorem dX0_wish_134 : decode cX0_wish 134 = .ok (.aload_n 0, 1) := by decide +kernel
theorem dX0_wish_135 : decode cX0_wish 135 = .ok (.getfield 113, 3) := by decide +kernel
theorem dX0_wish_138 : decode cX0_wish 138 = .ok (.if_icmp .ge 7, 3) := by decide +kernel
theorem dX0_wish_141 : decode cX0_wish 141 = .ok (.iconst 0, 1) := by decide +kernel
theorem dX0_wish_142 : decode cX0_wish 142 = .ok (.goto 4, 3) := by decide +kernel
theorem dX0_wish_145 : decode cX0_wish 145 = .ok (.iconst 2, 1) := by decide +kernel
theorem dX0_wish_146 : decode cX0_wish 146 = .ok (.ireturn, 1) := by decide +kernel
theorem dX0_wish_147 : decode cX0_wish 147 = .ok (.iconst 2, 1) := by decide +kernel
theorem dX0_wish_148 : decode cX0_wish 148 = .ok (.ireturn, 1) := by decide +kernel
theorem dX0_worthAt_0 : decode cX0_worthAt 0 = .ok (.aload_n 0, 1) := by decide +kernel
theorem dX0_worthAt_1 : decode cX0_worthAt 1 = .ok (.getfield 28, 3) := by decide +kernel
theorem dX0_worthAt_4 : decode cX0_worthAt 4 = .ok (.iload_n 1, 1) := by decide +kernel
theorem dX0_worthAt_5 : decode cX0_worthAt 5 = .ok (.bipush 32, 2) := by decide +kernel
theorem dX0_worthAt_7 : decode cX0_worthAt 7 = .ok (.imul, 1) := by decide +kernel
theorem dX0_worthAt_8 : decode cX0_worthAt 8 = .ok (.iload_n 2, 1) := by decide +kernel
theorem dX0_worthAt_9 : decode cX0_worthAt 9 = .ok (.iadd, 1) := by decide +kernel
theorem dX0_worthAt_10 : decode cX0_worthAt 10 = .ok (.invokestatic 100, 3) := by decide +kernel
theorem dX0_worthAt_13 : decode cX0_worthAt 13 = .ok (.ireturn, 1) := by decide +kernel
theorem dX0_deedAt_0 : decode cX0_deedAt 0 = .ok (.aload_n 0, 1) := by decide +kernel
theorem dX0_deedAt_1 : decode cX0_deedAt 1 = .ok (.getfield 31, 3) := by decide +kernel
theorem dX0_deedAt_4 : decode cX0_deedAt 4 = .ok (.iload_n 1, 1) := by decide +kernel
theorem dX0_deedAt_5 : decode cX0_deedAt 5 = .ok (.bipush 32, 2) := by decide +kernel
theorem dX0_deedAt_7 : decode cX0_deedAt 7 = .ok (.imul, 1) := by decide +kernel
theorem dX0_deedAt_8 : decode cX0_deedAt 8 = .ok (.iload_n 2, 1) := by decide +kernel
theorem dX0_deedAt_9 : decode cX0_deedAt 9 = .ok (.iadd, 1) := by decide +kernel
theorem dX0_deedAt_10 : decode cX0_deedAt 10 = .ok (.invokestatic 100, 3) := by decide +kernel
theorem dX0_deedAt_13 : decode cX0_deedAt 13 = .ok (.ireturn, 1) := by decide +kernel
theorem dX0_worthTogether_0 : decode cX0_worthTogether 0 = .ok (.iconst 0, 1) := by decide +kernel
theorem dX0_worthTogether_1 : decode cX0_worthTogether 1 = .ok (.istore_n 3, 1) := by decide +kernel
theorem dX0_worthTogether_2 : decode cX0_worthTogether 2 = .ok (.iload_n 1, 1) := by decide +kernel
theorem dX0_worthTogether_3 : decode cX0_worthTogether 3 = .ok (.istore 4, 2) := by decide +kernel
theorem dX0_worthTogether_5 : decode cX0_worthTogether 5 = .ok (.iload 4, 2) := by decide +kernel
theorem dX0_worthTogether_7 : decode cX0_worthTogether 7 = .ok (.iload_n 2, 1) := by decide +kernel
theorem dX0_worthTogether_8 : decode cX0_worthTogether 8 = .ok (.if_icmp .gt 19, 3) := by decide +kernel
theorem dX0_worthTogether_11 : decode cX0_worthTogether 11 = .ok (.iload_n 3, 1) := by decide +kernel
theorem dX0_worthTogether_12 : decode cX0_worthTogether 12 = .ok (.aload_n 0, 1) := by decide +kernel
theorem dX0_worthTogether_13 : decode cX0_worthTogether 13 = .ok (.iconst 0, 1) := by decide +kernel
theorem dX0_worthTogether_14 : decode cX0_worthTogether 14 = .ok (.iload 4, 2) := by decide +kernel
theorem dX0_worthTogether_16 : decode cX0_worthTogether 16 = .ok (.invokevirtual 154, 3) := by decide +kernel
theorem dX0_worthTogether_19 : decode cX0_worthTogether 19 = .ok (.iadd, 1) := by decide +kernel
theorem dX0_worthTogether_20 : decode cX0_worthTogether 20 = .ok (.istore_n 3, 1) := by decide +kernel
theorem dX0_worthTogether_21 : decode cX0_worthTogether 21 = .ok (.iinc 4 1, 3) := by decide +kernel
theorem dX0_worthTogether_24 : decode cX0_worthTogether 24 = .ok (.goto (-19), 3) := by decide +kernel
theorem dX0_worthTogether_27 : decode cX0_worthTogether 27 = .ok (.iload_n 3, 1) := by decide +kernel
theorem dX0_worthTogether_28 : decode cX0_worthTogether 28 = .ok (.ireturn, 1) := by decide +kernel
theorem dX0_keepDeeds_0 : decode cX0_keepDeeds 0 = .ok (.aload_n 0, 1) := by decide +kernel
theorem dX0_keepDeeds_1 : decode cX0_keepDeeds 1 = .ok (.getfield 31, 3) := by decide +kernel
theorem dX0_keepDeeds_4 : decode cX0_keepDeeds 4 = .ok (.aload_n 0, 1) := by decide +kernel
theorem dX0_keepDeeds_5 : decode cX0_keepDeeds 5 = .ok (.getfield 34, 3) := by decide +kernel
theorem dX0_keepDeeds_8 : decode cX0_keepDeeds 8 = .ok (.invokestatic 157, 3) := by decide +kernel
theorem dX0_keepDeeds_11 : decode cX0_keepDeeds 11 = .ok (.return_, 1) := by decide +kernel
theorem dX0_keepWorths_0 : decode cX0_keepWorths 0 = .ok (.aload_n 0, 1) := by decide +kernel
theorem dX0_keepWorths_1 : decode cX0_keepWorths 1 = .ok (.getfield 28, 3) := by decide +kernel
theorem dX0_keepWorths_4 : decode cX0_keepWorths 4 = .ok (.aload_n 0, 1) := by decide +kernel
theorem dX0_keepWorths_5 : decode cX0_keepWorths 5 = .ok (.getfield 34, 3) := by decide +kernel
theorem dX0_keepWorths_8 : decode cX0_keepWorths 8 = .ok (.invokestatic 157, 3) := by decide +kernel
theorem dX0_keepWorths_11 : decode cX0_keepWorths 11 = .ok (.return_, 1) := by decide +kernel
theorem dX0_otherDeeds_0 : decode cX0_otherDeeds 0 = .ok (.iconst 0, 1) := by decide +kernel
theorem dX0_otherDeeds_1 : decode cX0_otherDeeds 1 = .ok (.istore_n 1, 1) := by decide +kernel
theorem dX0_otherDeeds_2 : decode cX0_otherDeeds 2 = .ok (.iconst 0, 1) := by decide +kernel
theorem dX0_otherDeeds_3 : decode cX0_otherDeeds 3 = .ok (.istore_n 2, 1) := by decide +kernel
theorem dX0_otherDeeds_4 : decode cX0_otherDeeds 4 = .ok (.iload_n 2, 1) := by decide +kernel
theorem dX0_otherDeeds_5 : decode cX0_otherDeeds 5 = .ok (.aload_n 0, 1) := by decide +kernel
theorem dX0_otherDeeds_6 : decode cX0_otherDeeds 6 = .ok (.getfield 86, 3) := by decide +kernel
theorem dX0_otherDeeds_9 : decode cX0_otherDeeds 9 = .ok (.iconst 1, 1) := by decide +kernel
theorem dX0_otherDeeds_10 : decode cX0_otherDeeds 10 = .ok (.iadd, 1) := by decide +kernel
theorem dX0_otherDeeds_11 : decode cX0_otherDeeds 11 = .ok (.bipush 32, 2) := by decide +kernel
theorem dX0_otherDeeds_13 : decode cX0_otherDeeds 13 = .ok (.imul, 1) := by decide +kernel
theorem dX0_otherDeeds_14 : decode cX0_otherDeeds 14 = .ok (.if_icmp .ge 31, 3) := by decide +kernel
theorem dX0_otherDeeds_17 : decode cX0_otherDeeds 17 = .ok (.aload_n 0, 1) := by decide +kernel
theorem dX0_otherDeeds_18 : decode cX0_otherDeeds 18 = .ok (.getfield 31, 3) := by decide +kernel
theorem dX0_otherDeeds_21 : decode cX0_otherDeeds 21 = .ok (.iload_n 2, 1) := by decide +kernel
theorem dX0_otherDeeds_22 : decode cX0_otherDeeds 22 = .ok (.invokestatic 100, 3) := by decide +kernel
theorem dX0_otherDeeds_25 : decode cX0_otherDeeds 25 = .ok (.aload_n 0, 1) := by decide +kernel
theorem dX0_otherDeeds_26 : decode cX0_otherDeeds 26 = .ok (.getfield 34, 3) := by decide +kernel
theorem dX0_otherDeeds_29 : decode cX0_otherDeeds 29 = .ok (.iload_n 2, 1) := by decide +kernel
theorem dX0_otherDeeds_30 : decode cX0_otherDeeds 30 = .ok (.invokestatic 100, 3) := by decide +kernel
theorem dX0_otherDeeds_33 : decode cX0_otherDeeds 33 = .ok (.if_icmp .eq 6, 3) := by decide +kernel
theorem dX0_otherDeeds_36 : decode cX0_otherDeeds 36 = .ok (.iinc 1 1, 3) := by decide +kernel
theorem dX0_otherDeeds_39 : decode cX0_otherDeeds 39 = .ok (.iinc 2 1, 3) := by decide +kernel
theorem dX0_otherDeeds_42 : decode cX0_otherDeeds 42 = .ok (.goto (-38), 3) := by decide +kernel
theorem dX0_otherDeeds_45 : decode cX0_otherDeeds 45 = .ok (.iload_n 1, 1) := by decide +kernel
theorem dX0_otherDeeds_46 : decode cX0_otherDeeds 46 = .ok (.ireturn, 1) := by decide +kernel
theorem dX0_firstOtherDeed_0 : decode cX0_firstOtherDeed 0 = .ok (.iconst 0, 1) := by decide +kernel
theorem dX0_firstOtherDeed_1 : decode cX0_firstOtherDeed 1 = .ok (.istore_n 1, 1) := by decide +kernel
theorem dX0_firstOtherDeed_2 : decode cX0_firstOtherDeed 2 = .ok (.iload_n 1, 1) := by decide +kernel
theorem dX0_firstOtherDeed_3 : decode cX0_firstOtherDeed 3 = .ok (.aload_n 0, 1) := by decide +kernel
theorem dX0_firstOtherDeed_4 : decode cX0_firstOtherDeed 4 = .ok (.getfield 86, 3) := by decide +kernel
theorem dX0_firstOtherDeed_7 : decode cX0_firstOtherDeed 7 = .ok (.iconst 1, 1) := by decide +kernel
theorem dX0_firstOtherDeed_8 : decode cX0_firstOtherDeed 8 = .ok (.iadd, 1) := by decide +kernel
theorem dX0_firstOtherDeed_9 : decode cX0_firstOtherDeed 9 = .ok (.bipush 32, 2) := by decide +kernel
theorem dX0_firstOtherDeed_11 : decode cX0_firstOtherDeed 11 = .ok (.imul, 1) := by decide +kernel
theorem dX0_firstOtherDeed_12 : decode cX0_firstOtherDeed 12 = .ok (.if_icmp .ge 30, 3) := by decide +kernel
theorem dX0_firstOtherDeed_15 : decode cX0_firstOtherDeed 15 = .ok (.aload_n 0, 1) := by decide +kernel
theorem dX0_firstOtherDeed_16 : decode cX0_firstOtherDeed 16 = .ok (.getfield 31, 3) := by decide +kernel
theorem dX0_firstOtherDeed_19 : decode cX0_firstOtherDeed 19 = .ok (.iload_n 1, 1) := by decide +kernel
theorem dX0_firstOtherDeed_20 : decode cX0_firstOtherDeed 20 = .ok (.invokestatic 100, 3) := by decide +kernel
theorem dX0_firstOtherDeed_23 : decode cX0_firstOtherDeed 23 = .ok (.aload_n 0, 1) := by decide +kernel
theorem dX0_firstOtherDeed_24 : decode cX0_firstOtherDeed 24 = .ok (.getfield 34, 3) := by decide +kernel
theorem dX0_firstOtherDeed_27 : decode cX0_firstOtherDeed 27 = .ok (.iload_n 1, 1) := by decide +kernel
theorem dX0_firstOtherDeed_28 : decode cX0_firstOtherDeed 28 = .ok (.invokestatic 100, 3) := by decide +kernel
theorem dX0_firstOtherDeed_31 : decode cX0_firstOtherDeed 31 = .ok (.if_icmp .eq 5, 3) := by decide +kernel
theorem dX0_firstOtherDeed_34 : decode cX0_firstOtherDeed 34 = .ok (.iload_n 1, 1) := by decide +kernel
theorem dX0_firstOtherDeed_35 : decode cX0_firstOtherDeed 35 = .ok (.ireturn, 1) := by decide +kernel
theorem dX0_firstOtherDeed_36 : decode cX0_firstOtherDeed 36 = .ok (.iinc 1 1, 3) := by decide +kernel
theorem dX0_firstOtherDeed_39 : decode cX0_firstOtherDeed 39 = .ok (.goto (-37), 3) := by decide +kernel
theorem dX0_firstOtherDeed_42 : decode cX0_firstOtherDeed 42 = .ok (.iconst (-1), 1) := by decide +kernel
theorem dX0_firstOtherDeed_43 : decode cX0_firstOtherDeed 43 = .ok (.ireturn, 1) := by decide +kernel
theorem dX0_statesAsKept_0 : decode cX0_statesAsKept 0 = .ok (.iconst 0, 1) := by decide +kernel
theorem dX0_statesAsKept_1 : decode cX0_statesAsKept 1 = .ok (.istore_n 1, 1) := by decide +kernel
theorem dX0_statesAsKept_2 : decode cX0_statesAsKept 2 = .ok (.iconst 0, 1) := by decide +kernel
theorem dX0_statesAsKept_3 : decode cX0_statesAsKept 3 = .ok (.istore_n 2, 1) := by decide +kernel
theorem dX0_statesAsKept_4 : decode cX0_statesAsKept 4 = .ok (.iload_n 2, 1) := by decide +kernel
theorem dX0_statesAsKept_5 : decode cX0_statesAsKept 5 = .ok (.bipush 32, 2) := by decide +kernel
theorem dX0_statesAsKept_7 : decode cX0_statesAsKept 7 = .ok (.if_icmp .ge 32, 3) := by decide +kernel
theorem dX0_statesAsKept_10 : decode cX0_statesAsKept 10 = .ok (.aload_n 0, 1) := by decide +kernel
theorem dX0_statesAsKept_11 : decode cX0_statesAsKept 11 = .ok (.iconst 0, 1) := by decide +kernel
theorem dX0_statesAsKept_12 : decode cX0_statesAsKept 12 = .ok (.iload_n 2, 1) := by decide +kernel
theorem dX0_statesAsKept_13 : decode cX0_statesAsKept 13 = .ok (.invokevirtual 154, 3) := by decide +kernel
theorem dX0_statesAsKept_16 : decode cX0_statesAsKept 16 = .ok (.aload_n 0, 1) := by decide +kernel
theorem dX0_statesAsKept_17 : decode cX0_statesAsKept 17 = .ok (.getfield 34, 3) := by decide +kernel
theorem dX0_statesAsKept_20 : decode cX0_statesAsKept 20 = .ok (.iload_n 2, 1) := by decide +kernel
theorem dX0_statesAsKept_21 : decode cX0_statesAsKept 21 = .ok (.invokestatic 100, 3) := by decide +kernel
theorem dX0_statesAsKept_24 : decode cX0_statesAsKept 24 = .ok (.if_icmp .ne 9, 3) := by decide +kernel
theorem dX0_statesAsKept_27 : decode cX0_statesAsKept 27 = .ok (.iload_n 1, 1) := by decide +kernel
theorem dX0_statesAsKept_28 : decode cX0_statesAsKept 28 = .ok (.iconst 1, 1) := by decide +kernel
theorem dX0_statesAsKept_29 : decode cX0_statesAsKept 29 = .ok (.iload_n 2, 1) := by decide +kernel
theorem dX0_statesAsKept_30 : decode cX0_statesAsKept 30 = .ok (.ishl, 1) := by decide +kernel
theorem dX0_statesAsKept_31 : decode cX0_statesAsKept 31 = .ok (.ior, 1) := by decide +kernel
theorem dX0_statesAsKept_32 : decode cX0_statesAsKept 32 = .ok (.istore_n 1, 1) := by decide +kernel
theorem dX0_statesAsKept_33 : decode cX0_statesAsKept 33 = .ok (.iinc 2 1, 3) := by decide +kernel
theorem dX0_statesAsKept_36 : decode cX0_statesAsKept 36 = .ok (.goto (-32), 3) := by decide +kernel
theorem dX0_statesAsKept_39 : decode cX0_statesAsKept 39 = .ok (.iload_n 1, 1) := by decide +kernel
theorem dX0_statesAsKept_40 : decode cX0_statesAsKept 40 = .ok (.ireturn, 1) := by decide +kernel
theorem dX0_gain_0 : decode cX0_gain 0 = .ok (.aload_n 0, 1) := by decide +kernel
theorem dX0_gain_1 : decode cX0_gain 1 = .ok (.iload_n 1, 1) := by decide +kernel
theorem dX0_gain_2 : decode cX0_gain 2 = .ok (.aload_n 0, 1) := by decide +kernel
theorem dX0_gain_3 : decode cX0_gain 3 = .ok (.getfield 37, 3) := by decide +kernel
theorem dX0_gain_6 : decode cX0_gain 6 = .ok (.getfield 137, 3) := by decide +kernel
theorem dX0_gain_9 : decode cX0_gain 9 = .ok (.invokevirtual 140, 3) := by decide +kernel
theorem dX0_gain_12 : decode cX0_gain 12 = .ok (.aload_n 0, 1) := by decide +kernel
theorem dX0_gain_13 : decode cX0_gain 13 = .ok (.iconst 0, 1) := by decide +kernel
theorem dX0_gain_14 : decode cX0_gain 14 = .ok (.iload_n 1, 1) := by decide +kernel
theorem dX0_gain_15 : decode cX0_gain 15 = .ok (.invokevirtual 154, 3) := by decide +kernel
theorem dX0_gain_18 : decode cX0_gain 18 = .ok (.isub, 1) := by decide +kernel
theorem dX0_gain_19 : decode cX0_gain 19 = .ok (.ireturn, 1) := by decide +kernel
theorem dX0_paying_0 : decode cX0_paying 0 = .ok (.iconst 0, 1) := by decide +kernel
theorem dX0_paying_1 : decode cX0_paying 1 = .ok (.istore 4, 2) := by decide +kernel
theorem dX0_paying_3 : decode cX0_paying 3 = .ok (.iconst 0, 1) := by decide +kernel
theorem dX0_paying_4 : decode cX0_paying 4 = .ok (.istore 5, 2) := by decide +kernel
theorem dX0_paying_6 : decode cX0_paying 6 = .ok (.iload 5, 2) := by decide +kernel
theorem dX0_paying_8 : decode cX0_paying 8 = .ok (.bipush 32, 2) := by decide +kernel
theorem dX0_paying_10 : decode cX0_paying 10 = .ok (.if_icmp .ge 67, 3) := by decide +kernel
theorem dX0_paying_13 : decode cX0_paying 13 = .ok (.iload 5, 2) := by decide +kernel
theorem dX0_paying_15 : decode cX0_paying 15 = .ok (.iconst 4, 1) := by decide +kernel
theorem dX0_paying_16 : decode cX0_paying 16 = .ok (.idiv, 1) := by decide +kernel
theorem dX0_paying_17 : decode cX0_paying 17 = .ok (.istore 6, 2) := by decide +kernel
theorem dX0_paying_19 : decode cX0_paying 19 = .ok (.iload 5, 2) := by decide +kernel
theorem dX0_paying_21 : decode cX0_paying 21 = .ok (.iconst 4, 1) := by decide +kernel
theorem dX0_paying_22 : decode cX0_paying 22 = .ok (.irem, 1) := by decide +kernel
theorem dX0_paying_23 : decode cX0_paying 23 = .ok (.ifCond .ne 21, 3) := by decide +kernel
theorem dX0_paying_26 : decode cX0_paying 26 = .ok (.iload_n 3, 1) := by decide +kernel
theorem dX0_paying_27 : decode cX0_paying 27 = .ok (.iload 5, 2) := by decide +kernel
theorem dX0_paying_29 : decode cX0_paying 29 = .ok (.iushr, 1) := by decide +kernel
theorem dX0_paying_30 : decode cX0_paying 30 = .ok (.bipush 15, 2) := by decide +kernel
theorem dX0_paying_32 : decode cX0_paying 32 = .ok (.iand, 1) := by decide +kernel
theorem dX0_paying_33 : decode cX0_paying 33 = .ok (.ifCond .eq 11, 3) := by decide +kernel
theorem dX0_paying_36 : decode cX0_paying 36 = .ok (.aload_n 0, 1) := by decide +kernel
theorem dX0_paying_37 : decode cX0_paying 37 = .ok (.iload_n 1, 1) := by decide +kernel
theorem dX0_paying_38 : decode cX0_paying 38 = .ok (.iload 6, 2) := by decide +kernel
theorem dX0_paying_40 : decode cX0_paying 40 = .ok (.iload_n 2, 1) := by decide +kernel
theorem dX0_paying_41 : decode cX0_paying 41 = .ok (.invokevirtual 161, 3) := by decide +kernel
theorem dX0_paying_44 : decode cX0_paying 44 = .ok (.iload_n 3, 1) := by decide +kernel
theorem dX0_paying_45 : decode cX0_paying 45 = .ok (.iload 5, 2) := by decide +kernel
theorem dX0_paying_47 : decode cX0_paying 47 = .ok (.iushr, 1) := by decide +kernel
theorem dX0_paying_48 : decode cX0_paying 48 = .ok (.iconst 1, 1) := by decide +kernel
theorem dX0_paying_49 : decode cX0_paying 49 = .ok (.iand, 1) := by decide +kernel
theorem dX0_paying_50 : decode cX0_paying 50 = .ok (.ifCond .eq 21, 3) := by decide +kernel
theorem dX0_paying_53 : decode cX0_paying 53 = .ok (.aload_n 0, 1) := by decide +kernel
theorem dX0_paying_54 : decode cX0_paying 54 = .ok (.iload 5, 2) := by decide +kernel
theorem dX0_paying_56 : decode cX0_paying 56 = .ok (.invokevirtual 165, 3) := by decide +kernel
theorem dX0_paying_59 : decode cX0_paying 59 = .ok (.ifCond .le 12, 3) := by decide +kernel
theorem dX0_paying_62 : decode cX0_paying 62 = .ok (.iload 4, 2) := by decide +kernel
theorem dX0_paying_64 : decode cX0_paying 64 = .ok (.iconst 1, 1) := by decide +kernel
theorem dX0_paying_65 : decode cX0_paying 65 = .ok (.iload 5, 2) := by decide +kernel
theorem dX0_paying_67 : decode cX0_paying 67 = .ok (.ishl, 1) := by decide +kernel
theorem dX0_paying_68 : decode cX0_paying 68 = .ok (.ior, 1) := by decide +kernel
theorem dX0_paying_69 : decode cX0_paying 69 = .ok (.istore 4, 2) := by decide +kernel
theorem dX0_paying_71 : decode cX0_paying 71 = .ok (.iinc 5 1, 3) := by decide +kernel
theorem dX0_paying_74 : decode cX0_paying 74 = .ok (.goto (-68), 3) := by decide +kernel
theorem dX0_paying_77 : decode cX0_paying 77 = .ok (.iload 4, 2) := by decide +kernel
theorem dX0_paying_79 : decode cX0_paying 79 = .ok (.ireturn, 1) := by decide +kernel
theorem dX0_ratedWorth_0 : decode cX0_ratedWorth 0 = .ok (.lconst 0, 1) := by decide +kernel
theorem dX0_ratedWorth_1 : decode cX0_ratedWorth 1 = .ok (.lstore_n 3, 1) := by decide +kernel
theorem dX0_ratedWorth_2 : decode cX0_ratedWorth 2 = .ok (.iconst 4, 1) := by decide +kernel
theorem dX0_ratedWorth_3 : decode cX0_ratedWorth 3 = .ok (.iload_n 2, 1) := by decide +kernel
theorem dX0_ratedWorth_4 : decode cX0_ratedWorth 4 = .ok (.imul, 1) := by decide +kernel
theorem dX0_ratedWorth_5 : decode cX0_ratedWorth 5 = .ok (.istore 5, 2) := by decide +kernel
theorem dX0_ratedWorth_7 : decode cX0_ratedWorth 7 = .ok (.iload 5, 2) := by decide +kernel
theorem dX0_ratedWorth_9 : decode cX0_ratedWorth 9 = .ok (.iconst 4, 1) := by decide +kernel
theorem dX0_ratedWorth_10 : decode cX0_ratedWorth 10 = .ok (.iload_n 2, 1) := by decide +kernel
theorem dX0_ratedWorth_11 : decode cX0_ratedWorth 11 = .ok (.iconst 1, 1) := by decide +kernel
theorem dX0_ratedWorth_12 : decode cX0_ratedWorth 12 = .ok (.iadd, 1) := by decide +kernel
theorem dX0_ratedWorth_13 : decode cX0_ratedWorth 13 = .ok (.imul, 1) := by decide +kernel
theorem dX0_ratedWorth_14 : decode cX0_ratedWorth 14 = .ok (.if_icmp .ge 32, 3) := by decide +kernel
theorem dX0_ratedWorth_17 : decode cX0_ratedWorth 17 = .ok (.lload_n 3, 1) := by decide +kernel
theorem dX0_ratedWorth_18 : decode cX0_ratedWorth 18 = .ok (.aload_n 0, 1) := by decide +kernel
theorem dX0_ratedWorth_19 : decode cX0_ratedWorth 19 = .ok (.getfield 37, 3) := by decide +kernel
theorem dX0_ratedWorth_22 : decode cX0_ratedWorth 22 = .ok (.iload_n 1, 1) := by decide +kernel
theorem dX0_ratedWorth_23 : decode cX0_ratedWorth 23 = .ok (.iload 5, 2) := by decide +kernel
theorem dX0_ratedWorth_25 : decode cX0_ratedWorth 25 = .ok (.invokevirtual 168, 3) := by decide +kernel
theorem dX0_ratedWorth_28 : decode cX0_ratedWorth 28 = .ok (.i2l, 1) := by decide +kernel
theorem dX0_ratedWorth_29 : decode cX0_ratedWorth 29 = .ok (.aload_n 0, 1) := by decide +kernel
theorem dX0_ratedWorth_30 : decode cX0_ratedWorth 30 = .ok (.iconst 0, 1) := by decide +kernel
theorem dX0_ratedWorth_31 : decode cX0_ratedWorth 31 = .ok (.iload 5, 2) := by decide +kernel
theorem dX0_ratedWorth_33 : decode cX0_ratedWorth 33 = .ok (.invokevirtual 154, 3) := by decide +kernel
theorem dX0_ratedWorth_36 : decode cX0_ratedWorth 36 = .ok (.i2l, 1) := by decide +kernel
theorem dX0_ratedWorth_37 : decode cX0_ratedWorth 37 = .ok (.lmul, 1) := by decide +kernel
theorem dX0_ratedWorth_38 : decode cX0_ratedWorth 38 = .ok (.ladd, 1) := by decide +kernel
theorem dX0_ratedWorth_39 : decode cX0_ratedWorth 39 = .ok (.lstore_n 3, 1) := by decide +kernel
theorem dX0_ratedWorth_40 : decode cX0_ratedWorth 40 = .ok (.iinc 5 1, 3) := by decide +kernel
theorem dX0_ratedWorth_43 : decode cX0_ratedWorth 43 = .ok (.goto (-36), 3) := by decide +kernel
theorem dX0_ratedWorth_46 : decode cX0_ratedWorth 46 = .ok (.lload_n 3, 1) := by decide +kernel
theorem dX0_ratedWorth_47 : decode cX0_ratedWorth 47 = .ok (.lreturn, 1) := by decide +kernel
theorem dX0_stoppedRates_0 : decode cX0_stoppedRates 0 = .ok (.lconst 0, 1) := by decide +kernel
theorem dX0_stoppedRates_1 : decode cX0_stoppedRates 1 = .ok (.lstore_n 3, 1) := by decide +kernel
theorem dX0_stoppedRates_2 : decode cX0_stoppedRates 2 = .ok (.iconst 4, 1) := by decide +kernel
theorem dX0_stoppedRates_3 : decode cX0_stoppedRates 3 = .ok (.iload_n 2, 1) := by decide +kernel
theorem dX0_stoppedRates_4 : decode cX0_stoppedRates 4 = .ok (.imul, 1) := by decide +kernel
theorem dX0_stoppedRates_5 : decode cX0_stoppedRates 5 = .ok (.istore 5, 2) := by decide +kernel
theorem dX0_stoppedRates_7 : decode cX0_stoppedRates 7 = .ok (.iload 5, 2) := by decide +kernel
theorem dX0_stoppedRates_9 : decode cX0_stoppedRates 9 = .ok (.iconst 4, 1) := by decide +kernel
theorem dX0_stoppedRates_10 : decode cX0_stoppedRates 10 = .ok (.iload_n 2, 1) := by decide +kernel
theorem dX0_stoppedRates_11 : decode cX0_stoppedRates 11 = .ok (.iconst 1, 1) := by decide +kernel
theorem dX0_stoppedRates_12 : decode cX0_stoppedRates 12 = .ok (.iadd, 1) := by decide +kernel
theorem dX0_stoppedRates_13 : decode cX0_stoppedRates 13 = .ok (.imul, 1) := by decide +kernel
theorem dX0_stoppedRates_14 : decode cX0_stoppedRates 14 = .ok (.if_icmp .ge 37, 3) := by decide +kernel
theorem dX0_stoppedRates_17 : decode cX0_stoppedRates 17 = .ok (.lload_n 3, 1) := by decide +kernel
theorem dX0_stoppedRates_18 : decode cX0_stoppedRates 18 = .ok (.aload_n 0, 1) := by decide +kernel
theorem dX0_stoppedRates_19 : decode cX0_stoppedRates 19 = .ok (.iconst 0, 1) := by decide +kernel
theorem dX0_stoppedRates_20 : decode cX0_stoppedRates 20 = .ok (.iload 5, 2) := by decide +kernel
theorem dX0_stoppedRates_22 : decode cX0_stoppedRates 22 = .ok (.invokevirtual 171, 3) := by decide +kernel
theorem dX0_stoppedRates_25 : decode cX0_stoppedRates 25 = .ok (.ifCond .ne 17, 3) := by decide +kernel
theorem dX0_stoppedRates_28 : decode cX0_stoppedRates 28 = .ok (.aload_n 0, 1) := by decide +kernel
theorem dX0_stoppedRates_29 : decode cX0_stoppedRates 29 = .ok (.getfield 37, 3) := by decide +kernel
theorem dX0_stoppedRates_32 : decode cX0_stoppedRates 32 = .ok (.iload_n 1, 1) := by decide +kernel
theorem dX0_stoppedRates_33 : decode cX0_stoppedRates 33 = .ok (.iload 5, 2) := by decide +kernel
theorem dX0_stoppedRates_35 : decode cX0_stoppedRates 35 = .ok (.invokevirtual 168, 3) := by decide +kernel
theorem dX0_stoppedRates_38 : decode cX0_stoppedRates 38 = .ok (.i2l, 1) := by decide +kernel
theorem dX0_stoppedRates_39 : decode cX0_stoppedRates 39 = .ok (.goto 4, 3) := by decide +kernel
theorem dX0_stoppedRates_42 : decode cX0_stoppedRates 42 = .ok (.lconst 0, 1) := by decide +kernel
theorem dX0_stoppedRates_43 : decode cX0_stoppedRates 43 = .ok (.ladd, 1) := by decide +kernel
theorem dX0_stoppedRates_44 : decode cX0_stoppedRates 44 = .ok (.lstore_n 3, 1) := by decide +kernel
theorem dX0_stoppedRates_45 : decode cX0_stoppedRates 45 = .ok (.iinc 5 1, 3) := by decide +kernel
theorem dX0_stoppedRates_48 : decode cX0_stoppedRates 48 = .ok (.goto (-41), 3) := by decide +kernel
theorem dX0_stoppedRates_51 : decode cX0_stoppedRates 51 = .ok (.lload_n 3, 1) := by decide +kernel
theorem dX0_stoppedRates_52 : decode cX0_stoppedRates 52 = .ok (.lreturn, 1) := by decide +kernel
theorem dX1_init_0 : decode cX1_init 0 = .ok (.aload_n 0, 1) := by decide +kernel
theorem dX1_init_1 : decode cX1_init 1 = .ok (.invokespecial 3, 3) := by decide +kernel
theorem dX1_init_4 : decode cX1_init 4 = .ok (.aload_n 0, 1) := by decide +kernel
theorem dX1_init_5 : decode cX1_init 5 = .ok (.sipush 1088, 3) := by decide +kernel
theorem dX1_init_8 : decode cX1_init 8 = .ok (.newarray .int, 2) := by decide +kernel
theorem dX1_init_10 : decode cX1_init 10 = .ok (.putfield 11, 3) := by decide +kernel
theorem dX1_init_13 : decode cX1_init 13 = .ok (.aload_n 0, 1) := by decide +kernel
theorem dX1_init_14 : decode cX1_init 14 = .ok (.bipush 8, 2) := by decide +kernel
theorem dX1_init_16 : decode cX1_init 16 = .ok (.newarray .int, 2) := by decide +kernel
theorem dX1_init_18 : decode cX1_init 18 = .ok (.putfield 15, 3) := by decide +kernel
theorem dX1_init_21 : decode cX1_init 21 = .ok (.aload_n 0, 1) := by decide +kernel
theorem dX1_init_22 : decode cX1_init 22 = .ok (.bipush 6, 2) := by decide +kernel
theorem dX1_init_24 : decode cX1_init 24 = .ok (.newarray .int, 2) := by decide +kernel
theorem dX1_init_26 : decode cX1_init 26 = .ok (.putfield 18, 3) := by decide +kernel
theorem dX1_init_29 : decode cX1_init 29 = .ok (.aload_n 0, 1) := by decide +kernel
theorem dX1_init_30 : decode cX1_init 30 = .ok (.bipush 6, 2) := by decide +kernel
theorem dX1_init_32 : decode cX1_init 32 = .ok (.newarray .int, 2) := by decide +kernel
theorem dX1_init_34 : decode cX1_init 34 = .ok (.putfield 21, 3) := by decide +kernel
theorem dX1_init_37 : decode cX1_init 37 = .ok (.aload_n 0, 1) := by decide +kernel
theorem dX1_init_38 : decode cX1_init 38 = .ok (.sipush 192, 3) := by decide +kernel
theorem dX1_init_41 : decode cX1_init 41 = .ok (.newarray .int, 2) := by decide +kernel
theorem dX1_init_43 : decode cX1_init 43 = .ok (.putfield 24, 3) := by decide +kernel
theorem dX1_init_46 : decode cX1_init 46 = .ok (.aload_n 0, 1) := by decide +kernel
theorem dX1_init_47 : decode cX1_init 47 = .ok (.new 27, 3) := by decide +kernel
theorem dX1_init_50 : decode cX1_init 50 = .ok (.dup, 1) := by decide +kernel
theorem dX1_init_51 : decode cX1_init 51 = .ok (.invokespecial 29, 3) := by decide +kernel
theorem dX1_init_54 : decode cX1_init 54 = .ok (.putfield 30, 3) := by decide +kernel
theorem dX1_init_57 : decode cX1_init 57 = .ok (.aload_n 0, 1) := by decide +kernel
theorem dX1_init_58 : decode cX1_init 58 = .ok (.iconst 4, 1) := by decide +kernel
theorem dX1_init_59 : decode cX1_init 59 = .ok (.anewarray 27, 3) := by decide +kernel
theorem dX1_init_62 : decode cX1_init 62 = .ok (.putfield 34, 3) := by decide +kernel
theorem dX1_init_65 : decode cX1_init 65 = .ok (.aload_n 0, 1) := by decide +kernel
theorem dX1_init_66 : decode cX1_init 66 = .ok (.aload_n 0, 1) := by decide +kernel
theorem dX1_init_67 : decode cX1_init 67 = .ok (.getfield 30, 3) := by decide +kernel
theorem dX1_init_70 : decode cX1_init 70 = .ok (.putfield 38, 3) := by decide +kernel
theorem dX1_init_73 : decode cX1_init 73 = .ok (.aload_n 0, 1) := by decide +kernel
theorem dX1_init_74 : decode cX1_init 74 = .ok (.iconst 2, 1) := by decide +kernel
theorem dX1_init_75 : decode cX1_init 75 = .ok (.putfield 41, 3) := by decide +kernel
theorem dX1_init_78 : decode cX1_init 78 = .ok (.aload_n 0, 1) := by decide +kernel
theorem dX1_init_79 : decode cX1_init 79 = .ok (.bipush 20, 2) := by decide +kernel
theorem dX1_init_81 : decode cX1_init 81 = .ok (.putfield 45, 3) := by decide +kernel
theorem dX1_init_84 : decode cX1_init 84 = .ok (.return_, 1) := by decide +kernel
theorem dX1_copy_0 : decode cX1_copy 0 = .ok (.aload_n 1, 1) := by decide +kernel
theorem dX1_copy_1 : decode cX1_copy 1 = .ok (.getfield 11, 3) := by decide +kernel
theorem dX1_copy_4 : decode cX1_copy 4 = .ok (.aload_n 0, 1) := by decide +kernel
theorem dX1_copy_5 : decode cX1_copy 5 = .ok (.getfield 11, 3) := by decide +kernel
theorem dX1_copy_8 : decode cX1_copy 8 = .ok (.invokestatic 48, 3) := by decide +kernel
theorem dX1_copy_11 : decode cX1_copy 11 = .ok (.aload_n 1, 1) := by decide +kernel
theorem dX1_copy_12 : decode cX1_copy 12 = .ok (.getfield 15, 3) := by decide +kernel
theorem dX1_copy_15 : decode cX1_copy 15 = .ok (.aload_n 0, 1) := by decide +kernel
theorem dX1_copy_16 : decode cX1_copy 16 = .ok (.getfield 15, 3) := by decide +kernel
theorem dX1_copy_19 : decode cX1_copy 19 = .ok (.invokestatic 48, 3) := by decide +kernel
theorem dX1_copy_22 : decode cX1_copy 22 = .ok (.aload_n 1, 1) := by decide +kernel
theorem dX1_copy_23 : decode cX1_copy 23 = .ok (.getfield 18, 3) := by decide +kernel
theorem dX1_copy_26 : decode cX1_copy 26 = .ok (.aload_n 0, 1) := by decide +kernel
theorem dX1_copy_27 : decode cX1_copy 27 = .ok (.getfield 18, 3) := by decide +kernel
theorem dX1_copy_30 : decode cX1_copy 30 = .ok (.invokestatic 48, 3) := by decide +kernel
theorem dX1_copy_33 : decode cX1_copy 33 = .ok (.aload_n 1, 1) := by decide +kernel
theorem dX1_copy_34 : decode cX1_copy 34 = .ok (.getfield 21, 3) := by decide +kernel
theorem dX1_copy_37 : decode cX1_copy 37 = .ok (.aload_n 0, 1) := by decide +kernel
theorem dX1_copy_38 : decode cX1_copy 38 = .ok (.getfield 21, 3) := by decide +kernel
theorem dX1_copy_41 : decode cX1_copy 41 = .ok (.invokestatic 48, 3) := by decide +kernel
theorem dX1_copy_44 : decode cX1_copy 44 = .ok (.aload_n 1, 1) := by decide +kernel
theorem dX1_copy_45 : decode cX1_copy 45 = .ok (.getfield 24, 3) := by decide +kernel
theorem dX1_copy_48 : decode cX1_copy 48 = .ok (.aload_n 0, 1) := by decide +kernel
theorem dX1_copy_49 : decode cX1_copy 49 = .ok (.getfield 24, 3) := by decide +kernel
theorem dX1_copy_52 : decode cX1_copy 52 = .ok (.invokestatic 48, 3) := by decide +kernel
theorem dX1_copy_55 : decode cX1_copy 55 = .ok (.iconst 0, 1) := by decide +kernel
theorem dX1_copy_56 : decode cX1_copy 56 = .ok (.istore_n 2, 1) := by decide +kernel
theorem dX1_copy_57 : decode cX1_copy 57 = .ok (.iload_n 2, 1) := by decide +kernel
theorem dX1_copy_58 : decode cX1_copy 58 = .ok (.aload_n 0, 1) := by decide +kernel
theorem dX1_copy_59 : decode cX1_copy 59 = .ok (.getfield 34, 3) := by decide +kernel
theorem dX1_copy_62 : decode cX1_copy 62 = .ok (.arraylength, 1) := by decide +kernel
theorem dX1_copy_63 : decode cX1_copy 63 = .ok (.if_icmp .ge 30, 3) := by decide +kernel
theorem dX1_copy_66 : decode cX1_copy 66 = .ok (.iload_n 2, 1) := by decide +kernel
theorem dX1_copy_67 : decode cX1_copy 67 = .ok (.aload_n 1, 1) := by decide +kernel
theorem dX1_copy_68 : decode cX1_copy 68 = .ok (.getfield 34, 3) := by decide +kernel
theorem dX1_copy_71 : decode cX1_copy 71 = .ok (.arraylength, 1) := by decide +kernel
theorem dX1_copy_72 : decode cX1_copy 72 = .ok (.if_icmp .ge 21, 3) := by decide +kernel
theorem dX1_copy_75 : decode cX1_copy 75 = .ok (.aload_n 0, 1) := by decide +kernel
theorem dX1_copy_76 : decode cX1_copy 76 = .ok (.getfield 34, 3) := by decide +kernel
theorem dX1_copy_79 : decode cX1_copy 79 = .ok (.iload_n 2, 1) := by decide +kernel
theorem dX1_copy_80 : decode cX1_copy 80 = .ok (.aload_n 1, 1) := by decide +kernel
theorem dX1_copy_81 : decode cX1_copy 81 = .ok (.getfield 34, 3) := by decide +kernel
theorem dX1_copy_84 : decode cX1_copy 84 = .ok (.iload_n 2, 1) := by decide +kernel
theorem dX1_copy_85 : decode cX1_copy 85 = .ok (.aaload, 1) := by decide +kernel
theorem dX1_copy_86 : decode cX1_copy 86 = .ok (.aastore, 1) := by decide +kernel
theorem dX1_copy_87 : decode cX1_copy 87 = .ok (.iinc 2 1, 3) := by decide +kernel
theorem dX1_copy_90 : decode cX1_copy 90 = .ok (.goto (-33), 3) := by decide +kernel
theorem dX1_copy_93 : decode cX1_copy 93 = .ok (.aload_n 0, 1) := by decide +kernel
theorem dX1_copy_94 : decode cX1_copy 94 = .ok (.aload_n 1, 1) := by decide +kernel
theorem dX1_copy_95 : decode cX1_copy 95 = .ok (.getfield 38, 3) := by decide +kernel
theorem dX1_copy_98 : decode cX1_copy 98 = .ok (.putfield 38, 3) := by decide +kernel
theorem dX1_copy_101 : decode cX1_copy 101 = .ok (.aload_n 0, 1) := by decide +kernel
theorem dX1_copy_102 : decode cX1_copy 102 = .ok (.aload_n 1, 1) := by decide +kernel
theorem dX1_copy_103 : decode cX1_copy 103 = .ok (.getfield 54, 3) := by decide +kernel
theorem dX1_copy_106 : decode cX1_copy 106 = .ok (.putfield 54, 3) := by decide +kernel
theorem dX1_copy_109 : decode cX1_copy 109 = .ok (.aload_n 0, 1) := by decide +kernel
theorem dX1_copy_110 : decode cX1_copy 110 = .ok (.aload_n 1, 1) := by decide +kernel
theorem dX1_copy_111 : decode cX1_copy 111 = .ok (.getfield 58, 3) := by decide +kernel
theorem dX1_copy_114 : decode cX1_copy 114 = .ok (.putfield 58, 3) := by decide +kernel
theorem dX1_copy_117 : decode cX1_copy 117 = .ok (.aload_n 0, 1) := by decide +kernel
theorem dX1_copy_118 : decode cX1_copy 118 = .ok (.aload_n 1, 1) := by decide +kernel
theorem dX1_copy_119 : decode cX1_copy 119 = .ok (.getfield 61, 3) := by decide +kernel
theorem dX1_copy_122 : decode cX1_copy 122 = .ok (.putfield 61, 3) := by decide +kernel
theorem dX1_copy_125 : decode cX1_copy 125 = .ok (.aload_n 0, 1) := by decide +kernel
theorem dX1_copy_126 : decode cX1_copy 126 = .ok (.aload_n 1, 1) := by decide +kernel
theorem dX1_copy_127 : decode cX1_copy 127 = .ok (.getfield 64, 3) := by decide +kernel
theorem dX1_copy_130 : decode cX1_copy 130 = .ok (.putfield 64, 3) := by decide +kernel
theorem dX1_copy_133 : decode cX1_copy 133 = .ok (.aload_n 0, 1) := by decide +kernel
theorem dX1_copy_134 : decode cX1_copy 134 = .ok (.aload_n 1, 1) := by decide +kernel
theorem dX1_copy_135 : decode cX1_copy 135 = .ok (.getfield 41, 3) := by decide +kernel
theorem dX1_copy_138 : decode cX1_copy 138 = .ok (.putfield 41, 3) := by decide +kernel
theorem dX1_copy_141 : decode cX1_copy 141 = .ok (.aload_n 0, 1) := by decide +kernel
theorem dX1_copy_142 : decode cX1_copy 142 = .ok (.aload_n 1, 1) := by decide +kernel
theorem dX1_copy_143 : decode cX1_copy 143 = .ok (.getfield 45, 3) := by decide +kernel
theorem dX1_copy_146 : decode cX1_copy 146 = .ok (.putfield 45, 3) := by decide +kernel
theorem dX1_copy_149 : decode cX1_copy 149 = .ok (.aload_n 0, 1) := by decide +kernel
theorem dX1_copy_150 : decode cX1_copy 150 = .ok (.aload_n 1, 1) := by decide +kernel
theorem dX1_copy_151 : decode cX1_copy 151 = .ok (.getfield 67, 3) := by decide +kernel
theorem dX1_copy_154 : decode cX1_copy 154 = .ok (.putfield 67, 3) := by decide +kernel
theorem dX1_copy_157 : decode cX1_copy 157 = .ok (.aload_n 0, 1) := by decide +kernel
theorem dX1_copy_158 : decode cX1_copy 158 = .ok (.aload_n 1, 1) := by decide +kernel
theorem dX1_copy_159 : decode cX1_copy 159 = .ok (.getfield 70, 3) := by decide +kernel
theorem dX1_copy_162 : decode cX1_copy 162 = .ok (.putfield 70, 3) := by decide +kernel
theorem dX1_copy_165 : decode cX1_copy 165 = .ok (.aload_n 0, 1) := by decide +kernel
theorem dX1_copy_166 : decode cX1_copy 166 = .ok (.aload_n 1, 1) := by decide +kernel
theorem dX1_copy_167 : decode cX1_copy 167 = .ok (.getfield 73, 3) := by decide +kernel
theorem dX1_copy_170 : decode cX1_copy 170 = .ok (.putfield 73, 3) := by decide +kernel
theorem dX1_copy_173 : decode cX1_copy 173 = .ok (.aload_n 0, 1) := by decide +kernel
theorem dX1_copy_174 : decode cX1_copy 174 = .ok (.aload_n 1, 1) := by decide +kernel
theorem dX1_copy_175 : decode cX1_copy 175 = .ok (.getfield 76, 3) := by decide +kernel
theorem dX1_copy_178 : decode cX1_copy 178 = .ok (.putfield 76, 3) := by decide +kernel
theorem dX1_copy_181 : decode cX1_copy 181 = .ok (.return_, 1) := by decide +kernel
theorem dX1_chance_0 : decode cX1_chance 0 = .ok (.aload_n 0, 1) := by decide +kernel
theorem dX1_chance_1 : decode cX1_chance 1 = .ok (.getfield 11, 3) := by decide +kernel
theorem dX1_chance_4 : decode cX1_chance 4 = .ok (.bipush 34, 2) := by decide +kernel
theorem dX1_chance_6 : decode cX1_chance 6 = .ok (.iload_n 1, 1) := by decide +kernel
theorem dX1_chance_7 : decode cX1_chance 7 = .ok (.imul, 1) := by decide +kernel
theorem dX1_chance_8 : decode cX1_chance 8 = .ok (.iload_n 2, 1) := by decide +kernel
theorem dX1_chance_9 : decode cX1_chance 9 = .ok (.iadd, 1) := by decide +kernel
theorem dX1_chance_10 : decode cX1_chance 10 = .ok (.invokestatic 79, 3) := by decide +kernel
theorem dX1_chance_13 : decode cX1_chance 13 = .ok (.ireturn, 1) := by decide +kernel
theorem dX1_setChance_0 : decode cX1_setChance 0 = .ok (.aload_n 0, 1) := by decide +kernel
theorem dX1_setChance_1 : decode cX1_setChance 1 = .ok (.getfield 11, 3) := by decide +kernel
theorem dX1_setChance_4 : decode cX1_setChance 4 = .ok (.bipush 34, 2) := by decide +kernel
theorem dX1_setChance_6 : decode cX1_setChance 6 = .ok (.iload_n 1, 1) := by decide +kernel
theorem dX1_setChance_7 : decode cX1_setChance 7 = .ok (.imul, 1) := by decide +kernel
theorem dX1_setChance_8 : decode cX1_setChance 8 = .ok (.iload_n 2, 1) := by decide +kernel
theorem dX1_setChance_9 : decode cX1_setChance 9 = .ok (.iadd, 1) := by decide +kernel
theorem dX1_setChance_10 : decode cX1_setChance 10 = .ok (.iload_n 3, 1) := by decide +kernel
theorem dX1_setChance_11 : decode cX1_setChance 11 = .ok (.invokestatic 83, 3) := by decide +kernel
theorem dX1_setChance_14 : decode cX1_setChance 14 = .ok (.return_, 1) := by decide +kernel
theorem dX1_chancesTogether_0 : decode cX1_chancesTogether 0 = .ok (.iconst 0, 1) := by decide +kernel
theorem dX1_chancesTogether_1 : decode cX1_chancesTogether 1 = .ok (.istore_n 2, 1) := by decide +kernel
theorem dX1_chancesTogether_2 : decode cX1_chancesTogether 2 = .ok (.iconst 0, 1) := by decide +kernel
theorem dX1_chancesTogether_3 : decode cX1_chancesTogether 3 = .ok (.istore_n 3, 1) := by decide +kernel
theorem dX1_chancesTogether_4 : decode cX1_chancesTogether 4 = .ok (.iload_n 3, 1) := by decide +kernel
theorem dX1_chancesTogether_5 : decode cX1_chancesTogether 5 = .ok (.bipush 34, 2) := by decide +kernel
theorem dX1_chancesTogether_7 : decode cX1_chancesTogether 7 = .ok (.if_icmp .ge 18, 3) := by decide +kernel
theorem dX1_chancesTogether_10 : decode cX1_chancesTogether 10 = .ok (.iload_n 2, 1) := by decide +kernel
theorem dX1_chancesTogether_11 : decode cX1_chancesTogether 11 = .ok (.aload_n 0, 1) := by decide +kernel
theorem dX1_chancesTogether_12 : decode cX1_chancesTogether 12 = .ok (.iload_n 1, 1) := by decide +kernel
theorem dX1_chancesTogether_13 : decode cX1_chancesTogether 13 = .ok (.iload_n 3, 1) := by decide +kernel
theorem dX1_chancesTogether_14 : decode cX1_chancesTogether 14 = .ok (.invokevirtual 87, 3) := by decide +kernel
theorem dX1_chancesTogether_17 : decode cX1_chancesTogether 17 = .ok (.iadd, 1) := by decide +kernel
theorem dX1_chancesTogether_18 : decode cX1_chancesTogether 18 = .ok (.istore_n 2, 1) := by decide +kernel
theorem dX1_chancesTogether_19 : decode cX1_chancesTogether 19 = .ok (.iinc 3 1, 3) := by decide +kernel
theorem dX1_chancesTogether_22 : decode cX1_chancesTogether 22 = .ok (.goto (-18), 3) := by decide +kernel
theorem dX1_chancesTogether_25 : decode cX1_chancesTogether 25 = .ok (.iload_n 2, 1) := by decide +kernel
theorem dX1_chancesTogether_26 : decode cX1_chancesTogether 26 = .ok (.ireturn, 1) := by decide +kernel
theorem dX1_livelyStates_0 : decode cX1_livelyStates 0 = .ok (.iconst 0, 1) := by decide +kernel
theorem dX1_livelyStates_1 : decode cX1_livelyStates 1 = .ok (.istore_n 1, 1) := by decide +kernel
theorem dX1_livelyStates_2 : decode cX1_livelyStates 2 = .ok (.iconst 0, 1) := by decide +kernel
theorem dX1_livelyStates_3 : decode cX1_livelyStates 3 = .ok (.istore_n 2, 1) := by decide +kernel
theorem dX1_livelyStates_4 : decode cX1_livelyStates 4 = .ok (.iload_n 2, 1) := by decide +kernel
theorem dX1_livelyStates_5 : decode cX1_livelyStates 5 = .ok (.bipush 32, 2) := by decide +kernel
theorem dX1_livelyStates_7 : decode cX1_livelyStates 7 = .ok (.if_icmp .ge 26, 3) := by decide +kernel
theorem dX1_livelyStates_10 : decode cX1_livelyStates 10 = .ok (.aload_n 0, 1) := by decide +kernel
theorem dX1_livelyStates_11 : decode cX1_livelyStates 11 = .ok (.iload_n 2, 1) := by decide +kernel
theorem dX1_livelyStates_12 : decode cX1_livelyStates 12 = .ok (.invokevirtual 91, 3) := by decide +kernel
theorem dX1_livelyStates_15 : decode cX1_livelyStates 15 = .ok (.aload_n 0, 1) := by decide +kernel
theorem dX1_livelyStates_16 : decode cX1_livelyStates 16 = .ok (.iload_n 2, 1) := by decide +kernel
theorem dX1_livelyStates_17 : decode cX1_livelyStates 17 = .ok (.iload_n 2, 1) := by decide +kernel
theorem dX1_livelyStates_18 : decode cX1_livelyStates 18 = .ok (.invokevirtual 87, 3) := by decide +kernel
theorem dX1_livelyStates_21 : decode cX1_livelyStates 21 = .ok (.if_icmp .le 6, 3) := by decide +kernel
theorem dX1_livelyStates_24 : decode cX1_livelyStates 24 = .ok (.iinc 1 1, 3) := by decide +kernel
theorem dX1_livelyStates_27 : decode cX1_livelyStates 27 = .ok (.iinc 2 1, 3) := by decide +kernel
theorem dX1_livelyStates_30 : decode cX1_livelyStates 30 = .ok (.goto (-26), 3) := by decide +kernel
theorem dX1_livelyStates_33 : decode cX1_livelyStates 33 = .ok (.iload_n 1, 1) := by decide +kernel
theorem dX1_livelyStates_34 : decode cX1_livelyStates 34 = .ok (.ireturn, 1) := by decide +kernel
theorem dX1_addRule_0 : decode cX1_addRule 0 = .ok (.aload_n 0, 1) := by decide +kernel
theorem dX1_addRule_1 : decode cX1_addRule 1 = .ok (.getfield 61, 3) := by decide +kernel
theorem dX1_addRule_4 : decode cX1_addRule 4 = .ok (.istore_n 2, 1) := by decide +kernel
theorem dX1_addRule_5 : decode cX1_addRule 5 = .ok (.iload_n 2, 1) := by decide +kernel
theorem dX1_addRule_6 : decode cX1_addRule 6 = .ok (.ifCond .lt 29, 3) := by decide +kernel
theorem dX1_addRule_9 : decode cX1_addRule 9 = .ok (.iload_n 2, 1) := by decide +kernel
theorem dX1_addRule_10 : decode cX1_addRule 10 = .ok (.aload_n 0, 1) := by decide +kernel
theorem dX1_addRule_11 : decode cX1_addRule 11 = .ok (.getfield 34, 3) := by decide +kernel
theorem dX1_addRule_14 : decode cX1_addRule 14 = .ok (.arraylength, 1) := by decide +kernel
theorem dX1_addRule_15 : decode cX1_addRule 15 = .ok (.if_icmp .ge 20, 3) := by decide +kernel
theorem dX1_addRule_18 : decode cX1_addRule 18 = .ok (.aload_n 0, 1) := by decide +kernel
theorem dX1_addRule_19 : decode cX1_addRule 19 = .ok (.getfield 34, 3) := by decide +kernel
theorem dX1_addRule_22 : decode cX1_addRule 22 = .ok (.iload_n 2, 1) := by decide +kernel
theorem dX1_addRule_23 : decode cX1_addRule 23 = .ok (.aload_n 1, 1) := by decide +kernel
theorem dX1_addRule_24 : decode cX1_addRule 24 = .ok (.aastore, 1) := by decide +kernel
theorem dX1_addRule_25 : decode cX1_addRule 25 = .ok (.aload_n 0, 1) := by decide +kernel
theorem dX1_addRule_26 : decode cX1_addRule 26 = .ok (.dup, 1) := by decide +kernel
theorem dX1_addRule_27 : decode cX1_addRule 27 = .ok (.getfield 61, 3) := by decide +kernel
theorem dX1_addRule_30 : decode cX1_addRule 30 = .ok (.iconst 1, 1) := by decide +kernel
theorem dX1_addRule_31 : decode cX1_addRule 31 = .ok (.iadd, 1) := by decide +kernel
theorem dX1_addRule_32 : decode cX1_addRule 32 = .ok (.putfield 61, 3) := by decide +kernel
theorem dX1_addRule_35 : decode cX1_addRule 35 = .ok (.iload_n 2, 1) := by decide +kernel
theorem dX1_addRule_36 : decode cX1_addRule 36 = .ok (.ireturn, 1) := by decide +kernel
theorem dX1_ruleOf_0 : decode cX1_ruleOf 0 = .ok (.iload_n 1, 1) := by decide +kernel
theorem dX1_ruleOf_1 : decode cX1_ruleOf 1 = .ok (.ifCond .lt 21, 3) := by decide +kernel
theorem dX1_ruleOf_4 : decode cX1_ruleOf 4 = .ok (.iload_n 1, 1) := by decide +kernel
theorem dX1_ruleOf_5 : decode cX1_ruleOf 5 = .ok (.aload_n 0, 1) := by decide +kernel
theorem dX1_ruleOf_6 : decode cX1_ruleOf 6 = .ok (.getfield 34, 3) := by decide +kernel
theorem dX1_ruleOf_9 : decode cX1_ruleOf 9 = .ok (.arraylength, 1) := by decide +kernel
theorem dX1_ruleOf_10 : decode cX1_ruleOf 10 = .ok (.if_icmp .ge 12, 3) := by decide +kernel
theorem dX1_ruleOf_13 : decode cX1_ruleOf 13 = .ok (.aload_n 0, 1) := by decide +kernel
theorem dX1_ruleOf_14 : decode cX1_ruleOf 14 = .ok (.getfield 34, 3) := by decide +kernel
theorem dX1_ruleOf_17 : decode cX1_ruleOf 17 = .ok (.iload_n 1, 1) := by decide +kernel
theorem dX1_ruleOf_18 : decode cX1_ruleOf 18 = .ok (.aaload, 1) := by decide +kernel
theorem dX1_ruleOf_19 : decode cX1_ruleOf 19 = .ok (.ifnonnull 8, 3) := by decide +kernel
theorem dX1_ruleOf_22 : decode cX1_ruleOf 22 = .ok (.aload_n 0, 1) := by decide +kernel
theorem dX1_ruleOf_23 : decode cX1_ruleOf 23 = .ok (.getfield 30, 3) := by decide +kernel
theorem dX1_ruleOf_26 : decode cX1_ruleOf 26 = .ok (.areturn, 1) := by decide +kernel
theorem dX1_ruleOf_27 : decode cX1_ruleOf 27 = .ok (.aload_n 0, 1) := by decide +kernel
theorem dX1_ruleOf_28 : decode cX1_ruleOf 28 = .ok (.getfield 34, 3) := by decide +kernel
theorem dX1_ruleOf_31 : decode cX1_ruleOf 31 = .ok (.iload_n 1, 1) := by decide +kernel
theorem dX1_ruleOf_32 : decode cX1_ruleOf 32 = .ok (.aaload, 1) := by decide +kernel
theorem dX1_ruleOf_33 : decode cX1_ruleOf 33 = .ok (.areturn, 1) := by decide +kernel
theorem dX1_addSort_0 : decode cX1_addSort 0 = .ok (.aload_n 0, 1) := by decide +kernel
theorem dX1_addSort_1 : decode cX1_addSort 1 = .ok (.getfield 64, 3) := by decide +kernel
theorem dX1_addSort_4 : decode cX1_addSort 4 = .ok (.istore_n 3, 1) := by decide +kernel
theorem dX1_addSort_5 : decode cX1_addSort 5 = .ok (.aload_n 0, 1) := by decide +kernel
theorem dX1_addSort_6 : decode cX1_addSort 6 = .ok (.getfield 18, 3) := by decide +kernel
theorem dX1_addSort_9 : decode cX1_addSort 9 = .ok (.iload_n 3, 1) := by decide +kernel
theorem dX1_addSort_10 : decode cX1_addSort 10 = .ok (.iload_n 1, 1) := by decide +kernel
theorem dX1_addSort_11 : decode cX1_addSort 11 = .ok (.invokestatic 83, 3) := by decide +kernel
theorem dX1_addSort_14 : decode cX1_addSort 14 = .ok (.aload_n 0, 1) := by decide +kernel
theorem dX1_addSort_15 : decode cX1_addSort 15 = .ok (.getfield 21, 3) := by decide +kernel
theorem dX1_addSort_18 : decode cX1_addSort 18 = .ok (.iload_n 3, 1) := by decide +kernel
theorem dX1_addSort_19 : decode cX1_addSort 19 = .ok (.iload_n 2, 1) := by decide +kernel
theorem dX1_addSort_20 : decode cX1_addSort 20 = .ok (.invokestatic 83, 3) := by decide +kernel
theorem dX1_addSort_23 : decode cX1_addSort 23 = .ok (.aload_n 0, 1) := by decide +kernel
theorem dX1_addSort_24 : decode cX1_addSort 24 = .ok (.dup, 1) := by decide +kernel
theorem dX1_addSort_25 : decode cX1_addSort 25 = .ok (.getfield 64, 3) := by decide +kernel
theorem dX1_addSort_28 : decode cX1_addSort 28 = .ok (.iconst 1, 1) := by decide +kernel
theorem dX1_addSort_29 : decode cX1_addSort 29 = .ok (.iadd, 1) := by decide +kernel
theorem dX1_addSort_30 : decode cX1_addSort 30 = .ok (.putfield 64, 3) := by decide +kernel
theorem dX1_addSort_33 : decode cX1_addSort 33 = .ok (.iload_n 3, 1) := by decide +kernel
theorem dX1_addSort_34 : decode cX1_addSort 34 = .ok (.ireturn, 1) := by decide +kernel
theorem dX1_cardNow_0 : decode cX1_cardNow 0 = .ok (.aload_n 0, 1) := by decide +kernel
theorem dX1_cardNow_1 : decode cX1_cardNow 1 = .ok (.getfield 18, 3) := by decide +kernel
theorem dX1_cardNow_4 : decode cX1_cardNow 4 = .ok (.iload_n 1, 1) := by decide +kernel
theorem dX1_cardNow_5 : decode cX1_cardNow 5 = .ok (.invokestatic 79, 3) := by decide +kernel
theorem dX1_cardNow_8 : decode cX1_cardNow 8 = .ok (.istore_n 2, 1) := by decide +kernel
theorem dX1_cardNow_9 : decode cX1_cardNow 9 = .ok (.aload_n 0, 1) := by decide +kernel
theorem dX1_cardNow_10 : decode cX1_cardNow 10 = .ok (.getfield 76, 3) := by decide +kernel
theorem dX1_cardNow_13 : decode cX1_cardNow 13 = .ok (.ifCond .le 18, 3) := by decide +kernel
theorem dX1_cardNow_16 : decode cX1_cardNow 16 = .ok (.iload_n 2, 1) := by decide +kernel
theorem dX1_cardNow_17 : decode cX1_cardNow 17 = .ok (.aload_n 0, 1) := by decide +kernel
theorem dX1_cardNow_18 : decode cX1_cardNow 18 = .ok (.iload_n 1, 1) := by decide +kernel
theorem dX1_cardNow_19 : decode cX1_cardNow 19 = .ok (.invokevirtual 95, 3) := by decide +kernel
theorem dX1_cardNow_22 : decode cX1_cardNow 22 = .ok (.aload_n 0, 1) := by decide +kernel
theorem dX1_cardNow_23 : decode cX1_cardNow 23 = .ok (.getfield 76, 3) := by decide +kernel
theorem dX1_cardNow_26 : decode cX1_cardNow 26 = .ok (.idiv, 1) := by decide +kernel
theorem dX1_cardNow_27 : decode cX1_cardNow 27 = .ok (.iadd, 1) := by decide +kernel
theorem dX1_cardNow_28 : decode cX1_cardNow 28 = .ok (.goto 4, 3) := by decide +kernel
theorem dX1_cardNow_31 : decode cX1_cardNow 31 = .ok (.iload_n 2, 1) := by decide +kernel
theorem dX1_cardNow_32 : decode cX1_cardNow 32 = .ok (.ireturn, 1) := by decide +kernel
theorem dX1_stopWorth_0 : decode cX1_stopWorth 0 = .ok (.aload_n 0, 1) := by decide +kernel
theorem dX1_stopWorth_1 : decode cX1_stopWorth 1 = .ok (.getfield 15, 3) := by decide +kernel
theorem dX1_stopWorth_4 : decode cX1_stopWorth 4 = .ok (.iload_n 1, 1) := by decide +kernel
theorem dX1_stopWorth_5 : decode cX1_stopWorth 5 = .ok (.invokestatic 79, 3) := by decide +kernel
theorem dX1_stopWorth_8 : decode cX1_stopWorth 8 = .ok (.iload_n 2, 1) := by decide +kernel
theorem dX1_stopWorth_9 : decode cX1_stopWorth 9 = .ok (.iadd, 1) := by decide +kernel
theorem dX1_stopWorth_10 : decode cX1_stopWorth 10 = .ok (.ireturn, 1) := by decide +kernel
theorem dX1_afterwards_0 : decode cX1_afterwards 0 = .ok (.iload_n 2, 1) := by decide +kernel
theorem dX1_afterwards_1 : decode cX1_afterwards 1 = .ok (.bipush 100, 2) := by decide +kernel
theorem dX1_afterwards_3 : decode cX1_afterwards 3 = .ok (.aload_n 0, 1) := by decide +kernel
theorem dX1_afterwards_4 : decode cX1_afterwards 4 = .ok (.getfield 21, 3) := by decide +kernel
theorem dX1_afterwards_7 : decode cX1_afterwards 7 = .ok (.iload_n 1, 1) := by decide +kernel
theorem dX1_afterwards_8 : decode cX1_afterwards 8 = .ok (.invokestatic 79, 3) := by decide +kernel
theorem dX1_afterwards_11 : decode cX1_afterwards 11 = .ok (.isub, 1) := by decide +kernel
theorem dX1_afterwards_12 : decode cX1_afterwards 12 = .ok (.imul, 1) := by decide +kernel
theorem dX1_afterwards_13 : decode cX1_afterwards 13 = .ok (.bipush 100, 2) := by decide +kernel
theorem dX1_afterwards_15 : decode cX1_afterwards 15 = .ok (.idiv, 1) := by decide +kernel
theorem dX1_afterwards_16 : decode cX1_afterwards 16 = .ok (.ireturn, 1) := by decide +kernel
theorem dX1_rateOf_0 : decode cX1_rateOf 0 = .ok (.aload_n 0, 1) := by decide +kernel
theorem dX1_rateOf_1 : decode cX1_rateOf 1 = .ok (.getfield 24, 3) := by decide +kernel
theorem dX1_rateOf_4 : decode cX1_rateOf 4 = .ok (.bipush 32, 2) := by decide +kernel
theorem dX1_rateOf_6 : decode cX1_rateOf 6 = .ok (.iload_n 1, 1) := by decide +kernel
theorem dX1_rateOf_7 : decode cX1_rateOf 7 = .ok (.imul, 1) := by decide +kernel
theorem dX1_rateOf_8 : decode cX1_rateOf 8 = .ok (.iload_n 2, 1) := by decide +kernel
theorem dX1_rateOf_9 : decode cX1_rateOf 9 = .ok (.iadd, 1) := by decide +kernel
theorem dX1_rateOf_10 : decode cX1_rateOf 10 = .ok (.invokestatic 79, 3) := by decide +kernel
theorem dX1_rateOf_13 : decode cX1_rateOf 13 = .ok (.ireturn, 1) := by decide +kernel
theorem dX1_setRate_0 : decode cX1_setRate 0 = .ok (.aload_n 0, 1) := by decide +kernel
theorem dX1_setRate_1 : decode cX1_setRate 1 = .ok (.getfield 24, 3) := by decide +kernel
theorem dX1_setRate_4 : decode cX1_setRate 4 = .ok (.bipush 32, 2) := by decide +kernel
theorem dX1_setRate_6 : decode cX1_setRate 6 = .ok (.iload_n 1, 1) := by decide +kernel
theorem dX1_setRate_7 : decode cX1_setRate 7 = .ok (.imul, 1) := by decide +kernel
theorem dX1_setRate_8 : decode cX1_setRate 8 = .ok (.iload_n 2, 1) := by decide +kernel
theorem dX1_setRate_9 : decode cX1_setRate 9 = .ok (.iadd, 1) := by decide +kernel
theorem dX1_setRate_10 : decode cX1_setRate 10 = .ok (.iload_n 3, 1) := by decide +kernel
theorem dX1_setRate_11 : decode cX1_setRate 11 = .ok (.invokestatic 83, 3) := by decide +kernel
theorem dX1_setRate_14 : decode cX1_setRate 14 = .ok (.return_, 1) := by decide +kernel
theorem dX1_anyRate_0 : decode cX1_anyRate 0 = .ok (.iconst 4, 1) := by decide +kernel
theorem dX1_anyRate_1 : decode cX1_anyRate 1 = .ok (.iload_n 2, 1) := by decide +kernel
theorem dX1_anyRate_2 : decode cX1_anyRate 2 = .ok (.imul, 1) := by decide +kernel
theorem dX1_anyRate_3 : decode cX1_anyRate 3 = .ok (.istore_n 3, 1) := by decide +kernel
theorem dX1_anyRate_4 : decode cX1_anyRate 4 = .ok (.iload_n 3, 1) := by decide +kernel
theorem dX1_anyRate_5 : decode cX1_anyRate 5 = .ok (.iconst 4, 1) := by decide +kernel
theorem dX1_anyRate_6 : decode cX1_anyRate 6 = .ok (.iload_n 2, 1) := by decide +kernel
theorem dX1_anyRate_7 : decode cX1_anyRate 7 = .ok (.iconst 1, 1) := by decide +kernel
theorem dX1_anyRate_8 : decode cX1_anyRate 8 = .ok (.iadd, 1) := by decide +kernel
theorem dX1_anyRate_9 : decode cX1_anyRate 9 = .ok (.imul, 1) := by decide +kernel
theorem dX1_anyRate_10 : decode cX1_anyRate 10 = .ok (.if_icmp .ge 20, 3) := by decide +kernel
theorem dX1_anyRate_13 : decode cX1_anyRate 13 = .ok (.aload_n 0, 1) := by decide +kernel
theorem dX1_anyRate_14 : decode cX1_anyRate 14 = .ok (.iload_n 1, 1) := by decide +kernel
theorem dX1_anyRate_15 : decode cX1_anyRate 15 = .ok (.iload_n 3, 1) := by decide +kernel
theorem dX1_anyRate_16 : decode cX1_anyRate 16 = .ok (.invokevirtual 98, 3) := by decide +kernel
theorem dX1_anyRate_19 : decode cX1_anyRate 19 = .ok (.ifCond .le 5, 3) := by decide +kernel
theorem dX1_anyRate_22 : decode cX1_anyRate 22 = .ok (.iconst 1, 1) := by decide +kernel
theorem dX1_anyRate_23 : decode cX1_anyRate 23 = .ok (.ireturn, 1) := by decide +kernel
theorem dX1_anyRate_24 : decode cX1_anyRate 24 = .ok (.iinc 3 1, 3) := by decide +kernel
theorem dX1_anyRate_27 : decode cX1_anyRate 27 = .ok (.goto (-23), 3) := by decide +kernel
theorem dX1_anyRate_30 : decode cX1_anyRate 30 = .ok (.iconst 0, 1) := by decide +kernel
theorem dX1_anyRate_31 : decode cX1_anyRate 31 = .ok (.ireturn, 1) := by decide +kernel
theorem dX1_ratesOf_0 : decode cX1_ratesOf 0 = .ok (.iconst 0, 1) := by decide +kernel
theorem dX1_ratesOf_1 : decode cX1_ratesOf 1 = .ok (.istore_n 2, 1) := by decide +kernel
theorem dX1_ratesOf_2 : decode cX1_ratesOf 2 = .ok (.iconst 0, 1) := by decide +kernel
theorem dX1_ratesOf_3 : decode cX1_ratesOf 3 = .ok (.istore_n 3, 1) := by decide +kernel
theorem dX1_ratesOf_4 : decode cX1_ratesOf 4 = .ok (.iload_n 3, 1) := by decide +kernel
theorem dX1_ratesOf_5 : decode cX1_ratesOf 5 = .ok (.bipush 32, 2) := by decide +kernel
theorem dX1_ratesOf_7 : decode cX1_ratesOf 7 = .ok (.if_icmp .ge 18, 3) := by decide +kernel
theorem dX1_ratesOf_10 : decode cX1_ratesOf 10 = .ok (.iload_n 2, 1) := by decide +kernel
theorem dX1_ratesOf_11 : decode cX1_ratesOf 11 = .ok (.aload_n 0, 1) := by decide +kernel
theorem dX1_ratesOf_12 : decode cX1_ratesOf 12 = .ok (.iload_n 1, 1) := by decide +kernel
theorem dX1_ratesOf_13 : decode cX1_ratesOf 13 = .ok (.iload_n 3, 1) := by decide +kernel
theorem dX1_ratesOf_14 : decode cX1_ratesOf 14 = .ok (.invokevirtual 98, 3) := by decide +kernel
theorem dX1_ratesOf_17 : decode cX1_ratesOf 17 = .ok (.iadd, 1) := by decide +kernel
theorem dX1_ratesOf_18 : decode cX1_ratesOf 18 = .ok (.istore_n 2, 1) := by decide +kernel
theorem dX1_ratesOf_19 : decode cX1_ratesOf 19 = .ok (.iinc 3 1, 3) := by decide +kernel
theorem dX1_ratesOf_22 : decode cX1_ratesOf 22 = .ok (.goto (-18), 3) := by decide +kernel
theorem dX1_ratesOf_25 : decode cX1_ratesOf 25 = .ok (.iload_n 2, 1) := by decide +kernel
theorem dX1_ratesOf_26 : decode cX1_ratesOf 26 = .ok (.ireturn, 1) := by decide +kernel
theorem dX1_ratesTogether_0 : decode cX1_ratesTogether 0 = .ok (.iconst 0, 1) := by decide +kernel
theorem dX1_ratesTogether_1 : decode cX1_ratesTogether 1 = .ok (.istore_n 1, 1) := by decide +kernel
theorem dX1_ratesTogether_2 : decode cX1_ratesTogether 2 = .ok (.iconst 0, 1) := by decide +kernel
theorem dX1_ratesTogether_3 : decode cX1_ratesTogether 3 = .ok (.istore_n 2, 1) := by decide +kernel
theorem dX1_ratesTogether_4 : decode cX1_ratesTogether 4 = .ok (.iload_n 2, 1) := by decide +kernel
theorem dX1_ratesTogether_5 : decode cX1_ratesTogether 5 = .ok (.aload_n 0, 1) := by decide +kernel
theorem dX1_ratesTogether_6 : decode cX1_ratesTogether 6 = .ok (.getfield 64, 3) := by decide +kernel
theorem dX1_ratesTogether_9 : decode cX1_ratesTogether 9 = .ok (.if_icmp .ge 17, 3) := by decide +kernel
theorem dX1_ratesTogether_12 : decode cX1_ratesTogether 12 = .ok (.iload_n 1, 1) := by decide +kernel
theorem dX1_ratesTogether_13 : decode cX1_ratesTogether 13 = .ok (.aload_n 0, 1) := by decide +kernel
theorem dX1_ratesTogether_14 : decode cX1_ratesTogether 14 = .ok (.iload_n 2, 1) := by decide +kernel
theorem dX1_ratesTogether_15 : decode cX1_ratesTogether 15 = .ok (.invokevirtual 95, 3) := by decide +kernel
theorem dX1_ratesTogether_18 : decode cX1_ratesTogether 18 = .ok (.iadd, 1) := by decide +kernel
theorem dX1_ratesTogether_19 : decode cX1_ratesTogether 19 = .ok (.istore_n 1, 1) := by decide +kernel
theorem dX1_ratesTogether_20 : decode cX1_ratesTogether 20 = .ok (.iinc 2 1, 3) := by decide +kernel
theorem dX1_ratesTogether_23 : decode cX1_ratesTogether 23 = .ok (.goto (-19), 3) := by decide +kernel
theorem dX1_ratesTogether_26 : decode cX1_ratesTogether 26 = .ok (.iload_n 1, 1) := by decide +kernel
theorem dX1_ratesTogether_27 : decode cX1_ratesTogether 27 = .ok (.ireturn, 1) := by decide +kernel
theorem dX1_rateHolding_0 : decode cX1_rateHolding 0 = .ok (.iconst 0, 1) := by decide +kernel
theorem dX1_rateHolding_1 : decode cX1_rateHolding 1 = .ok (.istore_n 2, 1) := by decide +kernel
theorem dX1_rateHolding_2 : decode cX1_rateHolding 2 = .ok (.iconst 0, 1) := by decide +kernel
theorem dX1_rateHolding_3 : decode cX1_rateHolding 3 = .ok (.istore_n 3, 1) := by decide +kernel
theorem dX1_rateHolding_4 : decode cX1_rateHolding 4 = .ok (.iload_n 3, 1) := by decide +kernel
theorem dX1_rateHolding_5 : decode cX1_rateHolding 5 = .ok (.aload_n 0, 1) := by decide +kernel
theorem dX1_rateHolding_6 : decode cX1_rateHolding 6 = .ok (.getfield 24, 3) := by decide +kernel
theorem dX1_rateHolding_9 : decode cX1_rateHolding 9 = .ok (.arraylength, 1) := by decide +kernel
theorem dX1_rateHolding_10 : decode cX1_rateHolding 10 = .ok (.if_icmp .ge 25, 3) := by decide +kernel
theorem dX1_rateHolding_13 : decode cX1_rateHolding 13 = .ok (.iload_n 2, 1) := by decide +kernel
theorem dX1_rateHolding_14 : decode cX1_rateHolding 14 = .ok (.aload_n 0, 1) := by decide +kernel
theorem dX1_rateHolding_15 : decode cX1_rateHolding 15 = .ok (.getfield 24, 3) := by decide +kernel
theorem dX1_rateHolding_18 : decode cX1_rateHolding 18 = .ok (.iload_n 3, 1) := by decide +kernel
theorem dX1_rateHolding_19 : decode cX1_rateHolding 19 = .ok (.iaload, 1) := by decide +kernel
theorem dX1_rateHolding_20 : decode cX1_rateHolding 20 = .ok (.iadd, 1) := by decide +kernel
theorem dX1_rateHolding_21 : decode cX1_rateHolding 21 = .ok (.istore_n 2, 1) := by decide +kernel
theorem dX1_rateHolding_22 : decode cX1_rateHolding 22 = .ok (.iload_n 1, 1) := by decide +kernel
theorem dX1_rateHolding_23 : decode cX1_rateHolding 23 = .ok (.iload_n 2, 1) := by decide +kernel
theorem dX1_rateHolding_24 : decode cX1_rateHolding 24 = .ok (.if_icmp .ge 5, 3) := by decide +kernel
theorem dX1_rateHolding_27 : decode cX1_rateHolding 27 = .ok (.iload_n 3, 1) := by decide +kernel
theorem dX1_rateHolding_28 : decode cX1_rateHolding 28 = .ok (.ireturn, 1) := by decide +kernel
theorem dX1_rateHolding_29 : decode cX1_rateHolding 29 = .ok (.iinc 3 1, 3) := by decide +kernel
theorem dX1_rateHolding_32 : decode cX1_rateHolding 32 = .ok (.goto (-28), 3) := by decide +kernel
theorem dX1_rateHolding_35 : decode cX1_rateHolding 35 = .ok (.iconst 0, 1) := by decide +kernel
theorem dX1_rateHolding_36 : decode cX1_rateHolding 36 = .ok (.ireturn, 1) := by decide +kernel
theorem dX2_init_0 : decode cX2_init 0 = .ok (.aload_n 0, 1) := by decide +kernel
theorem dX2_init_1 : decode cX2_init 1 = .ok (.invokespecial 3, 3) := by decide +kernel
theorem dX2_init_4 : decode cX2_init 4 = .ok (.aload_n 0, 1) := by decide +kernel
theorem dX2_init_5 : decode cX2_init 5 = .ok (.iload_n 1, 1) := by decide +kernel
theorem dX2_init_6 : decode cX2_init 6 = .ok (.putfield 9, 3) := by decide +kernel
theorem dX2_init_9 : decode cX2_init 9 = .ok (.aload_n 0, 1) := by decide +kernel
theorem dX2_init_10 : decode cX2_init 10 = .ok (.iconst 0, 1) := by decide +kernel
theorem dX2_init_11 : decode cX2_init 11 = .ok (.iconst 4, 1) := by decide +kernel
theorem dX2_init_12 : decode cX2_init 12 = .ok (.iload_n 1, 1) := by decide +kernel
theorem dX2_init_13 : decode cX2_init 13 = .ok (.imul, 1) := by decide +kernel
theorem dX2_init_14 : decode cX2_init 14 = .ok (.invokestatic 15, 3) := by decide +kernel
theorem dX2_init_17 : decode cX2_init 17 = .ok (.newarray .int, 2) := by decide +kernel
theorem dX2_init_19 : decode cX2_init 19 = .ok (.putfield 21, 3) := by decide +kernel
theorem dX2_init_22 : decode cX2_init 22 = .ok (.aload_n 0, 1) := by decide +kernel
theorem dX2_init_23 : decode cX2_init 23 = .ok (.iconst 0, 1) := by decide +kernel
theorem dX2_init_24 : decode cX2_init 24 = .ok (.iload_n 3, 1) := by decide +kernel
theorem dX2_init_25 : decode cX2_init 25 = .ok (.invokestatic 15, 3) := by decide +kernel
theorem dX2_init_28 : decode cX2_init 28 = .ok (.newarray .int, 2) := by decide +kernel
theorem dX2_init_30 : decode cX2_init 30 = .ok (.putfield 25, 3) := by decide +kernel
theorem dX2_init_33 : decode cX2_init 33 = .ok (.aload_n 2, 1) := by decide +kernel
theorem dX2_init_34 : decode cX2_init 34 = .ok (.aload_n 0, 1) := by decide +kernel
theorem dX2_init_35 : decode cX2_init 35 = .ok (.getfield 21, 3) := by decide +kernel
theorem dX2_init_38 : decode cX2_init 38 = .ok (.invokestatic 28, 3) := by decide +kernel
theorem dX2_init_41 : decode cX2_init 41 = .ok (.aload 4, 2) := by decide +kernel
theorem dX2_init_43 : decode cX2_init 43 = .ok (.aload_n 0, 1) := by decide +kernel
theorem dX2_init_44 : decode cX2_init 44 = .ok (.getfield 25, 3) := by decide +kernel
theorem dX2_init_47 : decode cX2_init 47 = .ok (.invokestatic 28, 3) := by decide +kernel
theorem dX2_init_50 : decode cX2_init 50 = .ok (.return_, 1) := by decide +kernel
theorem dX2_init__0 : decode cX2_init_ 0 = .ok (.aload_n 0, 1) := by decide +kernel
theorem dX2_init__1 : decode cX2_init_ 1 = .ok (.invokespecial 3, 3) := by decide +kernel
theorem dX2_init__4 : decode cX2_init_ 4 = .ok (.aload_n 0, 1) := by decide +kernel
theorem dX2_init__5 : decode cX2_init_ 5 = .ok (.iconst 0, 1) := by decide +kernel
theorem dX2_init__6 : decode cX2_init_ 6 = .ok (.putfield 9, 3) := by decide +kernel
theorem dX2_init__9 : decode cX2_init_ 9 = .ok (.aload_n 0, 1) := by decide +kernel
theorem dX2_init__10 : decode cX2_init_ 10 = .ok (.iconst 0, 1) := by decide +kernel
theorem dX2_init__11 : decode cX2_init_ 11 = .ok (.newarray .int, 2) := by decide +kernel
theorem dX2_init__13 : decode cX2_init_ 13 = .ok (.putfield 21, 3) := by decide +kernel
theorem dX2_init__16 : decode cX2_init_ 16 = .ok (.aload_n 0, 1) := by decide +kernel
theorem dX2_init__17 : decode cX2_init_ 17 = .ok (.iconst 0, 1) := by decide +kernel
theorem dX2_init__18 : decode cX2_init_ 18 = .ok (.newarray .int, 2) := by decide +kernel
theorem dX2_init__20 : decode cX2_init_ 20 = .ok (.putfield 25, 3) := by decide +kernel
theorem dX2_init__23 : decode cX2_init_ 23 = .ok (.return_, 1) := by decide +kernel
theorem dX2_deed_0 : decode cX2_deed 0 = .ok (.iconst 0, 1) := by decide +kernel
theorem dX2_deed_1 : decode cX2_deed 1 = .ok (.istore_n 3, 1) := by decide +kernel
theorem dX2_deed_2 : decode cX2_deed 2 = .ok (.iload_n 3, 1) := by decide +kernel
theorem dX2_deed_3 : decode cX2_deed 3 = .ok (.aload_n 0, 1) := by decide +kernel
theorem dX2_deed_4 : decode cX2_deed 4 = .ok (.getfield 9, 3) := by decide +kernel
theorem dX2_deed_7 : decode cX2_deed 7 = .ok (.if_icmp .ge 30, 3) := by decide +kernel
theorem dX2_deed_10 : decode cX2_deed 10 = .ok (.aload_n 0, 1) := by decide +kernel
theorem dX2_deed_11 : decode cX2_deed 11 = .ok (.iload_n 3, 1) := by decide +kernel
theorem dX2_deed_12 : decode cX2_deed 12 = .ok (.aload_n 1, 1) := by decide +kernel
theorem dX2_deed_13 : decode cX2_deed 13 = .ok (.aload_n 2, 1) := by decide +kernel
theorem dX2_deed_14 : decode cX2_deed 14 = .ok (.invokevirtual 34, 3) := by decide +kernel
theorem dX2_deed_17 : decode cX2_deed 17 = .ok (.ifCond .eq 14, 3) := by decide +kernel
theorem dX2_deed_20 : decode cX2_deed 20 = .ok (.aload_n 0, 1) := by decide +kernel
theorem dX2_deed_21 : decode cX2_deed 21 = .ok (.getfield 21, 3) := by decide +kernel
theorem dX2_deed_24 : decode cX2_deed 24 = .ok (.iconst 4, 1) := by decide +kernel
theorem dX2_deed_25 : decode cX2_deed 25 = .ok (.iload_n 3, 1) := by decide +kernel
theorem dX2_deed_26 : decode cX2_deed 26 = .ok (.imul, 1) := by decide +kernel
theorem dX2_deed_27 : decode cX2_deed 27 = .ok (.invokestatic 38, 3) := by decide +kernel
theorem dX2_deed_30 : decode cX2_deed 30 = .ok (.ireturn, 1) := by decide +kernel
theorem dX2_deed_31 : decode cX2_deed 31 = .ok (.iinc 3 1, 3) := by decide +kernel
theorem dX2_deed_34 : decode cX2_deed 34 = .ok (.goto (-32), 3) := by decide +kernel
theorem dX2_deed_37 : decode cX2_deed 37 = .ok (.iconst 2, 1) := by decide +kernel
theorem dX2_deed_38 : decode cX2_deed 38 = .ok (.ireturn, 1) := by decide +kernel
theorem dX2_total_0 : decode cX2_total 0 = .ok (.iconst 0, 1) := by decide +kernel
theorem dX2_total_1 : decode cX2_total 1 = .ok (.istore_n 3, 1) := by decide +kernel
theorem dX2_total_2 : decode cX2_total 2 = .ok (.iconst 0, 1) := by decide +kernel
theorem dX2_total_3 : decode cX2_total 3 = .ok (.istore 4, 2) := by decide +kernel
theorem dX2_total_5 : decode cX2_total 5 = .ok (.iload 4, 2) := by decide +kernel
theorem dX2_total_7 : decode cX2_total 7 = .ok (.aload_n 0, 1) := by decide +kernel
theorem dX2_total_8 : decode cX2_total 8 = .ok (.getfield 9, 3) := by decide +kernel
theorem dX2_total_11 : decode cX2_total 11 = .ok (.if_icmp .ge 66, 3) := by decide +kernel
theorem dX2_total_14 : decode cX2_total 14 = .ok (.aload_n 0, 1) := by decide +kernel
theorem dX2_total_15 : decode cX2_total 15 = .ok (.iload 4, 2) := by decide +kernel
theorem dX2_total_17 : decode cX2_total 17 = .ok (.aload_n 1, 1) := by decide +kernel
theorem dX2_total_18 : decode cX2_total 18 = .ok (.aload_n 2, 1) := by decide +kernel
theorem dX2_total_19 : decode cX2_total 19 = .ok (.invokevirtual 34, 3) := by decide +kernel
theorem dX2_total_22 : decode cX2_total 22 = .ok (.ifCond .eq 49, 3) := by decide +kernel
theorem dX2_total_25 : decode cX2_total 25 = .ok (.aload_n 0, 1) := by decide +kernel
theorem dX2_total_26 : decode cX2_total 26 = .ok (.getfield 21, 3) := by decide +kernel
theorem dX2_total_29 : decode cX2_total 29 = .ok (.iconst 4, 1) := by decide +kernel
theorem dX2_total_30 : decode cX2_total 30 = .ok (.iload 4, 2) := by decide +kernel
theorem dX2_total_32 : decode cX2_total 32 = .ok (.imul, 1) := by decide +kernel
theorem dX2_total_33 : decode cX2_total 33 = .ok (.iconst 1, 1) := by decide +kernel
theorem dX2_total_34 : decode cX2_total 34 = .ok (.iadd, 1) := by decide +kernel
theorem dX2_total_35 : decode cX2_total 35 = .ok (.invokestatic 38, 3) := by decide +kernel
theorem dX2_total_38 : decode cX2_total 38 = .ok (.istore 5, 2) := by decide +kernel
theorem dX2_total_40 : decode cX2_total 40 = .ok (.iload_n 3, 1) := by decide +kernel
theorem dX2_total_41 : decode cX2_total 41 = .ok (.aload_n 0, 1) := by decide +kernel
theorem dX2_total_42 : decode cX2_total 42 = .ok (.getfield 21, 3) := by decide +kernel
theorem dX2_total_45 : decode cX2_total 45 = .ok (.iconst 4, 1) := by decide +kernel
theorem dX2_total_46 : decode cX2_total 46 = .ok (.iload 4, 2) := by decide +kernel
theorem dX2_total_48 : decode cX2_total 48 = .ok (.imul, 1) := by decide +kernel
theorem dX2_total_49 : decode cX2_total 49 = .ok (.invokestatic 38, 3) := by decide +kernel
theorem dX2_total_52 : decode cX2_total 52 = .ok (.iload 5, 2) := by decide +kernel
theorem dX2_total_54 : decode cX2_total 54 = .ok (.iconst (-1), 1) := by decide +kernel
theorem dX2_total_55 : decode cX2_total 55 = .ok (.if_icmp .ne 7, 3) := by decide +kernel
theorem dX2_total_58 : decode cX2_total 58 = .ok (.iconst 1, 1) := by decide +kernel
theorem dX2_total_59 : decode cX2_total 59 = .ok (.goto 9, 3) := by decide +kernel
theorem dX2_total_62 : decode cX2_total 62 = .ok (.aload_n 1, 1) := by decide +kernel
theorem dX2_total_63 : decode cX2_total 63 = .ok (.iload 5, 2) := by decide +kernel
theorem dX2_total_65 : decode cX2_total 65 = .ok (.invokestatic 38, 3) := by decide +kernel
theorem dX2_total_68 : decode cX2_total 68 = .ok (.imul, 1) := by decide +kernel
theorem dX2_total_69 : decode cX2_total 69 = .ok (.iadd, 1) := by decide +kernel
theorem dX2_total_70 : decode cX2_total 70 = .ok (.istore_n 3, 1) := by decide +kernel
theorem dX2_total_71 : decode cX2_total 71 = .ok (.iinc 4 1, 3) := by decide +kernel
theorem dX2_total_74 : decode cX2_total 74 = .ok (.goto (-69), 3) := by decide +kernel
theorem dX2_total_77 : decode cX2_total 77 = .ok (.iload_n 3, 1) := by decide +kernel
theorem dX2_total_78 : decode cX2_total 78 = .ok (.ireturn, 1) := by decide +kernel
theorem dX2_holds_0 : decode cX2_holds 0 = .ok (.aload_n 0, 1) := by decide +kernel
theorem dX2_holds_1 : decode cX2_holds 1 = .ok (.getfield 21, 3) := by decide +kernel
theorem dX2_holds_4 : decode cX2_holds 4 = .ok (.iconst 4, 1) := by decide +kernel
theorem dX2_holds_5 : decode cX2_holds 5 = .ok (.iload_n 1, 1) := by decide +kernel
theorem dX2_holds_6 : decode cX2_holds 6 = .ok (.imul, 1) := by decide +kernel
theorem dX2_holds_7 : decode cX2_holds 7 = .ok (.iconst 2, 1) := by decide +kernel
theorem dX2_holds_8 : decode cX2_holds 8 = .ok (.iadd, 1) := by decide +kernel
theorem dX2_holds_9 : decode cX2_holds 9 = .ok (.invokestatic 38, 3) := by decide +kernel
theorem dX2_holds_12 : decode cX2_holds 12 = .ok (.istore 4, 2) := by decide +kernel
theorem dX2_holds_14 : decode cX2_holds 14 = .ok (.aload_n 0, 1) := by decide +kernel
theorem dX2_holds_15 : decode cX2_holds 15 = .ok (.getfield 21, 3) := by decide +kernel
theorem dX2_holds_18 : decode cX2_holds 18 = .ok (.iconst 4, 1) := by decide +kernel
theorem dX2_holds_19 : decode cX2_holds 19 = .ok (.iload_n 1, 1) := by decide +kernel
theorem dX2_holds_20 : decode cX2_holds 20 = .ok (.imul, 1) := by decide +kernel
theorem dX2_holds_21 : decode cX2_holds 21 = .ok (.iconst 3, 1) := by decide +kernel
theorem dX2_holds_22 : decode cX2_holds 22 = .ok (.iadd, 1) := by decide +kernel
theorem dX2_holds_23 : decode cX2_holds 23 = .ok (.invokestatic 38, 3) := by decide +kernel
theorem dX2_holds_26 : decode cX2_holds 26 = .ok (.istore 5, 2) := by decide +kernel
theorem dX2_holds_28 : decode cX2_holds 28 = .ok (.iconst (-1), 1) := by decide +kernel
theorem dX2_holds_29 : decode cX2_holds 29 = .ok (.istore 6, 2) := by decide +kernel
theorem dX2_holds_31 : decode cX2_holds 31 = .ok (.iload 4, 2) := by decide +kernel
theorem dX2_holds_33 : decode cX2_holds 33 = .ok (.istore 7, 2) := by decide +kernel
theorem dX2_holds_35 : decode cX2_holds 35 = .ok (.iload 7, 2) := by decide +kernel
theorem dX2_holds_37 : decode cX2_holds 37 = .ok (.iload 5, 2) := by decide +kernel
theorem dX2_holds_39 : decode cX2_holds 39 = .ok (.if_icmp .ge 116, 3) := by decide +kernel
theorem dX2_holds_42 : decode cX2_holds 42 = .ok (.aload_n 0, 1) := by decide +kernel
theorem dX2_holds_43 : decode cX2_holds 43 = .ok (.getfield 25, 3) := by decide +kernel
theorem dX2_holds_46 : decode cX2_holds 46 = .ok (.iload 7, 2) := by decide +kernel
theorem dX2_holds_48 : decode cX2_holds 48 = .ok (.invokestatic 38, 3) := by decide +kernel
theorem dX2_holds_51 : decode cX2_holds 51 = .ok (.istore 8, 2) := by decide +kernel
theorem dX2_holds_53 : decode cX2_holds 53 = .ok (.iload 8, 2) := by decide +kernel
theorem dX2_holds_55 : decode cX2_holds 55 = .ok (.sipush 10010, 3) := by decide +kernel
theorem dX2_holds_58 : decode cX2_holds 58 = .ok (.if_icmp .ge 38, 3) := by decide +kernel
theorem dX2_holds_61 : decode cX2_holds 61 = .ok (.iinc 6 1, 3) := by decide +kernel
theorem dX2_holds_64 : decode cX2_holds 64 = .ok (.aload_n 3, 1) := by decide +kernel
theorem dX2_holds_65 : decode cX2_holds 65 = .ok (.iload 6, 2) := by decide +kernel
theorem dX2_holds_67 : decode cX2_holds 67 = .ok (.iload 8, 2) := by decide +kernel
theorem dX2_holds_69 : decode cX2_holds 69 = .ok (.sipush 10000, 3) := by decide +kernel
theorem dX2_holds_72 : decode cX2_holds 72 = .ok (.if_icmp .ge 8, 3) := by decide +kernel
theorem dX2_holds_75 : decode cX2_holds 75 = .ok (.iload 8, 2) := by decide +kernel
theorem dX2_holds_77 : decode cX2_holds 77 = .ok (.goto 13, 3) := by decide +kernel
theorem dX2_holds_80 : decode cX2_holds 80 = .ok (.aload_n 2, 1) := by decide +kernel
theorem dX2_holds_81 : decode cX2_holds 81 = .ok (.iload 8, 2) := by decide +kernel
theorem dX2_holds_83 : decode cX2_holds 83 = .ok (.sipush 10000, 3) := by decide +kernel
theorem dX2_holds_86 : decode cX2_holds 86 = .ok (.isub, 1) := by decide +kernel
theorem dX2_holds_87 : decode cX2_holds 87 = .ok (.invokestatic 38, 3) := by decide +kernel
theorem dX2_holds_90 : decode cX2_holds 90 = .ok (.invokestatic 42, 3) := by decide +kernel
theorem dX2_holds_93 : decode cX2_holds 93 = .ok (.goto 56, 3) := by decide +kernel
theorem dX2_holds_96 : decode cX2_holds 96 = .ok (.iload 8, 2) := by decide +kernel
theorem dX2_holds_98 : decode cX2_holds 98 = .ok (.sipush 10013, 3) := by decide +kernel
theorem dX2_holds_101 : decode cX2_holds 101 = .ok (.if_icmp .ne 20, 3) := by decide +kernel
theorem dX2_holds_104 : decode cX2_holds 104 = .ok (.aload_n 3, 1) := by decide +kernel
theorem dX2_holds_105 : decode cX2_holds 105 = .ok (.iload 6, 2) := by decide +kernel
theorem dX2_holds_107 : decode cX2_holds 107 = .ok (.iconst 1, 1) := by decide +kernel
theorem dX2_holds_108 : decode cX2_holds 108 = .ok (.aload_n 3, 1) := by decide +kernel
theorem dX2_holds_109 : decode cX2_holds 109 = .ok (.iload 6, 2) := by decide +kernel
theorem dX2_holds_111 : decode cX2_holds 111 = .ok (.invokestatic 38, 3) := by decide +kernel
theorem dX2_holds_114 : decode cX2_holds 114 = .ok (.isub, 1) := by decide +kernel
theorem dX2_holds_115 : decode cX2_holds 115 = .ok (.invokestatic 42, 3) := by decide +kernel
theorem dX2_holds_118 : decode cX2_holds 118 = .ok (.goto 31, 3) := by decide +kernel
theorem dX2_holds_121 : decode cX2_holds 121 = .ok (.iinc 6 (-1), 3) := by decide +kernel
theorem dX2_holds_124 : decode cX2_holds 124 = .ok (.aload_n 3, 1) := by decide +kernel
theorem dX2_holds_125 : decode cX2_holds 125 = .ok (.iload 6, 2) := by decide +kernel
theorem dX2_holds_127 : decode cX2_holds 127 = .ok (.iload 8, 2) := by decide +kernel
theorem dX2_holds_129 : decode cX2_holds 129 = .ok (.aload_n 3, 1) := by decide +kernel
theorem dX2_holds_130 : decode cX2_holds 130 = .ok (.iload 6, 2) := by decide +kernel
theorem dX2_holds_132 : decode cX2_holds 132 = .ok (.invokestatic 38, 3) := by decide +kernel
theorem dX2_holds_135 : decode cX2_holds 135 = .ok (.aload_n 3, 1) := by decide +kernel
theorem dX2_holds_136 : decode cX2_holds 136 = .ok (.iload 6, 2) := by decide +kernel
theorem dX2_holds_138 : decode cX2_holds 138 = .ok (.iconst 1, 1) := by decide +kernel
theorem dX2_holds_139 : decode cX2_holds 139 = .ok (.iadd, 1) := by decide +kernel
theorem dX2_holds_140 : decode cX2_holds 140 = .ok (.invokestatic 38, 3) := by decide +kernel
theorem dX2_holds_143 : decode cX2_holds 143 = .ok (.invokestatic 46, 3) := by decide +kernel
theorem dX2_holds_146 : decode cX2_holds 146 = .ok (.invokestatic 42, 3) := by decide +kernel
theorem dX2_holds_149 : decode cX2_holds 149 = .ok (.iinc 7 1, 3) := by decide +kernel
theorem dX2_holds_152 : decode cX2_holds 152 = .ok (.goto (-117), 3) := by decide +kernel
theorem dX2_holds_155 : decode cX2_holds 155 = .ok (.iload 4, 2) := by decide +kernel
theorem dX2_holds_157 : decode cX2_holds 157 = .ok (.iload 5, 2) := by decide +kernel
theorem dX2_holds_159 : decode cX2_holds 159 = .ok (.if_icmp .ge 11, 3) := by decide +kernel
theorem dX2_holds_162 : decode cX2_holds 162 = .ok (.aload_n 3, 1) := by decide +kernel
theorem dX2_holds_163 : decode cX2_holds 163 = .ok (.iconst 0, 1) := by decide +kernel
theorem dX2_holds_164 : decode cX2_holds 164 = .ok (.invokestatic 38, 3) := by decide +kernel
theorem dX2_holds_167 : decode cX2_holds 167 = .ok (.ifCond .eq 7, 3) := by decide +kernel
theorem dX2_holds_170 : decode cX2_holds 170 = .ok (.iconst 1, 1) := by decide +kernel
theorem dX2_holds_171 : decode cX2_holds 171 = .ok (.goto 4, 3) := by decide +kernel
theorem dX2_holds_174 : decode cX2_holds 174 = .ok (.iconst 0, 1) := by decide +kernel
theorem dX2_holds_175 : decode cX2_holds 175 = .ok (.ireturn, 1) := by decide +kernel
theorem dX2_joined_0 : decode cX2_joined 0 = .ok (.iload_n 0, 1) := by decide +kernel
theorem dX2_joined_1 : decode cX2_joined 1 = .ok (.tableswitch 65 10010 10014 #[35, 39, 50, 65, 61], 35) := by decide +kernel
theorem dX2_joined_36 : decode cX2_joined 36 = .ok (.iload_n 1, 1) := by decide +kernel
theorem dX2_joined_37 : decode cX2_joined 37 = .ok (.iload_n 2, 1) := by decide +kernel
theorem dX2_joined_38 : decode cX2_joined 38 = .ok (.iadd, 1) := by decide +kernel
theorem dX2_joined_39 : decode cX2_joined 39 = .ok (.ireturn, 1) := by decide +kernel
theorem dX2_joined_40 : decode cX2_joined 40 = .ok (.iload_n 1, 1) := by decide +kernel
theorem dX2_joined_41 : decode cX2_joined 41 = .ok (.iload_n 2, 1) := by decide +kernel
theorem dX2_joined_42 : decode cX2_joined 42 = .ok (.if_icmp .ge 7, 3) := by decide +kernel
theorem dX2_joined_45 : decode cX2_joined 45 = .ok (.iconst 1, 1) := by decide +kernel
theorem dX2_joined_46 : decode cX2_joined 46 = .ok (.goto 4, 3) := by decide +kernel
theorem dX2_joined_49 : decode cX2_joined 49 = .ok (.iconst 0, 1) := by decide +kernel
theorem dX2_joined_50 : decode cX2_joined 50 = .ok (.ireturn, 1) := by decide +kernel
theorem dX2_joined_51 : decode cX2_joined 51 = .ok (.iload_n 1, 1) := by decide +kernel
theorem dX2_joined_52 : decode cX2_joined 52 = .ok (.iload_n 2, 1) := by decide +kernel
theorem dX2_joined_53 : decode cX2_joined 53 = .ok (.if_icmp .le 7, 3) := by decide +kernel
theorem dX2_joined_56 : decode cX2_joined 56 = .ok (.iconst 1, 1) := by decide +kernel
theorem dX2_joined_57 : decode cX2_joined 57 = .ok (.goto 4, 3) := by decide +kernel
theorem dX2_joined_60 : decode cX2_joined 60 = .ok (.iconst 0, 1) := by decide +kernel
theorem dX2_joined_61 : decode cX2_joined 61 = .ok (.ireturn, 1) := by decide +kernel
theorem dX2_joined_62 : decode cX2_joined 62 = .ok (.iload_n 1, 1) := by decide +kernel
theorem dX2_joined_63 : decode cX2_joined 63 = .ok (.iload_n 2, 1) := by decide +kernel
theorem dX2_joined_64 : decode cX2_joined 64 = .ok (.iand, 1) := by decide +kernel
theorem dX2_joined_65 : decode cX2_joined 65 = .ok (.ireturn, 1) := by decide +kernel
theorem dX2_joined_66 : decode cX2_joined 66 = .ok (.iload_n 1, 1) := by decide +kernel
theorem dX2_joined_67 : decode cX2_joined 67 = .ok (.iload_n 2, 1) := by decide +kernel
theorem dX2_joined_68 : decode cX2_joined 68 = .ok (.ior, 1) := by decide +kernel
theorem dX2_joined_69 : decode cX2_joined 69 = .ok (.ireturn, 1) := by decide +kernel
theorem dX3_init_0 : decode cX3_init 0 = .ok (.aload_n 0, 1) := by decide +kernel
theorem dX3_init_1 : decode cX3_init 1 = .ok (.invokespecial 3, 3) := by decide +kernel
theorem dX3_init_4 : decode cX3_init 4 = .ok (.aload_n 0, 1) := by decide +kernel
theorem dX3_init_5 : decode cX3_init 5 = .ok (.sipush 1952, 3) := by decide +kernel
theorem dX3_init_8 : decode cX3_init 8 = .ok (.newarray .int, 2) := by decide +kernel
theorem dX3_init_10 : decode cX3_init 10 = .ok (.putfield 9, 3) := by decide +kernel
theorem dX3_init_13 : decode cX3_init 13 = .ok (.aload_n 0, 1) := by decide +kernel
theorem dX3_init_14 : decode cX3_init 14 = .ok (.sipush 352, 3) := by decide +kernel
theorem dX3_init_17 : decode cX3_init 17 = .ok (.newarray .int, 2) := by decide +kernel
theorem dX3_init_19 : decode cX3_init 19 = .ok (.putfield 15, 3) := by decide +kernel
theorem dX3_init_22 : decode cX3_init 22 = .ok (.aload_n 0, 1) := by decide +kernel
theorem dX3_init_23 : decode cX3_init 23 = .ok (.aload_n 1, 1) := by decide +kernel
theorem dX3_init_24 : decode cX3_init 24 = .ok (.putfield 18, 3) := by decide +kernel
theorem dX3_init_27 : decode cX3_init 27 = .ok (.aload_n 0, 1) := by decide +kernel
theorem dX3_init_28 : decode cX3_init 28 = .ok (.aload_n 2, 1) := by decide +kernel
theorem dX3_init_29 : decode cX3_init 29 = .ok (.putfield 22, 3) := by decide +kernel
theorem dX3_init_32 : decode cX3_init 32 = .ok (.return_, 1) := by decide +kernel
theorem dX3_ask_0 : decode cX3_ask 0 = .ok (.aload_n 0, 1) := by decide +kernel
theorem dX3_ask_1 : decode cX3_ask 1 = .ok (.iload_n 1, 1) := by decide +kernel
theorem dX3_ask_2 : decode cX3_ask 2 = .ok (.ifCond .ne 8, 3) := by decide +kernel
theorem dX3_ask_5 : decode cX3_ask 5 = .ok (.ldc 26, 2) := by decide +kernel
theorem dX3_ask_7 : decode cX3_ask 7 = .ok (.goto 4, 3) := by decide +kernel
theorem dX3_ask_10 : decode cX3_ask 10 = .ok (.iconst 0, 1) := by decide +kernel
theorem dX3_ask_11 : decode cX3_ask 11 = .ok (.putfield 27, 3) := by decide +kernel
theorem dX3_ask_14 : decode cX3_ask 14 = .ok (.aload_n 0, 1) := by decide +kernel
theorem dX3_ask_15 : decode cX3_ask 15 = .ok (.iload_n 1, 1) := by decide +kernel
theorem dX3_ask_16 : decode cX3_ask 16 = .ok (.iconst 1, 1) := by decide +kernel
theorem dX3_ask_17 : decode cX3_ask 17 = .ok (.if_icmp .ne 8, 3) := by decide +kernel
theorem dX3_ask_20 : decode cX3_ask 20 = .ok (.ldc 26, 2) := by decide +kernel
theorem dX3_ask_22 : decode cX3_ask 22 = .ok (.goto 4, 3) := by decide +kernel
theorem dX3_ask_25 : decode cX3_ask 25 = .ok (.iconst 0, 1) := by decide +kernel
theorem dX3_ask_26 : decode cX3_ask 26 = .ok (.putfield 31, 3) := by decide +kernel
theorem dX3_ask_29 : decode cX3_ask 29 = .ok (.aload_n 0, 1) := by decide +kernel
theorem dX3_ask_30 : decode cX3_ask 30 = .ok (.iload_n 1, 1) := by decide +kernel
theorem dX3_ask_31 : decode cX3_ask 31 = .ok (.iconst 2, 1) := by decide +kernel
theorem dX3_ask_32 : decode cX3_ask 32 = .ok (.if_icmp .ne 8, 3) := by decide +kernel
theorem dX3_ask_35 : decode cX3_ask 35 = .ok (.ldc 26, 2) := by decide +kernel
theorem dX3_ask_37 : decode cX3_ask 37 = .ok (.goto 4, 3) := by decide +kernel
theorem dX3_ask_40 : decode cX3_ask 40 = .ok (.iconst 0, 1) := by decide +kernel
theorem dX3_ask_41 : decode cX3_ask 41 = .ok (.putfield 34, 3) := by decide +kernel
theorem dX3_ask_44 : decode cX3_ask 44 = .ok (.iconst 1, 1) := by decide +kernel
theorem dX3_ask_45 : decode cX3_ask 45 = .ok (.istore_n 2, 1) := by decide +kernel
theorem dX3_ask_46 : decode cX3_ask 46 = .ok (.iload_n 2, 1) := by decide +kernel
theorem dX3_ask_47 : decode cX3_ask 47 = .ok (.aload_n 0, 1) := by decide +kernel
theorem dX3_ask_48 : decode cX3_ask 48 = .ok (.getfield 18, 3) := by decide +kernel
theorem dX3_ask_51 : decode cX3_ask 51 = .ok (.getfield 37, 3) := by decide +kernel
theorem dX3_ask_54 : decode cX3_ask 54 = .ok (.if_icmp .gt 69, 3) := by decide +kernel
theorem dX3_ask_57 : decode cX3_ask 57 = .ok (.iconst 0, 1) := by decide +kernel
theorem dX3_ask_58 : decode cX3_ask 58 = .ok (.istore_n 3, 1) := by decide +kernel
theorem dX3_ask_59 : decode cX3_ask 59 = .ok (.iload_n 3, 1) := by decide +kernel
theorem dX3_ask_60 : decode cX3_ask 60 = .ok (.bipush 32, 2) := by decide +kernel
theorem dX3_ask_62 : decode cX3_ask 62 = .ok (.if_icmp .ge 55, 3) := by decide +kernel
theorem dX3_ask_65 : decode cX3_ask 65 = .ok (.aload_n 0, 1) := by decide +kernel
theorem dX3_ask_66 : decode cX3_ask 66 = .ok (.getfield 22, 3) := by decide +kernel
theorem dX3_ask_69 : decode cX3_ask 69 = .ok (.getfield 42, 3) := by decide +kernel
theorem dX3_ask_72 : decode cX3_ask 72 = .ok (.iload_n 3, 1) := by decide +kernel
theorem dX3_ask_73 : decode cX3_ask 73 = .ok (.aload_n 0, 1) := by decide +kernel
theorem dX3_ask_74 : decode cX3_ask 74 = .ok (.getfield 9, 3) := by decide +kernel
theorem dX3_ask_77 : decode cX3_ask 77 = .ok (.iload_n 2, 1) := by decide +kernel
theorem dX3_ask_78 : decode cX3_ask 78 = .ok (.iconst 1, 1) := by decide +kernel
theorem dX3_ask_79 : decode cX3_ask 79 = .ok (.isub, 1) := by decide +kernel
theorem dX3_ask_80 : decode cX3_ask 80 = .ok (.bipush 32, 2) := by decide +kernel
theorem dX3_ask_82 : decode cX3_ask 82 = .ok (.imul, 1) := by decide +kernel
theorem dX3_ask_83 : decode cX3_ask 83 = .ok (.aload_n 0, 1) := by decide +kernel
theorem dX3_ask_84 : decode cX3_ask 84 = .ok (.getfield 31, 3) := by decide +kernel
theorem dX3_ask_87 : decode cX3_ask 87 = .ok (.aload_n 0, 1) := by decide +kernel
theorem dX3_ask_88 : decode cX3_ask 88 = .ok (.getfield 34, 3) := by decide +kernel
theorem dX3_ask_91 : decode cX3_ask 91 = .ok (.invokevirtual 48, 3) := by decide +kernel
theorem dX3_ask_94 : decode cX3_ask 94 = .ok (.istore 4, 2) := by decide +kernel
theorem dX3_ask_96 : decode cX3_ask 96 = .ok (.aload_n 0, 1) := by decide +kernel
theorem dX3_ask_97 : decode cX3_ask 97 = .ok (.getfield 9, 3) := by decide +kernel
theorem dX3_ask_100 : decode cX3_ask 100 = .ok (.iload_n 2, 1) := by decide +kernel
theorem dX3_ask_101 : decode cX3_ask 101 = .ok (.bipush 32, 2) := by decide +kernel
theorem dX3_ask_103 : decode cX3_ask 103 = .ok (.imul, 1) := by decide +kernel
theorem dX3_ask_104 : decode cX3_ask 104 = .ok (.iload_n 3, 1) := by decide +kernel
theorem dX3_ask_105 : decode cX3_ask 105 = .ok (.iadd, 1) := by decide +kernel
theorem dX3_ask_106 : decode cX3_ask 106 = .ok (.iload 4, 2) := by decide +kernel
theorem dX3_ask_108 : decode cX3_ask 108 = .ok (.invokestatic 54, 3) := by decide +kernel
theorem dX3_ask_111 : decode cX3_ask 111 = .ok (.iinc 3 1, 3) := by decide +kernel
theorem dX3_ask_114 : decode cX3_ask 114 = .ok (.goto (-55), 3) := by decide +kernel
theorem dX3_ask_117 : decode cX3_ask 117 = .ok (.iinc 2 1, 3) := by decide +kernel
theorem dX3_ask_120 : decode cX3_ask 120 = .ok (.goto (-74), 3) := by decide +kernel
theorem dX3_ask_123 : decode cX3_ask 123 = .ok (.return_, 1) := by decide +kernel
theorem dX3_share_0 : decode cX3_share 0 = .ok (.aload_n 0, 1) := by decide +kernel
theorem dX3_share_1 : decode cX3_share 1 = .ok (.getfield 22, 3) := by decide +kernel
theorem dX3_share_4 : decode cX3_share 4 = .ok (.getfield 60, 3) := by decide +kernel
theorem dX3_share_7 : decode cX3_share 7 = .ok (.aload_n 0, 1) := by decide +kernel
theorem dX3_share_8 : decode cX3_share 8 = .ok (.getfield 18, 3) := by decide +kernel
theorem dX3_share_11 : decode cX3_share 11 = .ok (.getfield 37, 3) := by decide +kernel
theorem dX3_share_14 : decode cX3_share 14 = .ok (.invokestatic 63, 3) := by decide +kernel
theorem dX3_share_17 : decode cX3_share 17 = .ok (.istore_n 1, 1) := by decide +kernel
theorem dX3_share_18 : decode cX3_share 18 = .ok (.iload_n 1, 1) := by decide +kernel
theorem dX3_share_19 : decode cX3_share 19 = .ok (.ifCond .lt 42, 3) := by decide +kernel
theorem dX3_share_22 : decode cX3_share 22 = .ok (.iconst 0, 1) := by decide +kernel
theorem dX3_share_23 : decode cX3_share 23 = .ok (.istore_n 2, 1) := by decide +kernel
theorem dX3_share_24 : decode cX3_share 24 = .ok (.iload_n 2, 1) := by decide +kernel
theorem dX3_share_25 : decode cX3_share 25 = .ok (.bipush 32, 2) := by decide +kernel
theorem dX3_share_27 : decode cX3_share 27 = .ok (.if_icmp .ge 28, 3) := by decide +kernel
theorem dX3_share_30 : decode cX3_share 30 = .ok (.aload_n 0, 1) := by decide +kernel
theorem dX3_share_31 : decode cX3_share 31 = .ok (.getfield 15, 3) := by decide +kernel
theorem dX3_share_34 : decode cX3_share 34 = .ok (.iload_n 1, 1) := by decide +kernel
theorem dX3_share_35 : decode cX3_share 35 = .ok (.bipush 32, 2) := by decide +kernel
theorem dX3_share_37 : decode cX3_share 37 = .ok (.imul, 1) := by decide +kernel
theorem dX3_share_38 : decode cX3_share 38 = .ok (.iload_n 2, 1) := by decide +kernel
theorem dX3_share_39 : decode cX3_share 39 = .ok (.iadd, 1) := by decide +kernel
theorem dX3_share_40 : decode cX3_share 40 = .ok (.aload_n 0, 1) := by decide +kernel
theorem dX3_share_41 : decode cX3_share 41 = .ok (.iload_n 1, 1) := by decide +kernel
theorem dX3_share_42 : decode cX3_share 42 = .ok (.iload_n 2, 1) := by decide +kernel
theorem dX3_share_43 : decode cX3_share 43 = .ok (.invokevirtual 69, 3) := by decide +kernel
theorem dX3_share_46 : decode cX3_share 46 = .ok (.invokestatic 54, 3) := by decide +kernel
theorem dX3_share_49 : decode cX3_share 49 = .ok (.iinc 2 1, 3) := by decide +kernel
theorem dX3_share_52 : decode cX3_share 52 = .ok (.goto (-28), 3) := by decide +kernel
theorem dX3_share_55 : decode cX3_share 55 = .ok (.iinc 1 (-1), 3) := by decide +kernel
theorem dX3_share_58 : decode cX3_share 58 = .ok (.goto (-40), 3) := by decide +kernel
theorem dX3_share_61 : decode cX3_share 61 = .ok (.return_, 1) := by decide +kernel
theorem dX3_shareAt_0 : decode cX3_shareAt 0 = .ok (.aload_n 0, 1) := by decide +kernel
theorem dX3_shareAt_1 : decode cX3_shareAt 1 = .ok (.getfield 22, 3) := by decide +kernel
theorem dX3_shareAt_4 : decode cX3_shareAt 4 = .ok (.iload_n 1, 1) := by decide +kernel
theorem dX3_shareAt_5 : decode cX3_shareAt 5 = .ok (.iload_n 2, 1) := by decide +kernel
theorem dX3_shareAt_6 : decode cX3_shareAt 6 = .ok (.invokevirtual 72, 3) := by decide +kernel
theorem dX3_shareAt_9 : decode cX3_shareAt 9 = .ok (.istore_n 3, 1) := by decide +kernel
theorem dX3_shareAt_10 : decode cX3_shareAt 10 = .ok (.iload_n 3, 1) := by decide +kernel
theorem dX3_shareAt_11 : decode cX3_shareAt 11 = .ok (.ifCond .ne 8, 3) := by decide +kernel
theorem dX3_shareAt_14 : decode cX3_shareAt 14 = .ok (.aload_n 0, 1) := by decide +kernel
theorem dX3_shareAt_15 : decode cX3_shareAt 15 = .ok (.getfield 27, 3) := by decide +kernel
theorem dX3_shareAt_18 : decode cX3_shareAt 18 = .ok (.ireturn, 1) := by decide +kernel
theorem dX3_shareAt_19 : decode cX3_shareAt 19 = .ok (.aload_n 0, 1) := by decide +kernel
theorem dX3_shareAt_20 : decode cX3_shareAt 20 = .ok (.getfield 18, 3) := by decide +kernel
theorem dX3_shareAt_23 : decode cX3_shareAt 23 = .ok (.getfield 37, 3) := by decide +kernel
theorem dX3_shareAt_26 : decode cX3_shareAt 26 = .ok (.iload_n 1, 1) := by decide +kernel
theorem dX3_shareAt_27 : decode cX3_shareAt 27 = .ok (.isub, 1) := by decide +kernel
theorem dX3_shareAt_28 : decode cX3_shareAt 28 = .ok (.istore 4, 2) := by decide +kernel
theorem dX3_shareAt_30 : decode cX3_shareAt 30 = .ok (.iload_n 3, 1) := by decide +kernel
theorem dX3_shareAt_31 : decode cX3_shareAt 31 = .ok (.iconst 1, 1) := by decide +kernel
theorem dX3_shareAt_32 : decode cX3_shareAt 32 = .ok (.if_icmp .ne 18, 3) := by decide +kernel
theorem dX3_shareAt_35 : decode cX3_shareAt 35 = .ok (.aload_n 0, 1) := by decide +kernel
theorem dX3_shareAt_36 : decode cX3_shareAt 36 = .ok (.getfield 9, 3) := by decide +kernel
theorem dX3_shareAt_39 : decode cX3_shareAt 39 = .ok (.iload 4, 2) := by decide +kernel
theorem dX3_shareAt_41 : decode cX3_shareAt 41 = .ok (.bipush 32, 2) := by decide +kernel
theorem dX3_shareAt_43 : decode cX3_shareAt 43 = .ok (.imul, 1) := by decide +kernel
theorem dX3_shareAt_44 : decode cX3_shareAt 44 = .ok (.iload_n 2, 1) := by decide +kernel
theorem dX3_shareAt_45 : decode cX3_shareAt 45 = .ok (.iadd, 1) := by decide +kernel
theorem dX3_shareAt_46 : decode cX3_shareAt 46 = .ok (.invokestatic 75, 3) := by decide +kernel
theorem dX3_shareAt_49 : decode cX3_shareAt 49 = .ok (.ireturn, 1) := by decide +kernel
theorem dX3_shareAt_50 : decode cX3_shareAt 50 = .ok (.iload 4, 2) := by decide +kernel
theorem dX3_shareAt_52 : decode cX3_shareAt 52 = .ok (.ifCond .le 35, 3) := by decide +kernel
theorem dX3_shareAt_55 : decode cX3_shareAt 55 = .ok (.aload_n 0, 1) := by decide +kernel
theorem dX3_shareAt_56 : decode cX3_shareAt 56 = .ok (.getfield 22, 3) := by decide +kernel
theorem dX3_shareAt_59 : decode cX3_shareAt 59 = .ok (.getfield 42, 3) := by decide +kernel
theorem dX3_shareAt_62 : decode cX3_shareAt 62 = .ok (.iload_n 2, 1) := by decide +kernel
theorem dX3_shareAt_63 : decode cX3_shareAt 63 = .ok (.aload_n 0, 1) := by decide +kernel
theorem dX3_shareAt_64 : decode cX3_shareAt 64 = .ok (.getfield 15, 3) := by decide +kernel
theorem dX3_shareAt_67 : decode cX3_shareAt 67 = .ok (.iload_n 1, 1) := by decide +kernel
theorem dX3_shareAt_68 : decode cX3_shareAt 68 = .ok (.iconst 1, 1) := by decide +kernel
theorem dX3_shareAt_69 : decode cX3_shareAt 69 = .ok (.iadd, 1) := by decide +kernel
theorem dX3_shareAt_70 : decode cX3_shareAt 70 = .ok (.bipush 32, 2) := by decide +kernel
theorem dX3_shareAt_72 : decode cX3_shareAt 72 = .ok (.imul, 1) := by decide +kernel
theorem dX3_shareAt_73 : decode cX3_shareAt 73 = .ok (.aload_n 0, 1) := by decide +kernel
theorem dX3_shareAt_74 : decode cX3_shareAt 74 = .ok (.getfield 31, 3) := by decide +kernel
theorem dX3_shareAt_77 : decode cX3_shareAt 77 = .ok (.aload_n 0, 1) := by decide +kernel
theorem dX3_shareAt_78 : decode cX3_shareAt 78 = .ok (.getfield 27, 3) := by decide +kernel
theorem dX3_shareAt_81 : decode cX3_shareAt 81 = .ok (.invokevirtual 48, 3) := by decide +kernel
theorem dX3_shareAt_84 : decode cX3_shareAt 84 = .ok (.goto 4, 3) := by decide +kernel
theorem dX3_shareAt_87 : decode cX3_shareAt 87 = .ok (.iconst 0, 1) := by decide +kernel
theorem dX3_shareAt_88 : decode cX3_shareAt 88 = .ok (.ireturn, 1) := by decide +kernel
theorem dX3_shareFrom_0 : decode cX3_shareFrom 0 = .ok (.aload_n 0, 1) := by decide +kernel
theorem dX3_shareFrom_1 : decode cX3_shareFrom 1 = .ok (.getfield 15, 3) := by decide +kernel
theorem dX3_shareFrom_4 : decode cX3_shareFrom 4 = .ok (.iload_n 1, 1) := by decide +kernel
theorem dX3_shareFrom_5 : decode cX3_shareFrom 5 = .ok (.invokestatic 75, 3) := by decide +kernel
theorem dX3_shareFrom_8 : decode cX3_shareFrom 8 = .ok (.ireturn, 1) := by decide +kernel
theorem dX3_draw_0 : decode cX3_draw 0 = .ok (.aload_n 0, 1) := by decide +kernel
theorem dX3_draw_1 : decode cX3_draw 1 = .ok (.ldc 79, 2) := by decide +kernel
theorem dX3_draw_3 : decode cX3_draw 3 = .ok (.aload_n 0, 1) := by decide +kernel
theorem dX3_draw_4 : decode cX3_draw 4 = .ok (.getfield 80, 3) := by decide +kernel
theorem dX3_draw_7 : decode cX3_draw 7 = .ok (.imul, 1) := by decide +kernel
theorem dX3_draw_8 : decode cX3_draw 8 = .ok (.sipush 12345, 3) := by decide +kernel
theorem dX3_draw_11 : decode cX3_draw 11 = .ok (.iadd, 1) := by decide +kernel
theorem dX3_draw_12 : decode cX3_draw 12 = .ok (.putfield 80, 3) := by decide +kernel
theorem dX3_draw_15 : decode cX3_draw 15 = .ok (.aload_n 0, 1) := by decide +kernel
theorem dX3_draw_16 : decode cX3_draw 16 = .ok (.getfield 80, 3) := by decide +kernel
theorem dX3_draw_19 : decode cX3_draw 19 = .ok (.bipush 16, 2) := by decide +kernel
theorem dX3_draw_21 : decode cX3_draw 21 = .ok (.iushr, 1) := by decide +kernel
theorem dX3_draw_22 : decode cX3_draw 22 = .ok (.sipush 32767, 3) := by decide +kernel
theorem dX3_draw_25 : decode cX3_draw 25 = .ok (.iand, 1) := by decide +kernel
theorem dX3_draw_26 : decode cX3_draw 26 = .ok (.istore_n 2, 1) := by decide +kernel
theorem dX3_draw_27 : decode cX3_draw 27 = .ok (.iload_n 1, 1) := by decide +kernel
theorem dX3_draw_28 : decode cX3_draw 28 = .ok (.ifCond .le 9, 3) := by decide +kernel
theorem dX3_draw_31 : decode cX3_draw 31 = .ok (.iload_n 2, 1) := by decide +kernel
theorem dX3_draw_32 : decode cX3_draw 32 = .ok (.iload_n 1, 1) := by decide +kernel
theorem dX3_draw_33 : decode cX3_draw 33 = .ok (.irem, 1) := by decide +kernel
theorem dX3_draw_34 : decode cX3_draw 34 = .ok (.goto 4, 3) := by decide +kernel
theorem dX3_draw_37 : decode cX3_draw 37 = .ok (.iconst 0, 1) := by decide +kernel
theorem dX3_draw_38 : decode cX3_draw 38 = .ok (.ireturn, 1) := by decide +kernel
theorem dX3_playFrom_0 : decode cX3_playFrom 0 = .ok (.iload_n 1, 1) := by decide +kernel
theorem dX3_playFrom_1 : decode cX3_playFrom 1 = .ok (.istore_n 2, 1) := by decide +kernel
theorem dX3_playFrom_2 : decode cX3_playFrom 2 = .ok (.iconst 1, 1) := by decide +kernel
theorem dX3_playFrom_3 : decode cX3_playFrom 3 = .ok (.istore_n 3, 1) := by decide +kernel
theorem dX3_playFrom_4 : decode cX3_playFrom 4 = .ok (.aload_n 0, 1) := by decide +kernel
theorem dX3_playFrom_5 : decode cX3_playFrom 5 = .ok (.iconst 3, 1) := by decide +kernel
theorem dX3_playFrom_6 : decode cX3_playFrom 6 = .ok (.putfield 83, 3) := by decide +kernel
theorem dX3_playFrom_9 : decode cX3_playFrom 9 = .ok (.iconst 0, 1) := by decide +kernel
theorem dX3_playFrom_10 : decode cX3_playFrom 10 = .ok (.istore 4, 2) := by decide +kernel
theorem dX3_playFrom_12 : decode cX3_playFrom 12 = .ok (.iload 4, 2) := by decide +kernel
theorem dX3_playFrom_14 : decode cX3_playFrom 14 = .ok (.aload_n 0, 1) := by decide +kernel
theorem dX3_playFrom_15 : decode cX3_playFrom 15 = .ok (.getfield 18, 3) := by decide +kernel
theorem dX3_playFrom_18 : decode cX3_playFrom 18 = .ok (.getfield 37, 3) := by decide +kernel
theorem dX3_playFrom_21 : decode cX3_playFrom 21 = .ok (.if_icmp .gt 127, 3) := by decide +kernel
theorem dX3_playFrom_24 : decode cX3_playFrom 24 = .ok (.aload_n 0, 1) := by decide +kernel
theorem dX3_playFrom_25 : decode cX3_playFrom 25 = .ok (.iload 4, 2) := by decide +kernel
theorem dX3_playFrom_27 : decode cX3_playFrom 27 = .ok (.putfield 86, 3) := by decide +kernel
theorem dX3_playFrom_30 : decode cX3_playFrom 30 = .ok (.iload_n 3, 1) := by decide +kernel
theorem dX3_playFrom_31 : decode cX3_playFrom 31 = .ok (.ifCond .eq 16, 3) := by decide +kernel
theorem dX3_playFrom_34 : decode cX3_playFrom 34 = .ok (.aload_n 0, 1) := by decide +kernel
theorem dX3_playFrom_35 : decode cX3_playFrom 35 = .ok (.getfield 22, 3) := by decide +kernel
theorem dX3_playFrom_38 : decode cX3_playFrom 38 = .ok (.iload 4, 2) := by decide +kernel
theorem dX3_playFrom_40 : decode cX3_playFrom 40 = .ok (.iload_n 2, 1) := by decide +kernel
theorem dX3_playFrom_41 : decode cX3_playFrom 41 = .ok (.invokevirtual 72, 3) := by decide +kernel
theorem dX3_playFrom_44 : decode cX3_playFrom 44 = .ok (.goto 4, 3) := by decide +kernel
theorem dX3_playFrom_47 : decode cX3_playFrom 47 = .ok (.iconst 1, 1) := by decide +kernel
theorem dX3_playFrom_48 : decode cX3_playFrom 48 = .ok (.istore 5, 2) := by decide +kernel
theorem dX3_playFrom_50 : decode cX3_playFrom 50 = .ok (.iload 5, 2) := by decide +kernel
theorem dX3_playFrom_52 : decode cX3_playFrom 52 = .ok (.ifCond .ne 9, 3) := by decide +kernel
theorem dX3_playFrom_55 : decode cX3_playFrom 55 = .ok (.aload_n 0, 1) := by decide +kernel
theorem dX3_playFrom_56 : decode cX3_playFrom 56 = .ok (.iconst 0, 1) := by decide +kernel
theorem dX3_playFrom_57 : decode cX3_playFrom 57 = .ok (.putfield 83, 3) := by decide +kernel
theorem dX3_playFrom_60 : decode cX3_playFrom 60 = .ok (.return_, 1) := by decide +kernel
theorem dX3_playFrom_61 : decode cX3_playFrom 61 = .ok (.iload 5, 2) := by decide +kernel
theorem dX3_playFrom_63 : decode cX3_playFrom 63 = .ok (.iconst 2, 1) := by decide +kernel
theorem dX3_playFrom_64 : decode cX3_playFrom 64 = .ok (.if_icmp .ne 7, 3) := by decide +kernel
theorem dX3_playFrom_67 : decode cX3_playFrom 67 = .ok (.iconst 1, 1) := by decide +kernel
theorem dX3_playFrom_68 : decode cX3_playFrom 68 = .ok (.goto 4, 3) := by decide +kernel
theorem dX3_playFrom_71 : decode cX3_playFrom 71 = .ok (.iconst 0, 1) := by decide +kernel
theorem dX3_playFrom_72 : decode cX3_playFrom 72 = .ok (.istore_n 3, 1) := by decide +kernel
theorem dX3_playFrom_73 : decode cX3_playFrom 73 = .ok (.iload 4, 2) := by decide +kernel
theorem dX3_playFrom_75 : decode cX3_playFrom 75 = .ok (.aload_n 0, 1) := by decide +kernel
theorem dX3_playFrom_76 : decode cX3_playFrom 76 = .ok (.getfield 18, 3) := by decide +kernel
theorem dX3_playFrom_79 : decode cX3_playFrom 79 = .ok (.getfield 37, 3) := by decide +kernel
theorem dX3_playFrom_82 : decode cX3_playFrom 82 = .ok (.if_icmp .ne 4, 3) := by decide +kernel
theorem dX3_playFrom_85 : decode cX3_playFrom 85 = .ok (.return_, 1) := by decide +kernel
theorem dX3_playFrom_86 : decode cX3_playFrom 86 = .ok (.aload_n 0, 1) := by decide +kernel
theorem dX3_playFrom_87 : decode cX3_playFrom 87 = .ok (.getfield 22, 3) := by decide +kernel
theorem dX3_playFrom_90 : decode cX3_playFrom 90 = .ok (.getfield 42, 3) := by decide +kernel
theorem dX3_playFrom_93 : decode cX3_playFrom 93 = .ok (.iload_n 2, 1) := by decide +kernel
theorem dX3_playFrom_94 : decode cX3_playFrom 94 = .ok (.aload_n 0, 1) := by decide +kernel
theorem dX3_playFrom_95 : decode cX3_playFrom 95 = .ok (.bipush 100, 2) := by decide +kernel
theorem dX3_playFrom_97 : decode cX3_playFrom 97 = .ok (.invokevirtual 89, 3) := by decide +kernel
theorem dX3_playFrom_100 : decode cX3_playFrom 100 = .ok (.invokevirtual 93, 3) := by decide +kernel
theorem dX3_playFrom_103 : decode cX3_playFrom 103 = .ok (.istore_n 2, 1) := by decide +kernel
theorem dX3_playFrom_104 : decode cX3_playFrom 104 = .ok (.iload_n 2, 1) := by decide +kernel
theorem dX3_playFrom_105 : decode cX3_playFrom 105 = .ok (.bipush 32, 2) := by decide +kernel
theorem dX3_playFrom_107 : decode cX3_playFrom 107 = .ok (.if_icmp .lt 35, 3) := by decide +kernel
theorem dX3_playFrom_110 : decode cX3_playFrom 110 = .ok (.aload_n 0, 1) := by decide +kernel
theorem dX3_playFrom_111 : decode cX3_playFrom 111 = .ok (.iload 4, 2) := by decide +kernel
theorem dX3_playFrom_113 : decode cX3_playFrom 113 = .ok (.iconst 1, 1) := by decide +kernel
theorem dX3_playFrom_114 : decode cX3_playFrom 114 = .ok (.iadd, 1) := by decide +kernel
theorem dX3_playFrom_115 : decode cX3_playFrom 115 = .ok (.putfield 86, 3) := by decide +kernel
theorem dX3_playFrom_118 : decode cX3_playFrom 118 = .ok (.aload_n 0, 1) := by decide +kernel
theorem dX3_playFrom_119 : decode cX3_playFrom 119 = .ok (.iload_n 2, 1) := by decide +kernel
theorem dX3_playFrom_120 : decode cX3_playFrom 120 = .ok (.bipush 32, 2) := by decide +kernel
theorem dX3_playFrom_122 : decode cX3_playFrom 122 = .ok (.if_icmp .ne 7, 3) := by decide +kernel
theorem dX3_playFrom_125 : decode cX3_playFrom 125 = .ok (.iconst 1, 1) := by decide +kernel
theorem dX3_playFrom_126 : decode cX3_playFrom 126 = .ok (.goto 12, 3) := by decide +kernel
theorem dX3_playFrom_129 : decode cX3_playFrom 129 = .ok (.iload_n 3, 1) := by decide +kernel
theorem dX3_playFrom_130 : decode cX3_playFrom 130 = .ok (.ifCond .eq 7, 3) := by decide +kernel
theorem dX3_playFrom_133 : decode cX3_playFrom 133 = .ok (.iconst 0, 1) := by decide +kernel
theorem dX3_playFrom_134 : decode cX3_playFrom 134 = .ok (.goto 4, 3) := by decide +kernel
theorem dX3_playFrom_137 : decode cX3_playFrom 137 = .ok (.iconst 2, 1) := by decide +kernel
theorem dX3_playFrom_138 : decode cX3_playFrom 138 = .ok (.putfield 83, 3) := by decide +kernel
theorem dX3_playFrom_141 : decode cX3_playFrom 141 = .ok (.return_, 1) := by decide +kernel
theorem dX3_playFrom_142 : decode cX3_playFrom 142 = .ok (.iinc 4 1, 3) := by decide +kernel
theorem dX3_playFrom_145 : decode cX3_playFrom 145 = .ok (.goto (-133), 3) := by decide +kernel
theorem dX3_playFrom_148 : decode cX3_playFrom 148 = .ok (.return_, 1) := by decide +kernel
theorem dX4_init_0 : decode cX4_init 0 = .ok (.aload_n 0, 1) := by decide +kernel
theorem dX4_init_1 : decode cX4_init 1 = .ok (.invokespecial 3, 3) := by decide +kernel
theorem dX4_init_4 : decode cX4_init 4 = .ok (.aload_n 0, 1) := by decide +kernel
theorem dX4_init_5 : decode cX4_init 5 = .ok (.sipush 192, 3) := by decide +kernel
theorem dX4_init_8 : decode cX4_init 8 = .ok (.newarray .int, 2) := by decide +kernel
theorem dX4_init_10 : decode cX4_init 10 = .ok (.putfield 9, 3) := by decide +kernel
theorem dX4_init_13 : decode cX4_init 13 = .ok (.aload_n 0, 1) := by decide +kernel
theorem dX4_init_14 : decode cX4_init 14 = .ok (.sipush 192, 3) := by decide +kernel
theorem dX4_init_17 : decode cX4_init 17 = .ok (.newarray .int, 2) := by decide +kernel
theorem dX4_init_19 : decode cX4_init 19 = .ok (.putfield 15, 3) := by decide +kernel
theorem dX4_init_22 : decode cX4_init 22 = .ok (.aload_n 0, 1) := by decide +kernel
theorem dX4_init_23 : decode cX4_init 23 = .ok (.sipush 192, 3) := by decide +kernel
theorem dX4_init_26 : decode cX4_init 26 = .ok (.newarray .int, 2) := by decide +kernel
theorem dX4_init_28 : decode cX4_init 28 = .ok (.putfield 18, 3) := by decide +kernel
theorem dX4_init_31 : decode cX4_init 31 = .ok (.aload_n 0, 1) := by decide +kernel
theorem dX4_init_32 : decode cX4_init 32 = .ok (.aload_n 1, 1) := by decide +kernel
theorem dX4_init_33 : decode cX4_init 33 = .ok (.putfield 21, 3) := by decide +kernel
theorem dX4_init_36 : decode cX4_init 36 = .ok (.aload_n 0, 1) := by decide +kernel
theorem dX4_init_37 : decode cX4_init 37 = .ok (.aload_n 2, 1) := by decide +kernel
theorem dX4_init_38 : decode cX4_init 38 = .ok (.putfield 25, 3) := by decide +kernel
theorem dX4_init_41 : decode cX4_init 41 = .ok (.return_, 1) := by decide +kernel
theorem dX4_begin_0 : decode cX4_begin 0 = .ok (.aload_n 0, 1) := by decide +kernel
theorem dX4_begin_1 : decode cX4_begin 1 = .ok (.getfield 21, 3) := by decide +kernel
theorem dX4_begin_4 : decode cX4_begin 4 = .ok (.getfield 29, 3) := by decide +kernel
theorem dX4_begin_7 : decode cX4_begin 7 = .ok (.aload_n 0, 1) := by decide +kernel
theorem dX4_begin_8 : decode cX4_begin 8 = .ok (.getfield 9, 3) := by decide +kernel
theorem dX4_begin_11 : decode cX4_begin 11 = .ok (.invokestatic 34, 3) := by decide +kernel
theorem dX4_begin_14 : decode cX4_begin 14 = .ok (.iconst 0, 1) := by decide +kernel
theorem dX4_begin_15 : decode cX4_begin 15 = .ok (.istore_n 1, 1) := by decide +kernel
theorem dX4_begin_16 : decode cX4_begin 16 = .ok (.iload_n 1, 1) := by decide +kernel
theorem dX4_begin_17 : decode cX4_begin 17 = .ok (.sipush 192, 3) := by decide +kernel
theorem dX4_begin_20 : decode cX4_begin 20 = .ok (.if_icmp .ge 28, 3) := by decide +kernel
theorem dX4_begin_23 : decode cX4_begin 23 = .ok (.aload_n 0, 1) := by decide +kernel
theorem dX4_begin_24 : decode cX4_begin 24 = .ok (.getfield 15, 3) := by decide +kernel
theorem dX4_begin_27 : decode cX4_begin 27 = .ok (.iload_n 1, 1) := by decide +kernel
theorem dX4_begin_28 : decode cX4_begin 28 = .ok (.iconst (-1), 1) := by decide +kernel
theorem dX4_begin_29 : decode cX4_begin 29 = .ok (.invokestatic 40, 3) := by decide +kernel
theorem dX4_begin_32 : decode cX4_begin 32 = .ok (.aload_n 0, 1) := by decide +kernel
theorem dX4_begin_33 : decode cX4_begin 33 = .ok (.getfield 18, 3) := by decide +kernel
theorem dX4_begin_36 : decode cX4_begin 36 = .ok (.iload_n 1, 1) := by decide +kernel
theorem dX4_begin_37 : decode cX4_begin 37 = .ok (.ldc 44, 2) := by decide +kernel
theorem dX4_begin_39 : decode cX4_begin 39 = .ok (.invokestatic 40, 3) := by decide +kernel
theorem dX4_begin_42 : decode cX4_begin 42 = .ok (.iinc 1 1, 3) := by decide +kernel
theorem dX4_begin_45 : decode cX4_begin 45 = .ok (.goto (-29), 3) := by decide +kernel
theorem dX4_begin_48 : decode cX4_begin 48 = .ok (.return_, 1) := by decide +kernel
theorem dX4_undo_0 : decode cX4_undo 0 = .ok (.aload_n 0, 1) := by decide +kernel
theorem dX4_undo_1 : decode cX4_undo 1 = .ok (.getfield 9, 3) := by decide +kernel
theorem dX4_undo_4 : decode cX4_undo 4 = .ok (.aload_n 0, 1) := by decide +kernel
theorem dX4_undo_5 : decode cX4_undo 5 = .ok (.getfield 21, 3) := by decide +kernel
theorem dX4_undo_8 : decode cX4_undo 8 = .ok (.getfield 29, 3) := by decide +kernel
theorem dX4_undo_11 : decode cX4_undo 11 = .ok (.invokestatic 34, 3) := by decide +kernel
theorem dX4_undo_14 : decode cX4_undo 14 = .ok (.return_, 1) := by decide +kernel
theorem dX4_roundChanges_0 : decode cX4_roundChanges 0 = .ok (.iconst 0, 1) := by decide +kernel
theorem dX4_roundChanges_1 : decode cX4_roundChanges 1 = .ok (.istore_n 1, 1) := by decide +kernel
theorem dX4_roundChanges_2 : decode cX4_roundChanges 2 = .ok (.iconst 0, 1) := by decide +kernel
theorem dX4_roundChanges_3 : decode cX4_roundChanges 3 = .ok (.istore_n 2, 1) := by decide +kernel
theorem dX4_roundChanges_4 : decode cX4_roundChanges 4 = .ok (.iload_n 2, 1) := by decide +kernel
theorem dX4_roundChanges_5 : decode cX4_roundChanges 5 = .ok (.aload_n 0, 1) := by decide +kernel
theorem dX4_roundChanges_6 : decode cX4_roundChanges 6 = .ok (.getfield 21, 3) := by decide +kernel
theorem dX4_roundChanges_9 : decode cX4_roundChanges 9 = .ok (.getfield 45, 3) := by decide +kernel
theorem dX4_roundChanges_12 : decode cX4_roundChanges 12 = .ok (.if_icmp .ge 93, 3) := by decide +kernel
theorem dX4_roundChanges_15 : decode cX4_roundChanges 15 = .ok (.iconst 0, 1) := by decide +kernel
theorem dX4_roundChanges_16 : decode cX4_roundChanges 16 = .ok (.istore_n 3, 1) := by decide +kernel
theorem dX4_roundChanges_17 : decode cX4_roundChanges 17 = .ok (.iload_n 3, 1) := by decide +kernel
theorem dX4_roundChanges_18 : decode cX4_roundChanges 18 = .ok (.bipush 32, 2) := by decide +kernel
theorem dX4_roundChanges_20 : decode cX4_roundChanges 20 = .ok (.if_icmp .ge 79, 3) := by decide +kernel
theorem dX4_roundChanges_23 : decode cX4_roundChanges 23 = .ok (.aload_n 0, 1) := by decide +kernel
theorem dX4_roundChanges_24 : decode cX4_roundChanges 24 = .ok (.getfield 21, 3) := by decide +kernel
theorem dX4_roundChanges_27 : decode cX4_roundChanges 27 = .ok (.iload_n 2, 1) := by decide +kernel
theorem dX4_roundChanges_28 : decode cX4_roundChanges 28 = .ok (.iload_n 3, 1) := by decide +kernel
theorem dX4_roundChanges_29 : decode cX4_roundChanges 29 = .ok (.invokevirtual 49, 3) := by decide +kernel
theorem dX4_roundChanges_32 : decode cX4_roundChanges 32 = .ok (.istore 4, 2) := by decide +kernel
theorem dX4_roundChanges_34 : decode cX4_roundChanges 34 = .ok (.iload 4, 2) := by decide +kernel
theorem dX4_roundChanges_36 : decode cX4_roundChanges 36 = .ok (.ifCond .le 57, 3) := by decide +kernel
theorem dX4_roundChanges_39 : decode cX4_roundChanges 39 = .ok (.aload_n 0, 1) := by decide +kernel
theorem dX4_roundChanges_40 : decode cX4_roundChanges 40 = .ok (.iload_n 2, 1) := by decide +kernel
theorem dX4_roundChanges_41 : decode cX4_roundChanges 41 = .ok (.iload_n 3, 1) := by decide +kernel
theorem dX4_roundChanges_42 : decode cX4_roundChanges 42 = .ok (.invokevirtual 53, 3) := by decide +kernel
theorem dX4_roundChanges_45 : decode cX4_roundChanges 45 = .ok (.ifCond .eq 16, 3) := by decide +kernel
theorem dX4_roundChanges_48 : decode cX4_roundChanges 48 = .ok (.sipush 999, 3) := by decide +kernel
theorem dX4_roundChanges_51 : decode cX4_roundChanges 51 = .ok (.iload 4, 2) := by decide +kernel
theorem dX4_roundChanges_53 : decode cX4_roundChanges 53 = .ok (.iconst 1, 1) := by decide +kernel
theorem dX4_roundChanges_54 : decode cX4_roundChanges 54 = .ok (.iadd, 1) := by decide +kernel
theorem dX4_roundChanges_55 : decode cX4_roundChanges 55 = .ok (.invokestatic 57, 3) := by decide +kernel
theorem dX4_roundChanges_58 : decode cX4_roundChanges 58 = .ok (.goto 7, 3) := by decide +kernel
theorem dX4_roundChanges_61 : decode cX4_roundChanges 61 = .ok (.iload 4, 2) := by decide +kernel
theorem dX4_roundChanges_63 : decode cX4_roundChanges 63 = .ok (.iconst 1, 1) := by decide +kernel
theorem dX4_roundChanges_64 : decode cX4_roundChanges 64 = .ok (.isub, 1) := by decide +kernel
theorem dX4_roundChanges_65 : decode cX4_roundChanges 65 = .ok (.istore 5, 2) := by decide +kernel
theorem dX4_roundChanges_67 : decode cX4_roundChanges 67 = .ok (.aload_n 0, 1) := by decide +kernel
theorem dX4_roundChanges_68 : decode cX4_roundChanges 68 = .ok (.getfield 21, 3) := by decide +kernel
theorem dX4_roundChanges_71 : decode cX4_roundChanges 71 = .ok (.iload_n 2, 1) := by decide +kernel
theorem dX4_roundChanges_72 : decode cX4_roundChanges 72 = .ok (.iload_n 3, 1) := by decide +kernel
theorem dX4_roundChanges_73 : decode cX4_roundChanges 73 = .ok (.iload 5, 2) := by decide +kernel
theorem dX4_roundChanges_75 : decode cX4_roundChanges 75 = .ok (.invokevirtual 62, 3) := by decide +kernel
theorem dX4_roundChanges_78 : decode cX4_roundChanges 78 = .ok (.iload_n 1, 1) := by decide +kernel
theorem dX4_roundChanges_79 : decode cX4_roundChanges 79 = .ok (.iload 5, 2) := by decide +kernel
theorem dX4_roundChanges_81 : decode cX4_roundChanges 81 = .ok (.iload 4, 2) := by decide +kernel
theorem dX4_roundChanges_83 : decode cX4_roundChanges 83 = .ok (.if_icmp .eq 7, 3) := by decide +kernel
theorem dX4_roundChanges_86 : decode cX4_roundChanges 86 = .ok (.iconst 1, 1) := by decide +kernel
theorem dX4_roundChanges_87 : decode cX4_roundChanges 87 = .ok (.goto 4, 3) := by decide +kernel
theorem dX4_roundChanges_90 : decode cX4_roundChanges 90 = .ok (.iconst 0, 1) := by decide +kernel
theorem dX4_roundChanges_91 : decode cX4_roundChanges 91 = .ok (.ior, 1) := by decide +kernel
theorem dX4_roundChanges_92 : decode cX4_roundChanges 92 = .ok (.istore_n 1, 1) := by decide +kernel
theorem dX4_roundChanges_93 : decode cX4_roundChanges 93 = .ok (.iinc 3 1, 3) := by decide +kernel
theorem dX4_roundChanges_96 : decode cX4_roundChanges 96 = .ok (.goto (-79), 3) := by decide +kernel
theorem dX4_roundChanges_99 : decode cX4_roundChanges 99 = .ok (.iinc 2 1, 3) := by decide +kernel
theorem dX4_roundChanges_102 : decode cX4_roundChanges 102 = .ok (.goto (-98), 3) := by decide +kernel
theorem dX4_roundChanges_105 : decode cX4_roundChanges 105 = .ok (.iload_n 1, 1) := by decide +kernel
theorem dX4_roundChanges_106 : decode cX4_roundChanges 106 = .ok (.ireturn, 1) := by decide +kernel
theorem dX4_isWorthIt_0 : decode cX4_isWorthIt 0 = .ok (.aload_n 0, 1) := by decide +kernel
theorem dX4_isWorthIt_1 : decode cX4_isWorthIt 1 = .ok (.getfield 21, 3) := by decide +kernel
theorem dX4_isWorthIt_4 : decode cX4_isWorthIt 4 = .ok (.iload_n 1, 1) := by decide +kernel
theorem dX4_isWorthIt_5 : decode cX4_isWorthIt 5 = .ok (.invokevirtual 66, 3) := by decide +kernel
theorem dX4_isWorthIt_8 : decode cX4_isWorthIt 8 = .ok (.istore_n 3, 1) := by decide +kernel
theorem dX4_isWorthIt_9 : decode cX4_isWorthIt 9 = .ok (.bipush 32, 2) := by decide +kernel
theorem dX4_isWorthIt_11 : decode cX4_isWorthIt 11 = .ok (.iload_n 1, 1) := by decide +kernel
theorem dX4_isWorthIt_12 : decode cX4_isWorthIt 12 = .ok (.imul, 1) := by decide +kernel
theorem dX4_isWorthIt_13 : decode cX4_isWorthIt 13 = .ok (.iload_n 2, 1) := by decide +kernel
theorem dX4_isWorthIt_14 : decode cX4_isWorthIt 14 = .ok (.iadd, 1) := by decide +kernel
theorem dX4_isWorthIt_15 : decode cX4_isWorthIt 15 = .ok (.istore 4, 2) := by decide +kernel
theorem dX4_isWorthIt_17 : decode cX4_isWorthIt 17 = .ok (.iload_n 3, 1) := by decide +kernel
theorem dX4_isWorthIt_18 : decode cX4_isWorthIt 18 = .ok (.aload_n 0, 1) := by decide +kernel
theorem dX4_isWorthIt_19 : decode cX4_isWorthIt 19 = .ok (.getfield 15, 3) := by decide +kernel
theorem dX4_isWorthIt_22 : decode cX4_isWorthIt 22 = .ok (.iload 4, 2) := by decide +kernel
theorem dX4_isWorthIt_24 : decode cX4_isWorthIt 24 = .ok (.invokestatic 70, 3) := by decide +kernel
theorem dX4_isWorthIt_27 : decode cX4_isWorthIt 27 = .ok (.if_icmp .gt 5, 3) := by decide +kernel
theorem dX4_isWorthIt_30 : decode cX4_isWorthIt 30 = .ok (.iconst 1, 1) := by decide +kernel
theorem dX4_isWorthIt_31 : decode cX4_isWorthIt 31 = .ok (.ireturn, 1) := by decide +kernel
theorem dX4_isWorthIt_32 : decode cX4_isWorthIt 32 = .ok (.iload_n 3, 1) := by decide +kernel
theorem dX4_isWorthIt_33 : decode cX4_isWorthIt 33 = .ok (.aload_n 0, 1) := by decide +kernel
theorem dX4_isWorthIt_34 : decode cX4_isWorthIt 34 = .ok (.getfield 18, 3) := by decide +kernel
theorem dX4_isWorthIt_37 : decode cX4_isWorthIt 37 = .ok (.iload 4, 2) := by decide +kernel
theorem dX4_isWorthIt_39 : decode cX4_isWorthIt 39 = .ok (.invokestatic 70, 3) := by decide +kernel
theorem dX4_isWorthIt_42 : decode cX4_isWorthIt 42 = .ok (.if_icmp .lt 5, 3) := by decide +kernel
theorem dX4_isWorthIt_45 : decode cX4_isWorthIt 45 = .ok (.iconst 0, 1) := by decide +kernel
theorem dX4_isWorthIt_46 : decode cX4_isWorthIt 46 = .ok (.ireturn, 1) := by decide +kernel
theorem dX4_isWorthIt_47 : decode cX4_isWorthIt 47 = .ok (.aload_n 0, 1) := by decide +kernel
theorem dX4_isWorthIt_48 : decode cX4_isWorthIt 48 = .ok (.getfield 25, 3) := by decide +kernel
theorem dX4_isWorthIt_51 : decode cX4_isWorthIt 51 = .ok (.iload_n 1, 1) := by decide +kernel
theorem dX4_isWorthIt_52 : decode cX4_isWorthIt 52 = .ok (.iload_n 2, 1) := by decide +kernel
theorem dX4_isWorthIt_53 : decode cX4_isWorthIt 53 = .ok (.iconst 4, 1) := by decide +kernel
theorem dX4_isWorthIt_54 : decode cX4_isWorthIt 54 = .ok (.idiv, 1) := by decide +kernel
theorem dX4_isWorthIt_55 : decode cX4_isWorthIt 55 = .ok (.iload_n 3, 1) := by decide +kernel
theorem dX4_isWorthIt_56 : decode cX4_isWorthIt 56 = .ok (.invokevirtual 74, 3) := by decide +kernel
theorem dX4_isWorthIt_59 : decode cX4_isWorthIt 59 = .ok (.aload_n 0, 1) := by decide +kernel
theorem dX4_isWorthIt_60 : decode cX4_isWorthIt 60 = .ok (.getfield 25, 3) := by decide +kernel
theorem dX4_isWorthIt_63 : decode cX4_isWorthIt 63 = .ok (.iload_n 2, 1) := by decide +kernel
theorem dX4_isWorthIt_64 : decode cX4_isWorthIt 64 = .ok (.invokevirtual 79, 3) := by decide +kernel
theorem dX4_isWorthIt_67 : decode cX4_isWorthIt 67 = .ok (.ifCond .le 7, 3) := by decide +kernel
theorem dX4_isWorthIt_70 : decode cX4_isWorthIt 70 = .ok (.iconst 1, 1) := by decide +kernel
theorem dX4_isWorthIt_71 : decode cX4_isWorthIt 71 = .ok (.goto 4, 3) := by decide +kernel
theorem dX4_isWorthIt_74 : decode cX4_isWorthIt 74 = .ok (.iconst 0, 1) := by decide +kernel
theorem dX4_isWorthIt_75 : decode cX4_isWorthIt 75 = .ok (.istore 5, 2) := by decide +kernel
theorem dX4_isWorthIt_77 : decode cX4_isWorthIt 77 = .ok (.iload 5, 2) := by decide +kernel
theorem dX4_isWorthIt_79 : decode cX4_isWorthIt 79 = .ok (.ifCond .eq 10, 3) := by decide +kernel
theorem dX4_isWorthIt_82 : decode cX4_isWorthIt 82 = .ok (.aload_n 0, 1) := by decide +kernel
theorem dX4_isWorthIt_83 : decode cX4_isWorthIt 83 = .ok (.getfield 15, 3) := by decide +kernel
theorem dX4_isWorthIt_86 : decode cX4_isWorthIt 86 = .ok (.goto 7, 3) := by decide +kernel
theorem dX4_isWorthIt_89 : decode cX4_isWorthIt 89 = .ok (.aload_n 0, 1) := by decide +kernel
theorem dX4_isWorthIt_90 : decode cX4_isWorthIt 90 = .ok (.getfield 18, 3) := by decide +kernel
theorem dX4_isWorthIt_93 : decode cX4_isWorthIt 93 = .ok (.iload 4, 2) := by decide +kernel
theorem dX4_isWorthIt_95 : decode cX4_isWorthIt 95 = .ok (.iload_n 3, 1) := by decide +kernel
theorem dX4_isWorthIt_96 : decode cX4_isWorthIt 96 = .ok (.invokestatic 40, 3) := by decide +kernel
theorem dX4_isWorthIt_99 : decode cX4_isWorthIt 99 = .ok (.iload 5, 2) := by decide +kernel
theorem dX4_isWorthIt_101 : decode cX4_isWorthIt 101 = .ok (.ireturn, 1) := by decide +kernel
theorem dX5_init_0 : decode cX5_init 0 = .ok (.aload_n 0, 1) := by decide +kernel
theorem dX5_init_1 : decode cX5_init 1 = .ok (.invokespecial 3, 3) := by decide +kernel
theorem dX5_init_4 : decode cX5_init 4 = .ok (.aload_n 0, 1) := by decide +kernel
theorem dX5_init_5 : decode cX5_init 5 = .ok (.bipush 32, 2) := by decide +kernel
theorem dX5_init_7 : decode cX5_init 7 = .ok (.newarray .int, 2) := by decide +kernel
theorem dX5_init_9 : decode cX5_init 9 = .ok (.putfield 9, 3) := by decide +kernel
theorem dX5_init_12 : decode cX5_init 12 = .ok (.aload_n 0, 1) := by decide +kernel
theorem dX5_init_13 : decode cX5_init 13 = .ok (.aload_n 1, 1) := by decide +kernel
theorem dX5_init_14 : decode cX5_init 14 = .ok (.putfield 15, 3) := by decide +kernel
theorem dX5_init_17 : decode cX5_init 17 = .ok (.aload_n 0, 1) := by decide +kernel
theorem dX5_init_18 : decode cX5_init 18 = .ok (.aload_n 2, 1) := by decide +kernel
theorem dX5_init_19 : decode cX5_init 19 = .ok (.putfield 19, 3) := by decide +kernel
theorem dX5_init_22 : decode cX5_init 22 = .ok (.return_, 1) := by decide +kernel
theorem dX5_weigh_0 : decode cX5_weigh 0 = .ok (.iconst 0, 1) := by decide +kernel
theorem dX5_weigh_1 : decode cX5_weigh 1 = .ok (.istore_n 3, 1) := by decide +kernel
theorem dX5_weigh_2 : decode cX5_weigh 2 = .ok (.iload_n 3, 1) := by decide +kernel
theorem dX5_weigh_3 : decode cX5_weigh 3 = .ok (.iconst 5, 1) := by decide +kernel
theorem dX5_weigh_4 : decode cX5_weigh 4 = .ok (.aload_n 0, 1) := by decide +kernel
theorem dX5_weigh_5 : decode cX5_weigh 5 = .ok (.getfield 15, 3) := by decide +kernel
theorem dX5_weigh_8 : decode cX5_weigh 8 = .ok (.getfield 23, 3) := by decide +kernel
theorem dX5_weigh_11 : decode cX5_weigh 11 = .ok (.iadd, 1) := by decide +kernel
theorem dX5_weigh_12 : decode cX5_weigh 12 = .ok (.if_icmp .ge 58, 3) := by decide +kernel
theorem dX5_weigh_15 : decode cX5_weigh 15 = .ok (.aload_n 0, 1) := by decide +kernel
theorem dX5_weigh_16 : decode cX5_weigh 16 = .ok (.getfield 19, 3) := by decide +kernel
theorem dX5_weigh_19 : decode cX5_weigh 19 = .ok (.iload_n 3, 1) := by decide +kernel
theorem dX5_weigh_20 : decode cX5_weigh 20 = .ok (.iload_n 1, 1) := by decide +kernel
theorem dX5_weigh_21 : decode cX5_weigh 21 = .ok (.invokevirtual 29, 3) := by decide +kernel
theorem dX5_weigh_24 : decode cX5_weigh 24 = .ok (.aload_n 0, 1) := by decide +kernel
theorem dX5_weigh_25 : decode cX5_weigh 25 = .ok (.iload_n 2, 1) := by decide +kernel
theorem dX5_weigh_26 : decode cX5_weigh 26 = .ok (.iload_n 3, 1) := by decide +kernel
theorem dX5_weigh_27 : decode cX5_weigh 27 = .ok (.ifCond .ne 7, 3) := by decide +kernel
theorem dX5_weigh_30 : decode cX5_weigh 30 = .ok (.iconst 1, 1) := by decide +kernel
theorem dX5_weigh_31 : decode cX5_weigh 31 = .ok (.goto 4, 3) := by decide +kernel
theorem dX5_weigh_34 : decode cX5_weigh 34 = .ok (.iconst 0, 1) := by decide +kernel
theorem dX5_weigh_35 : decode cX5_weigh 35 = .ok (.invokevirtual 35, 3) := by decide +kernel
theorem dX5_weigh_38 : decode cX5_weigh 38 = .ok (.istore 4, 2) := by decide +kernel
theorem dX5_weigh_40 : decode cX5_weigh 40 = .ok (.iload_n 3, 1) := by decide +kernel
theorem dX5_weigh_41 : decode cX5_weigh 41 = .ok (.ifCond .eq 12, 3) := by decide +kernel
theorem dX5_weigh_44 : decode cX5_weigh 44 = .ok (.iload 4, 2) := by decide +kernel
theorem dX5_weigh_46 : decode cX5_weigh 46 = .ok (.aload_n 0, 1) := by decide +kernel
theorem dX5_weigh_47 : decode cX5_weigh 47 = .ok (.getfield 39, 3) := by decide +kernel
theorem dX5_weigh_50 : decode cX5_weigh 50 = .ok (.if_icmp .ge 14, 3) := by decide +kernel
theorem dX5_weigh_53 : decode cX5_weigh 53 = .ok (.aload_n 0, 1) := by decide +kernel
theorem dX5_weigh_54 : decode cX5_weigh 54 = .ok (.iload 4, 2) := by decide +kernel
theorem dX5_weigh_56 : decode cX5_weigh 56 = .ok (.putfield 39, 3) := by decide +kernel
theorem dX5_weigh_59 : decode cX5_weigh 59 = .ok (.aload_n 0, 1) := by decide +kernel
theorem dX5_weigh_60 : decode cX5_weigh 60 = .ok (.iload_n 3, 1) := by decide +kernel
theorem dX5_weigh_61 : decode cX5_weigh 61 = .ok (.putfield 42, 3) := by decide +kernel
theorem dX5_weigh_64 : decode cX5_weigh 64 = .ok (.iinc 3 1, 3) := by decide +kernel
theorem dX5_weigh_67 : decode cX5_weigh 67 = .ok (.goto (-65), 3) := by decide +kernel
theorem dX5_weigh_70 : decode cX5_weigh 70 = .ok (.iconst 0, 1) := by decide +kernel
theorem dX5_weigh_71 : decode cX5_weigh 71 = .ok (.istore_n 3, 1) := by decide +kernel
theorem dX5_weigh_72 : decode cX5_weigh 72 = .ok (.iload_n 3, 1) := by decide +kernel
theorem dX5_weigh_73 : decode cX5_weigh 73 = .ok (.bipush 32, 2) := by decide +kernel
theorem dX5_weigh_75 : decode cX5_weigh 75 = .ok (.if_icmp .ge 45, 3) := by decide +kernel
theorem dX5_weigh_78 : decode cX5_weigh 78 = .ok (.iload_n 3, 1) := by decide +kernel
theorem dX5_weigh_79 : decode cX5_weigh 79 = .ok (.ifCond .eq 18, 3) := by decide +kernel
theorem dX5_weigh_82 : decode cX5_weigh 82 = .ok (.aload_n 0, 1) := by decide +kernel
theorem dX5_weigh_83 : decode cX5_weigh 83 = .ok (.getfield 9, 3) := by decide +kernel
theorem dX5_weigh_86 : decode cX5_weigh 86 = .ok (.iload_n 3, 1) := by decide +kernel
theorem dX5_weigh_87 : decode cX5_weigh 87 = .ok (.invokestatic 45, 3) := by decide +kernel
theorem dX5_weigh_90 : decode cX5_weigh 90 = .ok (.aload_n 0, 1) := by decide +kernel
theorem dX5_weigh_91 : decode cX5_weigh 91 = .ok (.getfield 51, 3) := by decide +kernel
theorem dX5_weigh_94 : decode cX5_weigh 94 = .ok (.if_icmp .le 20, 3) := by decide +kernel
theorem dX5_weigh_97 : decode cX5_weigh 97 = .ok (.aload_n 0, 1) := by decide +kernel
theorem dX5_weigh_98 : decode cX5_weigh 98 = .ok (.aload_n 0, 1) := by decide +kernel
theorem dX5_weigh_99 : decode cX5_weigh 99 = .ok (.getfield 9, 3) := by decide +kernel
theorem dX5_weigh_102 : decode cX5_weigh 102 = .ok (.iload_n 3, 1) := by decide +kernel
theorem dX5_weigh_103 : decode cX5_weigh 103 = .ok (.invokestatic 45, 3) := by decide +kernel
theorem dX5_weigh_106 : decode cX5_weigh 106 = .ok (.putfield 51, 3) := by decide +kernel
theorem dX5_weigh_109 : decode cX5_weigh 109 = .ok (.aload_n 0, 1) := by decide +kernel
theorem dX5_weigh_110 : decode cX5_weigh 110 = .ok (.iload_n 3, 1) := by decide +kernel
theorem dX5_weigh_111 : decode cX5_weigh 111 = .ok (.putfield 54, 3) := by decide +kernel
theorem dX5_weigh_114 : decode cX5_weigh 114 = .ok (.iinc 3 1, 3) := by decide +kernel
theorem dX5_weigh_117 : decode cX5_weigh 117 = .ok (.goto (-45), 3) := by decide +kernel
theorem dX5_weigh_120 : decode cX5_weigh 120 = .ok (.return_, 1) := by decide +kernel
theorem dX5_worstOfSeated_0 : decode cX5_worstOfSeated 0 = .ok (.iconst 0, 1) := by decide +kernel
theorem dX5_worstOfSeated_1 : decode cX5_worstOfSeated 1 = .ok (.istore_n 3, 1) := by decide +kernel
theorem dX5_worstOfSeated_2 : decode cX5_worstOfSeated 2 = .ok (.iconst 0, 1) := by decide +kernel
theorem dX5_worstOfSeated_3 : decode cX5_worstOfSeated 3 = .ok (.istore 4, 2) := by decide +kernel
theorem dX5_worstOfSeated_5 : decode cX5_worstOfSeated 5 = .ok (.iload 4, 2) := by decide +kernel
theorem dX5_worstOfSeated_7 : decode cX5_worstOfSeated 7 = .ok (.bipush 32, 2) := by decide +kernel
theorem dX5_worstOfSeated_9 : decode cX5_worstOfSeated 9 = .ok (.if_icmp .ge 96, 3) := by decide +kernel
theorem dX5_worstOfSeated_12 : decode cX5_worstOfSeated 12 = .ok (.iload 4, 2) := by decide +kernel
theorem dX5_worstOfSeated_14 : decode cX5_worstOfSeated 14 = .ok (.iconst 4, 1) := by decide +kernel
theorem dX5_worstOfSeated_15 : decode cX5_worstOfSeated 15 = .ok (.irem, 1) := by decide +kernel
theorem dX5_worstOfSeated_16 : decode cX5_worstOfSeated 16 = .ok (.ifCond .ne 23, 3) := by decide +kernel
theorem dX5_worstOfSeated_19 : decode cX5_worstOfSeated 19 = .ok (.aload_n 0, 1) := by decide +kernel
theorem dX5_worstOfSeated_20 : decode cX5_worstOfSeated 20 = .ok (.getfield 19, 3) := by decide +kernel
theorem dX5_worstOfSeated_23 : decode cX5_worstOfSeated 23 = .ok (.iload_n 1, 1) := by decide +kernel
theorem dX5_worstOfSeated_24 : decode cX5_worstOfSeated 24 = .ok (.iload 4, 2) := by decide +kernel
theorem dX5_worstOfSeated_26 : decode cX5_worstOfSeated 26 = .ok (.iconst 4, 1) := by decide +kernel
theorem dX5_worstOfSeated_27 : decode cX5_worstOfSeated 27 = .ok (.idiv, 1) := by decide +kernel
theorem dX5_worstOfSeated_28 : decode cX5_worstOfSeated 28 = .ok (.aload_n 0, 1) := by decide +kernel
theorem dX5_worstOfSeated_29 : decode cX5_worstOfSeated 29 = .ok (.getfield 15, 3) := by decide +kernel
theorem dX5_worstOfSeated_32 : decode cX5_worstOfSeated 32 = .ok (.iload_n 1, 1) := by decide +kernel
theorem dX5_worstOfSeated_33 : decode cX5_worstOfSeated 33 = .ok (.invokevirtual 57, 3) := by decide +kernel
theorem dX5_worstOfSeated_36 : decode cX5_worstOfSeated 36 = .ok (.invokevirtual 61, 3) := by decide +kernel
theorem dX5_worstOfSeated_39 : decode cX5_worstOfSeated 39 = .ok (.aload_n 0, 1) := by decide +kernel
theorem dX5_worstOfSeated_40 : decode cX5_worstOfSeated 40 = .ok (.getfield 19, 3) := by decide +kernel
theorem dX5_worstOfSeated_43 : decode cX5_worstOfSeated 43 = .ok (.iload 4, 2) := by decide +kernel
theorem dX5_worstOfSeated_45 : decode cX5_worstOfSeated 45 = .ok (.invokevirtual 65, 3) := by decide +kernel
theorem dX5_worstOfSeated_48 : decode cX5_worstOfSeated 48 = .ok (.istore 5, 2) := by decide +kernel
theorem dX5_worstOfSeated_50 : decode cX5_worstOfSeated 50 = .ok (.iload 4, 2) := by decide +kernel
theorem dX5_worstOfSeated_52 : decode cX5_worstOfSeated 52 = .ok (.ifCond .ne 8, 3) := by decide +kernel
theorem dX5_worstOfSeated_55 : decode cX5_worstOfSeated 55 = .ok (.iload 5, 2) := by decide +kernel
theorem dX5_worstOfSeated_57 : decode cX5_worstOfSeated 57 = .ok (.goto 9, 3) := by decide +kernel
theorem dX5_worstOfSeated_60 : decode cX5_worstOfSeated 60 = .ok (.iload_n 3, 1) := by decide +kernel
theorem dX5_worstOfSeated_61 : decode cX5_worstOfSeated 61 = .ok (.iload 5, 2) := by decide +kernel
theorem dX5_worstOfSeated_63 : decode cX5_worstOfSeated 63 = .ok (.invokestatic 68, 3) := by decide +kernel
theorem dX5_worstOfSeated_66 : decode cX5_worstOfSeated 66 = .ok (.istore_n 3, 1) := by decide +kernel
theorem dX5_worstOfSeated_67 : decode cX5_worstOfSeated 67 = .ok (.aload_n 0, 1) := by decide +kernel
theorem dX5_worstOfSeated_68 : decode cX5_worstOfSeated 68 = .ok (.getfield 9, 3) := by decide +kernel
theorem dX5_worstOfSeated_71 : decode cX5_worstOfSeated 71 = .ok (.iload 4, 2) := by decide +kernel
theorem dX5_worstOfSeated_73 : decode cX5_worstOfSeated 73 = .ok (.iload_n 2, 1) := by decide +kernel
theorem dX5_worstOfSeated_74 : decode cX5_worstOfSeated 74 = .ok (.ifCond .eq 8, 3) := by decide +kernel
theorem dX5_worstOfSeated_77 : decode cX5_worstOfSeated 77 = .ok (.iload 5, 2) := by decide +kernel
theorem dX5_worstOfSeated_79 : decode cX5_worstOfSeated 79 = .ok (.goto 17, 3) := by decide +kernel
theorem dX5_worstOfSeated_82 : decode cX5_worstOfSeated 82 = .ok (.aload_n 0, 1) := by decide +kernel
theorem dX5_worstOfSeated_83 : decode cX5_worstOfSeated 83 = .ok (.getfield 9, 3) := by decide +kernel
theorem dX5_worstOfSeated_86 : decode cX5_worstOfSeated 86 = .ok (.iload 4, 2) := by decide +kernel
theorem dX5_worstOfSeated_88 : decode cX5_worstOfSeated 88 = .ok (.invokestatic 45, 3) := by decide +kernel
theorem dX5_worstOfSeated_91 : decode cX5_worstOfSeated 91 = .ok (.iload 5, 2) := by decide +kernel
theorem dX5_worstOfSeated_93 : decode cX5_worstOfSeated 93 = .ok (.invokestatic 74, 3) := by decide +kernel
theorem dX5_worstOfSeated_96 : decode cX5_worstOfSeated 96 = .ok (.invokestatic 77, 3) := by decide +kernel
theorem dX5_worstOfSeated_99 : decode cX5_worstOfSeated 99 = .ok (.iinc 4 1, 3) := by decide +kernel
theorem dX5_worstOfSeated_102 : decode cX5_worstOfSeated 102 = .ok (.goto (-97), 3) := by decide +kernel
theorem dX5_worstOfSeated_105 : decode cX5_worstOfSeated 105 = .ok (.iload_n 3, 1) := by decide +kernel
theorem dX5_worstOfSeated_106 : decode cX5_worstOfSeated 106 = .ok (.ireturn, 1) := by decide +kernel
theorem dX6_at_0 : decode cX6_at 0 = .ok (.iload_n 1, 1) := by decide +kernel
theorem dX6_at_1 : decode cX6_at 1 = .ok (.ifCond .lt 15, 3) := by decide +kernel
theorem dX6_at_4 : decode cX6_at 4 = .ok (.iload_n 1, 1) := by decide +kernel
theorem dX6_at_5 : decode cX6_at 5 = .ok (.aload_n 0, 1) := by decide +kernel
theorem dX6_at_6 : decode cX6_at 6 = .ok (.arraylength, 1) := by decide +kernel
theorem dX6_at_7 : decode cX6_at 7 = .ok (.if_icmp .ge 9, 3) := by decide +kernel
theorem dX6_at_10 : decode cX6_at 10 = .ok (.aload_n 0, 1) := by decide +kernel
theorem dX6_at_11 : decode cX6_at 11 = .ok (.iload_n 1, 1) := by decide +kernel
theorem dX6_at_12 : decode cX6_at 12 = .ok (.iaload, 1) := by decide +kernel
theorem dX6_at_13 : decode cX6_at 13 = .ok (.goto 4, 3) := by decide +kernel
theorem dX6_at_16 : decode cX6_at 16 = .ok (.iconst 0, 1) := by decide +kernel
theorem dX6_at_17 : decode cX6_at 17 = .ok (.ireturn, 1) := by decide +kernel
theorem dX6_put_0 : decode cX6_put 0 = .ok (.iload_n 1, 1) := by decide +kernel
theorem dX6_put_1 : decode cX6_put 1 = .ok (.ifCond .lt 13, 3) := by decide +kernel
theorem dX6_put_4 : decode cX6_put 4 = .ok (.iload_n 1, 1) := by decide +kernel
theorem dX6_put_5 : decode cX6_put 5 = .ok (.aload_n 0, 1) := by decide +kernel
theorem dX6_put_6 : decode cX6_put 6 = .ok (.arraylength, 1) := by decide +kernel
theorem dX6_put_7 : decode cX6_put 7 = .ok (.if_icmp .ge 7, 3) := by decide +kernel
theorem dX6_put_10 : decode cX6_put 10 = .ok (.aload_n 0, 1) := by decide +kernel
theorem dX6_put_11 : decode cX6_put 11 = .ok (.iload_n 1, 1) := by decide +kernel
theorem dX6_put_12 : decode cX6_put 12 = .ok (.iload_n 2, 1) := by decide +kernel
theorem dX6_put_13 : decode cX6_put 13 = .ok (.iastore, 1) := by decide +kernel
theorem dX6_put_14 : decode cX6_put 14 = .ok (.return_, 1) := by decide +kernel
theorem dX6_copy_0 : decode cX6_copy 0 = .ok (.iconst 0, 1) := by decide +kernel
theorem dX6_copy_1 : decode cX6_copy 1 = .ok (.istore_n 2, 1) := by decide +kernel
theorem dX6_copy_2 : decode cX6_copy 2 = .ok (.iload_n 2, 1) := by decide +kernel
theorem dX6_copy_3 : decode cX6_copy 3 = .ok (.aload_n 0, 1) := by decide +kernel
theorem dX6_copy_4 : decode cX6_copy 4 = .ok (.arraylength, 1) := by decide +kernel
theorem dX6_copy_5 : decode cX6_copy 5 = .ok (.if_icmp .ge 21, 3) := by decide +kernel
theorem dX6_copy_8 : decode cX6_copy 8 = .ok (.iload_n 2, 1) := by decide +kernel
theorem dX6_copy_9 : decode cX6_copy 9 = .ok (.aload_n 1, 1) := by decide +kernel
theorem dX6_copy_10 : decode cX6_copy 10 = .ok (.arraylength, 1) := by decide +kernel
theorem dX6_copy_11 : decode cX6_copy 11 = .ok (.if_icmp .ge 15, 3) := by decide +kernel
theorem dX6_copy_14 : decode cX6_copy 14 = .ok (.aload_n 1, 1) := by decide +kernel
theorem dX6_copy_15 : decode cX6_copy 15 = .ok (.iload_n 2, 1) := by decide +kernel
theorem dX6_copy_16 : decode cX6_copy 16 = .ok (.aload_n 0, 1) := by decide +kernel
theorem dX6_copy_17 : decode cX6_copy 17 = .ok (.iload_n 2, 1) := by decide +kernel
theorem dX6_copy_18 : decode cX6_copy 18 = .ok (.iaload, 1) := by decide +kernel
theorem dX6_copy_19 : decode cX6_copy 19 = .ok (.iastore, 1) := by decide +kernel
theorem dX6_copy_20 : decode cX6_copy 20 = .ok (.iinc 2 1, 3) := by decide +kernel
theorem dX6_copy_23 : decode cX6_copy 23 = .ok (.goto (-21), 3) := by decide +kernel
theorem dX6_copy_26 : decode cX6_copy 26 = .ok (.return_, 1) := by decide +kernel
theorem dX7_init_0 : decode cX7_init 0 = .ok (.aload_n 0, 1) := by decide +kernel
theorem dX7_init_1 : decode cX7_init 1 = .ok (.invokespecial 3, 3) := by decide +kernel
theorem dX7_init_4 : decode cX7_init 4 = .ok (.aload_n 0, 1) := by decide +kernel
theorem dX7_init_5 : decode cX7_init 5 = .ok (.sipush 400, 3) := by decide +kernel
theorem dX7_init_8 : decode cX7_init 8 = .ok (.newarray .int, 2) := by decide +kernel
theorem dX7_init_10 : decode cX7_init 10 = .ok (.putfield 9, 3) := by decide +kernel
theorem dX7_init_13 : decode cX7_init 13 = .ok (.aload_n 0, 1) := by decide +kernel
theorem dX7_init_14 : decode cX7_init 14 = .ok (.sipush 401, 3) := by decide +kernel
theorem dX7_init_17 : decode cX7_init 17 = .ok (.newarray .int, 2) := by decide +kernel
theorem dX7_init_19 : decode cX7_init 19 = .ok (.putfield 15, 3) := by decide +kernel
theorem dX7_init_22 : decode cX7_init 22 = .ok (.aload_n 0, 1) := by decide +kernel
theorem dX7_init_23 : decode cX7_init 23 = .ok (.sipush 401, 3) := by decide +kernel
theorem dX7_init_26 : decode cX7_init 26 = .ok (.newarray .int, 2) := by decide +kernel
theorem dX7_init_28 : decode cX7_init 28 = .ok (.putfield 18, 3) := by decide +kernel
theorem dX7_init_31 : decode cX7_init 31 = .ok (.aload_n 0, 1) := by decide +kernel
theorem dX7_init_32 : decode cX7_init 32 = .ok (.sipush 401, 3) := by decide +kernel
theorem dX7_init_35 : decode cX7_init 35 = .ok (.newarray .int, 2) := by decide +kernel
theorem dX7_init_37 : decode cX7_init 37 = .ok (.putfield 21, 3) := by decide +kernel
theorem dX7_init_40 : decode cX7_init 40 = .ok (.aload_n 0, 1) := by decide +kernel
theorem dX7_init_41 : decode cX7_init 41 = .ok (.sipush 401, 3) := by decide +kernel
theorem dX7_init_44 : decode cX7_init 44 = .ok (.anewarray 24, 3) := by decide +kernel
theorem dX7_init_47 : decode cX7_init 47 = .ok (.putfield 26, 3) := by decide +kernel
theorem dX7_init_50 : decode cX7_init 50 = .ok (.aload_n 0, 1) := by decide +kernel
theorem dX7_init_51 : decode cX7_init 51 = .ok (.getstatic 30, 3) := by decide +kernel
theorem dX7_init_54 : decode cX7_init 54 = .ok (.putfield 34, 3) := by decide +kernel
theorem dX7_init_57 : decode cX7_init 57 = .ok (.return_, 1) := by decide +kernel
theorem dX7_add_0 : decode cX7_add 0 = .ok (.bipush 24, 2) := by decide +kernel
theorem dX7_add_2 : decode cX7_add 2 = .ok (.istore_n 2, 1) := by decide +kernel
theorem dX7_add_3 : decode cX7_add 3 = .ok (.iload_n 2, 1) := by decide +kernel
theorem dX7_add_4 : decode cX7_add 4 = .ok (.ifCond .lt 37, 3) := by decide +kernel
theorem dX7_add_7 : decode cX7_add 7 = .ok (.aload_n 0, 1) := by decide +kernel
theorem dX7_add_8 : decode cX7_add 8 = .ok (.getfield 9, 3) := by decide +kernel
theorem dX7_add_11 : decode cX7_add 11 = .ok (.aload_n 0, 1) := by decide +kernel
theorem dX7_add_12 : decode cX7_add 12 = .ok (.getfield 37, 3) := by decide +kernel
theorem dX7_add_15 : decode cX7_add 15 = .ok (.iload_n 1, 1) := by decide +kernel
theorem dX7_add_16 : decode cX7_add 16 = .ok (.iload_n 2, 1) := by decide +kernel
theorem dX7_add_17 : decode cX7_add 17 = .ok (.iushr, 1) := by decide +kernel
theorem dX7_add_18 : decode cX7_add 18 = .ok (.sipush 255, 3) := by decide +kernel
theorem dX7_add_21 : decode cX7_add 21 = .ok (.iand, 1) := by decide +kernel
theorem dX7_add_22 : decode cX7_add 22 = .ok (.invokestatic 41, 3) := by decide +kernel
theorem dX7_add_25 : decode cX7_add 25 = .ok (.aload_n 0, 1) := by decide +kernel
theorem dX7_add_26 : decode cX7_add 26 = .ok (.dup, 1) := by decide +kernel
theorem dX7_add_27 : decode cX7_add 27 = .ok (.getfield 37, 3) := by decide +kernel
theorem dX7_add_30 : decode cX7_add 30 = .ok (.iconst 1, 1) := by decide +kernel
theorem dX7_add_31 : decode cX7_add 31 = .ok (.iadd, 1) := by decide +kernel
theorem dX7_add_32 : decode cX7_add 32 = .ok (.putfield 37, 3) := by decide +kernel
theorem dX7_add_35 : decode cX7_add 35 = .ok (.iinc 2 (-8), 3) := by decide +kernel
theorem dX7_add_38 : decode cX7_add 38 = .ok (.goto (-35), 3) := by decide +kernel
theorem dX7_add_41 : decode cX7_add 41 = .ok (.return_, 1) := by decide +kernel
theorem dX7_findThings_0 : decode cX7_findThings 0 = .ok (.aload_n 0, 1) := by decide +kernel
theorem dX7_findThings_1 : decode cX7_findThings 1 = .ok (.iconst 0, 1) := by decide +kernel
theorem dX7_findThings_2 : decode cX7_findThings 2 = .ok (.putfield 47, 3) := by decide +kernel
theorem dX7_findThings_5 : decode cX7_findThings 5 = .ok (.iconst 0, 1) := by decide +kernel
theorem dX7_findThings_6 : decode cX7_findThings 6 = .ok (.istore_n 1, 1) := by decide +kernel
theorem dX7_findThings_7 : decode cX7_findThings 7 = .ok (.iconst 0, 1) := by decide +kernel
theorem dX7_findThings_8 : decode cX7_findThings 8 = .ok (.istore_n 2, 1) := by decide +kernel
theorem dX7_findThings_9 : decode cX7_findThings 9 = .ok (.iload_n 2, 1) := by decide +kernel
theorem dX7_findThings_10 : decode cX7_findThings 10 = .ok (.sipush 400, 3) := by decide +kernel
theorem dX7_findThings_13 : decode cX7_findThings 13 = .ok (.if_icmp .ge 50, 3) := by decide +kernel
theorem dX7_findThings_16 : decode cX7_findThings 16 = .ok (.iload_n 1, 1) := by decide +kernel
theorem dX7_findThings_17 : decode cX7_findThings 17 = .ok (.aload_n 0, 1) := by decide +kernel
theorem dX7_findThings_18 : decode cX7_findThings 18 = .ok (.getfield 37, 3) := by decide +kernel
theorem dX7_findThings_21 : decode cX7_findThings 21 = .ok (.if_icmp .ge 42, 3) := by decide +kernel
theorem dX7_findThings_24 : decode cX7_findThings 24 = .ok (.aload_n 0, 1) := by decide +kernel
theorem dX7_findThings_25 : decode cX7_findThings 25 = .ok (.getfield 9, 3) := by decide +kernel
theorem dX7_findThings_28 : decode cX7_findThings 28 = .ok (.iload_n 1, 1) := by decide +kernel
theorem dX7_findThings_29 : decode cX7_findThings 29 = .ok (.invokestatic 50, 3) := by decide +kernel
theorem dX7_findThings_32 : decode cX7_findThings 32 = .ok (.bipush 32, 2) := by decide +kernel
theorem dX7_findThings_34 : decode cX7_findThings 34 = .ok (.if_icmp .ne 9, 3) := by decide +kernel
theorem dX7_findThings_37 : decode cX7_findThings 37 = .ok (.iinc 1 1, 3) := by decide +kernel
theorem dX7_findThings_40 : decode cX7_findThings 40 = .ok (.goto 17, 3) := by decide +kernel
theorem dX7_findThings_43 : decode cX7_findThings 43 = .ok (.aload_n 0, 1) := by decide +kernel
theorem dX7_findThings_44 : decode cX7_findThings 44 = .ok (.iload_n 1, 1) := by decide +kernel
theorem dX7_findThings_45 : decode cX7_findThings 45 = .ok (.invokevirtual 54, 3) := by decide +kernel
theorem dX7_findThings_48 : decode cX7_findThings 48 = .ok (.istore_n 3, 1) := by decide +kernel
theorem dX7_findThings_49 : decode cX7_findThings 49 = .ok (.aload_n 0, 1) := by decide +kernel
theorem dX7_findThings_50 : decode cX7_findThings 50 = .ok (.iload_n 1, 1) := by decide +kernel
theorem dX7_findThings_51 : decode cX7_findThings 51 = .ok (.iload_n 3, 1) := by decide +kernel
theorem dX7_findThings_52 : decode cX7_findThings 52 = .ok (.invokevirtual 58, 3) := by decide +kernel
theorem dX7_findThings_55 : decode cX7_findThings 55 = .ok (.iload_n 3, 1) := by decide +kernel
theorem dX7_findThings_56 : decode cX7_findThings 56 = .ok (.istore_n 1, 1) := by decide +kernel
theorem dX7_findThings_57 : decode cX7_findThings 57 = .ok (.iinc 2 1, 3) := by decide +kernel
theorem dX7_findThings_60 : decode cX7_findThings 60 = .ok (.goto (-51), 3) := by decide +kernel
theorem dX7_findThings_63 : decode cX7_findThings 63 = .ok (.aload_n 0, 1) := by decide +kernel
theorem dX7_findThings_64 : decode cX7_findThings 64 = .ok (.aload_n 0, 1) := by decide +kernel
theorem dX7_findThings_65 : decode cX7_findThings 65 = .ok (.getfield 37, 3) := by decide +kernel
theorem dX7_findThings_68 : decode cX7_findThings 68 = .ok (.aload_n 0, 1) := by decide +kernel
theorem dX7_findThings_69 : decode cX7_findThings 69 = .ok (.getfield 37, 3) := by decide +kernel
theorem dX7_findThings_72 : decode cX7_findThings 72 = .ok (.invokevirtual 58, 3) := by decide +kernel
theorem dX7_findThings_75 : decode cX7_findThings 75 = .ok (.aload_n 0, 1) := by decide +kernel
theorem dX7_findThings_76 : decode cX7_findThings 76 = .ok (.iconst (-1), 1) := by decide +kernel
theorem dX7_findThings_77 : decode cX7_findThings 77 = .ok (.putfield 62, 3) := by decide +kernel
theorem dX7_findThings_80 : decode cX7_findThings 80 = .ok (.aload_n 0, 1) := by decide +kernel
theorem dX7_findThings_81 : decode cX7_findThings 81 = .ok (.invokevirtual 64, 3) := by decide +kernel
theorem dX7_findThings_84 : decode cX7_findThings 84 = .ok (.return_, 1) := by decide +kernel
theorem dX7_endOfThing_0 : decode cX7_endOfThing 0 = .ok (.iload_n 1, 1) := by decide +kernel
theorem dX7_endOfThing_1 : decode cX7_endOfThing 1 = .ok (.iconst 1, 1) := by decide +kernel
theorem dX7_endOfThing_2 : decode cX7_endOfThing 2 = .ok (.iadd, 1) := by decide +kernel
theorem dX7_endOfThing_3 : decode cX7_endOfThing 3 = .ok (.istore_n 2, 1) := by decide +kernel
theorem dX7_endOfThing_4 : decode cX7_endOfThing 4 = .ok (.aload_n 0, 1) := by decide +kernel
theorem dX7_endOfThing_5 : decode cX7_endOfThing 5 = .ok (.getfield 9, 3) := by decide +kernel
theorem dX7_endOfThing_8 : decode cX7_endOfThing 8 = .ok (.iload_n 1, 1) := by decide +kernel
theorem dX7_endOfThing_9 : decode cX7_endOfThing 9 = .ok (.invokestatic 50, 3) := by decide +kernel
theorem dX7_endOfThing_12 : decode cX7_endOfThing 12 = .ok (.invokestatic 67, 3) := by decide +kernel
theorem dX7_endOfThing_15 : decode cX7_endOfThing 15 = .ok (.ifCond .eq 31, 3) := by decide +kernel
theorem dX7_endOfThing_18 : decode cX7_endOfThing 18 = .ok (.iload_n 2, 1) := by decide +kernel
theorem dX7_endOfThing_19 : decode cX7_endOfThing 19 = .ok (.aload_n 0, 1) := by decide +kernel
theorem dX7_endOfThing_20 : decode cX7_endOfThing 20 = .ok (.getfield 37, 3) := by decide +kernel
theorem dX7_endOfThing_23 : decode cX7_endOfThing 23 = .ok (.if_icmp .ge 65, 3) := by decide +kernel
theorem dX7_endOfThing_26 : decode cX7_endOfThing 26 = .ok (.aload_n 0, 1) := by decide +kernel
theorem dX7_endOfThing_27 : decode cX7_endOfThing 27 = .ok (.getfield 9, 3) := by decide +kernel
theorem dX7_endOfThing_30 : decode cX7_endOfThing 30 = .ok (.iload_n 2, 1) := by decide +kernel
theorem dX7_endOfThing_31 : decode cX7_endOfThing 31 = .ok (.invokestatic 50, 3) := by decide +kernel
theorem dX7_endOfThing_34 : decode cX7_endOfThing 34 = .ok (.invokestatic 67, 3) := by decide +kernel
theorem dX7_endOfThing_37 : decode cX7_endOfThing 37 = .ok (.ifCond .eq 51, 3) := by decide +kernel
theorem dX7_endOfThing_40 : decode cX7_endOfThing 40 = .ok (.iinc 2 1, 3) := by decide +kernel
theorem dX7_endOfThing_43 : decode cX7_endOfThing 43 = .ok (.goto (-25), 3) := by decide +kernel
theorem dX7_endOfThing_46 : decode cX7_endOfThing 46 = .ok (.aload_n 0, 1) := by decide +kernel
theorem dX7_endOfThing_47 : decode cX7_endOfThing 47 = .ok (.getfield 9, 3) := by decide +kernel
theorem dX7_endOfThing_50 : decode cX7_endOfThing 50 = .ok (.iload_n 1, 1) := by decide +kernel
theorem dX7_endOfThing_51 : decode cX7_endOfThing 51 = .ok (.invokestatic 50, 3) := by decide +kernel
theorem dX7_endOfThing_54 : decode cX7_endOfThing 54 = .ok (.invokestatic 71, 3) := by decide +kernel
theorem dX7_endOfThing_57 : decode cX7_endOfThing 57 = .ok (.ifCond .eq 31, 3) := by decide +kernel
theorem dX7_endOfThing_60 : decode cX7_endOfThing 60 = .ok (.iload_n 2, 1) := by decide +kernel
theorem dX7_endOfThing_61 : decode cX7_endOfThing 61 = .ok (.aload_n 0, 1) := by decide +kernel
theorem dX7_endOfThing_62 : decode cX7_endOfThing 62 = .ok (.getfield 37, 3) := by decide +kernel
theorem dX7_endOfThing_65 : decode cX7_endOfThing 65 = .ok (.if_icmp .ge 23, 3) := by decide +kernel
theorem dX7_endOfThing_68 : decode cX7_endOfThing 68 = .ok (.aload_n 0, 1) := by decide +kernel
theorem dX7_endOfThing_69 : decode cX7_endOfThing 69 = .ok (.getfield 9, 3) := by decide +kernel
theorem dX7_endOfThing_72 : decode cX7_endOfThing 72 = .ok (.iload_n 2, 1) := by decide +kernel
theorem dX7_endOfThing_73 : decode cX7_endOfThing 73 = .ok (.invokestatic 50, 3) := by decide +kernel
theorem dX7_endOfThing_76 : decode cX7_endOfThing 76 = .ok (.invokestatic 71, 3) := by decide +kernel
theorem dX7_endOfThing_79 : decode cX7_endOfThing 79 = .ok (.ifCond .eq 9, 3) := by decide +kernel
theorem dX7_endOfThing_82 : decode cX7_endOfThing 82 = .ok (.iinc 2 1, 3) := by decide +kernel
theorem dX7_endOfThing_85 : decode cX7_endOfThing 85 = .ok (.goto (-25), 3) := by decide +kernel
theorem dX7_endOfThing_88 : decode cX7_endOfThing 88 = .ok (.iload_n 2, 1) := by decide +kernel
theorem dX7_endOfThing_89 : decode cX7_endOfThing 89 = .ok (.ireturn, 1) := by decide +kernel
theorem dX7_addThing_0 : decode cX7_addThing 0 = .ok (.iload_n 1, 1) := by decide +kernel
theorem dX7_addThing_1 : decode cX7_addThing 1 = .ok (.iload_n 2, 1) := by decide +kernel
theorem dX7_addThing_2 : decode cX7_addThing 2 = .ok (.if_icmp .ge 14, 3) := by decide +kernel
theorem dX7_addThing_5 : decode cX7_addThing 5 = .ok (.aload_n 0, 1) := by decide +kernel
theorem dX7_addThing_6 : decode cX7_addThing 6 = .ok (.getfield 9, 3) := by decide +kernel
theorem dX7_addThing_9 : decode cX7_addThing 9 = .ok (.iload_n 1, 1) := by decide +kernel
theorem dX7_addThing_10 : decode cX7_addThing 10 = .ok (.invokestatic 50, 3) := by decide +kernel
theorem dX7_addThing_13 : decode cX7_addThing 13 = .ok (.goto 4, 3) := by decide +kernel
theorem dX7_addThing_16 : decode cX7_addThing 16 = .ok (.iconst 0, 1) := by decide +kernel
theorem dX7_addThing_17 : decode cX7_addThing 17 = .ok (.istore_n 3, 1) := by decide +kernel
theorem dX7_addThing_18 : decode cX7_addThing 18 = .ok (.iload_n 3, 1) := by decide +kernel
theorem dX7_addThing_19 : decode cX7_addThing 19 = .ok (.invokestatic 71, 3) := by decide +kernel
theorem dX7_addThing_22 : decode cX7_addThing 22 = .ok (.istore 4, 2) := by decide +kernel
theorem dX7_addThing_24 : decode cX7_addThing 24 = .ok (.iload_n 3, 1) := by decide +kernel
theorem dX7_addThing_25 : decode cX7_addThing 25 = .ok (.invokestatic 67, 3) := by decide +kernel
theorem dX7_addThing_28 : decode cX7_addThing 28 = .ok (.istore 5, 2) := by decide +kernel
theorem dX7_addThing_30 : decode cX7_addThing 30 = .ok (.aload_n 0, 1) := by decide +kernel
theorem dX7_addThing_31 : decode cX7_addThing 31 = .ok (.getfield 15, 3) := by decide +kernel
theorem dX7_addThing_34 : decode cX7_addThing 34 = .ok (.aload_n 0, 1) := by decide +kernel
theorem dX7_addThing_35 : decode cX7_addThing 35 = .ok (.getfield 47, 3) := by decide +kernel
theorem dX7_addThing_38 : decode cX7_addThing 38 = .ok (.iload_n 1, 1) := by decide +kernel
theorem dX7_addThing_39 : decode cX7_addThing 39 = .ok (.invokestatic 41, 3) := by decide +kernel
theorem dX7_addThing_42 : decode cX7_addThing 42 = .ok (.aload_n 0, 1) := by decide +kernel
theorem dX7_addThing_43 : decode cX7_addThing 43 = .ok (.getfield 18, 3) := by decide +kernel
theorem dX7_addThing_46 : decode cX7_addThing 46 = .ok (.aload_n 0, 1) := by decide +kernel
theorem dX7_addThing_47 : decode cX7_addThing 47 = .ok (.getfield 47, 3) := by decide +kernel
theorem dX7_addThing_50 : decode cX7_addThing 50 = .ok (.iload 4, 2) := by decide +kernel
theorem dX7_addThing_52 : decode cX7_addThing 52 = .ok (.ifCond .eq 19, 3) := by decide +kernel
theorem dX7_addThing_55 : decode cX7_addThing 55 = .ok (.iload_n 2, 1) := by decide +kernel
theorem dX7_addThing_56 : decode cX7_addThing 56 = .ok (.iload_n 1, 1) := by decide +kernel
theorem dX7_addThing_57 : decode cX7_addThing 57 = .ok (.isub, 1) := by decide +kernel
theorem dX7_addThing_58 : decode cX7_addThing 58 = .ok (.iconst 4, 1) := by decide +kernel
theorem dX7_addThing_59 : decode cX7_addThing 59 = .ok (.if_icmp .gt 12, 3) := by decide +kernel
theorem dX7_addThing_62 : decode cX7_addThing 62 = .ok (.aload_n 0, 1) := by decide +kernel
theorem dX7_addThing_63 : decode cX7_addThing 63 = .ok (.iload_n 1, 1) := by decide +kernel
theorem dX7_addThing_64 : decode cX7_addThing 64 = .ok (.iload_n 2, 1) := by decide +kernel
theorem dX7_addThing_65 : decode cX7_addThing 65 = .ok (.invokevirtual 74, 3) := by decide +kernel
theorem dX7_addThing_68 : decode cX7_addThing 68 = .ok (.goto 4, 3) := by decide +kernel
theorem dX7_addThing_71 : decode cX7_addThing 71 = .ok (.iconst (-1), 1) := by decide +kernel
theorem dX7_addThing_72 : decode cX7_addThing 72 = .ok (.invokestatic 41, 3) := by decide +kernel
theorem dX7_addThing_75 : decode cX7_addThing 75 = .ok (.aload_n 0, 1) := by decide +kernel
theorem dX7_addThing_76 : decode cX7_addThing 76 = .ok (.getfield 21, 3) := by decide +kernel
theorem dX7_addThing_79 : decode cX7_addThing 79 = .ok (.aload_n 0, 1) := by decide +kernel
theorem dX7_addThing_80 : decode cX7_addThing 80 = .ok (.getfield 47, 3) := by decide +kernel
theorem dX7_addThing_83 : decode cX7_addThing 83 = .ok (.iload 4, 2) := by decide +kernel
theorem dX7_addThing_85 : decode cX7_addThing 85 = .ok (.ifCond .ne 8, 3) := by decide +kernel
theorem dX7_addThing_88 : decode cX7_addThing 88 = .ok (.iload 5, 2) := by decide +kernel
theorem dX7_addThing_90 : decode cX7_addThing 90 = .ok (.ifCond .eq 7, 3) := by decide +kernel
theorem dX7_addThing_93 : decode cX7_addThing 93 = .ok (.iconst 0, 1) := by decide +kernel
theorem dX7_addThing_94 : decode cX7_addThing 94 = .ok (.goto 4, 3) := by decide +kernel
theorem dX7_addThing_97 : decode cX7_addThing 97 = .ok (.iload_n 3, 1) := by decide +kernel
theorem dX7_addThing_98 : decode cX7_addThing 98 = .ok (.invokestatic 41, 3) := by decide +kernel
theorem dX7_addThing_101 : decode cX7_addThing 101 = .ok (.aload_n 0, 1) := by decide +kernel
theorem dX7_addThing_102 : decode cX7_addThing 102 = .ok (.getfield 47, 3) := by decide +kernel
theorem dX7_addThing_105 : decode cX7_addThing 105 = .ok (.ifCond .lt 44, 3) := by decide +kernel
theorem dX7_addThing_108 : decode cX7_addThing 108 = .ok (.aload_n 0, 1) := by decide +kernel
theorem dX7_addThing_109 : decode cX7_addThing 109 = .ok (.getfield 47, 3) := by decide +kernel
theorem dX7_addThing_112 : decode cX7_addThing 112 = .ok (.aload_n 0, 1) := by decide +kernel
theorem dX7_addThing_113 : decode cX7_addThing 113 = .ok (.getfield 26, 3) := by decide +kernel
theorem dX7_addThing_116 : decode cX7_addThing 116 = .ok (.arraylength, 1) := by decide +kernel
theorem dX7_addThing_117 : decode cX7_addThing 117 = .ok (.if_icmp .ge 32, 3) := by decide +kernel
theorem dX7_addThing_120 : decode cX7_addThing 120 = .ok (.aload_n 0, 1) := by decide +kernel
theorem dX7_addThing_121 : decode cX7_addThing 121 = .ok (.getfield 26, 3) := by decide +kernel
theorem dX7_addThing_124 : decode cX7_addThing 124 = .ok (.aload_n 0, 1) := by decide +kernel
theorem dX7_addThing_125 : decode cX7_addThing 125 = .ok (.getfield 47, 3) := by decide +kernel
theorem dX7_addThing_128 : decode cX7_addThing 128 = .ok (.iload 5, 2) := by decide +kernel
theorem dX7_addThing_130 : decode cX7_addThing 130 = .ok (.ifCond .eq 15, 3) := by decide +kernel
theorem dX7_addThing_133 : decode cX7_addThing 133 = .ok (.aload_n 0, 1) := by decide +kernel
theorem dX7_addThing_134 : decode cX7_addThing 134 = .ok (.getfield 9, 3) := by decide +kernel
theorem dX7_addThing_137 : decode cX7_addThing 137 = .ok (.iload_n 1, 1) := by decide +kernel
theorem dX7_addThing_138 : decode cX7_addThing 138 = .ok (.iload_n 2, 1) := by decide +kernel
theorem dX7_addThing_139 : decode cX7_addThing 139 = .ok (.invokestatic 78, 3) := by decide +kernel
theorem dX7_addThing_142 : decode cX7_addThing 142 = .ok (.goto 6, 3) := by decide +kernel
theorem dX7_addThing_145 : decode cX7_addThing 145 = .ok (.getstatic 30, 3) := by decide +kernel
theorem dX7_addThing_148 : decode cX7_addThing 148 = .ok (.aastore, 1) := by decide +kernel
theorem dX7_addThing_149 : decode cX7_addThing 149 = .ok (.aload_n 0, 1) := by decide +kernel
theorem dX7_addThing_150 : decode cX7_addThing 150 = .ok (.dup, 1) := by decide +kernel
theorem dX7_addThing_151 : decode cX7_addThing 151 = .ok (.getfield 47, 3) := by decide +kernel
theorem dX7_addThing_154 : decode cX7_addThing 154 = .ok (.iconst 1, 1) := by decide +kernel
theorem dX7_addThing_155 : decode cX7_addThing 155 = .ok (.iadd, 1) := by decide +kernel
theorem dX7_addThing_156 : decode cX7_addThing 156 = .ok (.putfield 47, 3) := by decide +kernel
theorem dX7_addThing_159 : decode cX7_addThing 159 = .ok (.return_, 1) := by decide +kernel
theorem dX7_numberOf_0 : decode cX7_numberOf 0 = .ok (.iconst 0, 1) := by decide +kernel
theorem dX7_numberOf_1 : decode cX7_numberOf 1 = .ok (.istore_n 3, 1) := by decide +kernel
theorem dX7_numberOf_2 : decode cX7_numberOf 2 = .ok (.iload_n 1, 1) := by decide +kernel
theorem dX7_numberOf_3 : decode cX7_numberOf 3 = .ok (.istore 4, 2) := by decide +kernel
theorem dX7_numberOf_5 : decode cX7_numberOf 5 = .ok (.iload 4, 2) := by decide +kernel
theorem dX7_numberOf_7 : decode cX7_numberOf 7 = .ok (.iload_n 2, 1) := by decide +kernel
theorem dX7_numberOf_8 : decode cX7_numberOf 8 = .ok (.if_icmp .ge 27, 3) := by decide +kernel
theorem dX7_numberOf_11 : decode cX7_numberOf 11 = .ok (.bipush 10, 2) := by decide +kernel
theorem dX7_numberOf_13 : decode cX7_numberOf 13 = .ok (.iload_n 3, 1) := by decide +kernel
theorem dX7_numberOf_14 : decode cX7_numberOf 14 = .ok (.imul, 1) := by decide +kernel
theorem dX7_numberOf_15 : decode cX7_numberOf 15 = .ok (.aload_n 0, 1) := by decide +kernel
theorem dX7_numberOf_16 : decode cX7_numberOf 16 = .ok (.getfield 9, 3) := by decide +kernel
theorem dX7_numberOf_19 : decode cX7_numberOf 19 = .ok (.iload 4, 2) := by decide +kernel
theorem dX7_numberOf_21 : decode cX7_numberOf 21 = .ok (.invokestatic 50, 3) := by decide +kernel
theorem dX7_numberOf_24 : decode cX7_numberOf 24 = .ok (.iadd, 1) := by decide +kernel
theorem dX7_numberOf_25 : decode cX7_numberOf 25 = .ok (.bipush 48, 2) := by decide +kernel
theorem dX7_numberOf_27 : decode cX7_numberOf 27 = .ok (.isub, 1) := by decide +kernel
theorem dX7_numberOf_28 : decode cX7_numberOf 28 = .ok (.istore_n 3, 1) := by decide +kernel
theorem dX7_numberOf_29 : decode cX7_numberOf 29 = .ok (.iinc 4 1, 3) := by decide +kernel
theorem dX7_numberOf_32 : decode cX7_numberOf 32 = .ok (.goto (-27), 3) := by decide +kernel
theorem dX7_numberOf_35 : decode cX7_numberOf 35 = .ok (.iload_n 3, 1) := by decide +kernel
theorem dX7_numberOf_36 : decode cX7_numberOf 36 = .ok (.ireturn, 1) := by decide +kernel
theorem dX7_isLetter_0 : decode cX7_isLetter 0 = .ok (.iload_n 0, 1) := by decide +kernel
theorem dX7_isLetter_1 : decode cX7_isLetter 1 = .ok (.bipush 97, 2) := by decide +kernel
theorem dX7_isLetter_3 : decode cX7_isLetter 3 = .ok (.if_icmp .lt 13, 3) := by decide +kernel
theorem dX7_isLetter_6 : decode cX7_isLetter 6 = .ok (.iload_n 0, 1) := by decide +kernel
theorem dX7_isLetter_7 : decode cX7_isLetter 7 = .ok (.bipush 122, 2) := by decide +kernel
theorem dX7_isLetter_9 : decode cX7_isLetter 9 = .ok (.if_icmp .gt 7, 3) := by decide +kernel
theorem dX7_isLetter_12 : decode cX7_isLetter 12 = .ok (.iconst 1, 1) := by decide +kernel
theorem dX7_isLetter_13 : decode cX7_isLetter 13 = .ok (.goto 4, 3) := by decide +kernel
theorem dX7_isLetter_16 : decode cX7_isLetter 16 = .ok (.iconst 0, 1) := by decide +kernel
theorem dX7_isLetter_17 : decode cX7_isLetter 17 = .ok (.ireturn, 1) := by decide +kernel
theorem dX7_isDigit_0 : decode cX7_isDigit 0 = .ok (.iload_n 0, 1) := by decide +kernel
theorem dX7_isDigit_1 : decode cX7_isDigit 1 = .ok (.bipush 48, 2) := by decide +kernel
theorem dX7_isDigit_3 : decode cX7_isDigit 3 = .ok (.if_icmp .lt 13, 3) := by decide +kernel
theorem dX7_isDigit_6 : decode cX7_isDigit 6 = .ok (.iload_n 0, 1) := by decide +kernel
theorem dX7_isDigit_7 : decode cX7_isDigit 7 = .ok (.bipush 57, 2) := by decide +kernel
theorem dX7_isDigit_9 : decode cX7_isDigit 9 = .ok (.if_icmp .gt 7, 3) := by decide +kernel
theorem dX7_isDigit_12 : decode cX7_isDigit 12 = .ok (.iconst 1, 1) := by decide +kernel
theorem dX7_isDigit_13 : decode cX7_isDigit 13 = .ok (.goto 4, 3) := by decide +kernel
theorem dX7_isDigit_16 : decode cX7_isDigit 16 = .ok (.iconst 0, 1) := by decide +kernel
theorem dX7_isDigit_17 : decode cX7_isDigit 17 = .ok (.ireturn, 1) := by decide +kernel
theorem dX7_next_0 : decode cX7_next 0 = .ok (.aload_n 0, 1) := by decide +kernel
theorem dX7_next_1 : decode cX7_next 1 = .ok (.getfield 62, 3) := by decide +kernel
theorem dX7_next_4 : decode cX7_next 4 = .ok (.iconst 1, 1) := by decide +kernel
theorem dX7_next_5 : decode cX7_next 5 = .ok (.iadd, 1) := by decide +kernel
theorem dX7_next_6 : decode cX7_next 6 = .ok (.aload_n 0, 1) := by decide +kernel
theorem dX7_next_7 : decode cX7_next 7 = .ok (.getfield 47, 3) := by decide +kernel
theorem dX7_next_10 : decode cX7_next 10 = .ok (.if_icmp .ge 13, 3) := by decide +kernel
theorem dX7_next_13 : decode cX7_next 13 = .ok (.aload_n 0, 1) := by decide +kernel
theorem dX7_next_14 : decode cX7_next 14 = .ok (.dup, 1) := by decide +kernel
theorem dX7_next_15 : decode cX7_next 15 = .ok (.getfield 62, 3) := by decide +kernel
theorem dX7_next_18 : decode cX7_next 18 = .ok (.iconst 1, 1) := by decide +kernel
theorem dX7_next_19 : decode cX7_next 19 = .ok (.iadd, 1) := by decide +kernel
theorem dX7_next_20 : decode cX7_next 20 = .ok (.putfield 62, 3) := by decide +kernel
theorem dX7_next_23 : decode cX7_next 23 = .ok (.aload_n 0, 1) := by decide +kernel
theorem dX7_next_24 : decode cX7_next 24 = .ok (.getfield 62, 3) := by decide +kernel
theorem dX7_next_27 : decode cX7_next 27 = .ok (.ifCond .lt 121, 3) := by decide +kernel
theorem dX7_next_30 : decode cX7_next 30 = .ok (.aload_n 0, 1) := by decide +kernel
theorem dX7_next_31 : decode cX7_next 31 = .ok (.getfield 62, 3) := by decide +kernel
theorem dX7_next_34 : decode cX7_next 34 = .ok (.aload_n 0, 1) := by decide +kernel
theorem dX7_next_35 : decode cX7_next 35 = .ok (.getfield 15, 3) := by decide +kernel
theorem dX7_next_38 : decode cX7_next 38 = .ok (.arraylength, 1) := by decide +kernel
theorem dX7_next_39 : decode cX7_next 39 = .ok (.if_icmp .ge 109, 3) := by decide +kernel
theorem dX7_next_42 : decode cX7_next 42 = .ok (.aload_n 0, 1) := by decide +kernel
theorem dX7_next_43 : decode cX7_next 43 = .ok (.getfield 62, 3) := by decide +kernel
theorem dX7_next_46 : decode cX7_next 46 = .ok (.aload_n 0, 1) := by decide +kernel
theorem dX7_next_47 : decode cX7_next 47 = .ok (.getfield 18, 3) := by decide +kernel
theorem dX7_next_50 : decode cX7_next 50 = .ok (.arraylength, 1) := by decide +kernel
theorem dX7_next_51 : decode cX7_next 51 = .ok (.if_icmp .ge 97, 3) := by decide +kernel
theorem dX7_next_54 : decode cX7_next 54 = .ok (.aload_n 0, 1) := by decide +kernel
theorem dX7_next_55 : decode cX7_next 55 = .ok (.getfield 62, 3) := by decide +kernel
theorem dX7_next_58 : decode cX7_next 58 = .ok (.aload_n 0, 1) := by decide +kernel
theorem dX7_next_59 : decode cX7_next 59 = .ok (.getfield 21, 3) := by decide +kernel
theorem dX7_next_62 : decode cX7_next 62 = .ok (.arraylength, 1) := by decide +kernel
theorem dX7_next_63 : decode cX7_next 63 = .ok (.if_icmp .ge 85, 3) := by decide +kernel
theorem dX7_next_66 : decode cX7_next 66 = .ok (.aload_n 0, 1) := by decide +kernel
theorem dX7_next_67 : decode cX7_next 67 = .ok (.getfield 62, 3) := by decide +kernel
theorem dX7_next_70 : decode cX7_next 70 = .ok (.aload_n 0, 1) := by decide +kernel
theorem dX7_next_71 : decode cX7_next 71 = .ok (.getfield 26, 3) := by decide +kernel
theorem dX7_next_74 : decode cX7_next 74 = .ok (.arraylength, 1) := by decide +kernel
theorem dX7_next_75 : decode cX7_next 75 = .ok (.if_icmp .ge 73, 3) := by decide +kernel
theorem dX7_next_78 : decode cX7_next 78 = .ok (.aload_n 0, 1) := by decide +kernel
theorem dX7_next_79 : decode cX7_next 79 = .ok (.aload_n 0, 1) := by decide +kernel
theorem dX7_next_80 : decode cX7_next 80 = .ok (.getfield 15, 3) := by decide +kernel
theorem dX7_next_83 : decode cX7_next 83 = .ok (.aload_n 0, 1) := by decide +kernel
theorem dX7_next_84 : decode cX7_next 84 = .ok (.getfield 62, 3) := by decide +kernel
theorem dX7_next_87 : decode cX7_next 87 = .ok (.iaload, 1) := by decide +kernel
theorem dX7_next_88 : decode cX7_next 88 = .ok (.putfield 82, 3) := by decide +kernel
theorem dX7_next_91 : decode cX7_next 91 = .ok (.aload_n 0, 1) := by decide +kernel
theorem dX7_next_92 : decode cX7_next 92 = .ok (.aload_n 0, 1) := by decide +kernel
theorem dX7_next_93 : decode cX7_next 93 = .ok (.getfield 18, 3) := by decide +kernel
theorem dX7_next_96 : decode cX7_next 96 = .ok (.aload_n 0, 1) := by decide +kernel
theorem dX7_next_97 : decode cX7_next 97 = .ok (.getfield 62, 3) := by decide +kernel
theorem dX7_next_100 : decode cX7_next 100 = .ok (.iaload, 1) := by decide +kernel
theorem dX7_next_101 : decode cX7_next 101 = .ok (.putfield 85, 3) := by decide +kernel
theorem dX7_next_104 : decode cX7_next 104 = .ok (.aload_n 0, 1) := by decide +kernel
theorem dX7_next_105 : decode cX7_next 105 = .ok (.aload_n 0, 1) := by decide +kernel
theorem dX7_next_106 : decode cX7_next 106 = .ok (.getfield 21, 3) := by decide +kernel
theorem dX7_next_109 : decode cX7_next 109 = .ok (.aload_n 0, 1) := by decide +kernel
theorem dX7_next_110 : decode cX7_next 110 = .ok (.getfield 62, 3) := by decide +kernel
theorem dX7_next_113 : decode cX7_next 113 = .ok (.iaload, 1) := by decide +kernel
theorem dX7_next_114 : decode cX7_next 114 = .ok (.putfield 88, 3) := by decide +kernel
theorem dX7_next_117 : decode cX7_next 117 = .ok (.aload_n 0, 1) := by decide +kernel
theorem dX7_next_118 : decode cX7_next 118 = .ok (.aload_n 0, 1) := by decide +kernel
theorem dX7_next_119 : decode cX7_next 119 = .ok (.getfield 26, 3) := by decide +kernel
theorem dX7_next_122 : decode cX7_next 122 = .ok (.aload_n 0, 1) := by decide +kernel
theorem dX7_next_123 : decode cX7_next 123 = .ok (.getfield 62, 3) := by decide +kernel
theorem dX7_next_126 : decode cX7_next 126 = .ok (.aaload, 1) := by decide +kernel
theorem dX7_next_127 : decode cX7_next 127 = .ok (.ifnonnull 9, 3) := by decide +kernel
theorem dX7_next_130 : decode cX7_next 130 = .ok (.getstatic 30, 3) := by decide +kernel
theorem dX7_next_133 : decode cX7_next 133 = .ok (.goto 12, 3) := by decide +kernel
theorem dX7_next_136 : decode cX7_next 136 = .ok (.aload_n 0, 1) := by decide +kernel
theorem dX7_next_137 : decode cX7_next 137 = .ok (.getfield 26, 3) := by decide +kernel
theorem dX7_next_140 : decode cX7_next 140 = .ok (.aload_n 0, 1) := by decide +kernel
theorem dX7_next_141 : decode cX7_next 141 = .ok (.getfield 62, 3) := by decide +kernel
theorem dX7_next_144 : decode cX7_next 144 = .ok (.aaload, 1) := by decide +kernel
theorem dX7_next_145 : decode cX7_next 145 = .ok (.putfield 34, 3) := by decide +kernel
theorem dX7_next_148 : decode cX7_next 148 = .ok (.return_, 1) := by decide +kernel
theorem dX7_atEnd_0 : decode cX7_atEnd 0 = .ok (.aload_n 0, 1) := by decide +kernel
theorem dX7_atEnd_1 : decode cX7_atEnd 1 = .ok (.getfield 82, 3) := by decide +kernel
theorem dX7_atEnd_4 : decode cX7_atEnd 4 = .ok (.aload_n 0, 1) := by decide +kernel
theorem dX7_atEnd_5 : decode cX7_atEnd 5 = .ok (.getfield 37, 3) := by decide +kernel
theorem dX7_atEnd_8 : decode cX7_atEnd 8 = .ok (.if_icmp .lt 7, 3) := by decide +kernel
theorem dX7_atEnd_11 : decode cX7_atEnd 11 = .ok (.iconst 1, 1) := by decide +kernel
theorem dX7_atEnd_12 : decode cX7_atEnd 12 = .ok (.goto 4, 3) := by decide +kernel
theorem dX7_atEnd_15 : decode cX7_atEnd 15 = .ok (.iconst 0, 1) := by decide +kernel
theorem dX7_atEnd_16 : decode cX7_atEnd 16 = .ok (.ireturn, 1) := by decide +kernel
theorem dX8_init_0 : decode cX8_init 0 = .ok (.aload_n 0, 1) := by decide +kernel
theorem dX8_init_1 : decode cX8_init 1 = .ok (.invokespecial 3, 3) := by decide +kernel
theorem dX8_init_4 : decode cX8_init 4 = .ok (.aload_n 0, 1) := by decide +kernel
theorem dX8_init_5 : decode cX8_init 5 = .ok (.new 9, 3) := by decide +kernel
theorem dX8_init_8 : decode cX8_init 8 = .ok (.dup, 1) := by decide +kernel
theorem dX8_init_9 : decode cX8_init 9 = .ok (.invokespecial 11, 3) := by decide +kernel
theorem dX8_init_12 : decode cX8_init 12 = .ok (.putfield 12, 3) := by decide +kernel
theorem dX8_init_15 : decode cX8_init 15 = .ok (.aload_n 0, 1) := by decide +kernel
theorem dX8_init_16 : decode cX8_init 16 = .ok (.bipush 48, 2) := by decide +kernel
theorem dX8_init_18 : decode cX8_init 18 = .ok (.newarray .int, 2) := by decide +kernel
theorem dX8_init_20 : decode cX8_init 20 = .ok (.putfield 20, 3) := by decide +kernel
theorem dX8_init_23 : decode cX8_init 23 = .ok (.aload_n 0, 1) := by decide +kernel
theorem dX8_init_24 : decode cX8_init 24 = .ok (.sipush 400, 3) := by decide +kernel
theorem dX8_init_27 : decode cX8_init 27 = .ok (.newarray .int, 2) := by decide +kernel
theorem dX8_init_29 : decode cX8_init 29 = .ok (.putfield 24, 3) := by decide +kernel
theorem dX8_init_32 : decode cX8_init 32 = .ok (.aload_n 0, 1) := by decide +kernel
theorem dX8_init_33 : decode cX8_init 33 = .ok (.iconst (-1), 1) := by decide +kernel
theorem dX8_init_34 : decode cX8_init 34 = .ok (.putfield 27, 3) := by decide +kernel
theorem dX8_init_37 : decode cX8_init 37 = .ok (.aload_n 0, 1) := by decide +kernel
theorem dX8_init_38 : decode cX8_init 38 = .ok (.aload_n 1, 1) := by decide +kernel
theorem dX8_init_39 : decode cX8_init 39 = .ok (.putfield 31, 3) := by decide +kernel
theorem dX8_init_42 : decode cX8_init 42 = .ok (.return_, 1) := by decide +kernel
theorem dX8_readGame_0 : decode cX8_readGame 0 = .ok (.aload_n 0, 1) := by decide +kernel
theorem dX8_readGame_1 : decode cX8_readGame 1 = .ok (.getfield 12, 3) := by decide +kernel
theorem dX8_readGame_4 : decode cX8_readGame 4 = .ok (.aload_n 1, 1) := by decide +kernel
theorem dX8_readGame_5 : decode cX8_readGame 5 = .ok (.invokevirtual 35, 3) := by decide +kernel
theorem dX8_readGame_8 : decode cX8_readGame 8 = .ok (.aload_n 0, 1) := by decide +kernel
theorem dX8_readGame_9 : decode cX8_readGame 9 = .ok (.iconst 0, 1) := by decide +kernel
theorem dX8_readGame_10 : decode cX8_readGame 10 = .ok (.invokevirtual 39, 3) := by decide +kernel
theorem dX8_readGame_13 : decode cX8_readGame 13 = .ok (.ifCond .ne 5, 3) := by decide +kernel
theorem dX8_readGame_16 : decode cX8_readGame 16 = .ok (.iconst 0, 1) := by decide +kernel
theorem dX8_readGame_17 : decode cX8_readGame 17 = .ok (.ireturn, 1) := by decide +kernel
theorem dX8_readGame_18 : decode cX8_readGame 18 = .ok (.iconst 0, 1) := by decide +kernel
theorem dX8_readGame_19 : decode cX8_readGame 19 = .ok (.istore_n 2, 1) := by decide +kernel
theorem dX8_readGame_20 : decode cX8_readGame 20 = .ok (.iload_n 2, 1) := by decide +kernel
theorem dX8_readGame_21 : decode cX8_readGame 21 = .ok (.bipush 32, 2) := by decide +kernel
theorem dX8_readGame_23 : decode cX8_readGame 23 = .ok (.if_icmp .ge 27, 3) := by decide +kernel
theorem dX8_readGame_26 : decode cX8_readGame 26 = .ok (.aload_n 0, 1) := by decide +kernel
theorem dX8_readGame_27 : decode cX8_readGame 27 = .ok (.getfield 12, 3) := by decide +kernel
theorem dX8_readGame_30 : decode cX8_readGame 30 = .ok (.iload_n 2, 1) := by decide +kernel
theorem dX8_readGame_31 : decode cX8_readGame 31 = .ok (.invokevirtual 43, 3) := by decide +kernel
theorem dX8_readGame_34 : decode cX8_readGame 34 = .ok (.bipush 100, 2) := by decide +kernel
theorem dX8_readGame_36 : decode cX8_readGame 36 = .ok (.if_icmp .le 8, 3) := by decide +kernel
theorem dX8_readGame_39 : decode cX8_readGame 39 = .ok (.aload_n 0, 1) := by decide +kernel
theorem dX8_readGame_40 : decode cX8_readGame 40 = .ok (.invokevirtual 47, 3) := by decide +kernel
theorem dX8_readGame_43 : decode cX8_readGame 43 = .ok (.ireturn, 1) := by decide +kernel
theorem dX8_readGame_44 : decode cX8_readGame 44 = .ok (.iinc 2 1, 3) := by decide +kernel
theorem dX8_readGame_47 : decode cX8_readGame 47 = .ok (.goto (-27), 3) := by decide +kernel
theorem dX8_readGame_50 : decode cX8_readGame 50 = .ok (.iconst 1, 1) := by decide +kernel
theorem dX8_readGame_51 : decode cX8_readGame 51 = .ok (.ireturn, 1) := by decide +kernel
theorem dX8_read_0 : decode cX8_read 0 = .ok (.aload_n 0, 1) := by decide +kernel
theorem dX8_read_1 : decode cX8_read 1 = .ok (.getfield 31, 3) := by decide +kernel
theorem dX8_read_4 : decode cX8_read 4 = .ok (.invokevirtual 51, 3) := by decide +kernel
theorem dX8_read_7 : decode cX8_read 7 = .ok (.aload_n 0, 1) := by decide +kernel
theorem dX8_read_8 : decode cX8_read 8 = .ok (.iconst (-1), 1) := by decide +kernel
theorem dX8_read_9 : decode cX8_read 9 = .ok (.putfield 27, 3) := by decide +kernel
theorem dX8_read_12 : decode cX8_read 12 = .ok (.aload_n 0, 1) := by decide +kernel
theorem dX8_read_13 : decode cX8_read 13 = .ok (.iconst 0, 1) := by decide +kernel
theorem dX8_read_14 : decode cX8_read 14 = .ok (.putfield 56, 3) := by decide +kernel
theorem dX8_read_17 : decode cX8_read 17 = .ok (.aload_n 0, 1) := by decide +kernel
theorem dX8_read_18 : decode cX8_read 18 = .ok (.iconst 0, 1) := by decide +kernel
theorem dX8_read_19 : decode cX8_read 19 = .ok (.putfield 59, 3) := by decide +kernel
theorem dX8_read_22 : decode cX8_read 22 = .ok (.aload_n 0, 1) := by decide +kernel
theorem dX8_read_23 : decode cX8_read 23 = .ok (.iload_n 1, 1) := by decide +kernel
theorem dX8_read_24 : decode cX8_read 24 = .ok (.iconst 2, 1) := by decide +kernel
theorem dX8_read_25 : decode cX8_read 25 = .ok (.if_icmp .ne 7, 3) := by decide +kernel
theorem dX8_read_28 : decode cX8_read 28 = .ok (.iconst 1, 1) := by decide +kernel
theorem dX8_read_29 : decode cX8_read 29 = .ok (.goto 4, 3) := by decide +kernel
theorem dX8_read_32 : decode cX8_read 32 = .ok (.iconst 0, 1) := by decide +kernel
theorem dX8_read_33 : decode cX8_read 33 = .ok (.putfield 62, 3) := by decide +kernel
theorem dX8_read_36 : decode cX8_read 36 = .ok (.aload_n 0, 1) := by decide +kernel
theorem dX8_read_37 : decode cX8_read 37 = .ok (.getfield 31, 3) := by decide +kernel
theorem dX8_read_40 : decode cX8_read 40 = .ok (.invokevirtual 66, 3) := by decide +kernel
theorem dX8_read_43 : decode cX8_read 43 = .ok (.ifCond .eq 5, 3) := by decide +kernel
theorem dX8_read_46 : decode cX8_read 46 = .ok (.iconst 1, 1) := by decide +kernel
theorem dX8_read_47 : decode cX8_read 47 = .ok (.ireturn, 1) := by decide +kernel
theorem dX8_read_48 : decode cX8_read 48 = .ok (.iconst 0, 1) := by decide +kernel
theorem dX8_read_49 : decode cX8_read 49 = .ok (.istore_n 2, 1) := by decide +kernel
theorem dX8_read_50 : decode cX8_read 50 = .ok (.iload_n 2, 1) := by decide +kernel
theorem dX8_read_51 : decode cX8_read 51 = .ok (.bipush 12, 2) := by decide +kernel
theorem dX8_read_53 : decode cX8_read 53 = .ok (.if_icmp .ge 73, 3) := by decide +kernel
theorem dX8_read_56 : decode cX8_read 56 = .ok (.iload_n 1, 1) := by decide +kernel
theorem dX8_read_57 : decode cX8_read 57 = .ok (.ifCond .ne 10, 3) := by decide +kernel
theorem dX8_read_60 : decode cX8_read 60 = .ok (.aload_n 0, 1) := by decide +kernel
theorem dX8_read_61 : decode cX8_read 61 = .ok (.invokevirtual 69, 3) := by decide +kernel
theorem dX8_read_64 : decode cX8_read 64 = .ok (.goto 19, 3) := by decide +kernel
theorem dX8_read_67 : decode cX8_read 67 = .ok (.iload_n 1, 1) := by decide +kernel
theorem dX8_read_68 : decode cX8_read 68 = .ok (.iconst 1, 1) := by decide +kernel
theorem dX8_read_69 : decode cX8_read 69 = .ok (.if_icmp .ne 10, 3) := by decide +kernel
theorem dX8_read_72 : decode cX8_read 72 = .ok (.aload_n 0, 1) := by decide +kernel
theorem dX8_read_73 : decode cX8_read 73 = .ok (.invokevirtual 72, 3) := by decide +kernel
theorem dX8_read_76 : decode cX8_read 76 = .ok (.goto 7, 3) := by decide +kernel
theorem dX8_read_79 : decode cX8_read 79 = .ok (.aload_n 0, 1) := by decide +kernel
theorem dX8_read_80 : decode cX8_read 80 = .ok (.invokevirtual 75, 3) := by decide +kernel
theorem dX8_read_83 : decode cX8_read 83 = .ok (.istore_n 3, 1) := by decide +kernel
theorem dX8_read_84 : decode cX8_read 84 = .ok (.iload_n 3, 1) := by decide +kernel
theorem dX8_read_85 : decode cX8_read 85 = .ok (.ifCond .ne 5, 3) := by decide +kernel
theorem dX8_read_88 : decode cX8_read 88 = .ok (.iconst 0, 1) := by decide +kernel
theorem dX8_read_89 : decode cX8_read 89 = .ok (.ireturn, 1) := by decide +kernel
theorem dX8_read_90 : decode cX8_read 90 = .ok (.aload_n 0, 1) := by decide +kernel
theorem dX8_read_91 : decode cX8_read 91 = .ok (.iload_n 2, 1) := by decide +kernel
theorem dX8_read_92 : decode cX8_read 92 = .ok (.iconst 1, 1) := by decide +kernel
theorem dX8_read_93 : decode cX8_read 93 = .ok (.iadd, 1) := by decide +kernel
theorem dX8_read_94 : decode cX8_read 94 = .ok (.putfield 59, 3) := by decide +kernel
theorem dX8_read_97 : decode cX8_read 97 = .ok (.aload_n 0, 1) := by decide +kernel
theorem dX8_read_98 : decode cX8_read 98 = .ok (.getfield 31, 3) := by decide +kernel
theorem dX8_read_101 : decode cX8_read 101 = .ok (.invokevirtual 66, 3) := by decide +kernel
theorem dX8_read_104 : decode cX8_read 104 = .ok (.ifCond .eq 5, 3) := by decide +kernel
theorem dX8_read_107 : decode cX8_read 107 = .ok (.iconst 1, 1) := by decide +kernel
theorem dX8_read_108 : decode cX8_read 108 = .ok (.ireturn, 1) := by decide +kernel
theorem dX8_read_109 : decode cX8_read 109 = .ok (.aload_n 0, 1) := by decide +kernel
theorem dX8_read_110 : decode cX8_read 110 = .ok (.bipush 59, 2) := by decide +kernel
theorem dX8_read_112 : decode cX8_read 112 = .ok (.invokevirtual 78, 3) := by decide +kernel
theorem dX8_read_115 : decode cX8_read 115 = .ok (.ifCond .ne 5, 3) := by decide +kernel
theorem dX8_read_118 : decode cX8_read 118 = .ok (.iconst 0, 1) := by decide +kernel
theorem dX8_read_119 : decode cX8_read 119 = .ok (.ireturn, 1) := by decide +kernel
theorem dX8_read_120 : decode cX8_read 120 = .ok (.iinc 2 1, 3) := by decide +kernel
theorem dX8_read_123 : decode cX8_read 123 = .ok (.goto (-73), 3) := by decide +kernel
theorem dX8_read_126 : decode cX8_read 126 = .ok (.aload_n 0, 1) := by decide +kernel
theorem dX8_read_127 : decode cX8_read 127 = .ok (.invokevirtual 47, 3) := by decide +kernel
theorem dX8_read_130 : decode cX8_read 130 = .ok (.ireturn, 1) := by decide +kernel
theorem dX8_made_0 : decode cX8_made 0 = .ok (.new 18, 3) := by decide +kernel
theorem dX8_made_3 : decode cX8_made 3 = .ok (.dup, 1) := by decide +kernel
theorem dX8_made_4 : decode cX8_made 4 = .ok (.aload_n 0, 1) := by decide +kernel
theorem dX8_made_5 : decode cX8_made 5 = .ok (.getfield 59, 3) := by decide +kernel
theorem dX8_made_8 : decode cX8_made 8 = .ok (.aload_n 0, 1) := by decide +kernel
theorem dX8_made_9 : decode cX8_made 9 = .ok (.getfield 20, 3) := by decide +kernel
theorem dX8_made_12 : decode cX8_made 12 = .ok (.aload_n 0, 1) := by decide +kernel
theorem dX8_made_13 : decode cX8_made 13 = .ok (.getfield 56, 3) := by decide +kernel
theorem dX8_made_16 : decode cX8_made 16 = .ok (.aload_n 0, 1) := by decide +kernel
theorem dX8_made_17 : decode cX8_made 17 = .ok (.getfield 24, 3) := by decide +kernel
theorem dX8_made_20 : decode cX8_made 20 = .ok (.invokespecial 82, 3) := by decide +kernel
theorem dX8_made_23 : decode cX8_made 23 = .ok (.areturn, 1) := by decide +kernel
theorem dX8_wrong_0 : decode cX8_wrong 0 = .ok (.aload_n 0, 1) := by decide +kernel
theorem dX8_wrong_1 : decode cX8_wrong 1 = .ok (.aload_n 0, 1) := by decide +kernel
theorem dX8_wrong_2 : decode cX8_wrong 2 = .ok (.getfield 31, 3) := by decide +kernel
theorem dX8_wrong_5 : decode cX8_wrong 5 = .ok (.getfield 85, 3) := by decide +kernel
theorem dX8_wrong_8 : decode cX8_wrong 8 = .ok (.putfield 27, 3) := by decide +kernel
theorem dX8_wrong_11 : decode cX8_wrong 11 = .ok (.iconst 0, 1) := by decide +kernel
theorem dX8_wrong_12 : decode cX8_wrong 12 = .ok (.ireturn, 1) := by decide +kernel
theorem dX8_takeWord_0 : decode cX8_takeWord 0 = .ok (.aload_n 0, 1) := by decide +kernel
theorem dX8_takeWord_1 : decode cX8_takeWord 1 = .ok (.getfield 31, 3) := by decide +kernel
theorem dX8_takeWord_4 : decode cX8_takeWord 4 = .ok (.getfield 88, 3) := by decide +kernel
theorem dX8_takeWord_7 : decode cX8_takeWord 7 = .ok (.aload_n 1, 1) := by decide +kernel
theorem dX8_takeWord_8 : decode cX8_takeWord 8 = .ok (.if_acmp .eq 8, 3) := by decide +kernel
theorem dX8_takeWord_11 : decode cX8_takeWord 11 = .ok (.aload_n 0, 1) := by decide +kernel
theorem dX8_takeWord_12 : decode cX8_takeWord 12 = .ok (.invokevirtual 47, 3) := by decide +kernel
theorem dX8_takeWord_15 : decode cX8_takeWord 15 = .ok (.ireturn, 1) := by decide +kernel
theorem dX8_takeWord_16 : decode cX8_takeWord 16 = .ok (.aload_n 0, 1) := by decide +kernel
theorem dX8_takeWord_17 : decode cX8_takeWord 17 = .ok (.getfield 31, 3) := by decide +kernel
theorem dX8_takeWord_20 : decode cX8_takeWord 20 = .ok (.invokevirtual 92, 3) := by decide +kernel
theorem dX8_takeWord_23 : decode cX8_takeWord 23 = .ok (.iconst 1, 1) := by decide +kernel
theorem dX8_takeWord_24 : decode cX8_takeWord 24 = .ok (.ireturn, 1) := by decide +kernel
theorem dX8_takeSign_0 : decode cX8_takeSign 0 = .ok (.aload_n 0, 1) := by decide +kernel
theorem dX8_takeSign_1 : decode cX8_takeSign 1 = .ok (.getfield 31, 3) := by decide +kernel
theorem dX8_takeSign_4 : decode cX8_takeSign 4 = .ok (.getfield 95, 3) := by decide +kernel
theorem dX8_takeSign_7 : decode cX8_takeSign 7 = .ok (.iload_n 1, 1) := by decide +kernel
theorem dX8_takeSign_8 : decode cX8_takeSign 8 = .ok (.if_icmp .eq 8, 3) := by decide +kernel
theorem dX8_takeSign_11 : decode cX8_takeSign 11 = .ok (.aload_n 0, 1) := by decide +kernel
theorem dX8_takeSign_12 : decode cX8_takeSign 12 = .ok (.invokevirtual 47, 3) := by decide +kernel
theorem dX8_takeSign_15 : decode cX8_takeSign 15 = .ok (.ireturn, 1) := by decide +kernel
theorem dX8_takeSign_16 : decode cX8_takeSign 16 = .ok (.aload_n 0, 1) := by decide +kernel
theorem dX8_takeSign_17 : decode cX8_takeSign 17 = .ok (.getfield 31, 3) := by decide +kernel
theorem dX8_takeSign_20 : decode cX8_takeSign 20 = .ok (.invokevirtual 92, 3) := by decide +kernel
theorem dX8_takeSign_23 : decode cX8_takeSign 23 = .ok (.iconst 1, 1) := by decide +kernel
theorem dX8_takeSign_24 : decode cX8_takeSign 24 = .ok (.ireturn, 1) := by decide +kernel
theorem dX8_takeNumber_0 : decode cX8_takeNumber 0 = .ok (.aload_n 0, 1) := by decide +kernel
theorem dX8_takeNumber_1 : decode cX8_takeNumber 1 = .ok (.getfield 31, 3) := by decide +kernel
theorem dX8_takeNumber_4 : decode cX8_takeNumber 4 = .ok (.getfield 98, 3) := by decide +kernel
theorem dX8_takeNumber_7 : decode cX8_takeNumber 7 = .ok (.istore_n 2, 1) := by decide +kernel
theorem dX8_takeNumber_8 : decode cX8_takeNumber 8 = .ok (.iload_n 2, 1) := by decide +kernel
theorem dX8_takeNumber_9 : decode cX8_takeNumber 9 = .ok (.ifCond .lt 8, 3) := by decide +kernel
theorem dX8_takeNumber_12 : decode cX8_takeNumber 12 = .ok (.iload_n 2, 1) := by decide +kernel
theorem dX8_takeNumber_13 : decode cX8_takeNumber 13 = .ok (.iload_n 1, 1) := by decide +kernel
theorem dX8_takeNumber_14 : decode cX8_takeNumber 14 = .ok (.if_icmp .le 10, 3) := by decide +kernel
theorem dX8_takeNumber_17 : decode cX8_takeNumber 17 = .ok (.aload_n 0, 1) := by decide +kernel
theorem dX8_takeNumber_18 : decode cX8_takeNumber 18 = .ok (.invokevirtual 47, 3) := by decide +kernel
theorem dX8_takeNumber_21 : decode cX8_takeNumber 21 = .ok (.pop, 1) := by decide +kernel
theorem dX8_takeNumber_22 : decode cX8_takeNumber 22 = .ok (.iconst (-1), 1) := by decide +kernel
theorem dX8_takeNumber_23 : decode cX8_takeNumber 23 = .ok (.ireturn, 1) := by decide +kernel
theorem dX8_takeNumber_24 : decode cX8_takeNumber 24 = .ok (.aload_n 0, 1) := by decide +kernel
theorem dX8_takeNumber_25 : decode cX8_takeNumber 25 = .ok (.getfield 31, 3) := by decide +kernel
theorem dX8_takeNumber_28 : decode cX8_takeNumber 28 = .ok (.invokevirtual 92, 3) := by decide +kernel
theorem dX8_takeNumber_31 : decode cX8_takeNumber 31 = .ok (.iload_n 2, 1) := by decide +kernel
theorem dX8_takeNumber_32 : decode cX8_takeNumber 32 = .ok (.ireturn, 1) := by decide +kernel
theorem dX8_readGameLine_0 : decode cX8_readGameLine 0 = .ok (.aload_n 0, 1) := by decide +kernel
theorem dX8_readGameLine_1 : decode cX8_readGameLine 1 = .ok (.getfield 31, 3) := by decide +kernel
theorem dX8_readGameLine_4 : decode cX8_readGameLine 4 = .ok (.getfield 88, 3) := by decide +kernel
theorem dX8_readGameLine_7 : decode cX8_readGameLine 7 = .ok (.astore_n 1, 1) := by decide +kernel
theorem dX8_readGameLine_8 : decode cX8_readGameLine 8 = .ok (.aload_n 1, 1) := by decide +kernel
theorem dX8_readGameLine_9 : decode cX8_readGameLine 9 = .ok (.getstatic 101, 3) := by decide +kernel
theorem dX8_readGameLine_12 : decode cX8_readGameLine 12 = .ok (.if_acmp .eq 22, 3) := by decide +kernel
theorem dX8_readGameLine_15 : decode cX8_readGameLine 15 = .ok (.aload_n 1, 1) := by decide +kernel
theorem dX8_readGameLine_16 : decode cX8_readGameLine 16 = .ok (.getstatic 106, 3) := by decide +kernel
theorem dX8_readGameLine_19 : decode cX8_readGameLine 19 = .ok (.if_acmp .eq 15, 3) := by decide +kernel
theorem dX8_readGameLine_22 : decode cX8_readGameLine 22 = .ok (.aload_n 1, 1) := by decide +kernel
theorem dX8_readGameLine_23 : decode cX8_readGameLine 23 = .ok (.getstatic 109, 3) := by decide +kernel
theorem dX8_readGameLine_26 : decode cX8_readGameLine 26 = .ok (.if_acmp .eq 8, 3) := by decide +kernel
theorem dX8_readGameLine_29 : decode cX8_readGameLine 29 = .ok (.aload_n 0, 1) := by decide +kernel
theorem dX8_readGameLine_30 : decode cX8_readGameLine 30 = .ok (.invokevirtual 47, 3) := by decide +kernel
theorem dX8_readGameLine_33 : decode cX8_readGameLine 33 = .ok (.ireturn, 1) := by decide +kernel
theorem dX8_readGameLine_34 : decode cX8_readGameLine 34 = .ok (.aload_n 0, 1) := by decide +kernel
theorem dX8_readGameLine_35 : decode cX8_readGameLine 35 = .ok (.getfield 31, 3) := by decide +kernel
theorem dX8_readGameLine_38 : decode cX8_readGameLine 38 = .ok (.invokevirtual 92, 3) := by decide +kernel
theorem dX8_readGameLine_41 : decode cX8_readGameLine 41 = .ok (.aload_n 1, 1) := by decide +kernel
theorem dX8_readGameLine_42 : decode cX8_readGameLine 42 = .ok (.getstatic 101, 3) := by decide +kernel
theorem dX8_readGameLine_45 : decode cX8_readGameLine 45 = .ok (.if_acmp .ne 10, 3) := by decide +kernel
theorem dX8_readGameLine_48 : decode cX8_readGameLine 48 = .ok (.aload_n 0, 1) := by decide +kernel
theorem dX8_readGameLine_49 : decode cX8_readGameLine 49 = .ok (.invokevirtual 112, 3) := by decide +kernel
theorem dX8_readGameLine_52 : decode cX8_readGameLine 52 = .ok (.goto 21, 3) := by decide +kernel
theorem dX8_readGameLine_55 : decode cX8_readGameLine 55 = .ok (.aload_n 1, 1) := by decide +kernel
theorem dX8_readGameLine_56 : decode cX8_readGameLine 56 = .ok (.getstatic 106, 3) := by decide +kernel
theorem dX8_readGameLine_59 : decode cX8_readGameLine 59 = .ok (.if_acmp .ne 10, 3) := by decide +kernel
theorem dX8_readGameLine_62 : decode cX8_readGameLine 62 = .ok (.aload_n 0, 1) := by decide +kernel
theorem dX8_readGameLine_63 : decode cX8_readGameLine 63 = .ok (.invokevirtual 115, 3) := by decide +kernel
theorem dX8_readGameLine_66 : decode cX8_readGameLine 66 = .ok (.goto 7, 3) := by decide +kernel
theorem dX8_readGameLine_69 : decode cX8_readGameLine 69 = .ok (.aload_n 0, 1) := by decide +kernel
theorem dX8_readGameLine_70 : decode cX8_readGameLine 70 = .ok (.invokevirtual 118, 3) := by decide +kernel
theorem dX8_readGameLine_73 : decode cX8_readGameLine 73 = .ok (.ireturn, 1) := by decide +kernel
theorem dX8_readChance_0 : decode cX8_readChance 0 = .ok (.aload_n 0, 1) := by decide +kernel
theorem dX8_readChance_1 : decode cX8_readChance 1 = .ok (.invokevirtual 121, 3) := by decide +kernel
theorem dX8_readChance_4 : decode cX8_readChance 4 = .ok (.istore_n 1, 1) := by decide +kernel
theorem dX8_readChance_5 : decode cX8_readChance 5 = .ok (.iload_n 1, 1) := by decide +kernel
theorem dX8_readChance_6 : decode cX8_readChance 6 = .ok (.iconst (-1), 1) := by decide +kernel
theorem dX8_readChance_7 : decode cX8_readChance 7 = .ok (.if_icmp .ne 5, 3) := by decide +kernel
theorem dX8_readChance_10 : decode cX8_readChance 10 = .ok (.iconst 0, 1) := by decide +kernel
theorem dX8_readChance_11 : decode cX8_readChance 11 = .ok (.ireturn, 1) := by decide +kernel
theorem dX8_readChance_12 : decode cX8_readChance 12 = .ok (.aload_n 0, 1) := by decide +kernel
theorem dX8_readChance_13 : decode cX8_readChance 13 = .ok (.getfield 31, 3) := by decide +kernel
theorem dX8_readChance_16 : decode cX8_readChance 16 = .ok (.getfield 88, 3) := by decide +kernel
theorem dX8_readChance_19 : decode cX8_readChance 19 = .ok (.getstatic 125, 3) := by decide +kernel
theorem dX8_readChance_22 : decode cX8_readChance 22 = .ok (.if_acmp .ne 8, 3) := by decide +kernel
theorem dX8_readChance_25 : decode cX8_readChance 25 = .ok (.bipush 32, 2) := by decide +kernel
theorem dX8_readChance_27 : decode cX8_readChance 27 = .ok (.goto 22, 3) := by decide +kernel
theorem dX8_readChance_30 : decode cX8_readChance 30 = .ok (.aload_n 0, 1) := by decide +kernel
theorem dX8_readChance_31 : decode cX8_readChance 31 = .ok (.getfield 31, 3) := by decide +kernel
theorem dX8_readChance_34 : decode cX8_readChance 34 = .ok (.getfield 88, 3) := by decide +kernel
theorem dX8_readChance_37 : decode cX8_readChance 37 = .ok (.getstatic 128, 3) := by decide +kernel
theorem dX8_readChance_40 : decode cX8_readChance 40 = .ok (.if_acmp .ne 8, 3) := by decide +kernel
theorem dX8_readChance_43 : decode cX8_readChance 43 = .ok (.bipush 33, 2) := by decide +kernel
theorem dX8_readChance_45 : decode cX8_readChance 45 = .ok (.goto 4, 3) := by decide +kernel
theorem dX8_readChance_48 : decode cX8_readChance 48 = .ok (.iconst (-1), 1) := by decide +kernel
theorem dX8_readChance_49 : decode cX8_readChance 49 = .ok (.istore_n 2, 1) := by decide +kernel
theorem dX8_readChance_50 : decode cX8_readChance 50 = .ok (.iload_n 2, 1) := by decide +kernel
theorem dX8_readChance_51 : decode cX8_readChance 51 = .ok (.iconst (-1), 1) := by decide +kernel
theorem dX8_readChance_52 : decode cX8_readChance 52 = .ok (.if_icmp .eq 13, 3) := by decide +kernel
theorem dX8_readChance_55 : decode cX8_readChance 55 = .ok (.aload_n 0, 1) := by decide +kernel
theorem dX8_readChance_56 : decode cX8_readChance 56 = .ok (.getfield 31, 3) := by decide +kernel
theorem dX8_readChance_59 : decode cX8_readChance 59 = .ok (.invokevirtual 92, 3) := by decide +kernel
theorem dX8_readChance_62 : decode cX8_readChance 62 = .ok (.goto 18, 3) := by decide +kernel
theorem dX8_readChance_65 : decode cX8_readChance 65 = .ok (.aload_n 0, 1) := by decide +kernel
theorem dX8_readChance_66 : decode cX8_readChance 66 = .ok (.getstatic 131, 3) := by decide +kernel
theorem dX8_readChance_69 : decode cX8_readChance 69 = .ok (.invokevirtual 134, 3) := by decide +kernel
theorem dX8_readChance_72 : decode cX8_readChance 72 = .ok (.ifCond .eq 8, 3) := by decide +kernel
theorem dX8_readChance_75 : decode cX8_readChance 75 = .ok (.aload_n 0, 1) := by decide +kernel
theorem dX8_readChance_76 : decode cX8_readChance 76 = .ok (.invokevirtual 121, 3) := by decide +kernel
theorem dX8_readChance_79 : decode cX8_readChance 79 = .ok (.istore_n 2, 1) := by decide +kernel
theorem dX8_readChance_80 : decode cX8_readChance 80 = .ok (.iload_n 2, 1) := by decide +kernel
theorem dX8_readChance_81 : decode cX8_readChance 81 = .ok (.iconst (-1), 1) := by decide +kernel
theorem dX8_readChance_82 : decode cX8_readChance 82 = .ok (.if_icmp .ne 7, 3) := by decide +kernel
theorem dX8_readChance_85 : decode cX8_readChance 85 = .ok (.iconst (-1), 1) := by decide +kernel
theorem dX8_readChance_86 : decode cX8_readChance 86 = .ok (.goto 9, 3) := by decide +kernel
theorem dX8_readChance_89 : decode cX8_readChance 89 = .ok (.aload_n 0, 1) := by decide +kernel
theorem dX8_readChance_90 : decode cX8_readChance 90 = .ok (.bipush 100, 2) := by decide +kernel
theorem dX8_readChance_92 : decode cX8_readChance 92 = .ok (.invokevirtual 138, 3) := by decide +kernel
theorem dX8_readChance_95 : decode cX8_readChance 95 = .ok (.istore_n 3, 1) := by decide +kernel
theorem dX8_readChance_96 : decode cX8_readChance 96 = .ok (.iload_n 3, 1) := by decide +kernel
theorem dX8_readChance_97 : decode cX8_readChance 97 = .ok (.iconst (-1), 1) := by decide +kernel
theorem dX8_readChance_98 : decode cX8_readChance 98 = .ok (.if_icmp .ne 5, 3) := by decide +kernel
theorem dX8_readChance_101 : decode cX8_readChance 101 = .ok (.iconst 0, 1) := by decide +kernel
theorem dX8_readChance_102 : decode cX8_readChance 102 = .ok (.ireturn, 1) := by decide +kernel
theorem dX8_readChance_103 : decode cX8_readChance 103 = .ok (.aload_n 0, 1) := by decide +kernel
theorem dX8_readChance_104 : decode cX8_readChance 104 = .ok (.getfield 12, 3) := by decide +kernel
theorem dX8_readChance_107 : decode cX8_readChance 107 = .ok (.iload_n 1, 1) := by decide +kernel
theorem dX8_readChance_108 : decode cX8_readChance 108 = .ok (.iload_n 2, 1) := by decide +kernel
theorem dX8_readChance_109 : decode cX8_readChance 109 = .ok (.iload_n 3, 1) := by decide +kernel
theorem dX8_readChance_110 : decode cX8_readChance 110 = .ok (.invokevirtual 141, 3) := by decide +kernel
theorem dX8_readChance_113 : decode cX8_readChance 113 = .ok (.iconst 1, 1) := by decide +kernel
theorem dX8_readChance_114 : decode cX8_readChance 114 = .ok (.ireturn, 1) := by decide +kernel
theorem dX8_takeState_0 : decode cX8_takeState 0 = .ok (.aload_n 0, 1) := by decide +kernel
theorem dX8_takeState_1 : decode cX8_takeState 1 = .ok (.bipush 7, 2) := by decide +kernel
theorem dX8_takeState_3 : decode cX8_takeState 3 = .ok (.invokevirtual 138, 3) := by decide +kernel
theorem dX8_takeState_6 : decode cX8_takeState 6 = .ok (.istore_n 1, 1) := by decide +kernel
theorem dX8_takeState_7 : decode cX8_takeState 7 = .ok (.iload_n 1, 1) := by decide +kernel
theorem dX8_takeState_8 : decode cX8_takeState 8 = .ok (.iconst (-1), 1) := by decide +kernel
theorem dX8_takeState_9 : decode cX8_takeState 9 = .ok (.if_icmp .ne 7, 3) := by decide +kernel
theorem dX8_takeState_12 : decode cX8_takeState 12 = .ok (.iconst (-1), 1) := by decide +kernel
theorem dX8_takeState_13 : decode cX8_takeState 13 = .ok (.goto 8, 3) := by decide +kernel
theorem dX8_takeState_16 : decode cX8_takeState 16 = .ok (.aload_n 0, 1) := by decide +kernel
theorem dX8_takeState_17 : decode cX8_takeState 17 = .ok (.iconst 3, 1) := by decide +kernel
theorem dX8_takeState_18 : decode cX8_takeState 18 = .ok (.invokevirtual 138, 3) := by decide +kernel
theorem dX8_takeState_21 : decode cX8_takeState 21 = .ok (.istore_n 2, 1) := by decide +kernel
theorem dX8_takeState_22 : decode cX8_takeState 22 = .ok (.iload_n 2, 1) := by decide +kernel
theorem dX8_takeState_23 : decode cX8_takeState 23 = .ok (.iconst (-1), 1) := by decide +kernel
theorem dX8_takeState_24 : decode cX8_takeState 24 = .ok (.if_icmp .ne 7, 3) := by decide +kernel
theorem dX8_takeState_27 : decode cX8_takeState 27 = .ok (.iconst (-1), 1) := by decide +kernel
theorem dX8_takeState_28 : decode cX8_takeState 28 = .ok (.goto 8, 3) := by decide +kernel
theorem dX8_takeState_31 : decode cX8_takeState 31 = .ok (.iconst 4, 1) := by decide +kernel
theorem dX8_takeState_32 : decode cX8_takeState 32 = .ok (.iload_n 1, 1) := by decide +kernel
theorem dX8_takeState_33 : decode cX8_takeState 33 = .ok (.imul, 1) := by decide +kernel
theorem dX8_takeState_34 : decode cX8_takeState 34 = .ok (.iload_n 2, 1) := by decide +kernel
theorem dX8_takeState_35 : decode cX8_takeState 35 = .ok (.iadd, 1) := by decide +kernel
theorem dX8_takeState_36 : decode cX8_takeState 36 = .ok (.ireturn, 1) := by decide +kernel
theorem dX8_readKick_0 : decode cX8_readKick 0 = .ok (.aload_n 0, 1) := by decide +kernel
theorem dX8_readKick_1 : decode cX8_readKick 1 = .ok (.bipush 7, 2) := by decide +kernel
theorem dX8_readKick_3 : decode cX8_readKick 3 = .ok (.invokevirtual 138, 3) := by decide +kernel
theorem dX8_readKick_6 : decode cX8_readKick 6 = .ok (.istore_n 1, 1) := by decide +kernel
theorem dX8_readKick_7 : decode cX8_readKick 7 = .ok (.iload_n 1, 1) := by decide +kernel
theorem dX8_readKick_8 : decode cX8_readKick 8 = .ok (.iconst (-1), 1) := by decide +kernel
theorem dX8_readKick_9 : decode cX8_readKick 9 = .ok (.if_icmp .ne 7, 3) := by decide +kernel
theorem dX8_readKick_12 : decode cX8_readKick 12 = .ok (.iconst (-1), 1) := by decide +kernel
theorem dX8_readKick_13 : decode cX8_readKick 13 = .ok (.goto 10, 3) := by decide +kernel
theorem dX8_readKick_16 : decode cX8_readKick 16 = .ok (.aload_n 0, 1) := by decide +kernel
theorem dX8_readKick_17 : decode cX8_readKick 17 = .ok (.sipush 9999, 3) := by decide +kernel
theorem dX8_readKick_20 : decode cX8_readKick 20 = .ok (.invokevirtual 138, 3) := by decide +kernel
theorem dX8_readKick_23 : decode cX8_readKick 23 = .ok (.istore_n 2, 1) := by decide +kernel
theorem dX8_readKick_24 : decode cX8_readKick 24 = .ok (.iload_n 2, 1) := by decide +kernel
theorem dX8_readKick_25 : decode cX8_readKick 25 = .ok (.iconst (-1), 1) := by decide +kernel
theorem dX8_readKick_26 : decode cX8_readKick 26 = .ok (.if_icmp .ne 5, 3) := by decide +kernel
theorem dX8_readKick_29 : decode cX8_readKick 29 = .ok (.iconst 0, 1) := by decide +kernel
theorem dX8_readKick_30 : decode cX8_readKick 30 = .ok (.ireturn, 1) := by decide +kernel
theorem dX8_readKick_31 : decode cX8_readKick 31 = .ok (.aload_n 0, 1) := by decide +kernel
theorem dX8_readKick_32 : decode cX8_readKick 32 = .ok (.getfield 12, 3) := by decide +kernel
theorem dX8_readKick_35 : decode cX8_readKick 35 = .ok (.getfield 145, 3) := by decide +kernel
theorem dX8_readKick_38 : decode cX8_readKick 38 = .ok (.iload_n 1, 1) := by decide +kernel
theorem dX8_readKick_39 : decode cX8_readKick 39 = .ok (.iload_n 2, 1) := by decide +kernel
theorem dX8_readKick_40 : decode cX8_readKick 40 = .ok (.invokestatic 148, 3) := by decide +kernel
theorem dX8_readKick_43 : decode cX8_readKick 43 = .ok (.iconst 1, 1) := by decide +kernel
theorem dX8_readKick_44 : decode cX8_readKick 44 = .ok (.ireturn, 1) := by decide +kernel
theorem dX8_readGrace_0 : decode cX8_readGrace 0 = .ok (.aload_n 0, 1) := by decide +kernel
theorem dX8_readGrace_1 : decode cX8_readGrace 1 = .ok (.bipush 10, 2) := by decide +kernel
theorem dX8_readGrace_3 : decode cX8_readGrace 3 = .ok (.invokevirtual 138, 3) := by decide +kernel
theorem dX8_readGrace_6 : decode cX8_readGrace 6 = .ok (.istore_n 1, 1) := by decide +kernel
theorem dX8_readGrace_7 : decode cX8_readGrace 7 = .ok (.iload_n 1, 1) := by decide +kernel
theorem dX8_readGrace_8 : decode cX8_readGrace 8 = .ok (.iconst (-1), 1) := by decide +kernel
theorem dX8_readGrace_9 : decode cX8_readGrace 9 = .ok (.if_icmp .ne 5, 3) := by decide +kernel
theorem dX8_readGrace_12 : decode cX8_readGrace 12 = .ok (.iconst 0, 1) := by decide +kernel
theorem dX8_readGrace_13 : decode cX8_readGrace 13 = .ok (.ireturn, 1) := by decide +kernel
theorem dX8_readGrace_14 : decode cX8_readGrace 14 = .ok (.aload_n 0, 1) := by decide +kernel
theorem dX8_readGrace_15 : decode cX8_readGrace 15 = .ok (.getfield 12, 3) := by decide +kernel
theorem dX8_readGrace_18 : decode cX8_readGrace 18 = .ok (.iload_n 1, 1) := by decide +kernel
theorem dX8_readGrace_19 : decode cX8_readGrace 19 = .ok (.putfield 154, 3) := by decide +kernel
theorem dX8_readGrace_22 : decode cX8_readGrace 22 = .ok (.iconst 1, 1) := by decide +kernel
theorem dX8_readGrace_23 : decode cX8_readGrace 23 = .ok (.ireturn, 1) := by decide +kernel
theorem dX8_readRuleLine_0 : decode cX8_readRuleLine 0 = .ok (.aload_n 0, 1) := by decide +kernel
theorem dX8_readRuleLine_1 : decode cX8_readRuleLine 1 = .ok (.getfield 31, 3) := by decide +kernel
theorem dX8_readRuleLine_4 : decode cX8_readRuleLine 4 = .ok (.getfield 88, 3) := by decide +kernel
theorem dX8_readRuleLine_7 : decode cX8_readRuleLine 7 = .ok (.getstatic 157, 3) := by decide +kernel
theorem dX8_readRuleLine_10 : decode cX8_readRuleLine 10 = .ok (.if_acmp .ne 7, 3) := by decide +kernel
theorem dX8_readRuleLine_13 : decode cX8_readRuleLine 13 = .ok (.iconst 0, 1) := by decide +kernel
theorem dX8_readRuleLine_14 : decode cX8_readRuleLine 14 = .ok (.goto 38, 3) := by decide +kernel
theorem dX8_readRuleLine_17 : decode cX8_readRuleLine 17 = .ok (.aload_n 0, 1) := by decide +kernel
theorem dX8_readRuleLine_18 : decode cX8_readRuleLine 18 = .ok (.getfield 31, 3) := by decide +kernel
theorem dX8_readRuleLine_21 : decode cX8_readRuleLine 21 = .ok (.getfield 88, 3) := by decide +kernel
theorem dX8_readRuleLine_24 : decode cX8_readRuleLine 24 = .ok (.getstatic 160, 3) := by decide +kernel
theorem dX8_readRuleLine_27 : decode cX8_readRuleLine 27 = .ok (.if_acmp .ne 7, 3) := by decide +kernel
theorem dX8_readRuleLine_30 : decode cX8_readRuleLine 30 = .ok (.iconst 1, 1) := by decide +kernel
theorem dX8_readRuleLine_31 : decode cX8_readRuleLine 31 = .ok (.goto 21, 3) := by decide +kernel
theorem dX8_readRuleLine_34 : decode cX8_readRuleLine 34 = .ok (.aload_n 0, 1) := by decide +kernel
theorem dX8_readRuleLine_35 : decode cX8_readRuleLine 35 = .ok (.getfield 31, 3) := by decide +kernel
theorem dX8_readRuleLine_38 : decode cX8_readRuleLine 38 = .ok (.getfield 88, 3) := by decide +kernel
theorem dX8_readRuleLine_41 : decode cX8_readRuleLine 41 = .ok (.getstatic 163, 3) := by decide +kernel
theorem dX8_readRuleLine_44 : decode cX8_readRuleLine 44 = .ok (.if_acmp .ne 7, 3) := by decide +kernel
theorem dX8_readRuleLine_47 : decode cX8_readRuleLine 47 = .ok (.iconst 2, 1) := by decide +kernel
theorem dX8_readRuleLine_48 : decode cX8_readRuleLine 48 = .ok (.goto 4, 3) := by decide +kernel
theorem dX8_readRuleLine_51 : decode cX8_readRuleLine 51 = .ok (.iconst (-1), 1) := by decide +kernel
theorem dX8_readRuleLine_52 : decode cX8_readRuleLine 52 = .ok (.istore_n 1, 1) := by decide +kernel
theorem dX8_readRuleLine_53 : decode cX8_readRuleLine 53 = .ok (.iload_n 1, 1) := by decide +kernel
theorem dX8_readRuleLine_54 : decode cX8_readRuleLine 54 = .ok (.iconst (-1), 1) := by decide +kernel
theorem dX8_readRuleLine_55 : decode cX8_readRuleLine 55 = .ok (.if_icmp .ne 8, 3) := by decide +kernel
theorem dX8_readRuleLine_58 : decode cX8_readRuleLine 58 = .ok (.aload_n 0, 1) := by decide +kernel
theorem dX8_readRuleLine_59 : decode cX8_readRuleLine 59 = .ok (.invokevirtual 47, 3) := by decide +kernel
theorem dX8_readRuleLine_62 : decode cX8_readRuleLine 62 = .ok (.ireturn, 1) := by decide +kernel
theorem dX8_readRuleLine_63 : decode cX8_readRuleLine 63 = .ok (.aload_n 0, 1) := by decide +kernel
theorem dX8_readRuleLine_64 : decode cX8_readRuleLine 64 = .ok (.getfield 31, 3) := by decide +kernel
theorem dX8_readRuleLine_67 : decode cX8_readRuleLine 67 = .ok (.invokevirtual 92, 3) := by decide +kernel
theorem dX8_readRuleLine_70 : decode cX8_readRuleLine 70 = .ok (.aload_n 0, 1) := by decide +kernel
theorem dX8_readRuleLine_71 : decode cX8_readRuleLine 71 = .ok (.getfield 56, 3) := by decide +kernel
theorem dX8_readRuleLine_74 : decode cX8_readRuleLine 74 = .ok (.istore_n 2, 1) := by decide +kernel
theorem dX8_readRuleLine_75 : decode cX8_readRuleLine 75 = .ok (.aload_n 0, 1) := by decide +kernel
theorem dX8_readRuleLine_76 : decode cX8_readRuleLine 76 = .ok (.getstatic 166, 3) := by decide +kernel
theorem dX8_readRuleLine_79 : decode cX8_readRuleLine 79 = .ok (.invokevirtual 134, 3) := by decide +kernel
theorem dX8_readRuleLine_82 : decode cX8_readRuleLine 82 = .ok (.ifCond .eq 11, 3) := by decide +kernel
theorem dX8_readRuleLine_85 : decode cX8_readRuleLine 85 = .ok (.aload_n 0, 1) := by decide +kernel
theorem dX8_readRuleLine_86 : decode cX8_readRuleLine 86 = .ok (.iconst 0, 1) := by decide +kernel
theorem dX8_readRuleLine_87 : decode cX8_readRuleLine 87 = .ok (.invokevirtual 169, 3) := by decide +kernel
theorem dX8_readRuleLine_90 : decode cX8_readRuleLine 90 = .ok (.ifCond .ne 5, 3) := by decide +kernel
theorem dX8_readRuleLine_93 : decode cX8_readRuleLine 93 = .ok (.iconst 0, 1) := by decide +kernel
theorem dX8_readRuleLine_94 : decode cX8_readRuleLine 94 = .ok (.ireturn, 1) := by decide +kernel
theorem dX8_readRuleLine_95 : decode cX8_readRuleLine 95 = .ok (.aload_n 0, 1) := by decide +kernel
theorem dX8_readRuleLine_96 : decode cX8_readRuleLine 96 = .ok (.iload_n 1, 1) := by decide +kernel
theorem dX8_readRuleLine_97 : decode cX8_readRuleLine 97 = .ok (.iconst (-1), 1) := by decide +kernel
theorem dX8_readRuleLine_98 : decode cX8_readRuleLine 98 = .ok (.iload_n 2, 1) := by decide +kernel
theorem dX8_readRuleLine_99 : decode cX8_readRuleLine 99 = .ok (.invokevirtual 172, 3) := by decide +kernel
theorem dX8_readRuleLine_102 : decode cX8_readRuleLine 102 = .ok (.iconst 1, 1) := by decide +kernel
theorem dX8_readRuleLine_103 : decode cX8_readRuleLine 103 = .ok (.ireturn, 1) := by decide +kernel
theorem dX8_readGoalLine_0 : decode cX8_readGoalLine 0 = .ok (.aload_n 0, 1) := by decide +kernel
theorem dX8_readGoalLine_1 : decode cX8_readGoalLine 1 = .ok (.getfield 31, 3) := by decide +kernel
theorem dX8_readGoalLine_4 : decode cX8_readGoalLine 4 = .ok (.getfield 88, 3) := by decide +kernel
theorem dX8_readGoalLine_7 : decode cX8_readGoalLine 7 = .ok (.getstatic 175, 3) := by decide +kernel
theorem dX8_readGoalLine_10 : decode cX8_readGoalLine 10 = .ok (.if_acmp .ne 7, 3) := by decide +kernel
theorem dX8_readGoalLine_13 : decode cX8_readGoalLine 13 = .ok (.iconst 1, 1) := by decide +kernel
theorem dX8_readGoalLine_14 : decode cX8_readGoalLine 14 = .ok (.goto 4, 3) := by decide +kernel
theorem dX8_readGoalLine_17 : decode cX8_readGoalLine 17 = .ok (.iconst 0, 1) := by decide +kernel
theorem dX8_readGoalLine_18 : decode cX8_readGoalLine 18 = .ok (.istore_n 1, 1) := by decide +kernel
theorem dX8_readGoalLine_19 : decode cX8_readGoalLine 19 = .ok (.iload_n 1, 1) := by decide +kernel
theorem dX8_readGoalLine_20 : decode cX8_readGoalLine 20 = .ok (.ifCond .ne 21, 3) := by decide +kernel
theorem dX8_readGoalLine_23 : decode cX8_readGoalLine 23 = .ok (.aload_n 0, 1) := by decide +kernel
theorem dX8_readGoalLine_24 : decode cX8_readGoalLine 24 = .ok (.getfield 31, 3) := by decide +kernel
theorem dX8_readGoalLine_27 : decode cX8_readGoalLine 27 = .ok (.getfield 88, 3) := by decide +kernel
theorem dX8_readGoalLine_30 : decode cX8_readGoalLine 30 = .ok (.getstatic 178, 3) := by decide +kernel
theorem dX8_readGoalLine_33 : decode cX8_readGoalLine 33 = .ok (.if_acmp .eq 8, 3) := by decide +kernel
theorem dX8_readGoalLine_36 : decode cX8_readGoalLine 36 = .ok (.aload_n 0, 1) := by decide +kernel
theorem dX8_readGoalLine_37 : decode cX8_readGoalLine 37 = .ok (.invokevirtual 47, 3) := by decide +kernel
theorem dX8_readGoalLine_40 : decode cX8_readGoalLine 40 = .ok (.ireturn, 1) := by decide +kernel
theorem dX8_readGoalLine_41 : decode cX8_readGoalLine 41 = .ok (.aload_n 0, 1) := by decide +kernel
theorem dX8_readGoalLine_42 : decode cX8_readGoalLine 42 = .ok (.getfield 31, 3) := by decide +kernel
theorem dX8_readGoalLine_45 : decode cX8_readGoalLine 45 = .ok (.invokevirtual 92, 3) := by decide +kernel
theorem dX8_readGoalLine_48 : decode cX8_readGoalLine 48 = .ok (.aload_n 0, 1) := by decide +kernel
theorem dX8_readGoalLine_49 : decode cX8_readGoalLine 49 = .ok (.sipush 9999, 3) := by decide +kernel
theorem dX8_readGoalLine_52 : decode cX8_readGoalLine 52 = .ok (.invokevirtual 138, 3) := by decide +kernel
theorem dX8_readGoalLine_55 : decode cX8_readGoalLine 55 = .ok (.istore_n 2, 1) := by decide +kernel
theorem dX8_readGoalLine_56 : decode cX8_readGoalLine 56 = .ok (.iload_n 2, 1) := by decide +kernel
theorem dX8_readGoalLine_57 : decode cX8_readGoalLine 57 = .ok (.iconst (-1), 1) := by decide +kernel
theorem dX8_readGoalLine_58 : decode cX8_readGoalLine 58 = .ok (.if_icmp .ne 5, 3) := by decide +kernel
theorem dX8_readGoalLine_61 : decode cX8_readGoalLine 61 = .ok (.iconst 0, 1) := by decide +kernel
theorem dX8_readGoalLine_62 : decode cX8_readGoalLine 62 = .ok (.ireturn, 1) := by decide +kernel
theorem dX8_readGoalLine_63 : decode cX8_readGoalLine 63 = .ok (.iconst (-1), 1) := by decide +kernel
theorem dX8_readGoalLine_64 : decode cX8_readGoalLine 64 = .ok (.istore_n 3, 1) := by decide +kernel
theorem dX8_readGoalLine_65 : decode cX8_readGoalLine 65 = .ok (.aload_n 0, 1) := by decide +kernel
theorem dX8_readGoalLine_66 : decode cX8_readGoalLine 66 = .ok (.getfield 31, 3) := by decide +kernel
theorem dX8_readGoalLine_69 : decode cX8_readGoalLine 69 = .ok (.getfield 95, 3) := by decide +kernel
theorem dX8_readGoalLine_72 : decode cX8_readGoalLine 72 = .ok (.bipush 42, 2) := by decide +kernel
theorem dX8_readGoalLine_74 : decode cX8_readGoalLine 74 = .ok (.if_icmp .ne 32, 3) := by decide +kernel
theorem dX8_readGoalLine_77 : decode cX8_readGoalLine 77 = .ok (.aload_n 0, 1) := by decide +kernel
theorem dX8_readGoalLine_78 : decode cX8_readGoalLine 78 = .ok (.getfield 31, 3) := by decide +kernel
theorem dX8_readGoalLine_81 : decode cX8_readGoalLine 81 = .ok (.invokevirtual 92, 3) := by decide +kernel
theorem dX8_readGoalLine_84 : decode cX8_readGoalLine 84 = .ok (.aload_n 0, 1) := by decide +kernel
theorem dX8_readGoalLine_85 : decode cX8_readGoalLine 85 = .ok (.invokevirtual 181, 3) := by decide +kernel
theorem dX8_readGoalLine_88 : decode cX8_readGoalLine 88 = .ok (.istore_n 3, 1) := by decide +kernel
theorem dX8_readGoalLine_89 : decode cX8_readGoalLine 89 = .ok (.iload_n 3, 1) := by decide +kernel
theorem dX8_readGoalLine_90 : decode cX8_readGoalLine 90 = .ok (.iconst (-1), 1) := by decide +kernel
theorem dX8_readGoalLine_91 : decode cX8_readGoalLine 91 = .ok (.if_icmp .ne 8, 3) := by decide +kernel
theorem dX8_readGoalLine_94 : decode cX8_readGoalLine 94 = .ok (.aload_n 0, 1) := by decide +kernel
theorem dX8_readGoalLine_95 : decode cX8_readGoalLine 95 = .ok (.invokevirtual 47, 3) := by decide +kernel
theorem dX8_readGoalLine_98 : decode cX8_readGoalLine 98 = .ok (.ireturn, 1) := by decide +kernel
theorem dX8_readGoalLine_99 : decode cX8_readGoalLine 99 = .ok (.aload_n 0, 1) := by decide +kernel
theorem dX8_readGoalLine_100 : decode cX8_readGoalLine 100 = .ok (.getfield 31, 3) := by decide +kernel
theorem dX8_readGoalLine_103 : decode cX8_readGoalLine 103 = .ok (.invokevirtual 92, 3) := by decide +kernel
theorem dX8_readGoalLine_106 : decode cX8_readGoalLine 106 = .ok (.aload_n 0, 1) := by decide +kernel
theorem dX8_readGoalLine_107 : decode cX8_readGoalLine 107 = .ok (.getfield 56, 3) := by decide +kernel
theorem dX8_readGoalLine_110 : decode cX8_readGoalLine 110 = .ok (.istore 4, 2) := by decide +kernel
theorem dX8_readGoalLine_112 : decode cX8_readGoalLine 112 = .ok (.aload_n 0, 1) := by decide +kernel
theorem dX8_readGoalLine_113 : decode cX8_readGoalLine 113 = .ok (.getfield 31, 3) := by decide +kernel
theorem dX8_readGoalLine_116 : decode cX8_readGoalLine 116 = .ok (.getfield 88, 3) := by decide +kernel
theorem dX8_readGoalLine_119 : decode cX8_readGoalLine 119 = .ok (.getstatic 166, 3) := by decide +kernel
theorem dX8_readGoalLine_122 : decode cX8_readGoalLine 122 = .ok (.if_acmp .ne 20, 3) := by decide +kernel
theorem dX8_readGoalLine_125 : decode cX8_readGoalLine 125 = .ok (.aload_n 0, 1) := by decide +kernel
theorem dX8_readGoalLine_126 : decode cX8_readGoalLine 126 = .ok (.getfield 31, 3) := by decide +kernel
theorem dX8_readGoalLine_129 : decode cX8_readGoalLine 129 = .ok (.invokevirtual 92, 3) := by decide +kernel
theorem dX8_readGoalLine_132 : decode cX8_readGoalLine 132 = .ok (.aload_n 0, 1) := by decide +kernel
theorem dX8_readGoalLine_133 : decode cX8_readGoalLine 133 = .ok (.iconst 0, 1) := by decide +kernel
theorem dX8_readGoalLine_134 : decode cX8_readGoalLine 134 = .ok (.invokevirtual 169, 3) := by decide +kernel
theorem dX8_readGoalLine_137 : decode cX8_readGoalLine 137 = .ok (.ifCond .ne 5, 3) := by decide +kernel
theorem dX8_readGoalLine_140 : decode cX8_readGoalLine 140 = .ok (.iconst 0, 1) := by decide +kernel
theorem dX8_readGoalLine_141 : decode cX8_readGoalLine 141 = .ok (.ireturn, 1) := by decide +kernel
theorem dX8_readGoalLine_142 : decode cX8_readGoalLine 142 = .ok (.aload_n 0, 1) := by decide +kernel
theorem dX8_readGoalLine_143 : decode cX8_readGoalLine 143 = .ok (.iload_n 1, 1) := by decide +kernel
theorem dX8_readGoalLine_144 : decode cX8_readGoalLine 144 = .ok (.ifCond .eq 7, 3) := by decide +kernel
theorem dX8_readGoalLine_147 : decode cX8_readGoalLine 147 = .ok (.iload_n 2, 1) := by decide +kernel
theorem dX8_readGoalLine_148 : decode cX8_readGoalLine 148 = .ok (.goto 5, 3) := by decide +kernel
theorem dX8_readGoalLine_151 : decode cX8_readGoalLine 151 = .ok (.iload_n 2, 1) := by decide +kernel
theorem dX8_readGoalLine_152 : decode cX8_readGoalLine 152 = .ok (.ineg, 1) := by decide +kernel
theorem dX8_readGoalLine_153 : decode cX8_readGoalLine 153 = .ok (.iload_n 3, 1) := by decide +kernel
theorem dX8_readGoalLine_154 : decode cX8_readGoalLine 154 = .ok (.iload 4, 2) := by decide +kernel
theorem dX8_readGoalLine_156 : decode cX8_readGoalLine 156 = .ok (.invokevirtual 172, 3) := by decide +kernel
theorem dX8_readGoalLine_159 : decode cX8_readGoalLine 159 = .ok (.iconst 1, 1) := by decide +kernel
theorem dX8_readGoalLine_160 : decode cX8_readGoalLine 160 = .ok (.ireturn, 1) := by decide +kernel
theorem dX8_setHead_0 : decode cX8_setHead 0 = .ok (.iconst 4, 1) := by decide +kernel
theorem dX8_setHead_1 : decode cX8_setHead 1 = .ok (.aload_n 0, 1) := by decide +kernel
theorem dX8_setHead_2 : decode cX8_setHead 2 = .ok (.getfield 59, 3) := by decide +kernel
theorem dX8_setHead_5 : decode cX8_setHead 5 = .ok (.imul, 1) := by decide +kernel
theorem dX8_setHead_6 : decode cX8_setHead 6 = .ok (.istore 4, 2) := by decide +kernel
theorem dX8_setHead_8 : decode cX8_setHead 8 = .ok (.aload_n 0, 1) := by decide +kernel
theorem dX8_setHead_9 : decode cX8_setHead 9 = .ok (.getfield 20, 3) := by decide +kernel
theorem dX8_setHead_12 : decode cX8_setHead 12 = .ok (.iload 4, 2) := by decide +kernel
theorem dX8_setHead_14 : decode cX8_setHead 14 = .ok (.iload_n 1, 1) := by decide +kernel
theorem dX8_setHead_15 : decode cX8_setHead 15 = .ok (.invokestatic 148, 3) := by decide +kernel
theorem dX8_setHead_18 : decode cX8_setHead 18 = .ok (.aload_n 0, 1) := by decide +kernel
theorem dX8_setHead_19 : decode cX8_setHead 19 = .ok (.getfield 20, 3) := by decide +kernel
theorem dX8_setHead_22 : decode cX8_setHead 22 = .ok (.iload 4, 2) := by decide +kernel
theorem dX8_setHead_24 : decode cX8_setHead 24 = .ok (.iconst 1, 1) := by decide +kernel
theorem dX8_setHead_25 : decode cX8_setHead 25 = .ok (.iadd, 1) := by decide +kernel
theorem dX8_setHead_26 : decode cX8_setHead 26 = .ok (.iload_n 2, 1) := by decide +kernel
theorem dX8_setHead_27 : decode cX8_setHead 27 = .ok (.invokestatic 148, 3) := by decide +kernel
theorem dX8_setHead_30 : decode cX8_setHead 30 = .ok (.aload_n 0, 1) := by decide +kernel
theorem dX8_setHead_31 : decode cX8_setHead 31 = .ok (.getfield 20, 3) := by decide +kernel
theorem dX8_setHead_34 : decode cX8_setHead 34 = .ok (.iload 4, 2) := by decide +kernel
theorem dX8_setHead_36 : decode cX8_setHead 36 = .ok (.iconst 2, 1) := by decide +kernel
theorem dX8_setHead_37 : decode cX8_setHead 37 = .ok (.iadd, 1) := by decide +kernel
theorem dX8_setHead_38 : decode cX8_setHead 38 = .ok (.iload_n 3, 1) := by decide +kernel
theorem dX8_setHead_39 : decode cX8_setHead 39 = .ok (.invokestatic 148, 3) := by decide +kernel
theorem dX8_setHead_42 : decode cX8_setHead 42 = .ok (.aload_n 0, 1) := by decide +kernel
theorem dX8_setHead_43 : decode cX8_setHead 43 = .ok (.getfield 20, 3) := by decide +kernel
theorem dX8_setHead_46 : decode cX8_setHead 46 = .ok (.iload 4, 2) := by decide +kernel
theorem dX8_setHead_48 : decode cX8_setHead 48 = .ok (.iconst 3, 1) := by decide +kernel
theorem dX8_setHead_49 : decode cX8_setHead 49 = .ok (.iadd, 1) := by decide +kernel
theorem dX8_setHead_50 : decode cX8_setHead 50 = .ok (.aload_n 0, 1) := by decide +kernel
theorem dX8_setHead_51 : decode cX8_setHead 51 = .ok (.getfield 56, 3) := by decide +kernel
theorem dX8_setHead_54 : decode cX8_setHead 54 = .ok (.invokestatic 148, 3) := by decide +kernel
theorem dX8_setHead_57 : decode cX8_setHead 57 = .ok (.return_, 1) := by decide +kernel
theorem dX8_readCondition_0 : decode cX8_readCondition 0 = .ok (.aload_n 0, 1) := by decide +kernel
theorem dX8_readCondition_1 : decode cX8_readCondition 1 = .ok (.iload_n 1, 1) := by decide +kernel
theorem dX8_readCondition_2 : decode cX8_readCondition 2 = .ok (.invokevirtual 184, 3) := by decide +kernel
theorem dX8_readCondition_5 : decode cX8_readCondition 5 = .ok (.ifCond .ne 5, 3) := by decide +kernel
theorem dX8_readCondition_8 : decode cX8_readCondition 8 = .ok (.iconst 0, 1) := by decide +kernel
theorem dX8_readCondition_9 : decode cX8_readCondition 9 = .ok (.ireturn, 1) := by decide +kernel
theorem dX8_readCondition_10 : decode cX8_readCondition 10 = .ok (.iconst 0, 1) := by decide +kernel
theorem dX8_readCondition_11 : decode cX8_readCondition 11 = .ok (.istore_n 2, 1) := by decide +kernel
theorem dX8_readCondition_12 : decode cX8_readCondition 12 = .ok (.iload_n 2, 1) := by decide +kernel
theorem dX8_readCondition_13 : decode cX8_readCondition 13 = .ok (.sipush 400, 3) := by decide +kernel
theorem dX8_readCondition_16 : decode cX8_readCondition 16 = .ok (.if_icmp .ge 46, 3) := by decide +kernel
theorem dX8_readCondition_19 : decode cX8_readCondition 19 = .ok (.aload_n 0, 1) := by decide +kernel
theorem dX8_readCondition_20 : decode cX8_readCondition 20 = .ok (.getfield 31, 3) := by decide +kernel
theorem dX8_readCondition_23 : decode cX8_readCondition 23 = .ok (.getfield 88, 3) := by decide +kernel
theorem dX8_readCondition_26 : decode cX8_readCondition 26 = .ok (.getstatic 187, 3) := by decide +kernel
theorem dX8_readCondition_29 : decode cX8_readCondition 29 = .ok (.if_acmp .ne 33, 3) := by decide +kernel
theorem dX8_readCondition_32 : decode cX8_readCondition 32 = .ok (.aload_n 0, 1) := by decide +kernel
theorem dX8_readCondition_33 : decode cX8_readCondition 33 = .ok (.getfield 31, 3) := by decide +kernel
theorem dX8_readCondition_36 : decode cX8_readCondition 36 = .ok (.invokevirtual 92, 3) := by decide +kernel
theorem dX8_readCondition_39 : decode cX8_readCondition 39 = .ok (.aload_n 0, 1) := by decide +kernel
theorem dX8_readCondition_40 : decode cX8_readCondition 40 = .ok (.iload_n 1, 1) := by decide +kernel
theorem dX8_readCondition_41 : decode cX8_readCondition 41 = .ok (.invokevirtual 184, 3) := by decide +kernel
theorem dX8_readCondition_44 : decode cX8_readCondition 44 = .ok (.ifCond .ne 5, 3) := by decide +kernel
theorem dX8_readCondition_47 : decode cX8_readCondition 47 = .ok (.iconst 0, 1) := by decide +kernel
theorem dX8_readCondition_48 : decode cX8_readCondition 48 = .ok (.ireturn, 1) := by decide +kernel
theorem dX8_readCondition_49 : decode cX8_readCondition 49 = .ok (.aload_n 0, 1) := by decide +kernel
theorem dX8_readCondition_50 : decode cX8_readCondition 50 = .ok (.sipush 10015, 3) := by decide +kernel
theorem dX8_readCondition_53 : decode cX8_readCondition 53 = .ok (.invokevirtual 190, 3) := by decide +kernel
theorem dX8_readCondition_56 : decode cX8_readCondition 56 = .ok (.iinc 2 1, 3) := by decide +kernel
theorem dX8_readCondition_59 : decode cX8_readCondition 59 = .ok (.goto (-47), 3) := by decide +kernel
theorem dX8_readCondition_62 : decode cX8_readCondition 62 = .ok (.iconst 1, 1) := by decide +kernel
theorem dX8_readCondition_63 : decode cX8_readCondition 63 = .ok (.ireturn, 1) := by decide +kernel
theorem dX8_readAll_0 : decode cX8_readAll 0 = .ok (.aload_n 0, 1) := by decide +kernel
theorem dX8_readAll_1 : decode cX8_readAll 1 = .ok (.iload_n 1, 1) := by decide +kernel
theorem dX8_readAll_2 : decode cX8_readAll 2 = .ok (.invokevirtual 194, 3) := by decide +kernel
theorem dX8_readAll_5 : decode cX8_readAll 5 = .ok (.ifCond .ne 5, 3) := by decide +kernel
theorem dX8_readAll_8 : decode cX8_readAll 8 = .ok (.iconst 0, 1) := by decide +kernel
theorem dX8_readAll_9 : decode cX8_readAll 9 = .ok (.ireturn, 1) := by decide +kernel
theorem dX8_readAll_10 : decode cX8_readAll 10 = .ok (.iconst 0, 1) := by decide +kernel
theorem dX8_readAll_11 : decode cX8_readAll 11 = .ok (.istore_n 2, 1) := by decide +kernel
theorem dX8_readAll_12 : decode cX8_readAll 12 = .ok (.iload_n 2, 1) := by decide +kernel
theorem dX8_readAll_13 : decode cX8_readAll 13 = .ok (.sipush 400, 3) := by decide +kernel
theorem dX8_readAll_16 : decode cX8_readAll 16 = .ok (.if_icmp .ge 46, 3) := by decide +kernel
theorem dX8_readAll_19 : decode cX8_readAll 19 = .ok (.aload_n 0, 1) := by decide +kernel
theorem dX8_readAll_20 : decode cX8_readAll 20 = .ok (.getfield 31, 3) := by decide +kernel
theorem dX8_readAll_23 : decode cX8_readAll 23 = .ok (.getfield 88, 3) := by decide +kernel
theorem dX8_readAll_26 : decode cX8_readAll 26 = .ok (.getstatic 197, 3) := by decide +kernel
theorem dX8_readAll_29 : decode cX8_readAll 29 = .ok (.if_acmp .ne 33, 3) := by decide +kernel
theorem dX8_readAll_32 : decode cX8_readAll 32 = .ok (.aload_n 0, 1) := by decide +kernel
theorem dX8_readAll_33 : decode cX8_readAll 33 = .ok (.getfield 31, 3) := by decide +kernel
theorem dX8_readAll_36 : decode cX8_readAll 36 = .ok (.invokevirtual 92, 3) := by decide +kernel
theorem dX8_readAll_39 : decode cX8_readAll 39 = .ok (.aload_n 0, 1) := by decide +kernel
theorem dX8_readAll_40 : decode cX8_readAll 40 = .ok (.iload_n 1, 1) := by decide +kernel
theorem dX8_readAll_41 : decode cX8_readAll 41 = .ok (.invokevirtual 194, 3) := by decide +kernel
theorem dX8_readAll_44 : decode cX8_readAll 44 = .ok (.ifCond .ne 5, 3) := by decide +kernel
theorem dX8_readAll_47 : decode cX8_readAll 47 = .ok (.iconst 0, 1) := by decide +kernel
theorem dX8_readAll_48 : decode cX8_readAll 48 = .ok (.ireturn, 1) := by decide +kernel
theorem dX8_readAll_49 : decode cX8_readAll 49 = .ok (.aload_n 0, 1) := by decide +kernel
theorem dX8_readAll_50 : decode cX8_readAll 50 = .ok (.sipush 10014, 3) := by decide +kernel
theorem dX8_readAll_53 : decode cX8_readAll 53 = .ok (.invokevirtual 190, 3) := by decide +kernel
theorem dX8_readAll_56 : decode cX8_readAll 56 = .ok (.iinc 2 1, 3) := by decide +kernel
theorem dX8_readAll_59 : decode cX8_readAll 59 = .ok (.goto (-47), 3) := by decide +kernel
theorem dX8_readAll_62 : decode cX8_readAll 62 = .ok (.iconst 1, 1) := by decide +kernel
theorem dX8_readAll_63 : decode cX8_readAll 63 = .ok (.ireturn, 1) := by decide +kernel
theorem dX8_readAtom_0 : decode cX8_readAtom 0 = .ok (.aload_n 0, 1) := by decide +kernel
theorem dX8_readAtom_1 : decode cX8_readAtom 1 = .ok (.getfield 31, 3) := by decide +kernel
theorem dX8_readAtom_4 : decode cX8_readAtom 4 = .ok (.getfield 88, 3) := by decide +kernel
theorem dX8_readAtom_7 : decode cX8_readAtom 7 = .ok (.getstatic 200, 3) := by decide +kernel
theorem dX8_readAtom_10 : decode cX8_readAtom 10 = .ok (.if_acmp .eq 15, 3) := by decide +kernel
theorem dX8_readAtom_13 : decode cX8_readAtom 13 = .ok (.aload_n 0, 1) := by decide +kernel
theorem dX8_readAtom_14 : decode cX8_readAtom 14 = .ok (.getfield 31, 3) := by decide +kernel
theorem dX8_readAtom_17 : decode cX8_readAtom 17 = .ok (.getfield 95, 3) := by decide +kernel
theorem dX8_readAtom_20 : decode cX8_readAtom 20 = .ok (.bipush 40, 2) := by decide +kernel
theorem dX8_readAtom_22 : decode cX8_readAtom 22 = .ok (.if_icmp .ne 11, 3) := by decide +kernel
theorem dX8_readAtom_25 : decode cX8_readAtom 25 = .ok (.aload_n 0, 1) := by decide +kernel
theorem dX8_readAtom_26 : decode cX8_readAtom 26 = .ok (.iload_n 1, 1) := by decide +kernel
theorem dX8_readAtom_27 : decode cX8_readAtom 27 = .ok (.iconst 1, 1) := by decide +kernel
theorem dX8_readAtom_28 : decode cX8_readAtom 28 = .ok (.iadd, 1) := by decide +kernel
theorem dX8_readAtom_29 : decode cX8_readAtom 29 = .ok (.invokevirtual 203, 3) := by decide +kernel
theorem dX8_readAtom_32 : decode cX8_readAtom 32 = .ok (.ireturn, 1) := by decide +kernel
theorem dX8_readAtom_33 : decode cX8_readAtom 33 = .ok (.aload_n 0, 1) := by decide +kernel
theorem dX8_readAtom_34 : decode cX8_readAtom 34 = .ok (.getfield 62, 3) := by decide +kernel
theorem dX8_readAtom_37 : decode cX8_readAtom 37 = .ok (.ifCond .eq 32, 3) := by decide +kernel
theorem dX8_readAtom_40 : decode cX8_readAtom 40 = .ok (.aload_n 0, 1) := by decide +kernel
theorem dX8_readAtom_41 : decode cX8_readAtom 41 = .ok (.getfield 31, 3) := by decide +kernel
theorem dX8_readAtom_44 : decode cX8_readAtom 44 = .ok (.getfield 88, 3) := by decide +kernel
theorem dX8_readAtom_47 : decode cX8_readAtom 47 = .ok (.getstatic 206, 3) := by decide +kernel
theorem dX8_readAtom_50 : decode cX8_readAtom 50 = .ok (.if_acmp .ne 19, 3) := by decide +kernel
theorem dX8_readAtom_53 : decode cX8_readAtom 53 = .ok (.aload_n 0, 1) := by decide +kernel
theorem dX8_readAtom_54 : decode cX8_readAtom 54 = .ok (.getfield 31, 3) := by decide +kernel
theorem dX8_readAtom_57 : decode cX8_readAtom 57 = .ok (.invokevirtual 92, 3) := by decide +kernel
theorem dX8_readAtom_60 : decode cX8_readAtom 60 = .ok (.aload_n 0, 1) := by decide +kernel
theorem dX8_readAtom_61 : decode cX8_readAtom 61 = .ok (.sipush 10007, 3) := by decide +kernel
theorem dX8_readAtom_64 : decode cX8_readAtom 64 = .ok (.invokevirtual 190, 3) := by decide +kernel
theorem dX8_readAtom_67 : decode cX8_readAtom 67 = .ok (.iconst 1, 1) := by decide +kernel
theorem dX8_readAtom_68 : decode cX8_readAtom 68 = .ok (.ireturn, 1) := by decide +kernel
theorem dX8_readAtom_69 : decode cX8_readAtom 69 = .ok (.aload_n 0, 1) := by decide +kernel
theorem dX8_readAtom_70 : decode cX8_readAtom 70 = .ok (.invokevirtual 209, 3) := by decide +kernel
theorem dX8_readAtom_73 : decode cX8_readAtom 73 = .ok (.ifCond .ne 5, 3) := by decide +kernel
theorem dX8_readAtom_76 : decode cX8_readAtom 76 = .ok (.iconst 0, 1) := by decide +kernel
theorem dX8_readAtom_77 : decode cX8_readAtom 77 = .ok (.ireturn, 1) := by decide +kernel
theorem dX8_readAtom_78 : decode cX8_readAtom 78 = .ok (.aload_n 0, 1) := by decide +kernel
theorem dX8_readAtom_79 : decode cX8_readAtom 79 = .ok (.getfield 31, 3) := by decide +kernel
theorem dX8_readAtom_82 : decode cX8_readAtom 82 = .ok (.getfield 95, 3) := by decide +kernel
theorem dX8_readAtom_85 : decode cX8_readAtom 85 = .ok (.bipush 60, 2) := by decide +kernel
theorem dX8_readAtom_87 : decode cX8_readAtom 87 = .ok (.if_icmp .ne 7, 3) := by decide +kernel
theorem dX8_readAtom_90 : decode cX8_readAtom 90 = .ok (.iconst 1, 1) := by decide +kernel
theorem dX8_readAtom_91 : decode cX8_readAtom 91 = .ok (.goto 4, 3) := by decide +kernel
theorem dX8_readAtom_94 : decode cX8_readAtom 94 = .ok (.iconst 0, 1) := by decide +kernel
theorem dX8_readAtom_95 : decode cX8_readAtom 95 = .ok (.istore_n 2, 1) := by decide +kernel
theorem dX8_readAtom_96 : decode cX8_readAtom 96 = .ok (.iload_n 2, 1) := by decide +kernel
theorem dX8_readAtom_97 : decode cX8_readAtom 97 = .ok (.ifCond .ne 20, 3) := by decide +kernel
theorem dX8_readAtom_100 : decode cX8_readAtom 100 = .ok (.aload_n 0, 1) := by decide +kernel
theorem dX8_readAtom_101 : decode cX8_readAtom 101 = .ok (.getfield 31, 3) := by decide +kernel
theorem dX8_readAtom_104 : decode cX8_readAtom 104 = .ok (.getfield 95, 3) := by decide +kernel
theorem dX8_readAtom_107 : decode cX8_readAtom 107 = .ok (.bipush 62, 2) := by decide +kernel
theorem dX8_readAtom_109 : decode cX8_readAtom 109 = .ok (.if_icmp .eq 8, 3) := by decide +kernel
theorem dX8_readAtom_112 : decode cX8_readAtom 112 = .ok (.aload_n 0, 1) := by decide +kernel
theorem dX8_readAtom_113 : decode cX8_readAtom 113 = .ok (.invokevirtual 47, 3) := by decide +kernel
theorem dX8_readAtom_116 : decode cX8_readAtom 116 = .ok (.ireturn, 1) := by decide +kernel
theorem dX8_readAtom_117 : decode cX8_readAtom 117 = .ok (.aload_n 0, 1) := by decide +kernel
theorem dX8_readAtom_118 : decode cX8_readAtom 118 = .ok (.getfield 31, 3) := by decide +kernel
theorem dX8_readAtom_121 : decode cX8_readAtom 121 = .ok (.invokevirtual 92, 3) := by decide +kernel
theorem dX8_readAtom_124 : decode cX8_readAtom 124 = .ok (.aload_n 0, 1) := by decide +kernel
theorem dX8_readAtom_125 : decode cX8_readAtom 125 = .ok (.invokevirtual 209, 3) := by decide +kernel
theorem dX8_readAtom_128 : decode cX8_readAtom 128 = .ok (.ifCond .ne 5, 3) := by decide +kernel
theorem dX8_readAtom_131 : decode cX8_readAtom 131 = .ok (.iconst 0, 1) := by decide +kernel
theorem dX8_readAtom_132 : decode cX8_readAtom 132 = .ok (.ireturn, 1) := by decide +kernel
theorem dX8_readAtom_133 : decode cX8_readAtom 133 = .ok (.aload_n 0, 1) := by decide +kernel
theorem dX8_readAtom_134 : decode cX8_readAtom 134 = .ok (.iload_n 2, 1) := by decide +kernel
theorem dX8_readAtom_135 : decode cX8_readAtom 135 = .ok (.ifCond .eq 9, 3) := by decide +kernel
theorem dX8_readAtom_138 : decode cX8_readAtom 138 = .ok (.sipush 10011, 3) := by decide +kernel
theorem dX8_readAtom_141 : decode cX8_readAtom 141 = .ok (.goto 6, 3) := by decide +kernel
theorem dX8_readAtom_144 : decode cX8_readAtom 144 = .ok (.sipush 10012, 3) := by decide +kernel
theorem dX8_readAtom_147 : decode cX8_readAtom 147 = .ok (.invokevirtual 190, 3) := by decide +kernel
theorem dX8_readAtom_150 : decode cX8_readAtom 150 = .ok (.iconst 1, 1) := by decide +kernel
theorem dX8_readAtom_151 : decode cX8_readAtom 151 = .ok (.ireturn, 1) := by decide +kernel
theorem dX8_readDeeper_0 : decode cX8_readDeeper 0 = .ok (.iload_n 1, 1) := by decide +kernel
theorem dX8_readDeeper_1 : decode cX8_readDeeper 1 = .ok (.bipush 6, 2) := by decide +kernel
theorem dX8_readDeeper_3 : decode cX8_readDeeper 3 = .ok (.if_icmp .le 8, 3) := by decide +kernel
theorem dX8_readDeeper_6 : decode cX8_readDeeper 6 = .ok (.aload_n 0, 1) := by decide +kernel
theorem dX8_readDeeper_7 : decode cX8_readDeeper 7 = .ok (.invokevirtual 47, 3) := by decide +kernel
theorem dX8_readDeeper_10 : decode cX8_readDeeper 10 = .ok (.ireturn, 1) := by decide +kernel
theorem dX8_readDeeper_11 : decode cX8_readDeeper 11 = .ok (.aload_n 0, 1) := by decide +kernel
theorem dX8_readDeeper_12 : decode cX8_readDeeper 12 = .ok (.getfield 31, 3) := by decide +kernel
theorem dX8_readDeeper_15 : decode cX8_readDeeper 15 = .ok (.getfield 88, 3) := by decide +kernel
theorem dX8_readDeeper_18 : decode cX8_readDeeper 18 = .ok (.getstatic 200, 3) := by decide +kernel
theorem dX8_readDeeper_21 : decode cX8_readDeeper 21 = .ok (.if_acmp .ne 7, 3) := by decide +kernel
theorem dX8_readDeeper_24 : decode cX8_readDeeper 24 = .ok (.iconst 1, 1) := by decide +kernel
theorem dX8_readDeeper_25 : decode cX8_readDeeper 25 = .ok (.goto 4, 3) := by decide +kernel
theorem dX8_readDeeper_28 : decode cX8_readDeeper 28 = .ok (.iconst 0, 1) := by decide +kernel
theorem dX8_readDeeper_29 : decode cX8_readDeeper 29 = .ok (.istore_n 2, 1) := by decide +kernel
theorem dX8_readDeeper_30 : decode cX8_readDeeper 30 = .ok (.aload_n 0, 1) := by decide +kernel
theorem dX8_readDeeper_31 : decode cX8_readDeeper 31 = .ok (.getfield 31, 3) := by decide +kernel
theorem dX8_readDeeper_34 : decode cX8_readDeeper 34 = .ok (.invokevirtual 92, 3) := by decide +kernel
theorem dX8_readDeeper_37 : decode cX8_readDeeper 37 = .ok (.iload_n 2, 1) := by decide +kernel
theorem dX8_readDeeper_38 : decode cX8_readDeeper 38 = .ok (.ifCond .ne 26, 3) := by decide +kernel
theorem dX8_readDeeper_41 : decode cX8_readDeeper 41 = .ok (.aload_n 0, 1) := by decide +kernel
theorem dX8_readDeeper_42 : decode cX8_readDeeper 42 = .ok (.iload_n 1, 1) := by decide +kernel
theorem dX8_readDeeper_43 : decode cX8_readDeeper 43 = .ok (.invokevirtual 169, 3) := by decide +kernel
theorem dX8_readDeeper_46 : decode cX8_readDeeper 46 = .ok (.ifCond .eq 16, 3) := by decide +kernel
theorem dX8_readDeeper_49 : decode cX8_readDeeper 49 = .ok (.aload_n 0, 1) := by decide +kernel
theorem dX8_readDeeper_50 : decode cX8_readDeeper 50 = .ok (.bipush 41, 2) := by decide +kernel
theorem dX8_readDeeper_52 : decode cX8_readDeeper 52 = .ok (.invokevirtual 78, 3) := by decide +kernel
theorem dX8_readDeeper_55 : decode cX8_readDeeper 55 = .ok (.ifCond .eq 7, 3) := by decide +kernel
theorem dX8_readDeeper_58 : decode cX8_readDeeper 58 = .ok (.iconst 1, 1) := by decide +kernel
theorem dX8_readDeeper_59 : decode cX8_readDeeper 59 = .ok (.goto 4, 3) := by decide +kernel
theorem dX8_readDeeper_62 : decode cX8_readDeeper 62 = .ok (.iconst 0, 1) := by decide +kernel
theorem dX8_readDeeper_63 : decode cX8_readDeeper 63 = .ok (.ireturn, 1) := by decide +kernel
theorem dX8_readDeeper_64 : decode cX8_readDeeper 64 = .ok (.aload_n 0, 1) := by decide +kernel
theorem dX8_readDeeper_65 : decode cX8_readDeeper 65 = .ok (.iload_n 1, 1) := by decide +kernel
theorem dX8_readDeeper_66 : decode cX8_readDeeper 66 = .ok (.invokevirtual 194, 3) := by decide +kernel
theorem dX8_readDeeper_69 : decode cX8_readDeeper 69 = .ok (.ifCond .ne 5, 3) := by decide +kernel
theorem dX8_readDeeper_72 : decode cX8_readDeeper 72 = .ok (.iconst 0, 1) := by decide +kernel
theorem dX8_readDeeper_73 : decode cX8_readDeeper 73 = .ok (.ireturn, 1) := by decide +kernel
theorem dX8_readDeeper_74 : decode cX8_readDeeper 74 = .ok (.aload_n 0, 1) := by decide +kernel
theorem dX8_readDeeper_75 : decode cX8_readDeeper 75 = .ok (.sipush 10013, 3) := by decide +kernel
theorem dX8_readDeeper_78 : decode cX8_readDeeper 78 = .ok (.invokevirtual 190, 3) := by decide +kernel
theorem dX8_readDeeper_81 : decode cX8_readDeeper 81 = .ok (.iconst 1, 1) := by decide +kernel
theorem dX8_readDeeper_82 : decode cX8_readDeeper 82 = .ok (.ireturn, 1) := by decide +kernel
theorem dX8_readSum_0 : decode cX8_readSum 0 = .ok (.iconst 0, 1) := by decide +kernel
theorem dX8_readSum_1 : decode cX8_readSum 1 = .ok (.istore_n 1, 1) := by decide +kernel
theorem dX8_readSum_2 : decode cX8_readSum 2 = .ok (.iload_n 1, 1) := by decide +kernel
theorem dX8_readSum_3 : decode cX8_readSum 3 = .ok (.sipush 400, 3) := by decide +kernel
theorem dX8_readSum_6 : decode cX8_readSum 6 = .ok (.if_icmp .ge 89, 3) := by decide +kernel
theorem dX8_readSum_9 : decode cX8_readSum 9 = .ok (.aload_n 0, 1) := by decide +kernel
theorem dX8_readSum_10 : decode cX8_readSum 10 = .ok (.invokevirtual 181, 3) := by decide +kernel
theorem dX8_readSum_13 : decode cX8_readSum 13 = .ok (.istore_n 2, 1) := by decide +kernel
theorem dX8_readSum_14 : decode cX8_readSum 14 = .ok (.iload_n 2, 1) := by decide +kernel
theorem dX8_readSum_15 : decode cX8_readSum 15 = .ok (.iconst (-1), 1) := by decide +kernel
theorem dX8_readSum_16 : decode cX8_readSum 16 = .ok (.if_icmp .ne 13, 3) := by decide +kernel
theorem dX8_readSum_19 : decode cX8_readSum 19 = .ok (.aload_n 0, 1) := by decide +kernel
theorem dX8_readSum_20 : decode cX8_readSum 20 = .ok (.getfield 31, 3) := by decide +kernel
theorem dX8_readSum_23 : decode cX8_readSum 23 = .ok (.getfield 98, 3) := by decide +kernel
theorem dX8_readSum_26 : decode cX8_readSum 26 = .ok (.goto 8, 3) := by decide +kernel
theorem dX8_readSum_29 : decode cX8_readSum 29 = .ok (.sipush 10000, 3) := by decide +kernel
theorem dX8_readSum_32 : decode cX8_readSum 32 = .ok (.iload_n 2, 1) := by decide +kernel
theorem dX8_readSum_33 : decode cX8_readSum 33 = .ok (.iadd, 1) := by decide +kernel
theorem dX8_readSum_34 : decode cX8_readSum 34 = .ok (.istore_n 3, 1) := by decide +kernel
theorem dX8_readSum_35 : decode cX8_readSum 35 = .ok (.iload_n 3, 1) := by decide +kernel
theorem dX8_readSum_36 : decode cX8_readSum 36 = .ok (.iconst (-1), 1) := by decide +kernel
theorem dX8_readSum_37 : decode cX8_readSum 37 = .ok (.if_icmp .ne 8, 3) := by decide +kernel
theorem dX8_readSum_40 : decode cX8_readSum 40 = .ok (.aload_n 0, 1) := by decide +kernel
theorem dX8_readSum_41 : decode cX8_readSum 41 = .ok (.invokevirtual 47, 3) := by decide +kernel
theorem dX8_readSum_44 : decode cX8_readSum 44 = .ok (.ireturn, 1) := by decide +kernel
theorem dX8_readSum_45 : decode cX8_readSum 45 = .ok (.aload_n 0, 1) := by decide +kernel
theorem dX8_readSum_46 : decode cX8_readSum 46 = .ok (.getfield 31, 3) := by decide +kernel
theorem dX8_readSum_49 : decode cX8_readSum 49 = .ok (.invokevirtual 92, 3) := by decide +kernel
theorem dX8_readSum_52 : decode cX8_readSum 52 = .ok (.aload_n 0, 1) := by decide +kernel
theorem dX8_readSum_53 : decode cX8_readSum 53 = .ok (.iload_n 3, 1) := by decide +kernel
theorem dX8_readSum_54 : decode cX8_readSum 54 = .ok (.invokevirtual 190, 3) := by decide +kernel
theorem dX8_readSum_57 : decode cX8_readSum 57 = .ok (.iload_n 1, 1) := by decide +kernel
theorem dX8_readSum_58 : decode cX8_readSum 58 = .ok (.ifCond .le 10, 3) := by decide +kernel
theorem dX8_readSum_61 : decode cX8_readSum 61 = .ok (.aload_n 0, 1) := by decide +kernel
theorem dX8_readSum_62 : decode cX8_readSum 62 = .ok (.sipush 10010, 3) := by decide +kernel
theorem dX8_readSum_65 : decode cX8_readSum 65 = .ok (.invokevirtual 190, 3) := by decide +kernel
theorem dX8_readSum_68 : decode cX8_readSum 68 = .ok (.aload_n 0, 1) := by decide +kernel
theorem dX8_readSum_69 : decode cX8_readSum 69 = .ok (.getfield 31, 3) := by decide +kernel
theorem dX8_readSum_72 : decode cX8_readSum 72 = .ok (.getfield 95, 3) := by decide +kernel
theorem dX8_readSum_75 : decode cX8_readSum 75 = .ok (.bipush 43, 2) := by decide +kernel
theorem dX8_readSum_77 : decode cX8_readSum 77 = .ok (.if_icmp .eq 5, 3) := by decide +kernel
theorem dX8_readSum_80 : decode cX8_readSum 80 = .ok (.iconst 1, 1) := by decide +kernel
theorem dX8_readSum_81 : decode cX8_readSum 81 = .ok (.ireturn, 1) := by decide +kernel
theorem dX8_readSum_82 : decode cX8_readSum 82 = .ok (.aload_n 0, 1) := by decide +kernel
theorem dX8_readSum_83 : decode cX8_readSum 83 = .ok (.getfield 31, 3) := by decide +kernel
theorem dX8_readSum_86 : decode cX8_readSum 86 = .ok (.invokevirtual 92, 3) := by decide +kernel
theorem dX8_readSum_89 : decode cX8_readSum 89 = .ok (.iinc 1 1, 3) := by decide +kernel
theorem dX8_readSum_92 : decode cX8_readSum 92 = .ok (.goto (-90), 3) := by decide +kernel
theorem dX8_readSum_95 : decode cX8_readSum 95 = .ok (.aload_n 0, 1) := by decide +kernel
theorem dX8_readSum_96 : decode cX8_readSum 96 = .ok (.invokevirtual 47, 3) := by decide +kernel
theorem dX8_readSum_99 : decode cX8_readSum 99 = .ok (.ireturn, 1) := by decide +kernel
theorem dX8_factHere_0 : decode cX8_factHere 0 = .ok (.aload_n 0, 1) := by decide +kernel
theorem dX8_factHere_1 : decode cX8_factHere 1 = .ok (.getfield 31, 3) := by decide +kernel
theorem dX8_factHere_4 : decode cX8_factHere 4 = .ok (.getfield 88, 3) := by decide +kernel
theorem dX8_factHere_7 : decode cX8_factHere 7 = .ok (.getfield 212, 3) := by decide +kernel
theorem dX8_factHere_10 : decode cX8_factHere 10 = .ok (.istore_n 1, 1) := by decide +kernel
theorem dX8_factHere_11 : decode cX8_factHere 11 = .ok (.aload_n 0, 1) := by decide +kernel
theorem dX8_factHere_12 : decode cX8_factHere 12 = .ok (.getfield 62, 3) := by decide +kernel
theorem dX8_factHere_15 : decode cX8_factHere 15 = .ok (.ifCond .ne 8, 3) := by decide +kernel
theorem dX8_factHere_18 : decode cX8_factHere 18 = .ok (.iload_n 1, 1) := by decide +kernel
theorem dX8_factHere_19 : decode cX8_factHere 19 = .ok (.iconst 4, 1) := by decide +kernel
theorem dX8_factHere_20 : decode cX8_factHere 20 = .ok (.if_icmp .lt 7, 3) := by decide +kernel
theorem dX8_factHere_23 : decode cX8_factHere 23 = .ok (.iload_n 1, 1) := by decide +kernel
theorem dX8_factHere_24 : decode cX8_factHere 24 = .ok (.goto 4, 3) := by decide +kernel
theorem dX8_factHere_27 : decode cX8_factHere 27 = .ok (.iconst (-1), 1) := by decide +kernel
theorem dX8_factHere_28 : decode cX8_factHere 28 = .ok (.ireturn, 1) := by decide +kernel
theorem dX8_addCell_0 : decode cX8_addCell 0 = .ok (.aload_n 0, 1) := by decide +kernel
theorem dX8_addCell_1 : decode cX8_addCell 1 = .ok (.getfield 56, 3) := by decide +kernel
theorem dX8_addCell_4 : decode cX8_addCell 4 = .ok (.ifCond .lt 35, 3) := by decide +kernel
theorem dX8_addCell_7 : decode cX8_addCell 7 = .ok (.aload_n 0, 1) := by decide +kernel
theorem dX8_addCell_8 : decode cX8_addCell 8 = .ok (.getfield 56, 3) := by decide +kernel
theorem dX8_addCell_11 : decode cX8_addCell 11 = .ok (.aload_n 0, 1) := by decide +kernel
theorem dX8_addCell_12 : decode cX8_addCell 12 = .ok (.getfield 24, 3) := by decide +kernel
theorem dX8_addCell_15 : decode cX8_addCell 15 = .ok (.arraylength, 1) := by decide +kernel
theorem dX8_addCell_16 : decode cX8_addCell 16 = .ok (.if_icmp .ge 23, 3) := by decide +kernel
theorem dX8_addCell_19 : decode cX8_addCell 19 = .ok (.aload_n 0, 1) := by decide +kernel
theorem dX8_addCell_20 : decode cX8_addCell 20 = .ok (.getfield 24, 3) := by decide +kernel
theorem dX8_addCell_23 : decode cX8_addCell 23 = .ok (.aload_n 0, 1) := by decide +kernel
theorem dX8_addCell_24 : decode cX8_addCell 24 = .ok (.getfield 56, 3) := by decide +kernel
theorem dX8_addCell_27 : decode cX8_addCell 27 = .ok (.iload_n 1, 1) := by decide +kernel
theorem dX8_addCell_28 : decode cX8_addCell 28 = .ok (.iastore, 1) := by decide +kernel
theorem dX8_addCell_29 : decode cX8_addCell 29 = .ok (.aload_n 0, 1) := by decide +kernel
theorem dX8_addCell_30 : decode cX8_addCell 30 = .ok (.dup, 1) := by decide +kernel
theorem dX8_addCell_31 : decode cX8_addCell 31 = .ok (.getfield 56, 3) := by decide +kernel
theorem dX8_addCell_34 : decode cX8_addCell 34 = .ok (.iconst 1, 1) := by decide +kernel
theorem dX8_addCell_35 : decode cX8_addCell 35 = .ok (.iadd, 1) := by decide +kernel
theorem dX8_addCell_36 : decode cX8_addCell 36 = .ok (.putfield 56, 3) := by decide +kernel
theorem dX8_addCell_39 : decode cX8_addCell 39 = .ok (.return_, 1) := by decide +kernel
theorem dX9_init_0 : decode cX9_init 0 = .ok (.aload_n 0, 1) := by decide +kernel
theorem dX9_init_1 : decode cX9_init 1 = .ok (.invokespecial 3, 3) := by decide +kernel
theorem dX9_init_4 : decode cX9_init 4 = .ok (.aload_n 0, 1) := by decide +kernel
theorem dX9_init_5 : decode cX9_init 5 = .ok (.sipush 144, 3) := by decide +kernel
theorem dX9_init_8 : decode cX9_init 8 = .ok (.newarray .int, 2) := by decide +kernel
theorem dX9_init_10 : decode cX9_init 10 = .ok (.putfield 9, 3) := by decide +kernel
theorem dX9_init_13 : decode cX9_init 13 = .ok (.aload_n 0, 1) := by decide +kernel
theorem dX9_init_14 : decode cX9_init 14 = .ok (.sipush 144, 3) := by decide +kernel
theorem dX9_init_17 : decode cX9_init 17 = .ok (.newarray .int, 2) := by decide +kernel
theorem dX9_init_19 : decode cX9_init 19 = .ok (.putfield 15, 3) := by decide +kernel
theorem dX9_init_22 : decode cX9_init 22 = .ok (.aload_n 0, 1) := by decide +kernel
theorem dX9_init_23 : decode cX9_init 23 = .ok (.bipush 33, 2) := by decide +kernel
theorem dX9_init_25 : decode cX9_init 25 = .ok (.newarray .int, 2) := by decide +kernel
theorem dX9_init_27 : decode cX9_init 27 = .ok (.putfield 18, 3) := by decide +kernel
theorem dX9_init_30 : decode cX9_init 30 = .ok (.aload_n 0, 1) := by decide +kernel
theorem dX9_init_31 : decode cX9_init 31 = .ok (.bipush 32, 2) := by decide +kernel
theorem dX9_init_33 : decode cX9_init 33 = .ok (.newarray .int, 2) := by decide +kernel
theorem dX9_init_35 : decode cX9_init 35 = .ok (.putfield 21, 3) := by decide +kernel
theorem dX9_init_38 : decode cX9_init 38 = .ok (.aload_n 0, 1) := by decide +kernel
theorem dX9_init_39 : decode cX9_init 39 = .ok (.bipush 32, 2) := by decide +kernel
theorem dX9_init_41 : decode cX9_init 41 = .ok (.newarray .int, 2) := by decide +kernel
theorem dX9_init_43 : decode cX9_init 43 = .ok (.putfield 24, 3) := by decide +kernel
theorem dX9_init_46 : decode cX9_init 46 = .ok (.aload_n 0, 1) := by decide +kernel
theorem dX9_init_47 : decode cX9_init 47 = .ok (.bipush 32, 2) := by decide +kernel
theorem dX9_init_49 : decode cX9_init 49 = .ok (.newarray .int, 2) := by decide +kernel
theorem dX9_init_51 : decode cX9_init 51 = .ok (.putfield 27, 3) := by decide +kernel
theorem dX9_init_54 : decode cX9_init 54 = .ok (.return_, 1) := by decide +kernel
theorem dX9_read_0 : decode cX9_read 0 = .ok (.iconst 0, 1) := by decide +kernel
theorem dX9_read_1 : decode cX9_read 1 = .ok (.istore_n 2, 1) := by decide +kernel
theorem dX9_read_2 : decode cX9_read 2 = .ok (.iconst 0, 1) := by decide +kernel
theorem dX9_read_3 : decode cX9_read 3 = .ok (.istore_n 3, 1) := by decide +kernel
theorem dX9_read_4 : decode cX9_read 4 = .ok (.iload_n 3, 1) := by decide +kernel
theorem dX9_read_5 : decode cX9_read 5 = .ok (.bipush 32, 2) := by decide +kernel
theorem dX9_read_7 : decode cX9_read 7 = .ok (.if_icmp .ge 117, 3) := by decide +kernel
theorem dX9_read_10 : decode cX9_read 10 = .ok (.aload_n 0, 1) := by decide +kernel
theorem dX9_read_11 : decode cX9_read 11 = .ok (.getfield 18, 3) := by decide +kernel
theorem dX9_read_14 : decode cX9_read 14 = .ok (.iload_n 3, 1) := by decide +kernel
theorem dX9_read_15 : decode cX9_read 15 = .ok (.iload_n 2, 1) := by decide +kernel
theorem dX9_read_16 : decode cX9_read 16 = .ok (.invokestatic 30, 3) := by decide +kernel
theorem dX9_read_19 : decode cX9_read 19 = .ok (.iconst 0, 1) := by decide +kernel
theorem dX9_read_20 : decode cX9_read 20 = .ok (.istore 4, 2) := by decide +kernel
theorem dX9_read_22 : decode cX9_read 22 = .ok (.iload 4, 2) := by decide +kernel
theorem dX9_read_24 : decode cX9_read 24 = .ok (.bipush 32, 2) := by decide +kernel
theorem dX9_read_26 : decode cX9_read 26 = .ok (.if_icmp .ge 46, 3) := by decide +kernel
theorem dX9_read_29 : decode cX9_read 29 = .ok (.aload_n 1, 1) := by decide +kernel
theorem dX9_read_30 : decode cX9_read 30 = .ok (.iload_n 3, 1) := by decide +kernel
theorem dX9_read_31 : decode cX9_read 31 = .ok (.iload 4, 2) := by decide +kernel
theorem dX9_read_33 : decode cX9_read 33 = .ok (.invokevirtual 36, 3) := by decide +kernel
theorem dX9_read_36 : decode cX9_read 36 = .ok (.istore 5, 2) := by decide +kernel
theorem dX9_read_38 : decode cX9_read 38 = .ok (.iload 5, 2) := by decide +kernel
theorem dX9_read_40 : decode cX9_read 40 = .ok (.ifCond .le 26, 3) := by decide +kernel
theorem dX9_read_43 : decode cX9_read 43 = .ok (.aload_n 0, 1) := by decide +kernel
theorem dX9_read_44 : decode cX9_read 44 = .ok (.getfield 9, 3) := by decide +kernel
theorem dX9_read_47 : decode cX9_read 47 = .ok (.iload_n 2, 1) := by decide +kernel
theorem dX9_read_48 : decode cX9_read 48 = .ok (.iload 4, 2) := by decide +kernel
theorem dX9_read_50 : decode cX9_read 50 = .ok (.invokestatic 30, 3) := by decide +kernel
theorem dX9_read_53 : decode cX9_read 53 = .ok (.aload_n 0, 1) := by decide +kernel
theorem dX9_read_54 : decode cX9_read 54 = .ok (.getfield 15, 3) := by decide +kernel
theorem dX9_read_57 : decode cX9_read 57 = .ok (.iload_n 2, 1) := by decide +kernel
theorem dX9_read_58 : decode cX9_read 58 = .ok (.iload 5, 2) := by decide +kernel
theorem dX9_read_60 : decode cX9_read 60 = .ok (.invokestatic 30, 3) := by decide +kernel
theorem dX9_read_63 : decode cX9_read 63 = .ok (.iinc 2 1, 3) := by decide +kernel
theorem dX9_read_66 : decode cX9_read 66 = .ok (.iinc 4 1, 3) := by decide +kernel
theorem dX9_read_69 : decode cX9_read 69 = .ok (.goto (-47), 3) := by decide +kernel
theorem dX9_read_72 : decode cX9_read 72 = .ok (.aload_n 0, 1) := by decide +kernel
theorem dX9_read_73 : decode cX9_read 73 = .ok (.getfield 21, 3) := by decide +kernel
theorem dX9_read_76 : decode cX9_read 76 = .ok (.iload_n 3, 1) := by decide +kernel
theorem dX9_read_77 : decode cX9_read 77 = .ok (.aload_n 1, 1) := by decide +kernel
theorem dX9_read_78 : decode cX9_read 78 = .ok (.iload_n 3, 1) := by decide +kernel
theorem dX9_read_79 : decode cX9_read 79 = .ok (.bipush 32, 2) := by decide +kernel
theorem dX9_read_81 : decode cX9_read 81 = .ok (.invokevirtual 36, 3) := by decide +kernel
theorem dX9_read_84 : decode cX9_read 84 = .ok (.invokestatic 30, 3) := by decide +kernel
theorem dX9_read_87 : decode cX9_read 87 = .ok (.aload_n 0, 1) := by decide +kernel
theorem dX9_read_88 : decode cX9_read 88 = .ok (.getfield 24, 3) := by decide +kernel
theorem dX9_read_91 : decode cX9_read 91 = .ok (.iload_n 3, 1) := by decide +kernel
theorem dX9_read_92 : decode cX9_read 92 = .ok (.aload_n 1, 1) := by decide +kernel
theorem dX9_read_93 : decode cX9_read 93 = .ok (.iload_n 3, 1) := by decide +kernel
theorem dX9_read_94 : decode cX9_read 94 = .ok (.bipush 33, 2) := by decide +kernel
theorem dX9_read_96 : decode cX9_read 96 = .ok (.invokevirtual 36, 3) := by decide +kernel
theorem dX9_read_99 : decode cX9_read 99 = .ok (.invokestatic 30, 3) := by decide +kernel
theorem dX9_read_102 : decode cX9_read 102 = .ok (.aload_n 0, 1) := by decide +kernel
theorem dX9_read_103 : decode cX9_read 103 = .ok (.getfield 27, 3) := by decide +kernel
theorem dX9_read_106 : decode cX9_read 106 = .ok (.iload_n 3, 1) := by decide +kernel
theorem dX9_read_107 : decode cX9_read 107 = .ok (.bipush 100, 2) := by decide +kernel
theorem dX9_read_109 : decode cX9_read 109 = .ok (.aload_n 1, 1) := by decide +kernel
theorem dX9_read_110 : decode cX9_read 110 = .ok (.iload_n 3, 1) := by decide +kernel
theorem dX9_read_111 : decode cX9_read 111 = .ok (.invokevirtual 41, 3) := by decide +kernel
theorem dX9_read_114 : decode cX9_read 114 = .ok (.isub, 1) := by decide +kernel
theorem dX9_read_115 : decode cX9_read 115 = .ok (.invokestatic 30, 3) := by decide +kernel
theorem dX9_read_118 : decode cX9_read 118 = .ok (.iinc 3 1, 3) := by decide +kernel
theorem dX9_read_121 : decode cX9_read 121 = .ok (.goto (-117), 3) := by decide +kernel
theorem dX9_read_124 : decode cX9_read 124 = .ok (.aload_n 0, 1) := by decide +kernel
theorem dX9_read_125 : decode cX9_read 125 = .ok (.getfield 18, 3) := by decide +kernel
theorem dX9_read_128 : decode cX9_read 128 = .ok (.bipush 32, 2) := by decide +kernel
theorem dX9_read_130 : decode cX9_read 130 = .ok (.iload_n 2, 1) := by decide +kernel
theorem dX9_read_131 : decode cX9_read 131 = .ok (.invokestatic 30, 3) := by decide +kernel
theorem dX9_read_134 : decode cX9_read 134 = .ok (.return_, 1) := by decide +kernel
theorem dX9_mix_0 : decode cX9_mix 0 = .ok (.aload_n 0, 1) := by decide +kernel
theorem dX9_mix_1 : decode cX9_mix 1 = .ok (.getfield 21, 3) := by decide +kernel
theorem dX9_mix_4 : decode cX9_mix 4 = .ok (.iload_n 1, 1) := by decide +kernel
theorem dX9_mix_5 : decode cX9_mix 5 = .ok (.invokestatic 45, 3) := by decide +kernel
theorem dX9_mix_8 : decode cX9_mix 8 = .ok (.iload 4, 2) := by decide +kernel
theorem dX9_mix_10 : decode cX9_mix 10 = .ok (.imul, 1) := by decide +kernel
theorem dX9_mix_11 : decode cX9_mix 11 = .ok (.aload_n 0, 1) := by decide +kernel
theorem dX9_mix_12 : decode cX9_mix 12 = .ok (.getfield 24, 3) := by decide +kernel
theorem dX9_mix_15 : decode cX9_mix 15 = .ok (.iload_n 1, 1) := by decide +kernel
theorem dX9_mix_16 : decode cX9_mix 16 = .ok (.invokestatic 45, 3) := by decide +kernel
theorem dX9_mix_19 : decode cX9_mix 19 = .ok (.iload 5, 2) := by decide +kernel
theorem dX9_mix_21 : decode cX9_mix 21 = .ok (.imul, 1) := by decide +kernel
theorem dX9_mix_22 : decode cX9_mix 22 = .ok (.iadd, 1) := by decide +kernel
theorem dX9_mix_23 : decode cX9_mix 23 = .ok (.aload_n 0, 1) := by decide +kernel
theorem dX9_mix_24 : decode cX9_mix 24 = .ok (.getfield 27, 3) := by decide +kernel
theorem dX9_mix_27 : decode cX9_mix 27 = .ok (.iload_n 1, 1) := by decide +kernel
theorem dX9_mix_28 : decode cX9_mix 28 = .ok (.invokestatic 45, 3) := by decide +kernel
theorem dX9_mix_31 : decode cX9_mix 31 = .ok (.aload_n 2, 1) := by decide +kernel
theorem dX9_mix_32 : decode cX9_mix 32 = .ok (.iload_n 3, 1) := by decide +kernel
theorem dX9_mix_33 : decode cX9_mix 33 = .ok (.iload_n 1, 1) := by decide +kernel
theorem dX9_mix_34 : decode cX9_mix 34 = .ok (.iadd, 1) := by decide +kernel
theorem dX9_mix_35 : decode cX9_mix 35 = .ok (.invokestatic 45, 3) := by decide +kernel
theorem dX9_mix_38 : decode cX9_mix 38 = .ok (.imul, 1) := by decide +kernel
theorem dX9_mix_39 : decode cX9_mix 39 = .ok (.iadd, 1) := by decide +kernel
theorem dX9_mix_40 : decode cX9_mix 40 = .ok (.istore 6, 2) := by decide +kernel
theorem dX9_mix_42 : decode cX9_mix 42 = .ok (.aload_n 0, 1) := by decide +kernel
theorem dX9_mix_43 : decode cX9_mix 43 = .ok (.getfield 18, 3) := by decide +kernel
theorem dX9_mix_46 : decode cX9_mix 46 = .ok (.iload_n 1, 1) := by decide +kernel
theorem dX9_mix_47 : decode cX9_mix 47 = .ok (.iconst 1, 1) := by decide +kernel
theorem dX9_mix_48 : decode cX9_mix 48 = .ok (.iadd, 1) := by decide +kernel
theorem dX9_mix_49 : decode cX9_mix 49 = .ok (.invokestatic 45, 3) := by decide +kernel
theorem dX9_mix_52 : decode cX9_mix 52 = .ok (.istore 7, 2) := by decide +kernel
theorem dX9_mix_54 : decode cX9_mix 54 = .ok (.aload_n 0, 1) := by decide +kernel
theorem dX9_mix_55 : decode cX9_mix 55 = .ok (.getfield 18, 3) := by decide +kernel
theorem dX9_mix_58 : decode cX9_mix 58 = .ok (.iload_n 1, 1) := by decide +kernel
theorem dX9_mix_59 : decode cX9_mix 59 = .ok (.invokestatic 45, 3) := by decide +kernel
theorem dX9_mix_62 : decode cX9_mix 62 = .ok (.istore 8, 2) := by decide +kernel
theorem dX9_mix_64 : decode cX9_mix 64 = .ok (.iload 8, 2) := by decide +kernel
theorem dX9_mix_66 : decode cX9_mix 66 = .ok (.iload 7, 2) := by decide +kernel
theorem dX9_mix_68 : decode cX9_mix 68 = .ok (.if_icmp .ge 39, 3) := by decide +kernel
theorem dX9_mix_71 : decode cX9_mix 71 = .ok (.iload 6, 2) := by decide +kernel
theorem dX9_mix_73 : decode cX9_mix 73 = .ok (.aload_n 0, 1) := by decide +kernel
theorem dX9_mix_74 : decode cX9_mix 74 = .ok (.getfield 15, 3) := by decide +kernel
theorem dX9_mix_77 : decode cX9_mix 77 = .ok (.iload 8, 2) := by decide +kernel
theorem dX9_mix_79 : decode cX9_mix 79 = .ok (.invokestatic 45, 3) := by decide +kernel
theorem dX9_mix_82 : decode cX9_mix 82 = .ok (.aload_n 2, 1) := by decide +kernel
theorem dX9_mix_83 : decode cX9_mix 83 = .ok (.iload_n 3, 1) := by decide +kernel
theorem dX9_mix_84 : decode cX9_mix 84 = .ok (.aload_n 0, 1) := by decide +kernel
theorem dX9_mix_85 : decode cX9_mix 85 = .ok (.getfield 9, 3) := by decide +kernel
theorem dX9_mix_88 : decode cX9_mix 88 = .ok (.iload 8, 2) := by decide +kernel
theorem dX9_mix_90 : decode cX9_mix 90 = .ok (.invokestatic 45, 3) := by decide +kernel
theorem dX9_mix_93 : decode cX9_mix 93 = .ok (.iadd, 1) := by decide +kernel
theorem dX9_mix_94 : decode cX9_mix 94 = .ok (.invokestatic 45, 3) := by decide +kernel
theorem dX9_mix_97 : decode cX9_mix 97 = .ok (.imul, 1) := by decide +kernel
theorem dX9_mix_98 : decode cX9_mix 98 = .ok (.iadd, 1) := by decide +kernel
theorem dX9_mix_99 : decode cX9_mix 99 = .ok (.istore 6, 2) := by decide +kernel
theorem dX9_mix_101 : decode cX9_mix 101 = .ok (.iinc 8 1, 3) := by decide +kernel
theorem dX9_mix_104 : decode cX9_mix 104 = .ok (.goto (-40), 3) := by decide +kernel
theorem dX9_mix_107 : decode cX9_mix 107 = .ok (.iload 6, 2) := by decide +kernel
theorem dX9_mix_109 : decode cX9_mix 109 = .ok (.bipush 100, 2) := by decide +kernel
theorem dX9_mix_111 : decode cX9_mix 111 = .ok (.invokestatic 49, 3) := by decide +kernel
theorem dX9_mix_114 : decode cX9_mix 114 = .ok (.ireturn, 1) := by decide +kernel
theorem dX9_drawn_0 : decode cX9_drawn 0 = .ok (.iconst 0, 1) := by decide +kernel
theorem dX9_drawn_1 : decode cX9_drawn 1 = .ok (.istore_n 3, 1) := by decide +kernel
theorem dX9_drawn_2 : decode cX9_drawn 2 = .ok (.aload_n 0, 1) := by decide +kernel
theorem dX9_drawn_3 : decode cX9_drawn 3 = .ok (.getfield 18, 3) := by decide +kernel
theorem dX9_drawn_6 : decode cX9_drawn 6 = .ok (.iload_n 1, 1) := by decide +kernel
theorem dX9_drawn_7 : decode cX9_drawn 7 = .ok (.iconst 1, 1) := by decide +kernel
theorem dX9_drawn_8 : decode cX9_drawn 8 = .ok (.iadd, 1) := by decide +kernel
theorem dX9_drawn_9 : decode cX9_drawn 9 = .ok (.invokestatic 45, 3) := by decide +kernel
theorem dX9_drawn_12 : decode cX9_drawn 12 = .ok (.istore 4, 2) := by decide +kernel
theorem dX9_drawn_14 : decode cX9_drawn 14 = .ok (.aload_n 0, 1) := by decide +kernel
theorem dX9_drawn_15 : decode cX9_drawn 15 = .ok (.getfield 18, 3) := by decide +kernel
theorem dX9_drawn_18 : decode cX9_drawn 18 = .ok (.iload_n 1, 1) := by decide +kernel
theorem dX9_drawn_19 : decode cX9_drawn 19 = .ok (.invokestatic 45, 3) := by decide +kernel
theorem dX9_drawn_22 : decode cX9_drawn 22 = .ok (.istore 5, 2) := by decide +kernel
theorem dX9_drawn_24 : decode cX9_drawn 24 = .ok (.iload 5, 2) := by decide +kernel
theorem dX9_drawn_26 : decode cX9_drawn 26 = .ok (.iload 4, 2) := by decide +kernel
theorem dX9_drawn_28 : decode cX9_drawn 28 = .ok (.if_icmp .ge 36, 3) := by decide +kernel
theorem dX9_drawn_31 : decode cX9_drawn 31 = .ok (.iload_n 3, 1) := by decide +kernel
theorem dX9_drawn_32 : decode cX9_drawn 32 = .ok (.aload_n 0, 1) := by decide +kernel
theorem dX9_drawn_33 : decode cX9_drawn 33 = .ok (.getfield 15, 3) := by decide +kernel
theorem dX9_drawn_36 : decode cX9_drawn 36 = .ok (.iload 5, 2) := by decide +kernel
theorem dX9_drawn_38 : decode cX9_drawn 38 = .ok (.invokestatic 45, 3) := by decide +kernel
theorem dX9_drawn_41 : decode cX9_drawn 41 = .ok (.iadd, 1) := by decide +kernel
theorem dX9_drawn_42 : decode cX9_drawn 42 = .ok (.istore_n 3, 1) := by decide +kernel
theorem dX9_drawn_43 : decode cX9_drawn 43 = .ok (.iload_n 2, 1) := by decide +kernel
theorem dX9_drawn_44 : decode cX9_drawn 44 = .ok (.iload_n 3, 1) := by decide +kernel
theorem dX9_drawn_45 : decode cX9_drawn 45 = .ok (.if_icmp .ge 13, 3) := by decide +kernel
theorem dX9_drawn_48 : decode cX9_drawn 48 = .ok (.aload_n 0, 1) := by decide +kernel
theorem dX9_drawn_49 : decode cX9_drawn 49 = .ok (.getfield 9, 3) := by decide +kernel
theorem dX9_drawn_52 : decode cX9_drawn 52 = .ok (.iload 5, 2) := by decide +kernel
theorem dX9_drawn_54 : decode cX9_drawn 54 = .ok (.invokestatic 45, 3) := by decide +kernel
theorem dX9_drawn_57 : decode cX9_drawn 57 = .ok (.ireturn, 1) := by decide +kernel
theorem dX9_drawn_58 : decode cX9_drawn 58 = .ok (.iinc 5 1, 3) := by decide +kernel
theorem dX9_drawn_61 : decode cX9_drawn 61 = .ok (.goto (-37), 3) := by decide +kernel
theorem dX9_drawn_64 : decode cX9_drawn 64 = .ok (.iload_n 3, 1) := by decide +kernel
theorem dX9_drawn_65 : decode cX9_drawn 65 = .ok (.aload_n 0, 1) := by decide +kernel
theorem dX9_drawn_66 : decode cX9_drawn 66 = .ok (.getfield 21, 3) := by decide +kernel
theorem dX9_drawn_69 : decode cX9_drawn 69 = .ok (.iload_n 1, 1) := by decide +kernel
theorem dX9_drawn_70 : decode cX9_drawn 70 = .ok (.invokestatic 45, 3) := by decide +kernel
theorem dX9_drawn_73 : decode cX9_drawn 73 = .ok (.iadd, 1) := by decide +kernel
theorem dX9_drawn_74 : decode cX9_drawn 74 = .ok (.istore_n 3, 1) := by decide +kernel
theorem dX9_drawn_75 : decode cX9_drawn 75 = .ok (.iload_n 2, 1) := by decide +kernel
theorem dX9_drawn_76 : decode cX9_drawn 76 = .ok (.iload_n 3, 1) := by decide +kernel
theorem dX9_drawn_77 : decode cX9_drawn 77 = .ok (.if_icmp .ge 6, 3) := by decide +kernel
theorem dX9_drawn_80 : decode cX9_drawn 80 = .ok (.bipush 32, 2) := by decide +kernel
theorem dX9_drawn_82 : decode cX9_drawn 82 = .ok (.ireturn, 1) := by decide +kernel
theorem dX9_drawn_83 : decode cX9_drawn 83 = .ok (.iload_n 2, 1) := by decide +kernel
theorem dX9_drawn_84 : decode cX9_drawn 84 = .ok (.iload_n 3, 1) := by decide +kernel
theorem dX9_drawn_85 : decode cX9_drawn 85 = .ok (.aload_n 0, 1) := by decide +kernel
theorem dX9_drawn_86 : decode cX9_drawn 86 = .ok (.getfield 24, 3) := by decide +kernel
theorem dX9_drawn_89 : decode cX9_drawn 89 = .ok (.iload_n 1, 1) := by decide +kernel
theorem dX9_drawn_90 : decode cX9_drawn 90 = .ok (.invokestatic 45, 3) := by decide +kernel
theorem dX9_drawn_93 : decode cX9_drawn 93 = .ok (.iadd, 1) := by decide +kernel
theorem dX9_drawn_94 : decode cX9_drawn 94 = .ok (.if_icmp .ge 8, 3) := by decide +kernel
theorem dX9_drawn_97 : decode cX9_drawn 97 = .ok (.bipush 33, 2) := by decide +kernel
theorem dX9_drawn_99 : decode cX9_drawn 99 = .ok (.goto 4, 3) := by decide +kernel
theorem dX9_drawn_102 : decode cX9_drawn 102 = .ok (.iload_n 1, 1) := by decide +kernel
theorem dX9_drawn_103 : decode cX9_drawn 103 = .ok (.ireturn, 1) := by decide +kernel
theorem dX10_of_0 : decode cX10_of 0 = .ok (.iconst 0, 1) := by decide +kernel
theorem dX10_of_1 : decode cX10_of 1 = .ok (.istore_n 3, 1) := by decide +kernel
theorem dX10_of_2 : decode cX10_of 2 = .ok (.iload_n 3, 1) := by decide +kernel
theorem dX10_of_3 : decode cX10_of 3 = .ok (.getstatic 102, 3) := by decide +kernel
theorem dX10_of_6 : decode cX10_of 6 = .ok (.arraylength, 1) := by decide +kernel
theorem dX10_of_7 : decode cX10_of 7 = .ok (.if_icmp .ge 29, 3) := by decide +kernel
theorem dX10_of_10 : decode cX10_of 10 = .ok (.getstatic 102, 3) := by decide +kernel
theorem dX10_of_13 : decode cX10_of 13 = .ok (.iload_n 3, 1) := by decide +kernel
theorem dX10_of_14 : decode cX10_of 14 = .ok (.aaload, 1) := by decide +kernel
theorem dX10_of_15 : decode cX10_of 15 = .ok (.aload_n 0, 1) := by decide +kernel
theorem dX10_of_16 : decode cX10_of 16 = .ok (.iload_n 1, 1) := by decide +kernel
theorem dX10_of_17 : decode cX10_of 17 = .ok (.iload_n 2, 1) := by decide +kernel
theorem dX10_of_18 : decode cX10_of 18 = .ok (.invokevirtual 105, 3) := by decide +kernel
theorem dX10_of_21 : decode cX10_of 21 = .ok (.ifCond .eq 9, 3) := by decide +kernel
theorem dX10_of_24 : decode cX10_of 24 = .ok (.getstatic 102, 3) := by decide +kernel
theorem dX10_of_27 : decode cX10_of 27 = .ok (.iload_n 3, 1) := by decide +kernel
theorem dX10_of_28 : decode cX10_of 28 = .ok (.aaload, 1) := by decide +kernel
theorem dX10_of_29 : decode cX10_of 29 = .ok (.areturn, 1) := by decide +kernel
theorem dX10_of_30 : decode cX10_of 30 = .ok (.iinc 3 1, 3) := by decide +kernel
theorem dX10_of_33 : decode cX10_of 33 = .ok (.goto (-31), 3) := by decide +kernel
theorem dX10_of_36 : decode cX10_of 36 = .ok (.getstatic 5, 3) := by decide +kernel
theorem dX10_of_39 : decode cX10_of 39 = .ok (.areturn, 1) := by decide +kernel
theorem dX10_stands_0 : decode cX10_stands 0 = .ok (.iload_n 3, 1) := by decide +kernel
theorem dX10_stands_1 : decode cX10_stands 1 = .ok (.iload_n 2, 1) := by decide +kernel
theorem dX10_stands_2 : decode cX10_stands 2 = .ok (.isub, 1) := by decide +kernel
theorem dX10_stands_3 : decode cX10_stands 3 = .ok (.aload_n 0, 1) := by decide +kernel
theorem dX10_stands_4 : decode cX10_stands 4 = .ok (.getfield 94, 3) := by decide +kernel
theorem dX10_stands_7 : decode cX10_stands 7 = .ok (.invokevirtual 109, 3) := by decide +kernel
theorem dX10_stands_10 : decode cX10_stands 10 = .ok (.if_icmp .eq 5, 3) := by decide +kernel
theorem dX10_stands_13 : decode cX10_stands 13 = .ok (.iconst 0, 1) := by decide +kernel
theorem dX10_stands_14 : decode cX10_stands 14 = .ok (.ireturn, 1) := by decide +kernel
theorem dX10_stands_15 : decode cX10_stands 15 = .ok (.iconst 0, 1) := by decide +kernel
theorem dX10_stands_16 : decode cX10_stands 16 = .ok (.istore 4, 2) := by decide +kernel
theorem dX10_stands_18 : decode cX10_stands 18 = .ok (.iload 4, 2) := by decide +kernel
theorem dX10_stands_20 : decode cX10_stands 20 = .ok (.aload_n 0, 1) := by decide +kernel
theorem dX10_stands_21 : decode cX10_stands 21 = .ok (.getfield 94, 3) := by decide +kernel
theorem dX10_stands_24 : decode cX10_stands 24 = .ok (.invokevirtual 109, 3) := by decide +kernel
theorem dX10_stands_27 : decode cX10_stands 27 = .ok (.if_icmp .ge 31, 3) := by decide +kernel
theorem dX10_stands_30 : decode cX10_stands 30 = .ok (.aload_n 1, 1) := by decide +kernel
theorem dX10_stands_31 : decode cX10_stands 31 = .ok (.iload_n 2, 1) := by decide +kernel
theorem dX10_stands_32 : decode cX10_stands 32 = .ok (.iload 4, 2) := by decide +kernel
theorem dX10_stands_34 : decode cX10_stands 34 = .ok (.iadd, 1) := by decide +kernel
theorem dX10_stands_35 : decode cX10_stands 35 = .ok (.invokestatic 115, 3) := by decide +kernel
theorem dX10_stands_38 : decode cX10_stands 38 = .ok (.aload_n 0, 1) := by decide +kernel
theorem dX10_stands_39 : decode cX10_stands 39 = .ok (.getfield 94, 3) := by decide +kernel
theorem dX10_stands_42 : decode cX10_stands 42 = .ok (.iload 4, 2) := by decide +kernel
theorem dX10_stands_44 : decode cX10_stands 44 = .ok (.invokevirtual 121, 3) := by decide +kernel
theorem dX10_stands_47 : decode cX10_stands 47 = .ok (.if_icmp .eq 5, 3) := by decide +kernel
theorem dX10_stands_50 : decode cX10_stands 50 = .ok (.iconst 0, 1) := by decide +kernel
theorem dX10_stands_51 : decode cX10_stands 51 = .ok (.ireturn, 1) := by decide +kernel
theorem dX10_stands_52 : decode cX10_stands 52 = .ok (.iinc 4 1, 3) := by decide +kernel
theorem dX10_stands_55 : decode cX10_stands 55 = .ok (.goto (-37), 3) := by decide +kernel
theorem dX10_stands_58 : decode cX10_stands 58 = .ok (.iconst 1, 1) := by decide +kernel
theorem dX10_stands_59 : decode cX10_stands 59 = .ok (.ireturn, 1) := by decide +kernel
theorem dJ9_floorDiv_7cf53_0 : decode cJ9_floorDiv_7cf53 0 = .ok (.iload_n 0, 1) := by decide +kernel
theorem dJ9_floorDiv_7cf53_1 : decode cJ9_floorDiv_7cf53 1 = .ok (.iload_n 1, 1) := by decide +kernel
theorem dJ9_floorDiv_7cf53_2 : decode cJ9_floorDiv_7cf53 2 = .ok (.idiv, 1) := by decide +kernel
theorem dJ9_floorDiv_7cf53_3 : decode cJ9_floorDiv_7cf53 3 = .ok (.istore_n 2, 1) := by decide +kernel
theorem dJ9_floorDiv_7cf53_4 : decode cJ9_floorDiv_7cf53 4 = .ok (.iload_n 0, 1) := by decide +kernel
theorem dJ9_floorDiv_7cf53_5 : decode cJ9_floorDiv_7cf53 5 = .ok (.iload_n 1, 1) := by decide +kernel
theorem dJ9_floorDiv_7cf53_6 : decode cJ9_floorDiv_7cf53 6 = .ok (.ixor, 1) := by decide +kernel
theorem dJ9_floorDiv_7cf53_7 : decode cJ9_floorDiv_7cf53 7 = .ok (.ifCond .ge 14, 3) := by decide +kernel
theorem dJ9_floorDiv_7cf53_10 : decode cJ9_floorDiv_7cf53 10 = .ok (.iload_n 2, 1) := by decide +kernel
theorem dJ9_floorDiv_7cf53_11 : decode cJ9_floorDiv_7cf53 11 = .ok (.iload_n 1, 1) := by decide +kernel
theorem dJ9_floorDiv_7cf53_12 : decode cJ9_floorDiv_7cf53 12 = .ok (.imul, 1) := by decide +kernel
theorem dJ9_floorDiv_7cf53_13 : decode cJ9_floorDiv_7cf53 13 = .ok (.iload_n 0, 1) := by decide +kernel
theorem dJ9_floorDiv_7cf53_14 : decode cJ9_floorDiv_7cf53 14 = .ok (.if_icmp .eq 7, 3) := by decide +kernel
theorem dJ9_floorDiv_7cf53_17 : decode cJ9_floorDiv_7cf53 17 = .ok (.iload_n 2, 1) := by decide +kernel
theorem dJ9_floorDiv_7cf53_18 : decode cJ9_floorDiv_7cf53 18 = .ok (.iconst 1, 1) := by decide +kernel
theorem dJ9_floorDiv_7cf53_19 : decode cJ9_floorDiv_7cf53 19 = .ok (.isub, 1) := by decide +kernel
theorem dJ9_floorDiv_7cf53_20 : decode cJ9_floorDiv_7cf53 20 = .ok (.ireturn, 1) := by decide +kernel
theorem dJ9_floorDiv_7cf53_21 : decode cJ9_floorDiv_7cf53 21 = .ok (.iload_n 2, 1) := by decide +kernel
theorem dJ9_floorDiv_7cf53_22 : decode cJ9_floorDiv_7cf53 22 = .ok (.ireturn, 1) := by decide +kernel
theorem dJ9_floorDiv_f86c9_0 : decode cJ9_floorDiv_f86c9 0 = .ok (.lload_n 0, 1) := by decide +kernel
theorem dJ9_floorDiv_f86c9_1 : decode cJ9_floorDiv_f86c9 1 = .ok (.lload_n 2, 1) := by decide +kernel
theorem dJ9_floorDiv_f86c9_2 : decode cJ9_floorDiv_f86c9 2 = .ok (.ldiv, 1) := by decide +kernel
theorem dJ9_floorDiv_f86c9_3 : decode cJ9_floorDiv_f86c9 3 = .ok (.lstore 4, 2) := by decide +kernel
theorem dJ9_floorDiv_f86c9_5 : decode cJ9_floorDiv_f86c9 5 = .ok (.lload_n 0, 1) := by decide +kernel
theorem dJ9_floorDiv_f86c9_6 : decode cJ9_floorDiv_f86c9 6 = .ok (.lload_n 2, 1) := by decide +kernel
theorem dJ9_floorDiv_f86c9_7 : decode cJ9_floorDiv_f86c9 7 = .ok (.lxor, 1) := by decide +kernel
theorem dJ9_floorDiv_f86c9_8 : decode cJ9_floorDiv_f86c9 8 = .ok (.lconst 0, 1) := by decide +kernel
theorem dJ9_floorDiv_f86c9_9 : decode cJ9_floorDiv_f86c9 9 = .ok (.lcmp, 1) := by decide +kernel
theorem dJ9_floorDiv_f86c9_10 : decode cJ9_floorDiv_f86c9 10 = .ok (.ifCond .ge 17, 3) := by decide +kernel
theorem dJ9_floorDiv_f86c9_13 : decode cJ9_floorDiv_f86c9 13 = .ok (.lload 4, 2) := by decide +kernel
theorem dJ9_floorDiv_f86c9_15 : decode cJ9_floorDiv_f86c9 15 = .ok (.lload_n 2, 1) := by decide +kernel
theorem dJ9_floorDiv_f86c9_16 : decode cJ9_floorDiv_f86c9 16 = .ok (.lmul, 1) := by decide +kernel
theorem dJ9_floorDiv_f86c9_17 : decode cJ9_floorDiv_f86c9 17 = .ok (.lload_n 0, 1) := by decide +kernel
theorem dJ9_floorDiv_f86c9_18 : decode cJ9_floorDiv_f86c9 18 = .ok (.lcmp, 1) := by decide +kernel
theorem dJ9_floorDiv_f86c9_19 : decode cJ9_floorDiv_f86c9 19 = .ok (.ifCond .eq 8, 3) := by decide +kernel
theorem dJ9_floorDiv_f86c9_22 : decode cJ9_floorDiv_f86c9 22 = .ok (.lload 4, 2) := by decide +kernel
theorem dJ9_floorDiv_f86c9_24 : decode cJ9_floorDiv_f86c9 24 = .ok (.lconst 1, 1) := by decide +kernel
theorem dJ9_floorDiv_f86c9_25 : decode cJ9_floorDiv_f86c9 25 = .ok (.lsub, 1) := by decide +kernel
theorem dJ9_floorDiv_f86c9_26 : decode cJ9_floorDiv_f86c9 26 = .ok (.lreturn, 1) := by decide +kernel
theorem dJ9_floorDiv_f86c9_27 : decode cJ9_floorDiv_f86c9 27 = .ok (.lload 4, 2) := by decide +kernel
theorem dJ9_floorDiv_f86c9_29 : decode cJ9_floorDiv_f86c9 29 = .ok (.lreturn, 1) := by decide +kernel
theorem dJ9_max_7cf53_0 : decode cJ9_max_7cf53 0 = .ok (.iload_n 0, 1) := by decide +kernel
theorem dJ9_max_7cf53_1 : decode cJ9_max_7cf53 1 = .ok (.iload_n 1, 1) := by decide +kernel
theorem dJ9_max_7cf53_2 : decode cJ9_max_7cf53 2 = .ok (.if_icmp .lt 7, 3) := by decide +kernel
theorem dJ9_max_7cf53_5 : decode cJ9_max_7cf53 5 = .ok (.iload_n 0, 1) := by decide +kernel
theorem dJ9_max_7cf53_6 : decode cJ9_max_7cf53 6 = .ok (.goto 4, 3) := by decide +kernel
theorem dJ9_max_7cf53_9 : decode cJ9_max_7cf53 9 = .ok (.iload_n 1, 1) := by decide +kernel
theorem dJ9_max_7cf53_10 : decode cJ9_max_7cf53 10 = .ok (.ireturn, 1) := by decide +kernel
theorem dJ9_max_f86c9_0 : decode cJ9_max_f86c9 0 = .ok (.lload_n 0, 1) := by decide +kernel
theorem dJ9_max_f86c9_1 : decode cJ9_max_f86c9 1 = .ok (.lload_n 2, 1) := by decide +kernel
theorem dJ9_max_f86c9_2 : decode cJ9_max_f86c9 2 = .ok (.lcmp, 1) := by decide +kernel
theorem dJ9_max_f86c9_3 : decode cJ9_max_f86c9 3 = .ok (.ifCond .lt 7, 3) := by decide +kernel
theorem dJ9_max_f86c9_6 : decode cJ9_max_f86c9 6 = .ok (.lload_n 0, 1) := by decide +kernel
theorem dJ9_max_f86c9_7 : decode cJ9_max_f86c9 7 = .ok (.goto 4, 3) := by decide +kernel
theorem dJ9_max_f86c9_10 : decode cJ9_max_f86c9 10 = .ok (.lload_n 2, 1) := by decide +kernel
theorem dJ9_max_f86c9_11 : decode cJ9_max_f86c9 11 = .ok (.lreturn, 1) := by decide +kernel
theorem dJ9_min_7cf53_0 : decode cJ9_min_7cf53 0 = .ok (.iload_n 0, 1) := by decide +kernel
theorem dJ9_min_7cf53_1 : decode cJ9_min_7cf53 1 = .ok (.iload_n 1, 1) := by decide +kernel
theorem dJ9_min_7cf53_2 : decode cJ9_min_7cf53 2 = .ok (.if_icmp .gt 7, 3) := by decide +kernel
theorem dJ9_min_7cf53_5 : decode cJ9_min_7cf53 5 = .ok (.iload_n 0, 1) := by decide +kernel
theorem dJ9_min_7cf53_6 : decode cJ9_min_7cf53 6 = .ok (.goto 4, 3) := by decide +kernel
theorem dJ9_min_7cf53_9 : decode cJ9_min_7cf53 9 = .ok (.iload_n 1, 1) := by decide +kernel
theorem dJ9_min_7cf53_10 : decode cJ9_min_7cf53 10 = .ok (.ireturn, 1) := by decide +kernel
theorem dJ9_min_f86c9_0 : decode cJ9_min_f86c9 0 = .ok (.lload_n 0, 1) := by decide +kernel
theorem dJ9_min_f86c9_1 : decode cJ9_min_f86c9 1 = .ok (.lload_n 2, 1) := by decide +kernel
theorem dJ9_min_f86c9_2 : decode cJ9_min_f86c9 2 = .ok (.lcmp, 1) := by decide +kernel
theorem dJ9_min_f86c9_3 : decode cJ9_min_f86c9 3 = .ok (.ifCond .gt 7, 3) := by decide +kernel
theorem dJ9_min_f86c9_6 : decode cJ9_min_f86c9 6 = .ok (.lload_n 0, 1) := by decide +kernel
theorem dJ9_min_f86c9_7 : decode cJ9_min_f86c9 7 = .ok (.goto 4, 3) := by decide +kernel
theorem dJ9_min_f86c9_10 : decode cJ9_min_f86c9 10 = .ok (.lload_n 2, 1) := by decide +kernel
theorem dJ9_min_f86c9_11 : decode cJ9_min_f86c9 11 = .ok (.lreturn, 1) := by decide +kernel
theorem dJ0_length_8abf5_0 : decode cJ0_length_8abf5 0 = .ok (.aload_n 0, 1) := by decide +kernel
theorem dJ0_length_8abf5_1 : decode cJ0_length_8abf5 1 = .ok (.getfield 9, 3) := by decide +kernel
theorem dJ0_length_8abf5_4 : decode cJ0_length_8abf5 4 = .ok (.arraylength, 1) := by decide +kernel
theorem dJ0_length_8abf5_5 : decode cJ0_length_8abf5 5 = .ok (.aload_n 0, 1) := by decide +kernel
theorem dJ0_length_8abf5_6 : decode cJ0_length_8abf5 6 = .ok (.invokevirtual 335, 3) := by decide +kernel
theorem dJ0_length_8abf5_9 : decode cJ0_length_8abf5 9 = .ok (.ishr, 1) := by decide +kernel
theorem dJ0_length_8abf5_10 : decode cJ0_length_8abf5 10 = .ok (.ireturn, 1) := by decide +kernel
theorem dJ0_charAt_5068e_0 : decode cJ0_charAt_5068e 0 = .ok (.aload_n 0, 1) := by decide +kernel
theorem dJ0_charAt_5068e_1 : decode cJ0_charAt_5068e 1 = .ok (.invokevirtual 492, 3) := by decide +kernel
theorem dJ0_charAt_5068e_4 : decode cJ0_charAt_5068e 4 = .ok (.ifCond .eq 12, 3) := by decide +kernel
theorem dJ0_charAt_5068e_7 : decode cJ0_charAt_5068e 7 = .ok (.aload_n 0, 1) := by decide +kernel
theorem dJ0_charAt_5068e_8 : decode cJ0_charAt_5068e 8 = .ok (.getfield 9, 3) := by decide +kernel
theorem dJ0_charAt_5068e_11 : decode cJ0_charAt_5068e 11 = .ok (.iload_n 1, 1) := by decide +kernel
theorem dJ0_charAt_5068e_12 : decode cJ0_charAt_5068e 12 = .ok (.invokestatic 495, 3) := by decide +kernel
theorem dJ0_charAt_5068e_15 : decode cJ0_charAt_5068e 15 = .ok (.ireturn, 1) := by decide +kernel
theorem dJ0_charAt_5068e_16 : decode cJ0_charAt_5068e 16 = .ok (.aload_n 0, 1) := by decide +kernel
theorem dJ0_charAt_5068e_17 : decode cJ0_charAt_5068e 17 = .ok (.getfield 9, 3) := by decide +kernel
theorem dJ0_charAt_5068e_20 : decode cJ0_charAt_5068e 20 = .ok (.iload_n 1, 1) := by decide +kernel
theorem dJ0_charAt_5068e_21 : decode cJ0_charAt_5068e 21 = .ok (.invokestatic 498, 3) := by decide +kernel
theorem dJ0_charAt_5068e_24 : decode cJ0_charAt_5068e 24 = .ok (.ireturn, 1) := by decide +kernel
theorem dJ0_coder_7d493_0 : decode cJ0_coder_7d493 0 = .ok (.getstatic 38, 3) := by decide +kernel
theorem dJ0_coder_7d493_3 : decode cJ0_coder_7d493 3 = .ok (.ifCond .eq 10, 3) := by decide +kernel
theorem dJ0_coder_7d493_6 : decode cJ0_coder_7d493 6 = .ok (.aload_n 0, 1) := by decide +kernel
theorem dJ0_coder_7d493_7 : decode cJ0_coder_7d493 7 = .ok (.getfield 15, 3) := by decide +kernel
theorem dJ0_coder_7d493_10 : decode cJ0_coder_7d493 10 = .ok (.goto 4, 3) := by decide +kernel
theorem dJ0_coder_7d493_13 : decode cJ0_coder_7d493 13 = .ok (.iconst 1, 1) := by decide +kernel
theorem dJ0_coder_7d493_14 : decode cJ0_coder_7d493 14 = .ok (.ireturn, 1) := by decide +kernel
theorem dJ0_isLatin1_aae02_0 : decode cJ0_isLatin1_aae02 0 = .ok (.getstatic 38, 3) := by decide +kernel
theorem dJ0_isLatin1_aae02_3 : decode cJ0_isLatin1_aae02 3 = .ok (.ifCond .eq 14, 3) := by decide +kernel
theorem dJ0_isLatin1_aae02_6 : decode cJ0_isLatin1_aae02 6 = .ok (.aload_n 0, 1) := by decide +kernel
theorem dJ0_isLatin1_aae02_7 : decode cJ0_isLatin1_aae02 7 = .ok (.getfield 15, 3) := by decide +kernel
theorem dJ0_isLatin1_aae02_10 : decode cJ0_isLatin1_aae02 10 = .ok (.ifCond .ne 7, 3) := by decide +kernel
theorem dJ0_isLatin1_aae02_13 : decode cJ0_isLatin1_aae02 13 = .ok (.iconst 1, 1) := by decide +kernel
theorem dJ0_isLatin1_aae02_14 : decode cJ0_isLatin1_aae02 14 = .ok (.goto 4, 3) := by decide +kernel
theorem dJ0_isLatin1_aae02_17 : decode cJ0_isLatin1_aae02 17 = .ok (.iconst 0, 1) := by decide +kernel
theorem dJ0_isLatin1_aae02_18 : decode cJ0_isLatin1_aae02 18 = .ok (.ireturn, 1) := by decide +kernel
theorem dJ0_checkIndex_df160_0 : decode cJ0_checkIndex_df160 0 = .ok (.iload_n 0, 1) := by decide +kernel
theorem dJ0_checkIndex_df160_1 : decode cJ0_checkIndex_df160 1 = .ok (.iload_n 1, 1) := by decide +kernel
theorem dJ0_checkIndex_df160_2 : decode cJ0_checkIndex_df160 2 = .ok (.getstatic 1053, 3) := by decide +kernel
theorem dJ0_checkIndex_df160_5 : decode cJ0_checkIndex_df160 5 = .ok (.invokestatic 1059, 3) := by decide +kernel
theorem dJ0_checkIndex_df160_8 : decode cJ0_checkIndex_df160 8 = .ok (.pop, 1) := by decide +kernel
theorem dJ0_checkIndex_df160_9 : decode cJ0_checkIndex_df160 9 = .ok (.return_, 1) := by decide +kernel
theorem dJ1_charAt_3b067_0 : decode cJ1_charAt_3b067 0 = .ok (.iload_n 1, 1) := by decide +kernel
theorem dJ1_charAt_3b067_1 : decode cJ1_charAt_3b067 1 = .ok (.aload_n 0, 1) := by decide +kernel
theorem dJ1_charAt_3b067_2 : decode cJ1_charAt_3b067 2 = .ok (.arraylength, 1) := by decide +kernel
theorem dJ1_charAt_3b067_3 : decode cJ1_charAt_3b067 3 = .ok (.invokestatic 9, 3) := by decide +kernel
theorem dJ1_charAt_3b067_6 : decode cJ1_charAt_3b067 6 = .ok (.aload_n 0, 1) := by decide +kernel
theorem dJ1_charAt_3b067_7 : decode cJ1_charAt_3b067 7 = .ok (.iload_n 1, 1) := by decide +kernel
theorem dJ1_charAt_3b067_8 : decode cJ1_charAt_3b067 8 = .ok (.baload, 1) := by decide +kernel
theorem dJ1_charAt_3b067_9 : decode cJ1_charAt_3b067 9 = .ok (.sipush 255, 3) := by decide +kernel
theorem dJ1_charAt_3b067_12 : decode cJ1_charAt_3b067 12 = .ok (.iand, 1) := by decide +kernel
theorem dJ1_charAt_3b067_13 : decode cJ1_charAt_3b067 13 = .ok (.i2c, 1) := by decide +kernel
theorem dJ1_charAt_3b067_14 : decode cJ1_charAt_3b067 14 = .ok (.ireturn, 1) := by decide +kernel
theorem dJ2_getChar_3b067_0 : decode cJ2_getChar_3b067 0 = .ok (.getstatic 44, 3) := by decide +kernel
theorem dJ2_getChar_3b067_3 : decode cJ2_getChar_3b067 3 = .ok (.ifCond .ne 25, 3) := by decide +kernel
theorem dJ2_getChar_3b067_6 : decode cJ2_getChar_3b067 6 = .ok (.iload_n 1, 1) := by decide +kernel
theorem dJ2_getChar_3b067_7 : decode cJ2_getChar_3b067 7 = .ok (.ifCond .lt 11, 3) := by decide +kernel
theorem dJ2_getChar_3b067_10 : decode cJ2_getChar_3b067 10 = .ok (.iload_n 1, 1) := by decide +kernel
theorem dJ2_getChar_3b067_11 : decode cJ2_getChar_3b067 11 = .ok (.aload_n 0, 1) := by decide +kernel
theorem dJ2_getChar_3b067_12 : decode cJ2_getChar_3b067 12 = .ok (.invokestatic 48, 3) := by decide +kernel
theorem dJ2_getChar_3b067_15 : decode cJ2_getChar_3b067 15 = .ok (.if_icmp .lt 13, 3) := by decide +kernel
theorem dJ2_getChar_3b067_18 : decode cJ2_getChar_3b067 18 = .ok (.new 52, 3) := by decide +kernel
theorem dJ2_getChar_3b067_21 : decode cJ2_getChar_3b067 21 = .ok (.dup, 1) := by decide +kernel
theorem dJ2_getChar_3b067_22 : decode cJ2_getChar_3b067 22 = .ok (.ldc 54, 2) := by decide +kernel
theorem dJ2_getChar_3b067_24 : decode cJ2_getChar_3b067 24 = .ok (.invokespecial 56, 3) := by decide +kernel
theorem dJ2_getChar_3b067_27 : decode cJ2_getChar_3b067 27 = .ok (.athrow, 1) := by decide +kernel
theorem dJ2_getChar_3b067_28 : decode cJ2_getChar_3b067 28 = .ok (.iload_n 1, 1) := by decide +kernel
theorem dJ2_getChar_3b067_29 : decode cJ2_getChar_3b067 29 = .ok (.iconst 1, 1) := by decide +kernel
theorem dJ2_getChar_3b067_30 : decode cJ2_getChar_3b067 30 = .ok (.ishl, 1) := by decide +kernel
theorem dJ2_getChar_3b067_31 : decode cJ2_getChar_3b067 31 = .ok (.istore_n 1, 1) := by decide +kernel
theorem dJ2_getChar_3b067_32 : decode cJ2_getChar_3b067 32 = .ok (.aload_n 0, 1) := by decide +kernel
theorem dJ2_getChar_3b067_33 : decode cJ2_getChar_3b067 33 = .ok (.iload_n 1, 1) := by decide +kernel
theorem dJ2_getChar_3b067_34 : decode cJ2_getChar_3b067 34 = .ok (.iinc 1 1, 3) := by decide +kernel
theorem dJ2_getChar_3b067_37 : decode cJ2_getChar_3b067 37 = .ok (.baload, 1) := by decide +kernel
theorem dJ2_getChar_3b067_38 : decode cJ2_getChar_3b067 38 = .ok (.sipush 255, 3) := by decide +kernel
theorem dJ2_getChar_3b067_41 : decode cJ2_getChar_3b067 41 = .ok (.iand, 1) := by decide +kernel
theorem dJ2_getChar_3b067_42 : decode cJ2_getChar_3b067 42 = .ok (.getstatic 59, 3) := by decide +kernel
theorem dJ2_getChar_3b067_45 : decode cJ2_getChar_3b067 45 = .ok (.ishl, 1) := by decide +kernel
theorem dJ2_getChar_3b067_46 : decode cJ2_getChar_3b067 46 = .ok (.aload_n 0, 1) := by decide +kernel
theorem dJ2_getChar_3b067_47 : decode cJ2_getChar_3b067 47 = .ok (.iload_n 1, 1) := by decide +kernel
theorem dJ2_getChar_3b067_48 : decode cJ2_getChar_3b067 48 = .ok (.baload, 1) := by decide +kernel
theorem dJ2_getChar_3b067_49 : decode cJ2_getChar_3b067 49 = .ok (.sipush 255, 3) := by decide +kernel
theorem dJ2_getChar_3b067_52 : decode cJ2_getChar_3b067 52 = .ok (.iand, 1) := by decide +kernel
theorem dJ2_getChar_3b067_53 : decode cJ2_getChar_3b067 53 = .ok (.getstatic 63, 3) := by decide +kernel
theorem dJ2_getChar_3b067_56 : decode cJ2_getChar_3b067 56 = .ok (.ishl, 1) := by decide +kernel
theorem dJ2_getChar_3b067_57 : decode cJ2_getChar_3b067 57 = .ok (.ior, 1) := by decide +kernel
theorem dJ2_getChar_3b067_58 : decode cJ2_getChar_3b067 58 = .ok (.i2c, 1) := by decide +kernel
theorem dJ2_getChar_3b067_59 : decode cJ2_getChar_3b067 59 = .ok (.ireturn, 1) := by decide +kernel
theorem dJ2_length_9d52b_0 : decode cJ2_length_9d52b 0 = .ok (.aload_n 0, 1) := by decide +kernel
theorem dJ2_length_9d52b_1 : decode cJ2_length_9d52b 1 = .ok (.arraylength, 1) := by decide +kernel
theorem dJ2_length_9d52b_2 : decode cJ2_length_9d52b 2 = .ok (.iconst 1, 1) := by decide +kernel
theorem dJ2_length_9d52b_3 : decode cJ2_length_9d52b 3 = .ok (.ishr, 1) := by decide +kernel
theorem dJ2_length_9d52b_4 : decode cJ2_length_9d52b 4 = .ok (.ireturn, 1) := by decide +kernel
theorem dJ2_charAt_3b067_0 : decode cJ2_charAt_3b067 0 = .ok (.iload_n 1, 1) := by decide +kernel
theorem dJ2_charAt_3b067_1 : decode cJ2_charAt_3b067 1 = .ok (.aload_n 0, 1) := by decide +kernel
theorem dJ2_charAt_3b067_2 : decode cJ2_charAt_3b067 2 = .ok (.invokestatic 67, 3) := by decide +kernel
theorem dJ2_charAt_3b067_5 : decode cJ2_charAt_3b067 5 = .ok (.aload_n 0, 1) := by decide +kernel
theorem dJ2_charAt_3b067_6 : decode cJ2_charAt_3b067 6 = .ok (.iload_n 1, 1) := by decide +kernel
theorem dJ2_charAt_3b067_7 : decode cJ2_charAt_3b067 7 = .ok (.invokestatic 71, 3) := by decide +kernel
theorem dJ2_charAt_3b067_10 : decode cJ2_charAt_3b067 10 = .ok (.ireturn, 1) := by decide +kernel
theorem dJ2_checkIndex_2214a_0 : decode cJ2_checkIndex_2214a 0 = .ok (.iload_n 0, 1) := by decide +kernel
theorem dJ2_checkIndex_2214a_1 : decode cJ2_checkIndex_2214a 1 = .ok (.aload_n 1, 1) := by decide +kernel
theorem dJ2_checkIndex_2214a_2 : decode cJ2_checkIndex_2214a 2 = .ok (.invokestatic 48, 3) := by decide +kernel
theorem dJ2_checkIndex_2214a_5 : decode cJ2_checkIndex_2214a 5 = .ok (.invokestatic 414, 3) := by decide +kernel
theorem dJ2_checkIndex_2214a_8 : decode cJ2_checkIndex_2214a 8 = .ok (.return_, 1) := by decide +kernel
theorem dJ3_checkIndex_8e157_0 : decode cJ3_checkIndex_8e157 0 = .ok (.iload_n 0, 1) := by decide +kernel
theorem dJ3_checkIndex_8e157_1 : decode cJ3_checkIndex_8e157 1 = .ok (.ifCond .lt 8, 3) := by decide +kernel
theorem dJ3_checkIndex_8e157_4 : decode cJ3_checkIndex_8e157 4 = .ok (.iload_n 0, 1) := by decide +kernel
theorem dJ3_checkIndex_8e157_5 : decode cJ3_checkIndex_8e157 5 = .ok (.iload_n 1, 1) := by decide +kernel
theorem dJ3_checkIndex_8e157_6 : decode cJ3_checkIndex_8e157 6 = .ok (.if_icmp .lt 10, 3) := by decide +kernel
theorem dJ3_checkIndex_8e157_9 : decode cJ3_checkIndex_8e157 9 = .ok (.aload_n 2, 1) := by decide +kernel
theorem dJ3_checkIndex_8e157_10 : decode cJ3_checkIndex_8e157 10 = .ok (.iload_n 0, 1) := by decide +kernel
theorem dJ3_checkIndex_8e157_11 : decode cJ3_checkIndex_8e157 11 = .ok (.iload_n 1, 1) := by decide +kernel
theorem dJ3_checkIndex_8e157_12 : decode cJ3_checkIndex_8e157 12 = .ok (.invokestatic 95, 3) := by decide +kernel
theorem dJ3_checkIndex_8e157_15 : decode cJ3_checkIndex_8e157 15 = .ok (.athrow, 1) := by decide +kernel
theorem dJ3_checkIndex_8e157_16 : decode cJ3_checkIndex_8e157 16 = .ok (.iload_n 0, 1) := by decide +kernel
theorem dJ3_checkIndex_8e157_17 : decode cJ3_checkIndex_8e157 17 = .ok (.ireturn, 1) := by decide +kernel
