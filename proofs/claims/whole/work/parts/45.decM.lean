theorem dk_1_isTurn_0 : decode bk_1_isTurn 0 = .ok (.iload_n 2, 1) := by decide +kernel
theorem dk_1_isTurn_1 : decode bk_1_isTurn 1 = .ok (.aload_n 0, 1) := by decide +kernel
theorem dk_1_isTurn_2 : decode bk_1_isTurn 2 = .ok (.getfield 74, 3) := by decide +kernel
theorem dk_1_isTurn_5 : decode bk_1_isTurn 5 = .ok (.iload_n 1, 1) := by decide +kernel
theorem dk_1_isTurn_6 : decode bk_1_isTurn 6 = .ok (.iaload, 1) := by decide +kernel
theorem dk_1_isTurn_7 : decode bk_1_isTurn 7 = .ok (.if_icmp .ge 20, 3) := by decide +kernel
theorem dk_1_isTurn_10 : decode bk_1_isTurn 10 = .ok (.aload_n 0, 1) := by decide +kernel
theorem dk_1_isTurn_11 : decode bk_1_isTurn 11 = .ok (.aload_n 0, 1) := by decide +kernel
theorem dk_1_isTurn_12 : decode bk_1_isTurn 12 = .ok (.getfield 77, 3) := by decide +kernel
theorem dk_1_isTurn_15 : decode bk_1_isTurn 15 = .ok (.iconst 2, 1) := by decide +kernel
theorem dk_1_isTurn_16 : decode bk_1_isTurn 16 = .ok (.iload_n 1, 1) := by decide +kernel
theorem dk_1_isTurn_17 : decode bk_1_isTurn 17 = .ok (.imul, 1) := by decide +kernel
theorem dk_1_isTurn_18 : decode bk_1_isTurn 18 = .ok (.iload_n 2, 1) := by decide +kernel
theorem dk_1_isTurn_19 : decode bk_1_isTurn 19 = .ok (.iadd, 1) := by decide +kernel
theorem dk_1_isTurn_20 : decode bk_1_isTurn 20 = .ok (.iaload, 1) := by decide +kernel
theorem dk_1_isTurn_21 : decode bk_1_isTurn 21 = .ok (.invokevirtual 106, 3) := by decide +kernel
theorem dk_1_isTurn_24 : decode bk_1_isTurn 24 = .ok (.goto 4, 3) := by decide +kernel
theorem dk_1_isTurn_27 : decode bk_1_isTurn 27 = .ok (.iconst (-1), 1) := by decide +kernel
theorem dk_1_isTurn_28 : decode bk_1_isTurn 28 = .ok (.istore 4, 2) := by decide +kernel
theorem dk_1_isTurn_30 : decode bk_1_isTurn 30 = .ok (.iload 4, 2) := by decide +kernel
theorem dk_1_isTurn_32 : decode bk_1_isTurn 32 = .ok (.iconst (-1), 1) := by decide +kernel
theorem dk_1_isTurn_33 : decode bk_1_isTurn 33 = .ok (.if_icmp .ne 15, 3) := by decide +kernel
theorem dk_1_isTurn_36 : decode bk_1_isTurn 36 = .ok (.iload_n 3, 1) := by decide +kernel
theorem dk_1_isTurn_37 : decode bk_1_isTurn 37 = .ok (.ifCond .ne 7, 3) := by decide +kernel
theorem dk_1_isTurn_40 : decode bk_1_isTurn 40 = .ok (.iconst 1, 1) := by decide +kernel
theorem dk_1_isTurn_41 : decode bk_1_isTurn 41 = .ok (.goto 41, 3) := by decide +kernel
theorem dk_1_isTurn_44 : decode bk_1_isTurn 44 = .ok (.iconst 0, 1) := by decide +kernel
theorem dk_1_isTurn_45 : decode bk_1_isTurn 45 = .ok (.goto 37, 3) := by decide +kernel
theorem dk_1_isTurn_48 : decode bk_1_isTurn 48 = .ok (.iload_n 3, 1) := by decide +kernel
theorem dk_1_isTurn_49 : decode bk_1_isTurn 49 = .ok (.aload_n 0, 1) := by decide +kernel
theorem dk_1_isTurn_50 : decode bk_1_isTurn 50 = .ok (.getfield 13, 3) := by decide +kernel
theorem dk_1_isTurn_53 : decode bk_1_isTurn 53 = .ok (.iload 4, 2) := by decide +kernel
theorem dk_1_isTurn_55 : decode bk_1_isTurn 55 = .ok (.iaload, 1) := by decide +kernel
theorem dk_1_isTurn_56 : decode bk_1_isTurn 56 = .ok (.if_icmp .ge 25, 3) := by decide +kernel
theorem dk_1_isTurn_59 : decode bk_1_isTurn 59 = .ok (.aload_n 0, 1) := by decide +kernel
theorem dk_1_isTurn_60 : decode bk_1_isTurn 60 = .ok (.getfield 80, 3) := by decide +kernel
theorem dk_1_isTurn_63 : decode bk_1_isTurn 63 = .ok (.iconst 2, 1) := by decide +kernel
theorem dk_1_isTurn_64 : decode bk_1_isTurn 64 = .ok (.iload_n 1, 1) := by decide +kernel
theorem dk_1_isTurn_65 : decode bk_1_isTurn 65 = .ok (.imul, 1) := by decide +kernel
theorem dk_1_isTurn_66 : decode bk_1_isTurn 66 = .ok (.iload_n 2, 1) := by decide +kernel
theorem dk_1_isTurn_67 : decode bk_1_isTurn 67 = .ok (.iadd, 1) := by decide +kernel
theorem dk_1_isTurn_68 : decode bk_1_isTurn 68 = .ok (.iaload, 1) := by decide +kernel
theorem dk_1_isTurn_69 : decode bk_1_isTurn 69 = .ok (.iload_n 3, 1) := by decide +kernel
theorem dk_1_isTurn_70 : decode bk_1_isTurn 70 = .ok (.ishr, 1) := by decide +kernel
theorem dk_1_isTurn_71 : decode bk_1_isTurn 71 = .ok (.iconst 1, 1) := by decide +kernel
theorem dk_1_isTurn_72 : decode bk_1_isTurn 72 = .ok (.iand, 1) := by decide +kernel
theorem dk_1_isTurn_73 : decode bk_1_isTurn 73 = .ok (.iconst 1, 1) := by decide +kernel
theorem dk_1_isTurn_74 : decode bk_1_isTurn 74 = .ok (.if_icmp .ne 7, 3) := by decide +kernel
theorem dk_1_isTurn_77 : decode bk_1_isTurn 77 = .ok (.iconst 1, 1) := by decide +kernel
theorem dk_1_isTurn_78 : decode bk_1_isTurn 78 = .ok (.goto 4, 3) := by decide +kernel
theorem dk_1_isTurn_81 : decode bk_1_isTurn 81 = .ok (.iconst 0, 1) := by decide +kernel
theorem dk_1_isTurn_82 : decode bk_1_isTurn 82 = .ok (.ireturn, 1) := by decide +kernel
theorem dk_1_turn_0 : decode bk_1_turn 0 = .ok (.iload_n 2, 1) := by decide +kernel
theorem dk_1_turn_1 : decode bk_1_turn 1 = .ok (.aload_n 0, 1) := by decide +kernel
theorem dk_1_turn_2 : decode bk_1_turn 2 = .ok (.getfield 74, 3) := by decide +kernel
theorem dk_1_turn_5 : decode bk_1_turn 5 = .ok (.iload_n 1, 1) := by decide +kernel
theorem dk_1_turn_6 : decode bk_1_turn 6 = .ok (.iaload, 1) := by decide +kernel
theorem dk_1_turn_7 : decode bk_1_turn 7 = .ok (.if_icmp .ge 20, 3) := by decide +kernel
theorem dk_1_turn_10 : decode bk_1_turn 10 = .ok (.aload_n 0, 1) := by decide +kernel
theorem dk_1_turn_11 : decode bk_1_turn 11 = .ok (.aload_n 0, 1) := by decide +kernel
theorem dk_1_turn_12 : decode bk_1_turn 12 = .ok (.getfield 77, 3) := by decide +kernel
theorem dk_1_turn_15 : decode bk_1_turn 15 = .ok (.iconst 2, 1) := by decide +kernel
theorem dk_1_turn_16 : decode bk_1_turn 16 = .ok (.iload_n 1, 1) := by decide +kernel
theorem dk_1_turn_17 : decode bk_1_turn 17 = .ok (.imul, 1) := by decide +kernel
theorem dk_1_turn_18 : decode bk_1_turn 18 = .ok (.iload_n 2, 1) := by decide +kernel
theorem dk_1_turn_19 : decode bk_1_turn 19 = .ok (.iadd, 1) := by decide +kernel
theorem dk_1_turn_20 : decode bk_1_turn 20 = .ok (.iaload, 1) := by decide +kernel
theorem dk_1_turn_21 : decode bk_1_turn 21 = .ok (.invokevirtual 106, 3) := by decide +kernel
theorem dk_1_turn_24 : decode bk_1_turn 24 = .ok (.goto 4, 3) := by decide +kernel
theorem dk_1_turn_27 : decode bk_1_turn 27 = .ok (.iconst (-1), 1) := by decide +kernel
theorem dk_1_turn_28 : decode bk_1_turn 28 = .ok (.istore 4, 2) := by decide +kernel
theorem dk_1_turn_30 : decode bk_1_turn 30 = .ok (.iload 4, 2) := by decide +kernel
theorem dk_1_turn_32 : decode bk_1_turn 32 = .ok (.iconst (-1), 1) := by decide +kernel
theorem dk_1_turn_33 : decode bk_1_turn 33 = .ok (.if_icmp .eq 10, 3) := by decide +kernel
theorem dk_1_turn_36 : decode bk_1_turn 36 = .ok (.aload_n 0, 1) := by decide +kernel
theorem dk_1_turn_37 : decode bk_1_turn 37 = .ok (.iload 4, 2) := by decide +kernel
theorem dk_1_turn_39 : decode bk_1_turn 39 = .ok (.iload_n 3, 1) := by decide +kernel
theorem dk_1_turn_40 : decode bk_1_turn 40 = .ok (.invokevirtual 154, 3) := by decide +kernel
theorem dk_1_turn_43 : decode bk_1_turn 43 = .ok (.return_, 1) := by decide +kernel
theorem dk_1_follow_0 : decode bk_1_follow 0 = .ok (.iconst 0, 1) := by decide +kernel
theorem dk_1_follow_1 : decode bk_1_follow 1 = .ok (.istore_n 3, 1) := by decide +kernel
theorem dk_1_follow_2 : decode bk_1_follow 2 = .ok (.iload_n 3, 1) := by decide +kernel
theorem dk_1_follow_3 : decode bk_1_follow 3 = .ok (.bipush 8, 2) := by decide +kernel
theorem dk_1_follow_5 : decode bk_1_follow 5 = .ok (.if_icmp .ge 106, 3) := by decide +kernel
theorem dk_1_follow_8 : decode bk_1_follow 8 = .ok (.iconst 0, 1) := by decide +kernel
theorem dk_1_follow_9 : decode bk_1_follow 9 = .ok (.istore 4, 2) := by decide +kernel
theorem dk_1_follow_11 : decode bk_1_follow 11 = .ok (.iload 4, 2) := by decide +kernel
theorem dk_1_follow_13 : decode bk_1_follow 13 = .ok (.bipush 8, 2) := by decide +kernel
theorem dk_1_follow_15 : decode bk_1_follow 15 = .ok (.if_icmp .ge 90, 3) := by decide +kernel
theorem dk_1_follow_18 : decode bk_1_follow 18 = .ok (.aload_n 0, 1) := by decide +kernel
theorem dk_1_follow_19 : decode bk_1_follow 19 = .ok (.iload_n 2, 1) := by decide +kernel
theorem dk_1_follow_20 : decode bk_1_follow 20 = .ok (.iconst 0, 1) := by decide +kernel
theorem dk_1_follow_21 : decode bk_1_follow 21 = .ok (.iload_n 3, 1) := by decide +kernel
theorem dk_1_follow_22 : decode bk_1_follow 22 = .ok (.invokevirtual 216, 3) := by decide +kernel
theorem dk_1_follow_25 : decode bk_1_follow 25 = .ok (.ifCond .eq 74, 3) := by decide +kernel
theorem dk_1_follow_28 : decode bk_1_follow 28 = .ok (.aload_n 0, 1) := by decide +kernel
theorem dk_1_follow_29 : decode bk_1_follow 29 = .ok (.iload_n 2, 1) := by decide +kernel
theorem dk_1_follow_30 : decode bk_1_follow 30 = .ok (.iconst 1, 1) := by decide +kernel
theorem dk_1_follow_31 : decode bk_1_follow 31 = .ok (.iload 4, 2) := by decide +kernel
theorem dk_1_follow_33 : decode bk_1_follow 33 = .ok (.invokevirtual 216, 3) := by decide +kernel
theorem dk_1_follow_36 : decode bk_1_follow 36 = .ok (.ifCond .eq 63, 3) := by decide +kernel
theorem dk_1_follow_39 : decode bk_1_follow 39 = .ok (.aload_n 0, 1) := by decide +kernel
theorem dk_1_follow_40 : decode bk_1_follow 40 = .ok (.aload_n 0, 1) := by decide +kernel
theorem dk_1_follow_41 : decode bk_1_follow 41 = .ok (.getfield 90, 3) := by decide +kernel
theorem dk_1_follow_44 : decode bk_1_follow 44 = .ok (.iload_n 1, 1) := by decide +kernel
theorem dk_1_follow_45 : decode bk_1_follow 45 = .ok (.iaload, 1) := by decide +kernel
theorem dk_1_follow_46 : decode bk_1_follow 46 = .ok (.bipush 60, 2) := by decide +kernel
theorem dk_1_follow_48 : decode bk_1_follow 48 = .ok (.invokevirtual 150, 3) := by decide +kernel
theorem dk_1_follow_51 : decode bk_1_follow 51 = .ok (.aload_n 0, 1) := by decide +kernel
theorem dk_1_follow_52 : decode bk_1_follow 52 = .ok (.iload_n 2, 1) := by decide +kernel
theorem dk_1_follow_53 : decode bk_1_follow 53 = .ok (.iconst 0, 1) := by decide +kernel
theorem dk_1_follow_54 : decode bk_1_follow 54 = .ok (.iload_n 3, 1) := by decide +kernel
theorem dk_1_follow_55 : decode bk_1_follow 55 = .ok (.invokevirtual 220, 3) := by decide +kernel
theorem dk_1_follow_58 : decode bk_1_follow 58 = .ok (.aload_n 0, 1) := by decide +kernel
theorem dk_1_follow_59 : decode bk_1_follow 59 = .ok (.iload_n 2, 1) := by decide +kernel
theorem dk_1_follow_60 : decode bk_1_follow 60 = .ok (.iconst 1, 1) := by decide +kernel
theorem dk_1_follow_61 : decode bk_1_follow 61 = .ok (.iload 4, 2) := by decide +kernel
theorem dk_1_follow_63 : decode bk_1_follow 63 = .ok (.invokevirtual 220, 3) := by decide +kernel
theorem dk_1_follow_66 : decode bk_1_follow 66 = .ok (.aload_n 0, 1) := by decide +kernel
theorem dk_1_follow_67 : decode bk_1_follow 67 = .ok (.aload_n 0, 1) := by decide +kernel
theorem dk_1_follow_68 : decode bk_1_follow 68 = .ok (.getfield 71, 3) := by decide +kernel
theorem dk_1_follow_71 : decode bk_1_follow 71 = .ok (.iload_n 2, 1) := by decide +kernel
theorem dk_1_follow_72 : decode bk_1_follow 72 = .ok (.iaload, 1) := by decide +kernel
theorem dk_1_follow_73 : decode bk_1_follow 73 = .ok (.invokevirtual 224, 3) := by decide +kernel
theorem dk_1_follow_76 : decode bk_1_follow 76 = .ok (.istore 5, 2) := by decide +kernel
theorem dk_1_follow_78 : decode bk_1_follow 78 = .ok (.iload 5, 2) := by decide +kernel
theorem dk_1_follow_80 : decode bk_1_follow 80 = .ok (.iconst (-1), 1) := by decide +kernel
theorem dk_1_follow_81 : decode bk_1_follow 81 = .ok (.if_icmp .ne 5, 3) := by decide +kernel
theorem dk_1_follow_84 : decode bk_1_follow 84 = .ok (.iconst 0, 1) := by decide +kernel
theorem dk_1_follow_85 : decode bk_1_follow 85 = .ok (.ireturn, 1) := by decide +kernel
theorem dk_1_follow_86 : decode bk_1_follow 86 = .ok (.aload_n 0, 1) := by decide +kernel
theorem dk_1_follow_87 : decode bk_1_follow 87 = .ok (.getfield 96, 3) := by decide +kernel
theorem dk_1_follow_90 : decode bk_1_follow 90 = .ok (.bipush 60, 2) := by decide +kernel
theorem dk_1_follow_92 : decode bk_1_follow 92 = .ok (.iload_n 1, 1) := by decide +kernel
theorem dk_1_follow_93 : decode bk_1_follow 93 = .ok (.imul, 1) := by decide +kernel
theorem dk_1_follow_94 : decode bk_1_follow 94 = .ok (.iload 5, 2) := by decide +kernel
theorem dk_1_follow_96 : decode bk_1_follow 96 = .ok (.iadd, 1) := by decide +kernel
theorem dk_1_follow_97 : decode bk_1_follow 97 = .ok (.iconst 1, 1) := by decide +kernel
theorem dk_1_follow_98 : decode bk_1_follow 98 = .ok (.bastore, 1) := by decide +kernel
theorem dk_1_follow_99 : decode bk_1_follow 99 = .ok (.iinc 4 1, 3) := by decide +kernel
theorem dk_1_follow_102 : decode bk_1_follow 102 = .ok (.goto (-91), 3) := by decide +kernel
theorem dk_1_follow_105 : decode bk_1_follow 105 = .ok (.iinc 3 1, 3) := by decide +kernel
theorem dk_1_follow_108 : decode bk_1_follow 108 = .ok (.goto (-106), 3) := by decide +kernel
theorem dk_1_follow_111 : decode bk_1_follow 111 = .ok (.iconst 1, 1) := by decide +kernel
theorem dk_1_follow_112 : decode bk_1_follow 112 = .ok (.ireturn, 1) := by decide +kernel
theorem dk_1_leaveOut_0 : decode bk_1_leaveOut 0 = .ok (.iconst 1, 1) := by decide +kernel
theorem dk_1_leaveOut_1 : decode bk_1_leaveOut 1 = .ok (.istore_n 1, 1) := by decide +kernel
theorem dk_1_leaveOut_2 : decode bk_1_leaveOut 2 = .ok (.iload_n 1, 1) := by decide +kernel
theorem dk_1_leaveOut_3 : decode bk_1_leaveOut 3 = .ok (.ifCond .eq 81, 3) := by decide +kernel
theorem dk_1_leaveOut_6 : decode bk_1_leaveOut 6 = .ok (.iconst 0, 1) := by decide +kernel
theorem dk_1_leaveOut_7 : decode bk_1_leaveOut 7 = .ok (.istore_n 1, 1) := by decide +kernel
theorem dk_1_leaveOut_8 : decode bk_1_leaveOut 8 = .ok (.iconst 0, 1) := by decide +kernel
theorem dk_1_leaveOut_9 : decode bk_1_leaveOut 9 = .ok (.istore_n 2, 1) := by decide +kernel
theorem dk_1_leaveOut_10 : decode bk_1_leaveOut 10 = .ok (.iload_n 2, 1) := by decide +kernel
theorem dk_1_leaveOut_11 : decode bk_1_leaveOut 11 = .ok (.aload_n 0, 1) := by decide +kernel
theorem dk_1_leaveOut_12 : decode bk_1_leaveOut 12 = .ok (.getfield 213, 3) := by decide +kernel
theorem dk_1_leaveOut_15 : decode bk_1_leaveOut 15 = .ok (.if_icmp .ge 66, 3) := by decide +kernel
theorem dk_1_leaveOut_18 : decode bk_1_leaveOut 18 = .ok (.iconst 0, 1) := by decide +kernel
theorem dk_1_leaveOut_19 : decode bk_1_leaveOut 19 = .ok (.istore_n 3, 1) := by decide +kernel
theorem dk_1_leaveOut_20 : decode bk_1_leaveOut 20 = .ok (.iload_n 3, 1) := by decide +kernel
theorem dk_1_leaveOut_21 : decode bk_1_leaveOut 21 = .ok (.aload_n 0, 1) := by decide +kernel
theorem dk_1_leaveOut_22 : decode bk_1_leaveOut 22 = .ok (.getfield 213, 3) := by decide +kernel
theorem dk_1_leaveOut_25 : decode bk_1_leaveOut 25 = .ok (.if_icmp .ge 50, 3) := by decide +kernel
theorem dk_1_leaveOut_28 : decode bk_1_leaveOut 28 = .ok (.aload_n 0, 1) := by decide +kernel
theorem dk_1_leaveOut_29 : decode bk_1_leaveOut 29 = .ok (.getfield 93, 3) := by decide +kernel
theorem dk_1_leaveOut_32 : decode bk_1_leaveOut 32 = .ok (.iload_n 2, 1) := by decide +kernel
theorem dk_1_leaveOut_33 : decode bk_1_leaveOut 33 = .ok (.iaload, 1) := by decide +kernel
theorem dk_1_leaveOut_34 : decode bk_1_leaveOut 34 = .ok (.ifCond .ne 35, 3) := by decide +kernel
theorem dk_1_leaveOut_37 : decode bk_1_leaveOut 37 = .ok (.aload_n 0, 1) := by decide +kernel
theorem dk_1_leaveOut_38 : decode bk_1_leaveOut 38 = .ok (.getfield 96, 3) := by decide +kernel
theorem dk_1_leaveOut_41 : decode bk_1_leaveOut 41 = .ok (.bipush 60, 2) := by decide +kernel
theorem dk_1_leaveOut_43 : decode bk_1_leaveOut 43 = .ok (.iload_n 2, 1) := by decide +kernel
theorem dk_1_leaveOut_44 : decode bk_1_leaveOut 44 = .ok (.imul, 1) := by decide +kernel
theorem dk_1_leaveOut_45 : decode bk_1_leaveOut 45 = .ok (.iload_n 3, 1) := by decide +kernel
theorem dk_1_leaveOut_46 : decode bk_1_leaveOut 46 = .ok (.iadd, 1) := by decide +kernel
theorem dk_1_leaveOut_47 : decode bk_1_leaveOut 47 = .ok (.baload, 1) := by decide +kernel
theorem dk_1_leaveOut_48 : decode bk_1_leaveOut 48 = .ok (.ifCond .eq 21, 3) := by decide +kernel
theorem dk_1_leaveOut_51 : decode bk_1_leaveOut 51 = .ok (.aload_n 0, 1) := by decide +kernel
theorem dk_1_leaveOut_52 : decode bk_1_leaveOut 52 = .ok (.getfield 93, 3) := by decide +kernel
theorem dk_1_leaveOut_55 : decode bk_1_leaveOut 55 = .ok (.iload_n 3, 1) := by decide +kernel
theorem dk_1_leaveOut_56 : decode bk_1_leaveOut 56 = .ok (.iaload, 1) := by decide +kernel
theorem dk_1_leaveOut_57 : decode bk_1_leaveOut 57 = .ok (.ifCond .le 12, 3) := by decide +kernel
theorem dk_1_leaveOut_60 : decode bk_1_leaveOut 60 = .ok (.aload_n 0, 1) := by decide +kernel
theorem dk_1_leaveOut_61 : decode bk_1_leaveOut 61 = .ok (.getfield 93, 3) := by decide +kernel
theorem dk_1_leaveOut_64 : decode bk_1_leaveOut 64 = .ok (.iload_n 2, 1) := by decide +kernel
theorem dk_1_leaveOut_65 : decode bk_1_leaveOut 65 = .ok (.iconst 2, 1) := by decide +kernel
theorem dk_1_leaveOut_66 : decode bk_1_leaveOut 66 = .ok (.iastore, 1) := by decide +kernel
theorem dk_1_leaveOut_67 : decode bk_1_leaveOut 67 = .ok (.iconst 1, 1) := by decide +kernel
theorem dk_1_leaveOut_68 : decode bk_1_leaveOut 68 = .ok (.istore_n 1, 1) := by decide +kernel
theorem dk_1_leaveOut_69 : decode bk_1_leaveOut 69 = .ok (.iinc 3 1, 3) := by decide +kernel
theorem dk_1_leaveOut_72 : decode bk_1_leaveOut 72 = .ok (.goto (-52), 3) := by decide +kernel
theorem dk_1_leaveOut_75 : decode bk_1_leaveOut 75 = .ok (.iinc 2 1, 3) := by decide +kernel
theorem dk_1_leaveOut_78 : decode bk_1_leaveOut 78 = .ok (.goto (-68), 3) := by decide +kernel
theorem dk_1_leaveOut_81 : decode bk_1_leaveOut 81 = .ok (.goto (-79), 3) := by decide +kernel
theorem dk_1_leaveOut_84 : decode bk_1_leaveOut 84 = .ok (.return_, 1) := by decide +kernel
theorem dk_1_expand_0 : decode bk_1_expand 0 = .ok (.iload_n 1, 1) := by decide +kernel
theorem dk_1_expand_1 : decode bk_1_expand 1 = .ok (.aload_n 0, 1) := by decide +kernel
theorem dk_1_expand_2 : decode bk_1_expand 2 = .ok (.getfield 138, 3) := by decide +kernel
theorem dk_1_expand_5 : decode bk_1_expand 5 = .ok (.invokestatic 102, 3) := by decide +kernel
theorem dk_1_expand_8 : decode bk_1_expand 8 = .ok (.ifCond .eq 14, 3) := by decide +kernel
theorem dk_1_expand_11 : decode bk_1_expand 11 = .ok (.iload_n 2, 1) := by decide +kernel
theorem dk_1_expand_12 : decode bk_1_expand 12 = .ok (.aload_n 0, 1) := by decide +kernel
theorem dk_1_expand_13 : decode bk_1_expand 13 = .ok (.getfield 113, 3) := by decide +kernel
theorem dk_1_expand_16 : decode bk_1_expand 16 = .ok (.invokestatic 102, 3) := by decide +kernel
theorem dk_1_expand_19 : decode bk_1_expand 19 = .ok (.ifCond .ne 5, 3) := by decide +kernel
theorem dk_1_expand_22 : decode bk_1_expand 22 = .ok (.iconst (-1), 1) := by decide +kernel
theorem dk_1_expand_23 : decode bk_1_expand 23 = .ok (.ireturn, 1) := by decide +kernel
theorem dk_1_expand_24 : decode bk_1_expand 24 = .ok (.aload_n 0, 1) := by decide +kernel
theorem dk_1_expand_25 : decode bk_1_expand 25 = .ok (.iconst 0, 1) := by decide +kernel
theorem dk_1_expand_26 : decode bk_1_expand 26 = .ok (.putfield 213, 3) := by decide +kernel
theorem dk_1_expand_29 : decode bk_1_expand 29 = .ok (.aload_n 0, 1) := by decide +kernel
theorem dk_1_expand_30 : decode bk_1_expand 30 = .ok (.iload_n 2, 1) := by decide +kernel
theorem dk_1_expand_31 : decode bk_1_expand 31 = .ok (.bipush 60, 2) := by decide +kernel
theorem dk_1_expand_33 : decode bk_1_expand 33 = .ok (.invokevirtual 150, 3) := by decide +kernel
theorem dk_1_expand_36 : decode bk_1_expand 36 = .ok (.aload_n 0, 1) := by decide +kernel
theorem dk_1_expand_37 : decode bk_1_expand 37 = .ok (.iload_n 1, 1) := by decide +kernel
theorem dk_1_expand_38 : decode bk_1_expand 38 = .ok (.invokevirtual 224, 3) := by decide +kernel
theorem dk_1_expand_41 : decode bk_1_expand 41 = .ok (.iconst (-1), 1) := by decide +kernel
theorem dk_1_expand_42 : decode bk_1_expand 42 = .ok (.if_icmp .eq 7, 3) := by decide +kernel
theorem dk_1_expand_45 : decode bk_1_expand 45 = .ok (.iconst 1, 1) := by decide +kernel
theorem dk_1_expand_46 : decode bk_1_expand 46 = .ok (.goto 4, 3) := by decide +kernel
theorem dk_1_expand_49 : decode bk_1_expand 49 = .ok (.iconst 0, 1) := by decide +kernel
theorem dk_1_expand_50 : decode bk_1_expand 50 = .ok (.istore_n 3, 1) := by decide +kernel
theorem dk_1_expand_51 : decode bk_1_expand 51 = .ok (.iconst 0, 1) := by decide +kernel
theorem dk_1_expand_52 : decode bk_1_expand 52 = .ok (.istore 4, 2) := by decide +kernel
theorem dk_1_expand_54 : decode bk_1_expand 54 = .ok (.iload 4, 2) := by decide +kernel
theorem dk_1_expand_56 : decode bk_1_expand 56 = .ok (.aload_n 0, 1) := by decide +kernel
theorem dk_1_expand_57 : decode bk_1_expand 57 = .ok (.getfield 213, 3) := by decide +kernel
theorem dk_1_expand_60 : decode bk_1_expand 60 = .ok (.if_icmp .ge 69, 3) := by decide +kernel
theorem dk_1_expand_63 : decode bk_1_expand 63 = .ok (.iload_n 3, 1) := by decide +kernel
theorem dk_1_expand_64 : decode bk_1_expand 64 = .ok (.ifCond .eq 65, 3) := by decide +kernel
theorem dk_1_expand_67 : decode bk_1_expand 67 = .ok (.iconst 0, 1) := by decide +kernel
theorem dk_1_expand_68 : decode bk_1_expand 68 = .ok (.istore 5, 2) := by decide +kernel
theorem dk_1_expand_70 : decode bk_1_expand 70 = .ok (.iload 5, 2) := by decide +kernel
theorem dk_1_expand_72 : decode bk_1_expand 72 = .ok (.aload_n 0, 1) := by decide +kernel
theorem dk_1_expand_73 : decode bk_1_expand 73 = .ok (.getfield 195, 3) := by decide +kernel
theorem dk_1_expand_76 : decode bk_1_expand 76 = .ok (.if_icmp .ge 47, 3) := by decide +kernel
theorem dk_1_expand_79 : decode bk_1_expand 79 = .ok (.iload_n 3, 1) := by decide +kernel
theorem dk_1_expand_80 : decode bk_1_expand 80 = .ok (.ifCond .eq 43, 3) := by decide +kernel
theorem dk_1_expand_83 : decode bk_1_expand 83 = .ok (.aload_n 0, 1) := by decide +kernel
theorem dk_1_expand_84 : decode bk_1_expand 84 = .ok (.getfield 68, 3) := by decide +kernel
theorem dk_1_expand_87 : decode bk_1_expand 87 = .ok (.iload 5, 2) := by decide +kernel
theorem dk_1_expand_89 : decode bk_1_expand 89 = .ok (.iaload, 1) := by decide +kernel
theorem dk_1_expand_90 : decode bk_1_expand 90 = .ok (.aload_n 0, 1) := by decide +kernel
theorem dk_1_expand_91 : decode bk_1_expand 91 = .ok (.getfield 87, 3) := by decide +kernel
theorem dk_1_expand_94 : decode bk_1_expand 94 = .ok (.iload 4, 2) := by decide +kernel
theorem dk_1_expand_96 : decode bk_1_expand 96 = .ok (.iaload, 1) := by decide +kernel
theorem dk_1_expand_97 : decode bk_1_expand 97 = .ok (.if_icmp .ne 14, 3) := by decide +kernel
theorem dk_1_expand_100 : decode bk_1_expand 100 = .ok (.aload_n 0, 1) := by decide +kernel
theorem dk_1_expand_101 : decode bk_1_expand 101 = .ok (.iload 4, 2) := by decide +kernel
theorem dk_1_expand_103 : decode bk_1_expand 103 = .ok (.iload 5, 2) := by decide +kernel
theorem dk_1_expand_105 : decode bk_1_expand 105 = .ok (.invokevirtual 227, 3) := by decide +kernel
theorem dk_1_expand_108 : decode bk_1_expand 108 = .ok (.ifCond .eq 7, 3) := by decide +kernel
theorem dk_1_expand_111 : decode bk_1_expand 111 = .ok (.iconst 1, 1) := by decide +kernel
theorem dk_1_expand_112 : decode bk_1_expand 112 = .ok (.goto 4, 3) := by decide +kernel
theorem dk_1_expand_115 : decode bk_1_expand 115 = .ok (.iconst 0, 1) := by decide +kernel
theorem dk_1_expand_116 : decode bk_1_expand 116 = .ok (.istore_n 3, 1) := by decide +kernel
theorem dk_1_expand_117 : decode bk_1_expand 117 = .ok (.iinc 5 1, 3) := by decide +kernel
theorem dk_1_expand_120 : decode bk_1_expand 120 = .ok (.goto (-50), 3) := by decide +kernel
theorem dk_1_expand_123 : decode bk_1_expand 123 = .ok (.iinc 4 1, 3) := by decide +kernel
theorem dk_1_expand_126 : decode bk_1_expand 126 = .ok (.goto (-72), 3) := by decide +kernel
theorem dk_1_expand_129 : decode bk_1_expand 129 = .ok (.iload_n 3, 1) := by decide +kernel
theorem dk_1_expand_130 : decode bk_1_expand 130 = .ok (.ifCond .ne 11, 3) := by decide +kernel
theorem dk_1_expand_133 : decode bk_1_expand 133 = .ok (.aload_n 0, 1) := by decide +kernel
theorem dk_1_expand_134 : decode bk_1_expand 134 = .ok (.iconst 0, 1) := by decide +kernel
theorem dk_1_expand_135 : decode bk_1_expand 135 = .ok (.putfield 213, 3) := by decide +kernel
theorem dk_1_expand_138 : decode bk_1_expand 138 = .ok (.bipush (-2), 2) := by decide +kernel
theorem dk_1_expand_140 : decode bk_1_expand 140 = .ok (.ireturn, 1) := by decide +kernel
theorem dk_1_expand_141 : decode bk_1_expand 141 = .ok (.aload_n 0, 1) := by decide +kernel
theorem dk_1_expand_142 : decode bk_1_expand 142 = .ok (.invokevirtual 230, 3) := by decide +kernel
theorem dk_1_expand_145 : decode bk_1_expand 145 = .ok (.aload_n 0, 1) := by decide +kernel
theorem dk_1_expand_146 : decode bk_1_expand 146 = .ok (.getfield 213, 3) := by decide +kernel
theorem dk_1_expand_149 : decode bk_1_expand 149 = .ok (.ireturn, 1) := by decide +kernel
theorem dk_1_pair_0 : decode bk_1_pair 0 = .ok (.iload_n 1, 1) := by decide +kernel
theorem dk_1_pair_1 : decode bk_1_pair 1 = .ok (.aload_n 0, 1) := by decide +kernel
theorem dk_1_pair_2 : decode bk_1_pair 2 = .ok (.getfield 213, 3) := by decide +kernel
theorem dk_1_pair_5 : decode bk_1_pair 5 = .ok (.invokestatic 102, 3) := by decide +kernel
theorem dk_1_pair_8 : decode bk_1_pair 8 = .ok (.ifCond .ne 5, 3) := by decide +kernel
theorem dk_1_pair_11 : decode bk_1_pair 11 = .ok (.iconst (-1), 1) := by decide +kernel
theorem dk_1_pair_12 : decode bk_1_pair 12 = .ok (.ireturn, 1) := by decide +kernel
theorem dk_1_pair_13 : decode bk_1_pair 13 = .ok (.iload_n 2, 1) := by decide +kernel
theorem dk_1_pair_14 : decode bk_1_pair 14 = .ok (.ifCond .ne 12, 3) := by decide +kernel
theorem dk_1_pair_17 : decode bk_1_pair 17 = .ok (.aload_n 0, 1) := by decide +kernel
theorem dk_1_pair_18 : decode bk_1_pair 18 = .ok (.getfield 87, 3) := by decide +kernel
theorem dk_1_pair_21 : decode bk_1_pair 21 = .ok (.iload_n 1, 1) := by decide +kernel
theorem dk_1_pair_22 : decode bk_1_pair 22 = .ok (.iaload, 1) := by decide +kernel
theorem dk_1_pair_23 : decode bk_1_pair 23 = .ok (.goto 32, 3) := by decide +kernel
theorem dk_1_pair_26 : decode bk_1_pair 26 = .ok (.iload_n 2, 1) := by decide +kernel
theorem dk_1_pair_27 : decode bk_1_pair 27 = .ok (.iconst 1, 1) := by decide +kernel
theorem dk_1_pair_28 : decode bk_1_pair 28 = .ok (.if_icmp .ne 12, 3) := by decide +kernel
theorem dk_1_pair_31 : decode bk_1_pair 31 = .ok (.aload_n 0, 1) := by decide +kernel
theorem dk_1_pair_32 : decode bk_1_pair 32 = .ok (.getfield 90, 3) := by decide +kernel
theorem dk_1_pair_35 : decode bk_1_pair 35 = .ok (.iload_n 1, 1) := by decide +kernel
theorem dk_1_pair_36 : decode bk_1_pair 36 = .ok (.iaload, 1) := by decide +kernel
theorem dk_1_pair_37 : decode bk_1_pair 37 = .ok (.goto 18, 3) := by decide +kernel
theorem dk_1_pair_40 : decode bk_1_pair 40 = .ok (.iload_n 2, 1) := by decide +kernel
theorem dk_1_pair_41 : decode bk_1_pair 41 = .ok (.iconst 2, 1) := by decide +kernel
theorem dk_1_pair_42 : decode bk_1_pair 42 = .ok (.if_icmp .ne 12, 3) := by decide +kernel
theorem dk_1_pair_45 : decode bk_1_pair 45 = .ok (.aload_n 0, 1) := by decide +kernel
theorem dk_1_pair_46 : decode bk_1_pair 46 = .ok (.getfield 93, 3) := by decide +kernel
theorem dk_1_pair_49 : decode bk_1_pair 49 = .ok (.iload_n 1, 1) := by decide +kernel
theorem dk_1_pair_50 : decode bk_1_pair 50 = .ok (.iaload, 1) := by decide +kernel
theorem dk_1_pair_51 : decode bk_1_pair 51 = .ok (.goto 4, 3) := by decide +kernel
theorem dk_1_pair_54 : decode bk_1_pair 54 = .ok (.iconst (-1), 1) := by decide +kernel
theorem dk_1_pair_55 : decode bk_1_pair 55 = .ok (.ireturn, 1) := by decide +kernel
