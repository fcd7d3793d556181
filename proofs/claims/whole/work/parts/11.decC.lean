theorem dk_0_change_0 : decode bk_0_change 0 = .ok (.iload_n 3, 1) := by decide +kernel
theorem dk_0_change_1 : decode bk_0_change 1 = .ok (.sipush 255, 3) := by decide +kernel
theorem dk_0_change_4 : decode bk_0_change 4 = .ok (.iand, 1) := by decide +kernel
theorem dk_0_change_5 : decode bk_0_change 5 = .ok (.istore 4, 2) := by decide +kernel
theorem dk_0_change_7 : decode bk_0_change 7 = .ok (.aload_n 0, 1) := by decide +kernel
theorem dk_0_change_8 : decode bk_0_change 8 = .ok (.getfield 54, 3) := by decide +kernel
theorem dk_0_change_11 : decode bk_0_change 11 = .ok (.iload_n 1, 1) := by decide +kernel
theorem dk_0_change_12 : decode bk_0_change 12 = .ok (.invokevirtual 199, 3) := by decide +kernel
theorem dk_0_change_15 : decode bk_0_change 15 = .ok (.ifCond .eq 19, 3) := by decide +kernel
theorem dk_0_change_18 : decode bk_0_change 18 = .ok (.aload_n 0, 1) := by decide +kernel
theorem dk_0_change_19 : decode bk_0_change 19 = .ok (.getfield 12, 3) := by decide +kernel
theorem dk_0_change_22 : decode bk_0_change 22 = .ok (.iload_n 2, 1) := by decide +kernel
theorem dk_0_change_23 : decode bk_0_change 23 = .ok (.invokevirtual 109, 3) := by decide +kernel
theorem dk_0_change_26 : decode bk_0_change 26 = .ok (.ifCond .eq 8, 3) := by decide +kernel
theorem dk_0_change_29 : decode bk_0_change 29 = .ok (.iload 4, 2) := by decide +kernel
theorem dk_0_change_31 : decode bk_0_change 31 = .ok (.ifCond .ne 5, 3) := by decide +kernel
theorem dk_0_change_34 : decode bk_0_change 34 = .ok (.iconst 0, 1) := by decide +kernel
theorem dk_0_change_35 : decode bk_0_change 35 = .ok (.ireturn, 1) := by decide +kernel
theorem dk_0_change_36 : decode bk_0_change 36 = .ok (.aload_n 0, 1) := by decide +kernel
theorem dk_0_change_37 : decode bk_0_change 37 = .ok (.getfield 54, 3) := by decide +kernel
theorem dk_0_change_40 : decode bk_0_change 40 = .ok (.iload_n 1, 1) := by decide +kernel
theorem dk_0_change_41 : decode bk_0_change 41 = .ok (.iload_n 2, 1) := by decide +kernel
theorem dk_0_change_42 : decode bk_0_change 42 = .ok (.iload 4, 2) := by decide +kernel
theorem dk_0_change_44 : decode bk_0_change 44 = .ok (.invokevirtual 200, 3) := by decide +kernel
theorem dk_0_change_47 : decode bk_0_change 47 = .ok (.ireturn, 1) := by decide +kernel
theorem dk_0_reads_0 : decode bk_0_reads 0 = .ok (.aload_n 0, 1) := by decide +kernel
theorem dk_0_reads_1 : decode bk_0_reads 1 = .ok (.getfield 40, 3) := by decide +kernel
theorem dk_0_reads_4 : decode bk_0_reads 4 = .ok (.iload_n 1, 1) := by decide +kernel
theorem dk_0_reads_5 : decode bk_0_reads 5 = .ok (.invokevirtual 121, 3) := by decide +kernel
theorem dk_0_reads_8 : decode bk_0_reads 8 = .ok (.ifCond .ne 5, 3) := by decide +kernel
theorem dk_0_reads_11 : decode bk_0_reads 11 = .ok (.iconst 0, 1) := by decide +kernel
theorem dk_0_reads_12 : decode bk_0_reads 12 = .ok (.ireturn, 1) := by decide +kernel
theorem dk_0_reads_13 : decode bk_0_reads 13 = .ok (.aload_n 0, 1) := by decide +kernel
theorem dk_0_reads_14 : decode bk_0_reads 14 = .ok (.invokevirtual 204, 3) := by decide +kernel
theorem dk_0_reads_17 : decode bk_0_reads 17 = .ok (.aload_n 0, 1) := by decide +kernel
theorem dk_0_reads_18 : decode bk_0_reads 18 = .ok (.getfield 40, 3) := by decide +kernel
theorem dk_0_reads_21 : decode bk_0_reads 21 = .ok (.getfield 207, 3) := by decide +kernel
theorem dk_0_reads_24 : decode bk_0_reads 24 = .ok (.iload_n 1, 1) := by decide +kernel
theorem dk_0_reads_25 : decode bk_0_reads 25 = .ok (.iaload, 1) := by decide +kernel
theorem dk_0_reads_26 : decode bk_0_reads 26 = .ok (.ireturn, 1) := by decide +kernel
theorem dk_0_trim_0 : decode bk_0_trim 0 = .ok (.aload_n 0, 1) := by decide +kernel
theorem dk_0_trim_1 : decode bk_0_trim 1 = .ok (.getfield 40, 3) := by decide +kernel
theorem dk_0_trim_4 : decode bk_0_trim 4 = .ok (.iload_n 1, 1) := by decide +kernel
theorem dk_0_trim_5 : decode bk_0_trim 5 = .ok (.invokevirtual 121, 3) := by decide +kernel
theorem dk_0_trim_8 : decode bk_0_trim 8 = .ok (.ifCond .eq 14, 3) := by decide +kernel
theorem dk_0_trim_11 : decode bk_0_trim 11 = .ok (.aload_n 0, 1) := by decide +kernel
theorem dk_0_trim_12 : decode bk_0_trim 12 = .ok (.getfield 26, 3) := by decide +kernel
theorem dk_0_trim_15 : decode bk_0_trim 15 = .ok (.iload_n 2, 1) := by decide +kernel
theorem dk_0_trim_16 : decode bk_0_trim 16 = .ok (.invokevirtual 161, 3) := by decide +kernel
theorem dk_0_trim_19 : decode bk_0_trim 19 = .ok (.ifCond .ne 5, 3) := by decide +kernel
theorem dk_0_trim_22 : decode bk_0_trim 22 = .ok (.iconst (-1), 1) := by decide +kernel
theorem dk_0_trim_23 : decode bk_0_trim 23 = .ok (.ireturn, 1) := by decide +kernel
theorem dk_0_trim_24 : decode bk_0_trim 24 = .ok (.aload_n 0, 1) := by decide +kernel
theorem dk_0_trim_25 : decode bk_0_trim 25 = .ok (.invokevirtual 204, 3) := by decide +kernel
theorem dk_0_trim_28 : decode bk_0_trim 28 = .ok (.aload_n 0, 1) := by decide +kernel
theorem dk_0_trim_29 : decode bk_0_trim 29 = .ok (.getfield 26, 3) := by decide +kernel
theorem dk_0_trim_32 : decode bk_0_trim 32 = .ok (.getfield 165, 3) := by decide +kernel
theorem dk_0_trim_35 : decode bk_0_trim 35 = .ok (.iload_n 2, 1) := by decide +kernel
theorem dk_0_trim_36 : decode bk_0_trim 36 = .ok (.laload, 1) := by decide +kernel
theorem dk_0_trim_37 : decode bk_0_trim 37 = .ok (.lstore_n 3, 1) := by decide +kernel
theorem dk_0_trim_38 : decode bk_0_trim 38 = .ok (.aload_n 0, 1) := by decide +kernel
theorem dk_0_trim_39 : decode bk_0_trim 39 = .ok (.getfield 26, 3) := by decide +kernel
theorem dk_0_trim_42 : decode bk_0_trim 42 = .ok (.aload_n 0, 1) := by decide +kernel
theorem dk_0_trim_43 : decode bk_0_trim 43 = .ok (.lload_n 3, 1) := by decide +kernel
theorem dk_0_trim_44 : decode bk_0_trim 44 = .ok (.aload_n 0, 1) := by decide +kernel
theorem dk_0_trim_45 : decode bk_0_trim 45 = .ok (.getfield 40, 3) := by decide +kernel
theorem dk_0_trim_48 : decode bk_0_trim 48 = .ok (.getfield 207, 3) := by decide +kernel
theorem dk_0_trim_51 : decode bk_0_trim 51 = .ok (.iload_n 1, 1) := by decide +kernel
theorem dk_0_trim_52 : decode bk_0_trim 52 = .ok (.iaload, 1) := by decide +kernel
theorem dk_0_trim_53 : decode bk_0_trim 53 = .ok (.invokevirtual 153, 3) := by decide +kernel
theorem dk_0_trim_56 : decode bk_0_trim 56 = .ok (.invokevirtual 157, 3) := by decide +kernel
theorem dk_0_trim_59 : decode bk_0_trim 59 = .ok (.ireturn, 1) := by decide +kernel
theorem dk_0_expand_0 : decode bk_0_expand 0 = .ok (.aload_n 0, 1) := by decide +kernel
theorem dk_0_expand_1 : decode bk_0_expand 1 = .ok (.getfield 40, 3) := by decide +kernel
theorem dk_0_expand_4 : decode bk_0_expand 4 = .ok (.iload_n 1, 1) := by decide +kernel
theorem dk_0_expand_5 : decode bk_0_expand 5 = .ok (.invokevirtual 121, 3) := by decide +kernel
theorem dk_0_expand_8 : decode bk_0_expand 8 = .ok (.ifCond .eq 14, 3) := by decide +kernel
theorem dk_0_expand_11 : decode bk_0_expand 11 = .ok (.aload_n 0, 1) := by decide +kernel
theorem dk_0_expand_12 : decode bk_0_expand 12 = .ok (.getfield 26, 3) := by decide +kernel
theorem dk_0_expand_15 : decode bk_0_expand 15 = .ok (.iload_n 2, 1) := by decide +kernel
theorem dk_0_expand_16 : decode bk_0_expand 16 = .ok (.invokevirtual 161, 3) := by decide +kernel
theorem dk_0_expand_19 : decode bk_0_expand 19 = .ok (.ifCond .ne 5, 3) := by decide +kernel
theorem dk_0_expand_22 : decode bk_0_expand 22 = .ok (.iconst (-1), 1) := by decide +kernel
theorem dk_0_expand_23 : decode bk_0_expand 23 = .ok (.ireturn, 1) := by decide +kernel
theorem dk_0_expand_24 : decode bk_0_expand 24 = .ok (.aload_n 0, 1) := by decide +kernel
theorem dk_0_expand_25 : decode bk_0_expand 25 = .ok (.invokevirtual 204, 3) := by decide +kernel
theorem dk_0_expand_28 : decode bk_0_expand 28 = .ok (.aload_n 0, 1) := by decide +kernel
theorem dk_0_expand_29 : decode bk_0_expand 29 = .ok (.getfield 61, 3) := by decide +kernel
theorem dk_0_expand_32 : decode bk_0_expand 32 = .ok (.invokevirtual 210, 3) := by decide +kernel
theorem dk_0_expand_35 : decode bk_0_expand 35 = .ok (.aload_n 0, 1) := by decide +kernel
theorem dk_0_expand_36 : decode bk_0_expand 36 = .ok (.iload_n 1, 1) := by decide +kernel
theorem dk_0_expand_37 : decode bk_0_expand 37 = .ok (.aload_n 0, 1) := by decide +kernel
theorem dk_0_expand_38 : decode bk_0_expand 38 = .ok (.getfield 26, 3) := by decide +kernel
theorem dk_0_expand_41 : decode bk_0_expand 41 = .ok (.getfield 165, 3) := by decide +kernel
theorem dk_0_expand_44 : decode bk_0_expand 44 = .ok (.iload_n 2, 1) := by decide +kernel
theorem dk_0_expand_45 : decode bk_0_expand 45 = .ok (.laload, 1) := by decide +kernel
theorem dk_0_expand_46 : decode bk_0_expand 46 = .ok (.invokevirtual 213, 3) := by decide +kernel
theorem dk_0_expand_49 : decode bk_0_expand 49 = .ok (.ifCond .ne 13, 3) := by decide +kernel
theorem dk_0_expand_52 : decode bk_0_expand 52 = .ok (.aload_n 0, 1) := by decide +kernel
theorem dk_0_expand_53 : decode bk_0_expand 53 = .ok (.getfield 61, 3) := by decide +kernel
theorem dk_0_expand_56 : decode bk_0_expand 56 = .ok (.invokevirtual 210, 3) := by decide +kernel
theorem dk_0_expand_59 : decode bk_0_expand 59 = .ok (.bipush (-2), 2) := by decide +kernel
theorem dk_0_expand_61 : decode bk_0_expand 61 = .ok (.ireturn, 1) := by decide +kernel
theorem dk_0_expand_62 : decode bk_0_expand 62 = .ok (.aload_n 0, 1) := by decide +kernel
theorem dk_0_expand_63 : decode bk_0_expand 63 = .ok (.invokevirtual 216, 3) := by decide +kernel
theorem dk_0_expand_66 : decode bk_0_expand 66 = .ok (.aload_n 0, 1) := by decide +kernel
theorem dk_0_expand_67 : decode bk_0_expand 67 = .ok (.getfield 61, 3) := by decide +kernel
theorem dk_0_expand_70 : decode bk_0_expand 70 = .ok (.invokevirtual 219, 3) := by decide +kernel
theorem dk_0_expand_73 : decode bk_0_expand 73 = .ok (.aload_n 0, 1) := by decide +kernel
theorem dk_0_expand_74 : decode bk_0_expand 74 = .ok (.getfield 61, 3) := by decide +kernel
theorem dk_0_expand_77 : decode bk_0_expand 77 = .ok (.getfield 222, 3) := by decide +kernel
theorem dk_0_expand_80 : decode bk_0_expand 80 = .ok (.ireturn, 1) := by decide +kernel
theorem dk_0_pair_0 : decode bk_0_pair 0 = .ok (.aload_n 0, 1) := by decide +kernel
theorem dk_0_pair_1 : decode bk_0_pair 1 = .ok (.getfield 61, 3) := by decide +kernel
theorem dk_0_pair_4 : decode bk_0_pair 4 = .ok (.iload_n 1, 1) := by decide +kernel
theorem dk_0_pair_5 : decode bk_0_pair 5 = .ok (.invokevirtual 226, 3) := by decide +kernel
theorem dk_0_pair_8 : decode bk_0_pair 8 = .ok (.ifCond .ne 5, 3) := by decide +kernel
theorem dk_0_pair_11 : decode bk_0_pair 11 = .ok (.iconst (-1), 1) := by decide +kernel
theorem dk_0_pair_12 : decode bk_0_pair 12 = .ok (.ireturn, 1) := by decide +kernel
theorem dk_0_pair_13 : decode bk_0_pair 13 = .ok (.iload_n 2, 1) := by decide +kernel
theorem dk_0_pair_14 : decode bk_0_pair 14 = .ok (.tableswitch 56 0 2 #[26, 36, 46], 26) := by decide +kernel
theorem dk_0_pair_40 : decode bk_0_pair 40 = .ok (.aload_n 0, 1) := by decide +kernel
theorem dk_0_pair_41 : decode bk_0_pair 41 = .ok (.getfield 61, 3) := by decide +kernel
theorem dk_0_pair_44 : decode bk_0_pair 44 = .ok (.getfield 227, 3) := by decide +kernel
theorem dk_0_pair_47 : decode bk_0_pair 47 = .ok (.iload_n 1, 1) := by decide +kernel
theorem dk_0_pair_48 : decode bk_0_pair 48 = .ok (.iaload, 1) := by decide +kernel
theorem dk_0_pair_49 : decode bk_0_pair 49 = .ok (.ireturn, 1) := by decide +kernel
theorem dk_0_pair_50 : decode bk_0_pair 50 = .ok (.aload_n 0, 1) := by decide +kernel
theorem dk_0_pair_51 : decode bk_0_pair 51 = .ok (.getfield 61, 3) := by decide +kernel
theorem dk_0_pair_54 : decode bk_0_pair 54 = .ok (.getfield 230, 3) := by decide +kernel
theorem dk_0_pair_57 : decode bk_0_pair 57 = .ok (.iload_n 1, 1) := by decide +kernel
theorem dk_0_pair_58 : decode bk_0_pair 58 = .ok (.iaload, 1) := by decide +kernel
theorem dk_0_pair_59 : decode bk_0_pair 59 = .ok (.ireturn, 1) := by decide +kernel
theorem dk_0_pair_60 : decode bk_0_pair 60 = .ok (.aload_n 0, 1) := by decide +kernel
theorem dk_0_pair_61 : decode bk_0_pair 61 = .ok (.getfield 61, 3) := by decide +kernel
theorem dk_0_pair_64 : decode bk_0_pair 64 = .ok (.getfield 233, 3) := by decide +kernel
theorem dk_0_pair_67 : decode bk_0_pair 67 = .ok (.iload_n 1, 1) := by decide +kernel
theorem dk_0_pair_68 : decode bk_0_pair 68 = .ok (.iaload, 1) := by decide +kernel
theorem dk_0_pair_69 : decode bk_0_pair 69 = .ok (.ireturn, 1) := by decide +kernel
theorem dk_0_pair_70 : decode bk_0_pair 70 = .ok (.iconst (-1), 1) := by decide +kernel
theorem dk_0_pair_71 : decode bk_0_pair 71 = .ok (.ireturn, 1) := by decide +kernel
theorem dk_0_isAxis_0 : decode bk_0_isAxis 0 = .ok (.iload_n 0, 1) := by decide +kernel
theorem dk_0_isAxis_1 : decode bk_0_isAxis 1 = .ok (.ifCond .lt 13, 3) := by decide +kernel
theorem dk_0_isAxis_4 : decode bk_0_isAxis 4 = .ok (.iload_n 0, 1) := by decide +kernel
theorem dk_0_isAxis_5 : decode bk_0_isAxis 5 = .ok (.bipush 8, 2) := by decide +kernel
theorem dk_0_isAxis_7 : decode bk_0_isAxis 7 = .ok (.if_icmp .ge 7, 3) := by decide +kernel
theorem dk_0_isAxis_10 : decode bk_0_isAxis 10 = .ok (.iconst 1, 1) := by decide +kernel
theorem dk_0_isAxis_11 : decode bk_0_isAxis 11 = .ok (.goto 4, 3) := by decide +kernel
theorem dk_0_isAxis_14 : decode bk_0_isAxis 14 = .ok (.iconst 0, 1) := by decide +kernel
theorem dk_0_isAxis_15 : decode bk_0_isAxis 15 = .ok (.ireturn, 1) := by decide +kernel
theorem dk_0_isValue_0 : decode bk_0_isValue 0 = .ok (.iload_n 0, 1) := by decide +kernel
theorem dk_0_isValue_1 : decode bk_0_isValue 1 = .ok (.ifCond .lt 13, 3) := by decide +kernel
theorem dk_0_isValue_4 : decode bk_0_isValue 4 = .ok (.iload_n 0, 1) := by decide +kernel
theorem dk_0_isValue_5 : decode bk_0_isValue 5 = .ok (.bipush 8, 2) := by decide +kernel
theorem dk_0_isValue_7 : decode bk_0_isValue 7 = .ok (.if_icmp .ge 7, 3) := by decide +kernel
theorem dk_0_isValue_10 : decode bk_0_isValue 10 = .ok (.iconst 1, 1) := by decide +kernel
theorem dk_0_isValue_11 : decode bk_0_isValue 11 = .ok (.goto 4, 3) := by decide +kernel
theorem dk_0_isValue_14 : decode bk_0_isValue 14 = .ok (.iconst 0, 1) := by decide +kernel
theorem dk_0_isValue_15 : decode bk_0_isValue 15 = .ok (.ireturn, 1) := by decide +kernel
theorem dk_0_hasBit_0 : decode bk_0_hasBit 0 = .ok (.iload_n 0, 1) := by decide +kernel
theorem dk_0_hasBit_1 : decode bk_0_hasBit 1 = .ok (.iload_n 1, 1) := by decide +kernel
theorem dk_0_hasBit_2 : decode bk_0_hasBit 2 = .ok (.iushr, 1) := by decide +kernel
theorem dk_0_hasBit_3 : decode bk_0_hasBit 3 = .ok (.iconst 1, 1) := by decide +kernel
theorem dk_0_hasBit_4 : decode bk_0_hasBit 4 = .ok (.iand, 1) := by decide +kernel
theorem dk_0_hasBit_5 : decode bk_0_hasBit 5 = .ok (.ifCond .eq 7, 3) := by decide +kernel
theorem dk_0_hasBit_8 : decode bk_0_hasBit 8 = .ok (.iconst 1, 1) := by decide +kernel
theorem dk_0_hasBit_9 : decode bk_0_hasBit 9 = .ok (.goto 4, 3) := by decide +kernel
theorem dk_0_hasBit_12 : decode bk_0_hasBit 12 = .ok (.iconst 0, 1) := by decide +kernel
theorem dk_0_hasBit_13 : decode bk_0_hasBit 13 = .ok (.ireturn, 1) := by decide +kernel
theorem dk_0_isMet_0 : decode bk_0_isMet 0 = .ok (.iconst 0, 1) := by decide +kernel
theorem dk_0_isMet_1 : decode bk_0_isMet 1 = .ok (.istore 4, 2) := by decide +kernel
theorem dk_0_isMet_3 : decode bk_0_isMet 3 = .ok (.iload 4, 2) := by decide +kernel
theorem dk_0_isMet_5 : decode bk_0_isMet 5 = .ok (.aload_n 0, 1) := by decide +kernel
theorem dk_0_isMet_6 : decode bk_0_isMet 6 = .ok (.getfield 33, 3) := by decide +kernel
theorem dk_0_isMet_9 : decode bk_0_isMet 9 = .ok (.getfield 236, 3) := by decide +kernel
theorem dk_0_isMet_12 : decode bk_0_isMet 12 = .ok (.iload_n 1, 1) := by decide +kernel
theorem dk_0_isMet_13 : decode bk_0_isMet 13 = .ok (.iaload, 1) := by decide +kernel
theorem dk_0_isMet_14 : decode bk_0_isMet 14 = .ok (.if_icmp .ge 29, 3) := by decide +kernel
theorem dk_0_isMet_17 : decode bk_0_isMet 17 = .ok (.aload_n 0, 1) := by decide +kernel
theorem dk_0_isMet_18 : decode bk_0_isMet 18 = .ok (.aload_n 0, 1) := by decide +kernel
theorem dk_0_isMet_19 : decode bk_0_isMet 19 = .ok (.getfield 33, 3) := by decide +kernel
theorem dk_0_isMet_22 : decode bk_0_isMet 22 = .ok (.iload_n 1, 1) := by decide +kernel
theorem dk_0_isMet_23 : decode bk_0_isMet 23 = .ok (.iload 4, 2) := by decide +kernel
theorem dk_0_isMet_25 : decode bk_0_isMet 25 = .ok (.invokevirtual 239, 3) := by decide +kernel
theorem dk_0_isMet_28 : decode bk_0_isMet 28 = .ok (.lload_n 2, 1) := by decide +kernel
theorem dk_0_isMet_29 : decode bk_0_isMet 29 = .ok (.invokevirtual 242, 3) := by decide +kernel
theorem dk_0_isMet_32 : decode bk_0_isMet 32 = .ok (.ifCond .ne 5, 3) := by decide +kernel
theorem dk_0_isMet_35 : decode bk_0_isMet 35 = .ok (.iconst 0, 1) := by decide +kernel
theorem dk_0_isMet_36 : decode bk_0_isMet 36 = .ok (.ireturn, 1) := by decide +kernel
theorem dk_0_isMet_37 : decode bk_0_isMet 37 = .ok (.iinc 4 1, 3) := by decide +kernel
theorem dk_0_isMet_40 : decode bk_0_isMet 40 = .ok (.goto (-37), 3) := by decide +kernel
theorem dk_0_isMet_43 : decode bk_0_isMet 43 = .ok (.iconst 1, 1) := by decide +kernel
theorem dk_0_isMet_44 : decode bk_0_isMet 44 = .ok (.ireturn, 1) := by decide +kernel
theorem dk_0_isAskingMet_0 : decode bk_0_isAskingMet 0 = .ok (.iload_n 1, 1) := by decide +kernel
theorem dk_0_isAskingMet_1 : decode bk_0_isAskingMet 1 = .ok (.invokestatic 245, 3) := by decide +kernel
theorem dk_0_isAskingMet_4 : decode bk_0_isAskingMet 4 = .ok (.istore 4, 2) := by decide +kernel
theorem dk_0_isAskingMet_6 : decode bk_0_isAskingMet 6 = .ok (.iload_n 1, 1) := by decide +kernel
theorem dk_0_isAskingMet_7 : decode bk_0_isAskingMet 7 = .ok (.invokestatic 248, 3) := by decide +kernel
theorem dk_0_isAskingMet_10 : decode bk_0_isAskingMet 10 = .ok (.istore 5, 2) := by decide +kernel
theorem dk_0_isAskingMet_12 : decode bk_0_isAskingMet 12 = .ok (.iload_n 1, 1) := by decide +kernel
theorem dk_0_isAskingMet_13 : decode bk_0_isAskingMet 13 = .ok (.invokestatic 250, 3) := by decide +kernel
theorem dk_0_isAskingMet_16 : decode bk_0_isAskingMet 16 = .ok (.ifCond .eq 27, 3) := by decide +kernel
theorem dk_0_isAskingMet_19 : decode bk_0_isAskingMet 19 = .ok (.aload_n 0, 1) := by decide +kernel
theorem dk_0_isAskingMet_20 : decode bk_0_isAskingMet 20 = .ok (.getfield 19, 3) := by decide +kernel
theorem dk_0_isAskingMet_23 : decode bk_0_isAskingMet 23 = .ok (.lload_n 2, 1) := by decide +kernel
theorem dk_0_isAskingMet_24 : decode bk_0_isAskingMet 24 = .ok (.invokestatic 253, 3) := by decide +kernel
theorem dk_0_isAskingMet_27 : decode bk_0_isAskingMet 27 = .ok (.iload 4, 2) := by decide +kernel
theorem dk_0_isAskingMet_29 : decode bk_0_isAskingMet 29 = .ok (.invokevirtual 256, 3) := by decide +kernel
theorem dk_0_isAskingMet_32 : decode bk_0_isAskingMet 32 = .ok (.iload 5, 2) := by decide +kernel
theorem dk_0_isAskingMet_34 : decode bk_0_isAskingMet 34 = .ok (.if_icmp .ne 7, 3) := by decide +kernel
theorem dk_0_isAskingMet_37 : decode bk_0_isAskingMet 37 = .ok (.iconst 1, 1) := by decide +kernel
theorem dk_0_isAskingMet_38 : decode bk_0_isAskingMet 38 = .ok (.goto 4, 3) := by decide +kernel
theorem dk_0_isAskingMet_41 : decode bk_0_isAskingMet 41 = .ok (.iconst 0, 1) := by decide +kernel
theorem dk_0_isAskingMet_42 : decode bk_0_isAskingMet 42 = .ok (.ireturn, 1) := by decide +kernel
theorem dk_0_isAskingMet_43 : decode bk_0_isAskingMet 43 = .ok (.aload_n 0, 1) := by decide +kernel
theorem dk_0_isAskingMet_44 : decode bk_0_isAskingMet 44 = .ok (.getfield 12, 3) := by decide +kernel
theorem dk_0_isAskingMet_47 : decode bk_0_isAskingMet 47 = .ok (.iload 4, 2) := by decide +kernel
theorem dk_0_isAskingMet_49 : decode bk_0_isAskingMet 49 = .ok (.invokevirtual 83, 3) := by decide +kernel
theorem dk_0_isAskingMet_52 : decode bk_0_isAskingMet 52 = .ok (.istore 6, 2) := by decide +kernel
theorem dk_0_isAskingMet_54 : decode bk_0_isAskingMet 54 = .ok (.iload 6, 2) := by decide +kernel
theorem dk_0_isAskingMet_56 : decode bk_0_isAskingMet 56 = .ok (.iconst (-1), 1) := by decide +kernel
theorem dk_0_isAskingMet_57 : decode bk_0_isAskingMet 57 = .ok (.if_icmp .eq 18, 3) := by decide +kernel
theorem dk_0_isAskingMet_60 : decode bk_0_isAskingMet 60 = .ok (.lload_n 2, 1) := by decide +kernel
theorem dk_0_isAskingMet_61 : decode bk_0_isAskingMet 61 = .ok (.iload 6, 2) := by decide +kernel
theorem dk_0_isAskingMet_63 : decode bk_0_isAskingMet 63 = .ok (.invokestatic 172, 3) := by decide +kernel
theorem dk_0_isAskingMet_66 : decode bk_0_isAskingMet 66 = .ok (.iload 5, 2) := by decide +kernel
theorem dk_0_isAskingMet_68 : decode bk_0_isAskingMet 68 = .ok (.if_icmp .ne 7, 3) := by decide +kernel
theorem dk_0_isAskingMet_71 : decode bk_0_isAskingMet 71 = .ok (.iconst 1, 1) := by decide +kernel
theorem dk_0_isAskingMet_72 : decode bk_0_isAskingMet 72 = .ok (.goto 4, 3) := by decide +kernel
theorem dk_0_isAskingMet_75 : decode bk_0_isAskingMet 75 = .ok (.iconst 0, 1) := by decide +kernel
theorem dk_0_isAskingMet_76 : decode bk_0_isAskingMet 76 = .ok (.ireturn, 1) := by decide +kernel
theorem dk_0_askedBy_0 : decode bk_0_askedBy 0 = .ok (.iconst 0, 1) := by decide +kernel
theorem dk_0_askedBy_1 : decode bk_0_askedBy 1 = .ok (.istore_n 2, 1) := by decide +kernel
theorem dk_0_askedBy_2 : decode bk_0_askedBy 2 = .ok (.iconst 0, 1) := by decide +kernel
theorem dk_0_askedBy_3 : decode bk_0_askedBy 3 = .ok (.istore_n 3, 1) := by decide +kernel
theorem dk_0_askedBy_4 : decode bk_0_askedBy 4 = .ok (.iload_n 3, 1) := by decide +kernel
theorem dk_0_askedBy_5 : decode bk_0_askedBy 5 = .ok (.aload_n 0, 1) := by decide +kernel
theorem dk_0_askedBy_6 : decode bk_0_askedBy 6 = .ok (.getfield 33, 3) := by decide +kernel
theorem dk_0_askedBy_9 : decode bk_0_askedBy 9 = .ok (.getfield 236, 3) := by decide +kernel
theorem dk_0_askedBy_12 : decode bk_0_askedBy 12 = .ok (.iload_n 1, 1) := by decide +kernel
theorem dk_0_askedBy_13 : decode bk_0_askedBy 13 = .ok (.iaload, 1) := by decide +kernel
theorem dk_0_askedBy_14 : decode bk_0_askedBy 14 = .ok (.if_icmp .ge 76, 3) := by decide +kernel
theorem dk_0_askedBy_17 : decode bk_0_askedBy 17 = .ok (.aload_n 0, 1) := by decide +kernel
theorem dk_0_askedBy_18 : decode bk_0_askedBy 18 = .ok (.getfield 33, 3) := by decide +kernel
theorem dk_0_askedBy_21 : decode bk_0_askedBy 21 = .ok (.iload_n 1, 1) := by decide +kernel
theorem dk_0_askedBy_22 : decode bk_0_askedBy 22 = .ok (.iload_n 3, 1) := by decide +kernel
theorem dk_0_askedBy_23 : decode bk_0_askedBy 23 = .ok (.invokevirtual 239, 3) := by decide +kernel
theorem dk_0_askedBy_26 : decode bk_0_askedBy 26 = .ok (.istore 4, 2) := by decide +kernel
theorem dk_0_askedBy_28 : decode bk_0_askedBy 28 = .ok (.iload 4, 2) := by decide +kernel
theorem dk_0_askedBy_30 : decode bk_0_askedBy 30 = .ok (.invokestatic 245, 3) := by decide +kernel
theorem dk_0_askedBy_33 : decode bk_0_askedBy 33 = .ok (.istore 5, 2) := by decide +kernel
theorem dk_0_askedBy_35 : decode bk_0_askedBy 35 = .ok (.iload 4, 2) := by decide +kernel
theorem dk_0_askedBy_37 : decode bk_0_askedBy 37 = .ok (.invokestatic 250, 3) := by decide +kernel
theorem dk_0_askedBy_40 : decode bk_0_askedBy 40 = .ok (.ifCond .eq 16, 3) := by decide +kernel
theorem dk_0_askedBy_43 : decode bk_0_askedBy 43 = .ok (.iload_n 2, 1) := by decide +kernel
theorem dk_0_askedBy_44 : decode bk_0_askedBy 44 = .ok (.iconst 1, 1) := by decide +kernel
theorem dk_0_askedBy_45 : decode bk_0_askedBy 45 = .ok (.bipush 16, 2) := by decide +kernel
theorem dk_0_askedBy_47 : decode bk_0_askedBy 47 = .ok (.iload 5, 2) := by decide +kernel
theorem dk_0_askedBy_49 : decode bk_0_askedBy 49 = .ok (.iadd, 1) := by decide +kernel
theorem dk_0_askedBy_50 : decode bk_0_askedBy 50 = .ok (.ishl, 1) := by decide +kernel
theorem dk_0_askedBy_51 : decode bk_0_askedBy 51 = .ok (.ior, 1) := by decide +kernel
theorem dk_0_askedBy_52 : decode bk_0_askedBy 52 = .ok (.istore_n 2, 1) := by decide +kernel
theorem dk_0_askedBy_53 : decode bk_0_askedBy 53 = .ok (.goto 31, 3) := by decide +kernel
theorem dk_0_askedBy_56 : decode bk_0_askedBy 56 = .ok (.aload_n 0, 1) := by decide +kernel
theorem dk_0_askedBy_57 : decode bk_0_askedBy 57 = .ok (.getfield 12, 3) := by decide +kernel
theorem dk_0_askedBy_60 : decode bk_0_askedBy 60 = .ok (.iload 5, 2) := by decide +kernel
theorem dk_0_askedBy_62 : decode bk_0_askedBy 62 = .ok (.invokevirtual 83, 3) := by decide +kernel
theorem dk_0_askedBy_65 : decode bk_0_askedBy 65 = .ok (.istore 6, 2) := by decide +kernel
theorem dk_0_askedBy_67 : decode bk_0_askedBy 67 = .ok (.iload_n 2, 1) := by decide +kernel
theorem dk_0_askedBy_68 : decode bk_0_askedBy 68 = .ok (.iload 6, 2) := by decide +kernel
theorem dk_0_askedBy_70 : decode bk_0_askedBy 70 = .ok (.iconst (-1), 1) := by decide +kernel
theorem dk_0_askedBy_71 : decode bk_0_askedBy 71 = .ok (.if_icmp .ne 7, 3) := by decide +kernel
theorem dk_0_askedBy_74 : decode bk_0_askedBy 74 = .ok (.iconst 0, 1) := by decide +kernel
theorem dk_0_askedBy_75 : decode bk_0_askedBy 75 = .ok (.goto 7, 3) := by decide +kernel
theorem dk_0_askedBy_78 : decode bk_0_askedBy 78 = .ok (.iconst 1, 1) := by decide +kernel
theorem dk_0_askedBy_79 : decode bk_0_askedBy 79 = .ok (.iload 6, 2) := by decide +kernel
theorem dk_0_askedBy_81 : decode bk_0_askedBy 81 = .ok (.ishl, 1) := by decide +kernel
theorem dk_0_askedBy_82 : decode bk_0_askedBy 82 = .ok (.ior, 1) := by decide +kernel
theorem dk_0_askedBy_83 : decode bk_0_askedBy 83 = .ok (.istore_n 2, 1) := by decide +kernel
theorem dk_0_askedBy_84 : decode bk_0_askedBy 84 = .ok (.iinc 3 1, 3) := by decide +kernel
theorem dk_0_askedBy_87 : decode bk_0_askedBy 87 = .ok (.goto (-83), 3) := by decide +kernel
theorem dk_0_askedBy_90 : decode bk_0_askedBy 90 = .ok (.iload_n 2, 1) := by decide +kernel
theorem dk_0_askedBy_91 : decode bk_0_askedBy 91 = .ok (.ireturn, 1) := by decide +kernel
theorem dk_0_choosing_0 : decode bk_0_choosing 0 = .ok (.aload_n 0, 1) := by decide +kernel
theorem dk_0_choosing_1 : decode bk_0_choosing 1 = .ok (.iload_n 1, 1) := by decide +kernel
theorem dk_0_choosing_2 : decode bk_0_choosing 2 = .ok (.aload_n 0, 1) := by decide +kernel
theorem dk_0_choosing_3 : decode bk_0_choosing 3 = .ok (.iload_n 1, 1) := by decide +kernel
theorem dk_0_choosing_4 : decode bk_0_choosing 4 = .ok (.lload_n 2, 1) := by decide +kernel
theorem dk_0_choosing_5 : decode bk_0_choosing 5 = .ok (.invokevirtual 259, 3) := by decide +kernel
theorem dk_0_choosing_8 : decode bk_0_choosing 8 = .ok (.invokevirtual 263, 3) := by decide +kernel
theorem dk_0_choosing_11 : decode bk_0_choosing 11 = .ok (.istore 5, 2) := by decide +kernel
theorem dk_0_choosing_13 : decode bk_0_choosing 13 = .ok (.iload 5, 2) := by decide +kernel
theorem dk_0_choosing_15 : decode bk_0_choosing 15 = .ok (.ifCond .ne 13, 3) := by decide +kernel
theorem dk_0_choosing_18 : decode bk_0_choosing 18 = .ok (.aload_n 0, 1) := by decide +kernel
theorem dk_0_choosing_19 : decode bk_0_choosing 19 = .ok (.getfield 47, 3) := by decide +kernel
theorem dk_0_choosing_22 : decode bk_0_choosing 22 = .ok (.getfield 140, 3) := by decide +kernel
theorem dk_0_choosing_25 : decode bk_0_choosing 25 = .ok (.iload_n 1, 1) := by decide +kernel
theorem dk_0_choosing_26 : decode bk_0_choosing 26 = .ok (.laload, 1) := by decide +kernel
theorem dk_0_choosing_27 : decode bk_0_choosing 27 = .ok (.lreturn, 1) := by decide +kernel
theorem dk_0_choosing_28 : decode bk_0_choosing 28 = .ok (.iconst (-1), 1) := by decide +kernel
theorem dk_0_choosing_29 : decode bk_0_choosing 29 = .ok (.istore 6, 2) := by decide +kernel
theorem dk_0_choosing_31 : decode bk_0_choosing 31 = .ok (.invokestatic 65, 3) := by decide +kernel
theorem dk_0_choosing_34 : decode bk_0_choosing 34 = .ok (.lstore 7, 2) := by decide +kernel
theorem dk_0_choosing_36 : decode bk_0_choosing 36 = .ok (.iconst 0, 1) := by decide +kernel
theorem dk_0_choosing_37 : decode bk_0_choosing 37 = .ok (.istore 9, 2) := by decide +kernel
theorem dk_0_choosing_39 : decode bk_0_choosing 39 = .ok (.iload 9, 2) := by decide +kernel
theorem dk_0_choosing_41 : decode bk_0_choosing 41 = .ok (.aload_n 0, 1) := by decide +kernel
theorem dk_0_choosing_42 : decode bk_0_choosing 42 = .ok (.getfield 47, 3) := by decide +kernel
theorem dk_0_choosing_45 : decode bk_0_choosing 45 = .ok (.getfield 266, 3) := by decide +kernel
theorem dk_0_choosing_48 : decode bk_0_choosing 48 = .ok (.iload_n 1, 1) := by decide +kernel
theorem dk_0_choosing_49 : decode bk_0_choosing 49 = .ok (.iaload, 1) := by decide +kernel
theorem dk_0_choosing_50 : decode bk_0_choosing 50 = .ok (.if_icmp .ge 72, 3) := by decide +kernel
theorem dk_0_choosing_53 : decode bk_0_choosing 53 = .ok (.iload 5, 2) := by decide +kernel
theorem dk_0_choosing_55 : decode bk_0_choosing 55 = .ok (.iload 9, 2) := by decide +kernel
theorem dk_0_choosing_57 : decode bk_0_choosing 57 = .ok (.invokestatic 269, 3) := by decide +kernel
theorem dk_0_choosing_60 : decode bk_0_choosing 60 = .ok (.ifCond .ne 6, 3) := by decide +kernel
theorem dk_0_choosing_63 : decode bk_0_choosing 63 = .ok (.goto 53, 3) := by decide +kernel
theorem dk_0_choosing_66 : decode bk_0_choosing 66 = .ok (.aload_n 0, 1) := by decide +kernel
theorem dk_0_choosing_67 : decode bk_0_choosing 67 = .ok (.iload_n 1, 1) := by decide +kernel
theorem dk_0_choosing_68 : decode bk_0_choosing 68 = .ok (.iload 9, 2) := by decide +kernel
theorem dk_0_choosing_70 : decode bk_0_choosing 70 = .ok (.invokestatic 272, 3) := by decide +kernel
theorem dk_0_choosing_73 : decode bk_0_choosing 73 = .ok (.lload_n 2, 1) := by decide +kernel
theorem dk_0_choosing_74 : decode bk_0_choosing 74 = .ok (.iload 4, 2) := by decide +kernel
theorem dk_0_choosing_76 : decode bk_0_choosing 76 = .ok (.invokevirtual 275, 3) := by decide +kernel
theorem dk_0_choosing_79 : decode bk_0_choosing 79 = .ok (.lstore 10, 2) := by decide +kernel
theorem dk_0_choosing_81 : decode bk_0_choosing 81 = .ok (.iload 6, 2) := by decide +kernel
theorem dk_0_choosing_83 : decode bk_0_choosing 83 = .ok (.iconst (-1), 1) := by decide +kernel
theorem dk_0_choosing_84 : decode bk_0_choosing 84 = .ok (.if_icmp .ne 14, 3) := by decide +kernel
theorem dk_0_choosing_87 : decode bk_0_choosing 87 = .ok (.iload 9, 2) := by decide +kernel
theorem dk_0_choosing_89 : decode bk_0_choosing 89 = .ok (.istore 6, 2) := by decide +kernel
theorem dk_0_choosing_91 : decode bk_0_choosing 91 = .ok (.lload 10, 2) := by decide +kernel
theorem dk_0_choosing_93 : decode bk_0_choosing 93 = .ok (.lstore 7, 2) := by decide +kernel
theorem dk_0_choosing_95 : decode bk_0_choosing 95 = .ok (.goto 21, 3) := by decide +kernel
theorem dk_0_choosing_98 : decode bk_0_choosing 98 = .ok (.lload 7, 2) := by decide +kernel
theorem dk_0_choosing_100 : decode bk_0_choosing 100 = .ok (.lload 10, 2) := by decide +kernel
theorem dk_0_choosing_102 : decode bk_0_choosing 102 = .ok (.invokestatic 278, 3) := by decide +kernel
theorem dk_0_choosing_105 : decode bk_0_choosing 105 = .ok (.ifCond .ne 11, 3) := by decide +kernel
theorem dk_0_choosing_108 : decode bk_0_choosing 108 = .ok (.iload 6, 2) := by decide +kernel
theorem dk_0_choosing_110 : decode bk_0_choosing 110 = .ok (.iload 9, 2) := by decide +kernel
theorem dk_0_choosing_112 : decode bk_0_choosing 112 = .ok (.invokestatic 282, 3) := by decide +kernel
theorem dk_0_choosing_115 : decode bk_0_choosing 115 = .ok (.lreturn, 1) := by decide +kernel
theorem dk_0_choosing_116 : decode bk_0_choosing 116 = .ok (.iinc 9 1, 3) := by decide +kernel
theorem dk_0_choosing_119 : decode bk_0_choosing 119 = .ok (.goto (-80), 3) := by decide +kernel
theorem dk_0_choosing_122 : decode bk_0_choosing 122 = .ok (.lload 7, 2) := by decide +kernel
theorem dk_0_choosing_124 : decode bk_0_choosing 124 = .ok (.lreturn, 1) := by decide +kernel
theorem dk_0_givenBy_0 : decode bk_0_givenBy 0 = .ok (.aload_n 0, 1) := by decide +kernel
theorem dk_0_givenBy_1 : decode bk_0_givenBy 1 = .ok (.getfield 47, 3) := by decide +kernel
theorem dk_0_givenBy_4 : decode bk_0_givenBy 4 = .ok (.getfield 286, 3) := by decide +kernel
theorem dk_0_givenBy_7 : decode bk_0_givenBy 7 = .ok (.iload_n 1, 1) := by decide +kernel
theorem dk_0_givenBy_8 : decode bk_0_givenBy 8 = .ok (.baload, 1) := by decide +kernel
theorem dk_0_givenBy_9 : decode bk_0_givenBy 9 = .ok (.ifCond .ne 16, 3) := by decide +kernel
theorem dk_0_givenBy_12 : decode bk_0_givenBy 12 = .ok (.aload_n 0, 1) := by decide +kernel
theorem dk_0_givenBy_13 : decode bk_0_givenBy 13 = .ok (.getfield 47, 3) := by decide +kernel
theorem dk_0_givenBy_16 : decode bk_0_givenBy 16 = .ok (.getfield 289, 3) := by decide +kernel
theorem dk_0_givenBy_19 : decode bk_0_givenBy 19 = .ok (.iload_n 1, 1) := by decide +kernel
theorem dk_0_givenBy_20 : decode bk_0_givenBy 20 = .ok (.iaload, 1) := by decide +kernel
theorem dk_0_givenBy_21 : decode bk_0_givenBy 21 = .ok (.invokestatic 144, 3) := by decide +kernel
theorem dk_0_givenBy_24 : decode bk_0_givenBy 24 = .ok (.lreturn, 1) := by decide +kernel
theorem dk_0_givenBy_25 : decode bk_0_givenBy 25 = .ok (.iload 4, 2) := by decide +kernel
theorem dk_0_givenBy_27 : decode bk_0_givenBy 27 = .ok (.iconst 1, 1) := by decide +kernel
theorem dk_0_givenBy_28 : decode bk_0_givenBy 28 = .ok (.if_icmp .lt 7, 3) := by decide +kernel
theorem dk_0_givenBy_31 : decode bk_0_givenBy 31 = .ok (.invokestatic 65, 3) := by decide +kernel
theorem dk_0_givenBy_34 : decode bk_0_givenBy 34 = .ok (.lreturn, 1) := by decide +kernel
theorem dk_0_givenBy_35 : decode bk_0_givenBy 35 = .ok (.aload_n 0, 1) := by decide +kernel
theorem dk_0_givenBy_36 : decode bk_0_givenBy 36 = .ok (.aload_n 0, 1) := by decide +kernel
theorem dk_0_givenBy_37 : decode bk_0_givenBy 37 = .ok (.getfield 47, 3) := by decide +kernel
theorem dk_0_givenBy_40 : decode bk_0_givenBy 40 = .ok (.getfield 289, 3) := by decide +kernel
theorem dk_0_givenBy_43 : decode bk_0_givenBy 43 = .ok (.iload_n 1, 1) := by decide +kernel
theorem dk_0_givenBy_44 : decode bk_0_givenBy 44 = .ok (.iaload, 1) := by decide +kernel
theorem dk_0_givenBy_45 : decode bk_0_givenBy 45 = .ok (.lload_n 2, 1) := by decide +kernel
theorem dk_0_givenBy_46 : decode bk_0_givenBy 46 = .ok (.iload 4, 2) := by decide +kernel
theorem dk_0_givenBy_48 : decode bk_0_givenBy 48 = .ok (.iconst 1, 1) := by decide +kernel
theorem dk_0_givenBy_49 : decode bk_0_givenBy 49 = .ok (.iadd, 1) := by decide +kernel
theorem dk_0_givenBy_50 : decode bk_0_givenBy 50 = .ok (.invokevirtual 180, 3) := by decide +kernel
theorem dk_0_givenBy_53 : decode bk_0_givenBy 53 = .ok (.lreturn, 1) := by decide +kernel
theorem dk_0_holdingBranches_0 : decode bk_0_holdingBranches 0 = .ok (.iconst 0, 1) := by decide +kernel
theorem dk_0_holdingBranches_1 : decode bk_0_holdingBranches 1 = .ok (.istore 4, 2) := by decide +kernel
theorem dk_0_holdingBranches_3 : decode bk_0_holdingBranches 3 = .ok (.iconst 0, 1) := by decide +kernel
theorem dk_0_holdingBranches_4 : decode bk_0_holdingBranches 4 = .ok (.istore 5, 2) := by decide +kernel
theorem dk_0_holdingBranches_6 : decode bk_0_holdingBranches 6 = .ok (.iload 5, 2) := by decide +kernel
theorem dk_0_holdingBranches_8 : decode bk_0_holdingBranches 8 = .ok (.aload_n 0, 1) := by decide +kernel
theorem dk_0_holdingBranches_9 : decode bk_0_holdingBranches 9 = .ok (.getfield 47, 3) := by decide +kernel
theorem dk_0_holdingBranches_12 : decode bk_0_holdingBranches 12 = .ok (.getfield 266, 3) := by decide +kernel
theorem dk_0_holdingBranches_15 : decode bk_0_holdingBranches 15 = .ok (.iload_n 1, 1) := by decide +kernel
theorem dk_0_holdingBranches_16 : decode bk_0_holdingBranches 16 = .ok (.iaload, 1) := by decide +kernel
theorem dk_0_holdingBranches_17 : decode bk_0_holdingBranches 17 = .ok (.if_icmp .ge 36, 3) := by decide +kernel
theorem dk_0_holdingBranches_20 : decode bk_0_holdingBranches 20 = .ok (.aload_n 0, 1) := by decide +kernel
theorem dk_0_holdingBranches_21 : decode bk_0_holdingBranches 21 = .ok (.aload_n 0, 1) := by decide +kernel
theorem dk_0_holdingBranches_22 : decode bk_0_holdingBranches 22 = .ok (.getfield 47, 3) := by decide +kernel
theorem dk_0_holdingBranches_25 : decode bk_0_holdingBranches 25 = .ok (.iload_n 1, 1) := by decide +kernel
theorem dk_0_holdingBranches_26 : decode bk_0_holdingBranches 26 = .ok (.iload 5, 2) := by decide +kernel
theorem dk_0_holdingBranches_28 : decode bk_0_holdingBranches 28 = .ok (.invokevirtual 292, 3) := by decide +kernel
theorem dk_0_holdingBranches_31 : decode bk_0_holdingBranches 31 = .ok (.lload_n 2, 1) := by decide +kernel
theorem dk_0_holdingBranches_32 : decode bk_0_holdingBranches 32 = .ok (.invokevirtual 176, 3) := by decide +kernel
theorem dk_0_holdingBranches_35 : decode bk_0_holdingBranches 35 = .ok (.ifCond .eq 12, 3) := by decide +kernel
theorem dk_0_holdingBranches_38 : decode bk_0_holdingBranches 38 = .ok (.iload 4, 2) := by decide +kernel
theorem dk_0_holdingBranches_40 : decode bk_0_holdingBranches 40 = .ok (.iconst 1, 1) := by decide +kernel
theorem dk_0_holdingBranches_41 : decode bk_0_holdingBranches 41 = .ok (.iload 5, 2) := by decide +kernel
theorem dk_0_holdingBranches_43 : decode bk_0_holdingBranches 43 = .ok (.ishl, 1) := by decide +kernel
theorem dk_0_holdingBranches_44 : decode bk_0_holdingBranches 44 = .ok (.ior, 1) := by decide +kernel
theorem dk_0_holdingBranches_45 : decode bk_0_holdingBranches 45 = .ok (.istore 4, 2) := by decide +kernel
theorem dk_0_holdingBranches_47 : decode bk_0_holdingBranches 47 = .ok (.iinc 5 1, 3) := by decide +kernel
theorem dk_0_holdingBranches_50 : decode bk_0_holdingBranches 50 = .ok (.goto (-44), 3) := by decide +kernel
theorem dk_0_holdingBranches_53 : decode bk_0_holdingBranches 53 = .ok (.iload 4, 2) := by decide +kernel
theorem dk_0_holdingBranches_55 : decode bk_0_holdingBranches 55 = .ok (.ireturn, 1) := by decide +kernel
