theorem dk_0_turnsOf_0 : decode bk_0_turnsOf 0 = .ok (.iload_n 3, 1) := by decide +kernel
theorem dk_0_turnsOf_1 : decode bk_0_turnsOf 1 = .ok (.iconst (-1), 1) := by decide +kernel
theorem dk_0_turnsOf_2 : decode bk_0_turnsOf 2 = .ok (.if_icmp .ne 5, 3) := by decide +kernel
theorem dk_0_turnsOf_5 : decode bk_0_turnsOf 5 = .ok (.iconst 1, 1) := by decide +kernel
theorem dk_0_turnsOf_6 : decode bk_0_turnsOf 6 = .ok (.ireturn, 1) := by decide +kernel
theorem dk_0_turnsOf_7 : decode bk_0_turnsOf 7 = .ok (.aload_n 0, 1) := by decide +kernel
theorem dk_0_turnsOf_8 : decode bk_0_turnsOf 8 = .ok (.getfield 54, 3) := by decide +kernel
theorem dk_0_turnsOf_11 : decode bk_0_turnsOf 11 = .ok (.iload_n 1, 1) := by decide +kernel
theorem dk_0_turnsOf_12 : decode bk_0_turnsOf 12 = .ok (.iload_n 2, 1) := by decide +kernel
theorem dk_0_turnsOf_13 : decode bk_0_turnsOf 13 = .ok (.invokevirtual 338, 3) := by decide +kernel
theorem dk_0_turnsOf_16 : decode bk_0_turnsOf 16 = .ok (.iconst 1, 1) := by decide +kernel
theorem dk_0_turnsOf_17 : decode bk_0_turnsOf 17 = .ok (.aload_n 0, 1) := by decide +kernel
theorem dk_0_turnsOf_18 : decode bk_0_turnsOf 18 = .ok (.getfield 12, 3) := by decide +kernel
theorem dk_0_turnsOf_21 : decode bk_0_turnsOf 21 = .ok (.getfield 162, 3) := by decide +kernel
theorem dk_0_turnsOf_24 : decode bk_0_turnsOf 24 = .ok (.iload_n 3, 1) := by decide +kernel
theorem dk_0_turnsOf_25 : decode bk_0_turnsOf 25 = .ok (.iaload, 1) := by decide +kernel
theorem dk_0_turnsOf_26 : decode bk_0_turnsOf 26 = .ok (.ishl, 1) := by decide +kernel
theorem dk_0_turnsOf_27 : decode bk_0_turnsOf 27 = .ok (.iconst 1, 1) := by decide +kernel
theorem dk_0_turnsOf_28 : decode bk_0_turnsOf 28 = .ok (.isub, 1) := by decide +kernel
theorem dk_0_turnsOf_29 : decode bk_0_turnsOf 29 = .ok (.iand, 1) := by decide +kernel
theorem dk_0_turnsOf_30 : decode bk_0_turnsOf 30 = .ok (.ireturn, 1) := by decide +kernel
theorem dk_0_afterChange_0 : decode bk_0_afterChange 0 = .ok (.iload_n 2, 1) := by decide +kernel
theorem dk_0_afterChange_1 : decode bk_0_afterChange 1 = .ok (.iconst (-1), 1) := by decide +kernel
theorem dk_0_afterChange_2 : decode bk_0_afterChange 2 = .ok (.if_icmp .ne 7, 3) := by decide +kernel
theorem dk_0_afterChange_5 : decode bk_0_afterChange 5 = .ok (.lload_n 0, 1) := by decide +kernel
theorem dk_0_afterChange_6 : decode bk_0_afterChange 6 = .ok (.goto 9, 3) := by decide +kernel
theorem dk_0_afterChange_9 : decode bk_0_afterChange 9 = .ok (.lload_n 0, 1) := by decide +kernel
theorem dk_0_afterChange_10 : decode bk_0_afterChange 10 = .ok (.iload_n 2, 1) := by decide +kernel
theorem dk_0_afterChange_11 : decode bk_0_afterChange 11 = .ok (.iload_n 3, 1) := by decide +kernel
theorem dk_0_afterChange_12 : decode bk_0_afterChange 12 = .ok (.invokestatic 168, 3) := by decide +kernel
theorem dk_0_afterChange_15 : decode bk_0_afterChange 15 = .ok (.lreturn, 1) := by decide +kernel
theorem dk_0_pairOf_0 : decode bk_0_pairOf 0 = .ok (.aload_n 0, 1) := by decide +kernel
theorem dk_0_pairOf_1 : decode bk_0_pairOf 1 = .ok (.getfield 26, 3) := by decide +kernel
theorem dk_0_pairOf_4 : decode bk_0_pairOf 4 = .ok (.aload_n 0, 1) := by decide +kernel
theorem dk_0_pairOf_5 : decode bk_0_pairOf 5 = .ok (.lload_n 2, 1) := by decide +kernel
theorem dk_0_pairOf_6 : decode bk_0_pairOf 6 = .ok (.aload_n 0, 1) := by decide +kernel
theorem dk_0_pairOf_7 : decode bk_0_pairOf 7 = .ok (.getfield 40, 3) := by decide +kernel
theorem dk_0_pairOf_10 : decode bk_0_pairOf 10 = .ok (.getfield 207, 3) := by decide +kernel
theorem dk_0_pairOf_13 : decode bk_0_pairOf 13 = .ok (.iload_n 1, 1) := by decide +kernel
theorem dk_0_pairOf_14 : decode bk_0_pairOf 14 = .ok (.iaload, 1) := by decide +kernel
theorem dk_0_pairOf_15 : decode bk_0_pairOf 15 = .ok (.invokevirtual 153, 3) := by decide +kernel
theorem dk_0_pairOf_18 : decode bk_0_pairOf 18 = .ok (.invokevirtual 157, 3) := by decide +kernel
theorem dk_0_pairOf_21 : decode bk_0_pairOf 21 = .ok (.istore 4, 2) := by decide +kernel
theorem dk_0_pairOf_23 : decode bk_0_pairOf 23 = .ok (.iload 4, 2) := by decide +kernel
theorem dk_0_pairOf_25 : decode bk_0_pairOf 25 = .ok (.iconst (-1), 1) := by decide +kernel
theorem dk_0_pairOf_26 : decode bk_0_pairOf 26 = .ok (.if_icmp .ne 7, 3) := by decide +kernel
theorem dk_0_pairOf_29 : decode bk_0_pairOf 29 = .ok (.iconst (-1), 1) := by decide +kernel
theorem dk_0_pairOf_30 : decode bk_0_pairOf 30 = .ok (.goto 13, 3) := by decide +kernel
theorem dk_0_pairOf_33 : decode bk_0_pairOf 33 = .ok (.aload_n 0, 1) := by decide +kernel
theorem dk_0_pairOf_34 : decode bk_0_pairOf 34 = .ok (.getfield 61, 3) := by decide +kernel
theorem dk_0_pairOf_37 : decode bk_0_pairOf 37 = .ok (.iload_n 1, 1) := by decide +kernel
theorem dk_0_pairOf_38 : decode bk_0_pairOf 38 = .ok (.iload 4, 2) := by decide +kernel
theorem dk_0_pairOf_40 : decode bk_0_pairOf 40 = .ok (.invokevirtual 341, 3) := by decide +kernel
theorem dk_0_pairOf_43 : decode bk_0_pairOf 43 = .ok (.ireturn, 1) := by decide +kernel
theorem dk_0_leaveOutByWants_0 : decode bk_0_leaveOutByWants 0 = .ok (.iconst 0, 1) := by decide +kernel
theorem dk_0_leaveOutByWants_1 : decode bk_0_leaveOutByWants 1 = .ok (.istore_n 1, 1) := by decide +kernel
theorem dk_0_leaveOutByWants_2 : decode bk_0_leaveOutByWants 2 = .ok (.iload_n 1, 1) := by decide +kernel
theorem dk_0_leaveOutByWants_3 : decode bk_0_leaveOutByWants 3 = .ok (.aload_n 0, 1) := by decide +kernel
theorem dk_0_leaveOutByWants_4 : decode bk_0_leaveOutByWants 4 = .ok (.getfield 61, 3) := by decide +kernel
theorem dk_0_leaveOutByWants_7 : decode bk_0_leaveOutByWants 7 = .ok (.getfield 222, 3) := by decide +kernel
theorem dk_0_leaveOutByWants_10 : decode bk_0_leaveOutByWants 10 = .ok (.if_icmp .ge 69, 3) := by decide +kernel
theorem dk_0_leaveOutByWants_13 : decode bk_0_leaveOutByWants 13 = .ok (.aload_n 0, 1) := by decide +kernel
theorem dk_0_leaveOutByWants_14 : decode bk_0_leaveOutByWants 14 = .ok (.getfield 40, 3) := by decide +kernel
theorem dk_0_leaveOutByWants_17 : decode bk_0_leaveOutByWants 17 = .ok (.getfield 122, 3) := by decide +kernel
theorem dk_0_leaveOutByWants_20 : decode bk_0_leaveOutByWants 20 = .ok (.aload_n 0, 1) := by decide +kernel
theorem dk_0_leaveOutByWants_21 : decode bk_0_leaveOutByWants 21 = .ok (.getfield 61, 3) := by decide +kernel
theorem dk_0_leaveOutByWants_24 : decode bk_0_leaveOutByWants 24 = .ok (.getfield 227, 3) := by decide +kernel
theorem dk_0_leaveOutByWants_27 : decode bk_0_leaveOutByWants 27 = .ok (.iload_n 1, 1) := by decide +kernel
theorem dk_0_leaveOutByWants_28 : decode bk_0_leaveOutByWants 28 = .ok (.iaload, 1) := by decide +kernel
theorem dk_0_leaveOutByWants_29 : decode bk_0_leaveOutByWants 29 = .ok (.iaload, 1) := by decide +kernel
theorem dk_0_leaveOutByWants_30 : decode bk_0_leaveOutByWants 30 = .ok (.istore_n 2, 1) := by decide +kernel
theorem dk_0_leaveOutByWants_31 : decode bk_0_leaveOutByWants 31 = .ok (.aload_n 0, 1) := by decide +kernel
theorem dk_0_leaveOutByWants_32 : decode bk_0_leaveOutByWants 32 = .ok (.getfield 26, 3) := by decide +kernel
theorem dk_0_leaveOutByWants_35 : decode bk_0_leaveOutByWants 35 = .ok (.getfield 165, 3) := by decide +kernel
theorem dk_0_leaveOutByWants_38 : decode bk_0_leaveOutByWants 38 = .ok (.aload_n 0, 1) := by decide +kernel
theorem dk_0_leaveOutByWants_39 : decode bk_0_leaveOutByWants 39 = .ok (.getfield 61, 3) := by decide +kernel
theorem dk_0_leaveOutByWants_42 : decode bk_0_leaveOutByWants 42 = .ok (.getfield 230, 3) := by decide +kernel
theorem dk_0_leaveOutByWants_45 : decode bk_0_leaveOutByWants 45 = .ok (.iload_n 1, 1) := by decide +kernel
theorem dk_0_leaveOutByWants_46 : decode bk_0_leaveOutByWants 46 = .ok (.iaload, 1) := by decide +kernel
theorem dk_0_leaveOutByWants_47 : decode bk_0_leaveOutByWants 47 = .ok (.laload, 1) := by decide +kernel
theorem dk_0_leaveOutByWants_48 : decode bk_0_leaveOutByWants 48 = .ok (.lstore_n 3, 1) := by decide +kernel
theorem dk_0_leaveOutByWants_49 : decode bk_0_leaveOutByWants 49 = .ok (.iload_n 2, 1) := by decide +kernel
theorem dk_0_leaveOutByWants_50 : decode bk_0_leaveOutByWants 50 = .ok (.iconst (-1), 1) := by decide +kernel
theorem dk_0_leaveOutByWants_51 : decode bk_0_leaveOutByWants 51 = .ok (.if_icmp .eq 22, 3) := by decide +kernel
theorem dk_0_leaveOutByWants_54 : decode bk_0_leaveOutByWants 54 = .ok (.aload_n 0, 1) := by decide +kernel
theorem dk_0_leaveOutByWants_55 : decode bk_0_leaveOutByWants 55 = .ok (.iload_n 2, 1) := by decide +kernel
theorem dk_0_leaveOutByWants_56 : decode bk_0_leaveOutByWants 56 = .ok (.lload_n 3, 1) := by decide +kernel
theorem dk_0_leaveOutByWants_57 : decode bk_0_leaveOutByWants 57 = .ok (.invokevirtual 176, 3) := by decide +kernel
theorem dk_0_leaveOutByWants_60 : decode bk_0_leaveOutByWants 60 = .ok (.ifCond .ne 13, 3) := by decide +kernel
theorem dk_0_leaveOutByWants_63 : decode bk_0_leaveOutByWants 63 = .ok (.aload_n 0, 1) := by decide +kernel
theorem dk_0_leaveOutByWants_64 : decode bk_0_leaveOutByWants 64 = .ok (.getfield 61, 3) := by decide +kernel
theorem dk_0_leaveOutByWants_67 : decode bk_0_leaveOutByWants 67 = .ok (.getfield 233, 3) := by decide +kernel
theorem dk_0_leaveOutByWants_70 : decode bk_0_leaveOutByWants 70 = .ok (.iload_n 1, 1) := by decide +kernel
theorem dk_0_leaveOutByWants_71 : decode bk_0_leaveOutByWants 71 = .ok (.iconst 1, 1) := by decide +kernel
theorem dk_0_leaveOutByWants_72 : decode bk_0_leaveOutByWants 72 = .ok (.iastore, 1) := by decide +kernel
theorem dk_0_leaveOutByWants_73 : decode bk_0_leaveOutByWants 73 = .ok (.iinc 1 1, 3) := by decide +kernel
theorem dk_0_leaveOutByWants_76 : decode bk_0_leaveOutByWants 76 = .ok (.goto (-74), 3) := by decide +kernel
theorem dk_0_leaveOutByWants_79 : decode bk_0_leaveOutByWants 79 = .ok (.return_, 1) := by decide +kernel
theorem dk_2_codeOf_0 : decode bk_2_codeOf 0 = .ok (.iload_n 0, 1) := by decide +kernel
theorem dk_2_codeOf_1 : decode bk_2_codeOf 1 = .ok (.ifCond .eq 9, 3) := by decide +kernel
theorem dk_2_codeOf_4 : decode bk_2_codeOf 4 = .ok (.sipush 128, 3) := by decide +kernel
theorem dk_2_codeOf_7 : decode bk_2_codeOf 7 = .ok (.goto 4, 3) := by decide +kernel
theorem dk_2_codeOf_10 : decode bk_2_codeOf 10 = .ok (.iconst 0, 1) := by decide +kernel
theorem dk_2_codeOf_11 : decode bk_2_codeOf 11 = .ok (.iload_n 1, 1) := by decide +kernel
theorem dk_2_codeOf_12 : decode bk_2_codeOf 12 = .ok (.bipush 8, 2) := by decide +kernel
theorem dk_2_codeOf_14 : decode bk_2_codeOf 14 = .ok (.imul, 1) := by decide +kernel
theorem dk_2_codeOf_15 : decode bk_2_codeOf 15 = .ok (.iadd, 1) := by decide +kernel
theorem dk_2_codeOf_16 : decode bk_2_codeOf 16 = .ok (.iload_n 2, 1) := by decide +kernel
theorem dk_2_codeOf_17 : decode bk_2_codeOf 17 = .ok (.iadd, 1) := by decide +kernel
theorem dk_2_codeOf_18 : decode bk_2_codeOf 18 = .ok (.ireturn, 1) := by decide +kernel
theorem dk_2_isAboutAxis_0 : decode bk_2_isAboutAxis 0 = .ok (.iload_n 0, 1) := by decide +kernel
theorem dk_2_isAboutAxis_1 : decode bk_2_isAboutAxis 1 = .ok (.sipush 128, 3) := by decide +kernel
theorem dk_2_isAboutAxis_4 : decode bk_2_isAboutAxis 4 = .ok (.if_icmp .lt 7, 3) := by decide +kernel
theorem dk_2_isAboutAxis_7 : decode bk_2_isAboutAxis 7 = .ok (.iconst 1, 1) := by decide +kernel
theorem dk_2_isAboutAxis_8 : decode bk_2_isAboutAxis 8 = .ok (.goto 4, 3) := by decide +kernel
theorem dk_2_isAboutAxis_11 : decode bk_2_isAboutAxis 11 = .ok (.iconst 0, 1) := by decide +kernel
theorem dk_2_isAboutAxis_12 : decode bk_2_isAboutAxis 12 = .ok (.ireturn, 1) := by decide +kernel
theorem dk_2_whichOf_0 : decode bk_2_whichOf 0 = .ok (.iload_n 0, 1) := by decide +kernel
theorem dk_2_whichOf_1 : decode bk_2_whichOf 1 = .ok (.invokestatic 11, 3) := by decide +kernel
theorem dk_2_whichOf_4 : decode bk_2_whichOf 4 = .ok (.ifCond .eq 11, 3) := by decide +kernel
theorem dk_2_whichOf_7 : decode bk_2_whichOf 7 = .ok (.iload_n 0, 1) := by decide +kernel
theorem dk_2_whichOf_8 : decode bk_2_whichOf 8 = .ok (.sipush 128, 3) := by decide +kernel
theorem dk_2_whichOf_11 : decode bk_2_whichOf 11 = .ok (.isub, 1) := by decide +kernel
theorem dk_2_whichOf_12 : decode bk_2_whichOf 12 = .ok (.goto 4, 3) := by decide +kernel
theorem dk_2_whichOf_15 : decode bk_2_whichOf 15 = .ok (.iload_n 0, 1) := by decide +kernel
theorem dk_2_whichOf_16 : decode bk_2_whichOf 16 = .ok (.bipush 8, 2) := by decide +kernel
theorem dk_2_whichOf_18 : decode bk_2_whichOf 18 = .ok (.idiv, 1) := by decide +kernel
theorem dk_2_whichOf_19 : decode bk_2_whichOf 19 = .ok (.ireturn, 1) := by decide +kernel
theorem dk_2_valueOf_0 : decode bk_2_valueOf 0 = .ok (.iload_n 0, 1) := by decide +kernel
theorem dk_2_valueOf_1 : decode bk_2_valueOf 1 = .ok (.bipush 8, 2) := by decide +kernel
theorem dk_2_valueOf_3 : decode bk_2_valueOf 3 = .ok (.irem, 1) := by decide +kernel
theorem dk_2_valueOf_4 : decode bk_2_valueOf 4 = .ok (.ireturn, 1) := by decide +kernel
theorem dk_3_nothing_0 : decode bk_3_nothing 0 = .ok (.lconst 0, 1) := by decide +kernel
theorem dk_3_nothing_1 : decode bk_3_nothing 1 = .ok (.lreturn, 1) := by decide +kernel
theorem dk_3_ofValue_0 : decode bk_3_ofValue 0 = .ok (.ldc2_w 11, 3) := by decide +kernel
theorem dk_3_ofValue_3 : decode bk_3_ofValue 3 = .ok (.iload_n 0, 1) := by decide +kernel
theorem dk_3_ofValue_4 : decode bk_3_ofValue 4 = .ok (.i2l, 1) := by decide +kernel
theorem dk_3_ofValue_5 : decode bk_3_ofValue 5 = .ok (.ldc2_w 13, 3) := by decide +kernel
theorem dk_3_ofValue_8 : decode bk_3_ofValue 8 = .ok (.land, 1) := by decide +kernel
theorem dk_3_ofValue_9 : decode bk_3_ofValue 9 = .ok (.lor, 1) := by decide +kernel
theorem dk_3_ofValue_10 : decode bk_3_ofValue 10 = .ok (.lreturn, 1) := by decide +kernel
theorem dk_3_ofClash_0 : decode bk_3_ofClash 0 = .ok (.ldc2_w 15, 3) := by decide +kernel
theorem dk_3_ofClash_3 : decode bk_3_ofClash 3 = .ok (.iload_n 0, 1) := by decide +kernel
theorem dk_3_ofClash_4 : decode bk_3_ofClash 4 = .ok (.bipush 8, 2) := by decide +kernel
theorem dk_3_ofClash_6 : decode bk_3_ofClash 6 = .ok (.imul, 1) := by decide +kernel
theorem dk_3_ofClash_7 : decode bk_3_ofClash 7 = .ok (.iload_n 1, 1) := by decide +kernel
theorem dk_3_ofClash_8 : decode bk_3_ofClash 8 = .ok (.iadd, 1) := by decide +kernel
theorem dk_3_ofClash_9 : decode bk_3_ofClash 9 = .ok (.i2l, 1) := by decide +kernel
theorem dk_3_ofClash_10 : decode bk_3_ofClash 10 = .ok (.lor, 1) := by decide +kernel
theorem dk_3_ofClash_11 : decode bk_3_ofClash 11 = .ok (.lreturn, 1) := by decide +kernel
theorem dk_3_kindOf_0 : decode bk_3_kindOf 0 = .ok (.lload_n 0, 1) := by decide +kernel
theorem dk_3_kindOf_1 : decode bk_3_kindOf 1 = .ok (.bipush 32, 2) := by decide +kernel
theorem dk_3_kindOf_3 : decode bk_3_kindOf 3 = .ok (.lushr, 1) := by decide +kernel
theorem dk_3_kindOf_4 : decode bk_3_kindOf 4 = .ok (.l2i, 1) := by decide +kernel
theorem dk_3_kindOf_5 : decode bk_3_kindOf 5 = .ok (.ireturn, 1) := by decide +kernel
theorem dk_3_valueOf_0 : decode bk_3_valueOf 0 = .ok (.lload_n 0, 1) := by decide +kernel
theorem dk_3_valueOf_1 : decode bk_3_valueOf 1 = .ok (.l2i, 1) := by decide +kernel
theorem dk_3_valueOf_2 : decode bk_3_valueOf 2 = .ok (.ireturn, 1) := by decide +kernel
theorem dk_3_firstOf_0 : decode bk_3_firstOf 0 = .ok (.lload_n 0, 1) := by decide +kernel
theorem dk_3_firstOf_1 : decode bk_3_firstOf 1 = .ok (.l2i, 1) := by decide +kernel
theorem dk_3_firstOf_2 : decode bk_3_firstOf 2 = .ok (.bipush 8, 2) := by decide +kernel
theorem dk_3_firstOf_4 : decode bk_3_firstOf 4 = .ok (.idiv, 1) := by decide +kernel
theorem dk_3_firstOf_5 : decode bk_3_firstOf 5 = .ok (.ireturn, 1) := by decide +kernel
theorem dk_3_secondOf_0 : decode bk_3_secondOf 0 = .ok (.lload_n 0, 1) := by decide +kernel
theorem dk_3_secondOf_1 : decode bk_3_secondOf 1 = .ok (.l2i, 1) := by decide +kernel
theorem dk_3_secondOf_2 : decode bk_3_secondOf 2 = .ok (.bipush 8, 2) := by decide +kernel
theorem dk_3_secondOf_4 : decode bk_3_secondOf 4 = .ok (.irem, 1) := by decide +kernel
theorem dk_3_secondOf_5 : decode bk_3_secondOf 5 = .ok (.ireturn, 1) := by decide +kernel
theorem dk_3_areAlike_0 : decode bk_3_areAlike 0 = .ok (.lload_n 0, 1) := by decide +kernel
theorem dk_3_areAlike_1 : decode bk_3_areAlike 1 = .ok (.invokestatic 17, 3) := by decide +kernel
theorem dk_3_areAlike_4 : decode bk_3_areAlike 4 = .ok (.lload_n 2, 1) := by decide +kernel
theorem dk_3_areAlike_5 : decode bk_3_areAlike 5 = .ok (.invokestatic 17, 3) := by decide +kernel
theorem dk_3_areAlike_8 : decode bk_3_areAlike 8 = .ok (.if_icmp .ne 21, 3) := by decide +kernel
theorem dk_3_areAlike_11 : decode bk_3_areAlike 11 = .ok (.lload_n 0, 1) := by decide +kernel
theorem dk_3_areAlike_12 : decode bk_3_areAlike 12 = .ok (.invokestatic 17, 3) := by decide +kernel
theorem dk_3_areAlike_15 : decode bk_3_areAlike 15 = .ok (.iconst 1, 1) := by decide +kernel
theorem dk_3_areAlike_16 : decode bk_3_areAlike 16 = .ok (.if_icmp .ne 9, 3) := by decide +kernel
theorem dk_3_areAlike_19 : decode bk_3_areAlike 19 = .ok (.lload_n 0, 1) := by decide +kernel
theorem dk_3_areAlike_20 : decode bk_3_areAlike 20 = .ok (.lload_n 2, 1) := by decide +kernel
theorem dk_3_areAlike_21 : decode bk_3_areAlike 21 = .ok (.lcmp, 1) := by decide +kernel
theorem dk_3_areAlike_22 : decode bk_3_areAlike 22 = .ok (.ifCond .ne 7, 3) := by decide +kernel
theorem dk_3_areAlike_25 : decode bk_3_areAlike 25 = .ok (.iconst 1, 1) := by decide +kernel
theorem dk_3_areAlike_26 : decode bk_3_areAlike 26 = .ok (.goto 4, 3) := by decide +kernel
theorem dk_3_areAlike_29 : decode bk_3_areAlike 29 = .ok (.iconst 0, 1) := by decide +kernel
theorem dk_3_areAlike_30 : decode bk_3_areAlike 30 = .ok (.ireturn, 1) := by decide +kernel
theorem dk_4_onPlatform_0 : decode bk_4_onPlatform 0 = .ok (.iload_n 0, 1) := by decide +kernel
theorem dk_4_onPlatform_1 : decode bk_4_onPlatform 1 = .ok (.i2l, 1) := by decide +kernel
theorem dk_4_onPlatform_2 : decode bk_4_onPlatform 2 = .ok (.bipush 48, 2) := by decide +kernel
theorem dk_4_onPlatform_4 : decode bk_4_onPlatform 4 = .ok (.lshl, 1) := by decide +kernel
theorem dk_4_onPlatform_5 : decode bk_4_onPlatform 5 = .ok (.lreturn, 1) := by decide +kernel
theorem dk_4_platformIn_0 : decode bk_4_platformIn 0 = .ok (.lload_n 0, 1) := by decide +kernel
theorem dk_4_platformIn_1 : decode bk_4_platformIn 1 = .ok (.bipush 48, 2) := by decide +kernel
theorem dk_4_platformIn_3 : decode bk_4_platformIn 3 = .ok (.lushr, 1) := by decide +kernel
theorem dk_4_platformIn_4 : decode bk_4_platformIn 4 = .ok (.l2i, 1) := by decide +kernel
theorem dk_4_platformIn_5 : decode bk_4_platformIn 5 = .ok (.ireturn, 1) := by decide +kernel
theorem dk_4_valueIn_0 : decode bk_4_valueIn 0 = .ok (.lload_n 0, 1) := by decide +kernel
theorem dk_4_valueIn_1 : decode bk_4_valueIn 1 = .ok (.iload_n 2, 1) := by decide +kernel
theorem dk_4_valueIn_2 : decode bk_4_valueIn 2 = .ok (.iconst 3, 1) := by decide +kernel
theorem dk_4_valueIn_3 : decode bk_4_valueIn 3 = .ok (.imul, 1) := by decide +kernel
theorem dk_4_valueIn_4 : decode bk_4_valueIn 4 = .ok (.lushr, 1) := by decide +kernel
theorem dk_4_valueIn_5 : decode bk_4_valueIn 5 = .ok (.ldc2_w 11, 3) := by decide +kernel
theorem dk_4_valueIn_8 : decode bk_4_valueIn 8 = .ok (.land, 1) := by decide +kernel
theorem dk_4_valueIn_9 : decode bk_4_valueIn 9 = .ok (.l2i, 1) := by decide +kernel
theorem dk_4_valueIn_10 : decode bk_4_valueIn 10 = .ok (.ireturn, 1) := by decide +kernel
theorem dk_4_withValue_0 : decode bk_4_withValue 0 = .ok (.iload_n 2, 1) := by decide +kernel
theorem dk_4_withValue_1 : decode bk_4_withValue 1 = .ok (.iconst 3, 1) := by decide +kernel
theorem dk_4_withValue_2 : decode bk_4_withValue 2 = .ok (.imul, 1) := by decide +kernel
theorem dk_4_withValue_3 : decode bk_4_withValue 3 = .ok (.istore 4, 2) := by decide +kernel
theorem dk_4_withValue_5 : decode bk_4_withValue 5 = .ok (.lload_n 0, 1) := by decide +kernel
theorem dk_4_withValue_6 : decode bk_4_withValue 6 = .ok (.ldc2_w 11, 3) := by decide +kernel
theorem dk_4_withValue_9 : decode bk_4_withValue 9 = .ok (.iload 4, 2) := by decide +kernel
theorem dk_4_withValue_11 : decode bk_4_withValue 11 = .ok (.lshl, 1) := by decide +kernel
theorem dk_4_withValue_12 : decode bk_4_withValue 12 = .ok (.ldc2_w 13, 3) := by decide +kernel
theorem dk_4_withValue_15 : decode bk_4_withValue 15 = .ok (.lxor, 1) := by decide +kernel
theorem dk_4_withValue_16 : decode bk_4_withValue 16 = .ok (.land, 1) := by decide +kernel
theorem dk_4_withValue_17 : decode bk_4_withValue 17 = .ok (.iload_n 3, 1) := by decide +kernel
theorem dk_4_withValue_18 : decode bk_4_withValue 18 = .ok (.i2l, 1) := by decide +kernel
theorem dk_4_withValue_19 : decode bk_4_withValue 19 = .ok (.iload 4, 2) := by decide +kernel
theorem dk_4_withValue_21 : decode bk_4_withValue 21 = .ok (.lshl, 1) := by decide +kernel
theorem dk_4_withValue_22 : decode bk_4_withValue 22 = .ok (.lor, 1) := by decide +kernel
theorem dk_4_withValue_23 : decode bk_4_withValue 23 = .ok (.lreturn, 1) := by decide +kernel
theorem dk_5_init_0 : decode bk_5_init 0 = .ok (.aload_n 0, 1) := by decide +kernel
theorem dk_5_init_1 : decode bk_5_init 1 = .ok (.invokespecial 3, 3) := by decide +kernel
theorem dk_5_init_4 : decode bk_5_init 4 = .ok (.aload_n 0, 1) := by decide +kernel
theorem dk_5_init_5 : decode bk_5_init 5 = .ok (.bipush 40, 2) := by decide +kernel
theorem dk_5_init_7 : decode bk_5_init 7 = .ok (.newarray .int, 2) := by decide +kernel
theorem dk_5_init_9 : decode bk_5_init 9 = .ok (.putfield 9, 3) := by decide +kernel
theorem dk_5_init_12 : decode bk_5_init 12 = .ok (.aload_n 0, 1) := by decide +kernel
theorem dk_5_init_13 : decode bk_5_init 13 = .ok (.sipush 240, 3) := by decide +kernel
theorem dk_5_init_16 : decode bk_5_init 16 = .ok (.newarray .int, 2) := by decide +kernel
theorem dk_5_init_18 : decode bk_5_init 18 = .ok (.putfield 15, 3) := by decide +kernel
theorem dk_5_init_21 : decode bk_5_init 21 = .ok (.aload_n 0, 1) := by decide +kernel
theorem dk_5_init_22 : decode bk_5_init 22 = .ok (.bipush 40, 2) := by decide +kernel
theorem dk_5_init_24 : decode bk_5_init 24 = .ok (.newarray .boolean, 2) := by decide +kernel
theorem dk_5_init_26 : decode bk_5_init 26 = .ok (.putfield 18, 3) := by decide +kernel
theorem dk_5_init_29 : decode bk_5_init 29 = .ok (.return_, 1) := by decide +kernel
theorem dk_5_isThere_0 : decode bk_5_isThere 0 = .ok (.iload_n 1, 1) := by decide +kernel
theorem dk_5_isThere_1 : decode bk_5_isThere 1 = .ok (.ifCond .lt 15, 3) := by decide +kernel
theorem dk_5_isThere_4 : decode bk_5_isThere 4 = .ok (.iload_n 1, 1) := by decide +kernel
theorem dk_5_isThere_5 : decode bk_5_isThere 5 = .ok (.aload_n 0, 1) := by decide +kernel
theorem dk_5_isThere_6 : decode bk_5_isThere 6 = .ok (.getfield 22, 3) := by decide +kernel
theorem dk_5_isThere_9 : decode bk_5_isThere 9 = .ok (.if_icmp .ge 7, 3) := by decide +kernel
theorem dk_5_isThere_12 : decode bk_5_isThere 12 = .ok (.iconst 1, 1) := by decide +kernel
theorem dk_5_isThere_13 : decode bk_5_isThere 13 = .ok (.goto 4, 3) := by decide +kernel
theorem dk_5_isThere_16 : decode bk_5_isThere 16 = .ok (.iconst 0, 1) := by decide +kernel
theorem dk_5_isThere_17 : decode bk_5_isThere 17 = .ok (.ireturn, 1) := by decide +kernel
theorem dk_5_add_0 : decode bk_5_add 0 = .ok (.aload_n 0, 1) := by decide +kernel
theorem dk_5_add_1 : decode bk_5_add 1 = .ok (.getfield 22, 3) := by decide +kernel
theorem dk_5_add_4 : decode bk_5_add 4 = .ok (.bipush 40, 2) := by decide +kernel
theorem dk_5_add_6 : decode bk_5_add 6 = .ok (.if_icmp .lt 7, 3) := by decide +kernel
theorem dk_5_add_9 : decode bk_5_add 9 = .ok (.iconst (-1), 1) := by decide +kernel
theorem dk_5_add_10 : decode bk_5_add 10 = .ok (.goto 14, 3) := by decide +kernel
theorem dk_5_add_13 : decode bk_5_add 13 = .ok (.aload_n 0, 1) := by decide +kernel
theorem dk_5_add_14 : decode bk_5_add 14 = .ok (.dup, 1) := by decide +kernel
theorem dk_5_add_15 : decode bk_5_add 15 = .ok (.getfield 22, 3) := by decide +kernel
theorem dk_5_add_18 : decode bk_5_add 18 = .ok (.dup_x1, 1) := by decide +kernel
theorem dk_5_add_19 : decode bk_5_add 19 = .ok (.iconst 1, 1) := by decide +kernel
theorem dk_5_add_20 : decode bk_5_add 20 = .ok (.iadd, 1) := by decide +kernel
theorem dk_5_add_21 : decode bk_5_add 21 = .ok (.putfield 22, 3) := by decide +kernel
theorem dk_5_add_24 : decode bk_5_add 24 = .ok (.ireturn, 1) := by decide +kernel
theorem dk_5_askingAt_0 : decode bk_5_askingAt 0 = .ok (.aload_n 0, 1) := by decide +kernel
theorem dk_5_askingAt_1 : decode bk_5_askingAt 1 = .ok (.getfield 15, 3) := by decide +kernel
theorem dk_5_askingAt_4 : decode bk_5_askingAt 4 = .ok (.iload_n 1, 1) := by decide +kernel
theorem dk_5_askingAt_5 : decode bk_5_askingAt 5 = .ok (.bipush 6, 2) := by decide +kernel
theorem dk_5_askingAt_7 : decode bk_5_askingAt 7 = .ok (.imul, 1) := by decide +kernel
theorem dk_5_askingAt_8 : decode bk_5_askingAt 8 = .ok (.iload_n 2, 1) := by decide +kernel
theorem dk_5_askingAt_9 : decode bk_5_askingAt 9 = .ok (.iadd, 1) := by decide +kernel
theorem dk_5_askingAt_10 : decode bk_5_askingAt 10 = .ok (.iaload, 1) := by decide +kernel
theorem dk_5_askingAt_11 : decode bk_5_askingAt 11 = .ok (.ireturn, 1) := by decide +kernel
theorem dk_5_addAsking_0 : decode bk_5_addAsking 0 = .ok (.aload_n 0, 1) := by decide +kernel
theorem dk_5_addAsking_1 : decode bk_5_addAsking 1 = .ok (.getfield 9, 3) := by decide +kernel
theorem dk_5_addAsking_4 : decode bk_5_addAsking 4 = .ok (.iload_n 1, 1) := by decide +kernel
theorem dk_5_addAsking_5 : decode bk_5_addAsking 5 = .ok (.iaload, 1) := by decide +kernel
theorem dk_5_addAsking_6 : decode bk_5_addAsking 6 = .ok (.istore_n 3, 1) := by decide +kernel
theorem dk_5_addAsking_7 : decode bk_5_addAsking 7 = .ok (.aload_n 0, 1) := by decide +kernel
theorem dk_5_addAsking_8 : decode bk_5_addAsking 8 = .ok (.getfield 18, 3) := by decide +kernel
theorem dk_5_addAsking_11 : decode bk_5_addAsking 11 = .ok (.iload_n 1, 1) := by decide +kernel
theorem dk_5_addAsking_12 : decode bk_5_addAsking 12 = .ok (.baload, 1) := by decide +kernel
theorem dk_5_addAsking_13 : decode bk_5_addAsking 13 = .ok (.ifCond .ne 9, 3) := by decide +kernel
theorem dk_5_addAsking_16 : decode bk_5_addAsking 16 = .ok (.iload_n 3, 1) := by decide +kernel
theorem dk_5_addAsking_17 : decode bk_5_addAsking 17 = .ok (.bipush 6, 2) := by decide +kernel
theorem dk_5_addAsking_19 : decode bk_5_addAsking 19 = .ok (.if_icmp .lt 5, 3) := by decide +kernel
theorem dk_5_addAsking_22 : decode bk_5_addAsking 22 = .ok (.iconst 0, 1) := by decide +kernel
theorem dk_5_addAsking_23 : decode bk_5_addAsking 23 = .ok (.ireturn, 1) := by decide +kernel
theorem dk_5_addAsking_24 : decode bk_5_addAsking 24 = .ok (.iconst 0, 1) := by decide +kernel
theorem dk_5_addAsking_25 : decode bk_5_addAsking 25 = .ok (.istore 4, 2) := by decide +kernel
theorem dk_5_addAsking_27 : decode bk_5_addAsking 27 = .ok (.iload 4, 2) := by decide +kernel
theorem dk_5_addAsking_29 : decode bk_5_addAsking 29 = .ok (.iload_n 3, 1) := by decide +kernel
theorem dk_5_addAsking_30 : decode bk_5_addAsking 30 = .ok (.if_icmp .ge 22, 3) := by decide +kernel
theorem dk_5_addAsking_33 : decode bk_5_addAsking 33 = .ok (.aload_n 0, 1) := by decide +kernel
theorem dk_5_addAsking_34 : decode bk_5_addAsking 34 = .ok (.iload_n 1, 1) := by decide +kernel
theorem dk_5_addAsking_35 : decode bk_5_addAsking 35 = .ok (.iload 4, 2) := by decide +kernel
theorem dk_5_addAsking_37 : decode bk_5_addAsking 37 = .ok (.invokevirtual 26, 3) := by decide +kernel
theorem dk_5_addAsking_40 : decode bk_5_addAsking 40 = .ok (.iload_n 2, 1) := by decide +kernel
theorem dk_5_addAsking_41 : decode bk_5_addAsking 41 = .ok (.if_icmp .ne 5, 3) := by decide +kernel
theorem dk_5_addAsking_44 : decode bk_5_addAsking 44 = .ok (.iconst 0, 1) := by decide +kernel
theorem dk_5_addAsking_45 : decode bk_5_addAsking 45 = .ok (.ireturn, 1) := by decide +kernel
theorem dk_5_addAsking_46 : decode bk_5_addAsking 46 = .ok (.iinc 4 1, 3) := by decide +kernel
theorem dk_5_addAsking_49 : decode bk_5_addAsking 49 = .ok (.goto (-22), 3) := by decide +kernel
theorem dk_5_addAsking_52 : decode bk_5_addAsking 52 = .ok (.aload_n 0, 1) := by decide +kernel
theorem dk_5_addAsking_53 : decode bk_5_addAsking 53 = .ok (.getfield 15, 3) := by decide +kernel
theorem dk_5_addAsking_56 : decode bk_5_addAsking 56 = .ok (.iload_n 1, 1) := by decide +kernel
theorem dk_5_addAsking_57 : decode bk_5_addAsking 57 = .ok (.bipush 6, 2) := by decide +kernel
theorem dk_5_addAsking_59 : decode bk_5_addAsking 59 = .ok (.imul, 1) := by decide +kernel
theorem dk_5_addAsking_60 : decode bk_5_addAsking 60 = .ok (.iload_n 3, 1) := by decide +kernel
theorem dk_5_addAsking_61 : decode bk_5_addAsking 61 = .ok (.iadd, 1) := by decide +kernel
theorem dk_5_addAsking_62 : decode bk_5_addAsking 62 = .ok (.iload_n 2, 1) := by decide +kernel
theorem dk_5_addAsking_63 : decode bk_5_addAsking 63 = .ok (.iastore, 1) := by decide +kernel
theorem dk_5_addAsking_64 : decode bk_5_addAsking 64 = .ok (.aload_n 0, 1) := by decide +kernel
theorem dk_5_addAsking_65 : decode bk_5_addAsking 65 = .ok (.getfield 9, 3) := by decide +kernel
theorem dk_5_addAsking_68 : decode bk_5_addAsking 68 = .ok (.iload_n 1, 1) := by decide +kernel
theorem dk_5_addAsking_69 : decode bk_5_addAsking 69 = .ok (.iload_n 3, 1) := by decide +kernel
theorem dk_5_addAsking_70 : decode bk_5_addAsking 70 = .ok (.iconst 1, 1) := by decide +kernel
theorem dk_5_addAsking_71 : decode bk_5_addAsking 71 = .ok (.iadd, 1) := by decide +kernel
theorem dk_5_addAsking_72 : decode bk_5_addAsking 72 = .ok (.iastore, 1) := by decide +kernel
theorem dk_5_addAsking_73 : decode bk_5_addAsking 73 = .ok (.iconst 1, 1) := by decide +kernel
theorem dk_5_addAsking_74 : decode bk_5_addAsking 74 = .ok (.ireturn, 1) := by decide +kernel
theorem dk_6_init_0 : decode bk_6_init 0 = .ok (.aload_n 0, 1) := by decide +kernel
theorem dk_6_init_1 : decode bk_6_init 1 = .ok (.invokespecial 3, 3) := by decide +kernel
theorem dk_6_init_4 : decode bk_6_init 4 = .ok (.aload_n 0, 1) := by decide +kernel
theorem dk_6_init_5 : decode bk_6_init 5 = .ok (.bipush 60, 2) := by decide +kernel
theorem dk_6_init_7 : decode bk_6_init 7 = .ok (.newarray .long, 2) := by decide +kernel
theorem dk_6_init_9 : decode bk_6_init 9 = .ok (.putfield 9, 3) := by decide +kernel
theorem dk_6_init_12 : decode bk_6_init 12 = .ok (.return_, 1) := by decide +kernel
theorem dk_6_isThere_0 : decode bk_6_isThere 0 = .ok (.iload_n 1, 1) := by decide +kernel
theorem dk_6_isThere_1 : decode bk_6_isThere 1 = .ok (.ifCond .lt 15, 3) := by decide +kernel
theorem dk_6_isThere_4 : decode bk_6_isThere 4 = .ok (.iload_n 1, 1) := by decide +kernel
theorem dk_6_isThere_5 : decode bk_6_isThere 5 = .ok (.aload_n 0, 1) := by decide +kernel
theorem dk_6_isThere_6 : decode bk_6_isThere 6 = .ok (.getfield 15, 3) := by decide +kernel
theorem dk_6_isThere_9 : decode bk_6_isThere 9 = .ok (.if_icmp .ge 7, 3) := by decide +kernel
theorem dk_6_isThere_12 : decode bk_6_isThere 12 = .ok (.iconst 1, 1) := by decide +kernel
theorem dk_6_isThere_13 : decode bk_6_isThere 13 = .ok (.goto 4, 3) := by decide +kernel
theorem dk_6_isThere_16 : decode bk_6_isThere 16 = .ok (.iconst 0, 1) := by decide +kernel
theorem dk_6_isThere_17 : decode bk_6_isThere 17 = .ok (.ireturn, 1) := by decide +kernel
theorem dk_6_numberOf_0 : decode bk_6_numberOf 0 = .ok (.iconst 0, 1) := by decide +kernel
theorem dk_6_numberOf_1 : decode bk_6_numberOf 1 = .ok (.istore_n 3, 1) := by decide +kernel
theorem dk_6_numberOf_2 : decode bk_6_numberOf 2 = .ok (.iload_n 3, 1) := by decide +kernel
theorem dk_6_numberOf_3 : decode bk_6_numberOf 3 = .ok (.aload_n 0, 1) := by decide +kernel
theorem dk_6_numberOf_4 : decode bk_6_numberOf 4 = .ok (.getfield 15, 3) := by decide +kernel
theorem dk_6_numberOf_7 : decode bk_6_numberOf 7 = .ok (.if_icmp .ge 22, 3) := by decide +kernel
theorem dk_6_numberOf_10 : decode bk_6_numberOf 10 = .ok (.aload_n 0, 1) := by decide +kernel
theorem dk_6_numberOf_11 : decode bk_6_numberOf 11 = .ok (.getfield 9, 3) := by decide +kernel
theorem dk_6_numberOf_14 : decode bk_6_numberOf 14 = .ok (.iload_n 3, 1) := by decide +kernel
theorem dk_6_numberOf_15 : decode bk_6_numberOf 15 = .ok (.laload, 1) := by decide +kernel
theorem dk_6_numberOf_16 : decode bk_6_numberOf 16 = .ok (.lload_n 1, 1) := by decide +kernel
theorem dk_6_numberOf_17 : decode bk_6_numberOf 17 = .ok (.lcmp, 1) := by decide +kernel
theorem dk_6_numberOf_18 : decode bk_6_numberOf 18 = .ok (.ifCond .ne 5, 3) := by decide +kernel
theorem dk_6_numberOf_21 : decode bk_6_numberOf 21 = .ok (.iload_n 3, 1) := by decide +kernel
theorem dk_6_numberOf_22 : decode bk_6_numberOf 22 = .ok (.ireturn, 1) := by decide +kernel
theorem dk_6_numberOf_23 : decode bk_6_numberOf 23 = .ok (.iinc 3 1, 3) := by decide +kernel
theorem dk_6_numberOf_26 : decode bk_6_numberOf 26 = .ok (.goto (-24), 3) := by decide +kernel
theorem dk_6_numberOf_29 : decode bk_6_numberOf 29 = .ok (.aload_n 0, 1) := by decide +kernel
theorem dk_6_numberOf_30 : decode bk_6_numberOf 30 = .ok (.getfield 15, 3) := by decide +kernel
theorem dk_6_numberOf_33 : decode bk_6_numberOf 33 = .ok (.bipush 60, 2) := by decide +kernel
theorem dk_6_numberOf_35 : decode bk_6_numberOf 35 = .ok (.if_icmp .lt 5, 3) := by decide +kernel
theorem dk_6_numberOf_38 : decode bk_6_numberOf 38 = .ok (.iconst (-1), 1) := by decide +kernel
theorem dk_6_numberOf_39 : decode bk_6_numberOf 39 = .ok (.ireturn, 1) := by decide +kernel
theorem dk_6_numberOf_40 : decode bk_6_numberOf 40 = .ok (.aload_n 0, 1) := by decide +kernel
theorem dk_6_numberOf_41 : decode bk_6_numberOf 41 = .ok (.getfield 9, 3) := by decide +kernel
theorem dk_6_numberOf_44 : decode bk_6_numberOf 44 = .ok (.aload_n 0, 1) := by decide +kernel
theorem dk_6_numberOf_45 : decode bk_6_numberOf 45 = .ok (.getfield 15, 3) := by decide +kernel
theorem dk_6_numberOf_48 : decode bk_6_numberOf 48 = .ok (.lload_n 1, 1) := by decide +kernel
theorem dk_6_numberOf_49 : decode bk_6_numberOf 49 = .ok (.lastore, 1) := by decide +kernel
theorem dk_6_numberOf_50 : decode bk_6_numberOf 50 = .ok (.aload_n 0, 1) := by decide +kernel
theorem dk_6_numberOf_51 : decode bk_6_numberOf 51 = .ok (.dup, 1) := by decide +kernel
theorem dk_6_numberOf_52 : decode bk_6_numberOf 52 = .ok (.getfield 15, 3) := by decide +kernel
theorem dk_6_numberOf_55 : decode bk_6_numberOf 55 = .ok (.dup_x1, 1) := by decide +kernel
theorem dk_6_numberOf_56 : decode bk_6_numberOf 56 = .ok (.iconst 1, 1) := by decide +kernel
theorem dk_6_numberOf_57 : decode bk_6_numberOf 57 = .ok (.iadd, 1) := by decide +kernel
theorem dk_6_numberOf_58 : decode bk_6_numberOf 58 = .ok (.putfield 15, 3) := by decide +kernel
theorem dk_6_numberOf_61 : decode bk_6_numberOf 61 = .ok (.ireturn, 1) := by decide +kernel
theorem dk_6_anyOn_0 : decode bk_6_anyOn 0 = .ok (.iconst 0, 1) := by decide +kernel
theorem dk_6_anyOn_1 : decode bk_6_anyOn 1 = .ok (.istore_n 2, 1) := by decide +kernel
theorem dk_6_anyOn_2 : decode bk_6_anyOn 2 = .ok (.iload_n 2, 1) := by decide +kernel
theorem dk_6_anyOn_3 : decode bk_6_anyOn 3 = .ok (.aload_n 0, 1) := by decide +kernel
theorem dk_6_anyOn_4 : decode bk_6_anyOn 4 = .ok (.getfield 15, 3) := by decide +kernel
theorem dk_6_anyOn_7 : decode bk_6_anyOn 7 = .ok (.if_icmp .ge 24, 3) := by decide +kernel
theorem dk_6_anyOn_10 : decode bk_6_anyOn 10 = .ok (.aload_n 0, 1) := by decide +kernel
theorem dk_6_anyOn_11 : decode bk_6_anyOn 11 = .ok (.getfield 9, 3) := by decide +kernel
theorem dk_6_anyOn_14 : decode bk_6_anyOn 14 = .ok (.iload_n 2, 1) := by decide +kernel
theorem dk_6_anyOn_15 : decode bk_6_anyOn 15 = .ok (.laload, 1) := by decide +kernel
theorem dk_6_anyOn_16 : decode bk_6_anyOn 16 = .ok (.invokestatic 19, 3) := by decide +kernel
theorem dk_6_anyOn_19 : decode bk_6_anyOn 19 = .ok (.iload_n 1, 1) := by decide +kernel
theorem dk_6_anyOn_20 : decode bk_6_anyOn 20 = .ok (.if_icmp .ne 5, 3) := by decide +kernel
theorem dk_6_anyOn_23 : decode bk_6_anyOn 23 = .ok (.iconst 1, 1) := by decide +kernel
theorem dk_6_anyOn_24 : decode bk_6_anyOn 24 = .ok (.ireturn, 1) := by decide +kernel
theorem dk_6_anyOn_25 : decode bk_6_anyOn 25 = .ok (.iinc 2 1, 3) := by decide +kernel
theorem dk_6_anyOn_28 : decode bk_6_anyOn 28 = .ok (.goto (-26), 3) := by decide +kernel
theorem dk_6_anyOn_31 : decode bk_6_anyOn 31 = .ok (.iconst 0, 1) := by decide +kernel
theorem dk_6_anyOn_32 : decode bk_6_anyOn 32 = .ok (.ireturn, 1) := by decide +kernel
theorem dk_6_giveAll_0 : decode bk_6_giveAll 0 = .ok (.iconst 0, 1) := by decide +kernel
theorem dk_6_giveAll_1 : decode bk_6_giveAll 1 = .ok (.istore_n 3, 1) := by decide +kernel
theorem dk_6_giveAll_2 : decode bk_6_giveAll 2 = .ok (.iload_n 3, 1) := by decide +kernel
theorem dk_6_giveAll_3 : decode bk_6_giveAll 3 = .ok (.aload_n 0, 1) := by decide +kernel
theorem dk_6_giveAll_4 : decode bk_6_giveAll 4 = .ok (.getfield 15, 3) := by decide +kernel
theorem dk_6_giveAll_7 : decode bk_6_giveAll 7 = .ok (.if_icmp .ge 26, 3) := by decide +kernel
theorem dk_6_giveAll_10 : decode bk_6_giveAll 10 = .ok (.aload_n 0, 1) := by decide +kernel
theorem dk_6_giveAll_11 : decode bk_6_giveAll 11 = .ok (.getfield 9, 3) := by decide +kernel
theorem dk_6_giveAll_14 : decode bk_6_giveAll 14 = .ok (.iload_n 3, 1) := by decide +kernel
theorem dk_6_giveAll_15 : decode bk_6_giveAll 15 = .ok (.aload_n 0, 1) := by decide +kernel
theorem dk_6_giveAll_16 : decode bk_6_giveAll 16 = .ok (.getfield 9, 3) := by decide +kernel
theorem dk_6_giveAll_19 : decode bk_6_giveAll 19 = .ok (.iload_n 3, 1) := by decide +kernel
theorem dk_6_giveAll_20 : decode bk_6_giveAll 20 = .ok (.laload, 1) := by decide +kernel
theorem dk_6_giveAll_21 : decode bk_6_giveAll 21 = .ok (.iload_n 1, 1) := by decide +kernel
theorem dk_6_giveAll_22 : decode bk_6_giveAll 22 = .ok (.iload_n 2, 1) := by decide +kernel
theorem dk_6_giveAll_23 : decode bk_6_giveAll 23 = .ok (.invokestatic 25, 3) := by decide +kernel
theorem dk_6_giveAll_26 : decode bk_6_giveAll 26 = .ok (.lastore, 1) := by decide +kernel
theorem dk_6_giveAll_27 : decode bk_6_giveAll 27 = .ok (.iinc 3 1, 3) := by decide +kernel
theorem dk_6_giveAll_30 : decode bk_6_giveAll 30 = .ok (.goto (-28), 3) := by decide +kernel
theorem dk_6_giveAll_33 : decode bk_6_giveAll 33 = .ok (.return_, 1) := by decide +kernel
