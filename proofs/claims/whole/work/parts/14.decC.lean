theorem dk_7_init_0 : decode bk_7_init 0 = .ok (.aload_n 0, 1) := by decide +kernel
theorem dk_7_init_1 : decode bk_7_init 1 = .ok (.invokespecial 3, 3) := by decide +kernel
theorem dk_7_init_4 : decode bk_7_init 4 = .ok (.aload_n 0, 1) := by decide +kernel
theorem dk_7_init_5 : decode bk_7_init 5 = .ok (.bipush 40, 2) := by decide +kernel
theorem dk_7_init_7 : decode bk_7_init 7 = .ok (.newarray .int, 2) := by decide +kernel
theorem dk_7_init_9 : decode bk_7_init 9 = .ok (.putfield 9, 3) := by decide +kernel
theorem dk_7_init_12 : decode bk_7_init 12 = .ok (.aload_n 0, 1) := by decide +kernel
theorem dk_7_init_13 : decode bk_7_init 13 = .ok (.bipush 40, 2) := by decide +kernel
theorem dk_7_init_15 : decode bk_7_init 15 = .ok (.newarray .int, 2) := by decide +kernel
theorem dk_7_init_17 : decode bk_7_init 17 = .ok (.putfield 15, 3) := by decide +kernel
theorem dk_7_init_20 : decode bk_7_init 20 = .ok (.aload_n 0, 1) := by decide +kernel
theorem dk_7_init_21 : decode bk_7_init 21 = .ok (.bipush 40, 2) := by decide +kernel
theorem dk_7_init_23 : decode bk_7_init 23 = .ok (.newarray .int, 2) := by decide +kernel
theorem dk_7_init_25 : decode bk_7_init 25 = .ok (.putfield 18, 3) := by decide +kernel
theorem dk_7_init_28 : decode bk_7_init 28 = .ok (.aload_n 0, 1) := by decide +kernel
theorem dk_7_init_29 : decode bk_7_init 29 = .ok (.bipush 80, 2) := by decide +kernel
theorem dk_7_init_31 : decode bk_7_init 31 = .ok (.newarray .int, 2) := by decide +kernel
theorem dk_7_init_33 : decode bk_7_init 33 = .ok (.putfield 21, 3) := by decide +kernel
theorem dk_7_init_36 : decode bk_7_init 36 = .ok (.aload_n 0, 1) := by decide +kernel
theorem dk_7_init_37 : decode bk_7_init 37 = .ok (.bipush 80, 2) := by decide +kernel
theorem dk_7_init_39 : decode bk_7_init 39 = .ok (.newarray .int, 2) := by decide +kernel
theorem dk_7_init_41 : decode bk_7_init 41 = .ok (.putfield 24, 3) := by decide +kernel
theorem dk_7_init_44 : decode bk_7_init 44 = .ok (.return_, 1) := by decide +kernel
theorem dk_7_isThere_0 : decode bk_7_isThere 0 = .ok (.iload_n 1, 1) := by decide +kernel
theorem dk_7_isThere_1 : decode bk_7_isThere 1 = .ok (.ifCond .lt 15, 3) := by decide +kernel
theorem dk_7_isThere_4 : decode bk_7_isThere 4 = .ok (.iload_n 1, 1) := by decide +kernel
theorem dk_7_isThere_5 : decode bk_7_isThere 5 = .ok (.aload_n 0, 1) := by decide +kernel
theorem dk_7_isThere_6 : decode bk_7_isThere 6 = .ok (.getfield 27, 3) := by decide +kernel
theorem dk_7_isThere_9 : decode bk_7_isThere 9 = .ok (.if_icmp .ge 7, 3) := by decide +kernel
theorem dk_7_isThere_12 : decode bk_7_isThere 12 = .ok (.iconst 1, 1) := by decide +kernel
theorem dk_7_isThere_13 : decode bk_7_isThere 13 = .ok (.goto 4, 3) := by decide +kernel
theorem dk_7_isThere_16 : decode bk_7_isThere 16 = .ok (.iconst 0, 1) := by decide +kernel
theorem dk_7_isThere_17 : decode bk_7_isThere 17 = .ok (.ireturn, 1) := by decide +kernel
theorem dk_7_add_0 : decode bk_7_add 0 = .ok (.aload_n 0, 1) := by decide +kernel
theorem dk_7_add_1 : decode bk_7_add 1 = .ok (.getfield 27, 3) := by decide +kernel
theorem dk_7_add_4 : decode bk_7_add 4 = .ok (.bipush 40, 2) := by decide +kernel
theorem dk_7_add_6 : decode bk_7_add 6 = .ok (.if_icmp .lt 5, 3) := by decide +kernel
theorem dk_7_add_9 : decode bk_7_add 9 = .ok (.iconst (-1), 1) := by decide +kernel
theorem dk_7_add_10 : decode bk_7_add 10 = .ok (.ireturn, 1) := by decide +kernel
theorem dk_7_add_11 : decode bk_7_add 11 = .ok (.aload_n 0, 1) := by decide +kernel
theorem dk_7_add_12 : decode bk_7_add 12 = .ok (.getfield 9, 3) := by decide +kernel
theorem dk_7_add_15 : decode bk_7_add 15 = .ok (.aload_n 0, 1) := by decide +kernel
theorem dk_7_add_16 : decode bk_7_add 16 = .ok (.getfield 27, 3) := by decide +kernel
theorem dk_7_add_19 : decode bk_7_add 19 = .ok (.iload_n 1, 1) := by decide +kernel
theorem dk_7_add_20 : decode bk_7_add 20 = .ok (.iastore, 1) := by decide +kernel
theorem dk_7_add_21 : decode bk_7_add 21 = .ok (.aload_n 0, 1) := by decide +kernel
theorem dk_7_add_22 : decode bk_7_add 22 = .ok (.getfield 15, 3) := by decide +kernel
theorem dk_7_add_25 : decode bk_7_add 25 = .ok (.aload_n 0, 1) := by decide +kernel
theorem dk_7_add_26 : decode bk_7_add 26 = .ok (.getfield 27, 3) := by decide +kernel
theorem dk_7_add_29 : decode bk_7_add 29 = .ok (.iload_n 2, 1) := by decide +kernel
theorem dk_7_add_30 : decode bk_7_add 30 = .ok (.iastore, 1) := by decide +kernel
theorem dk_7_add_31 : decode bk_7_add 31 = .ok (.aload_n 0, 1) := by decide +kernel
theorem dk_7_add_32 : decode bk_7_add 32 = .ok (.dup, 1) := by decide +kernel
theorem dk_7_add_33 : decode bk_7_add 33 = .ok (.getfield 27, 3) := by decide +kernel
theorem dk_7_add_36 : decode bk_7_add 36 = .ok (.dup_x1, 1) := by decide +kernel
theorem dk_7_add_37 : decode bk_7_add 37 = .ok (.iconst 1, 1) := by decide +kernel
theorem dk_7_add_38 : decode bk_7_add 38 = .ok (.iadd, 1) := by decide +kernel
theorem dk_7_add_39 : decode bk_7_add 39 = .ok (.putfield 27, 3) := by decide +kernel
theorem dk_7_add_42 : decode bk_7_add 42 = .ok (.ireturn, 1) := by decide +kernel
theorem dk_7_addChange_0 : decode bk_7_addChange 0 = .ok (.aload_n 0, 1) := by decide +kernel
theorem dk_7_addChange_1 : decode bk_7_addChange 1 = .ok (.getfield 18, 3) := by decide +kernel
theorem dk_7_addChange_4 : decode bk_7_addChange 4 = .ok (.iload_n 1, 1) := by decide +kernel
theorem dk_7_addChange_5 : decode bk_7_addChange 5 = .ok (.iaload, 1) := by decide +kernel
theorem dk_7_addChange_6 : decode bk_7_addChange 6 = .ok (.iconst 2, 1) := by decide +kernel
theorem dk_7_addChange_7 : decode bk_7_addChange 7 = .ok (.if_icmp .lt 5, 3) := by decide +kernel
theorem dk_7_addChange_10 : decode bk_7_addChange 10 = .ok (.iconst 0, 1) := by decide +kernel
theorem dk_7_addChange_11 : decode bk_7_addChange 11 = .ok (.ireturn, 1) := by decide +kernel
theorem dk_7_addChange_12 : decode bk_7_addChange 12 = .ok (.iload_n 1, 1) := by decide +kernel
theorem dk_7_addChange_13 : decode bk_7_addChange 13 = .ok (.iconst 2, 1) := by decide +kernel
theorem dk_7_addChange_14 : decode bk_7_addChange 14 = .ok (.imul, 1) := by decide +kernel
theorem dk_7_addChange_15 : decode bk_7_addChange 15 = .ok (.aload_n 0, 1) := by decide +kernel
theorem dk_7_addChange_16 : decode bk_7_addChange 16 = .ok (.getfield 18, 3) := by decide +kernel
theorem dk_7_addChange_19 : decode bk_7_addChange 19 = .ok (.iload_n 1, 1) := by decide +kernel
theorem dk_7_addChange_20 : decode bk_7_addChange 20 = .ok (.iaload, 1) := by decide +kernel
theorem dk_7_addChange_21 : decode bk_7_addChange 21 = .ok (.iadd, 1) := by decide +kernel
theorem dk_7_addChange_22 : decode bk_7_addChange 22 = .ok (.istore 4, 2) := by decide +kernel
theorem dk_7_addChange_24 : decode bk_7_addChange 24 = .ok (.aload_n 0, 1) := by decide +kernel
theorem dk_7_addChange_25 : decode bk_7_addChange 25 = .ok (.getfield 21, 3) := by decide +kernel
theorem dk_7_addChange_28 : decode bk_7_addChange 28 = .ok (.iload 4, 2) := by decide +kernel
theorem dk_7_addChange_30 : decode bk_7_addChange 30 = .ok (.iload_n 2, 1) := by decide +kernel
theorem dk_7_addChange_31 : decode bk_7_addChange 31 = .ok (.iastore, 1) := by decide +kernel
theorem dk_7_addChange_32 : decode bk_7_addChange 32 = .ok (.aload_n 0, 1) := by decide +kernel
theorem dk_7_addChange_33 : decode bk_7_addChange 33 = .ok (.getfield 24, 3) := by decide +kernel
theorem dk_7_addChange_36 : decode bk_7_addChange 36 = .ok (.iload 4, 2) := by decide +kernel
theorem dk_7_addChange_38 : decode bk_7_addChange 38 = .ok (.iload_n 3, 1) := by decide +kernel
theorem dk_7_addChange_39 : decode bk_7_addChange 39 = .ok (.iastore, 1) := by decide +kernel
theorem dk_7_addChange_40 : decode bk_7_addChange 40 = .ok (.aload_n 0, 1) := by decide +kernel
theorem dk_7_addChange_41 : decode bk_7_addChange 41 = .ok (.getfield 18, 3) := by decide +kernel
theorem dk_7_addChange_44 : decode bk_7_addChange 44 = .ok (.iload_n 1, 1) := by decide +kernel
theorem dk_7_addChange_45 : decode bk_7_addChange 45 = .ok (.dup2, 1) := by decide +kernel
theorem dk_7_addChange_46 : decode bk_7_addChange 46 = .ok (.iaload, 1) := by decide +kernel
theorem dk_7_addChange_47 : decode bk_7_addChange 47 = .ok (.iconst 1, 1) := by decide +kernel
theorem dk_7_addChange_48 : decode bk_7_addChange 48 = .ok (.iadd, 1) := by decide +kernel
theorem dk_7_addChange_49 : decode bk_7_addChange 49 = .ok (.iastore, 1) := by decide +kernel
theorem dk_7_addChange_50 : decode bk_7_addChange 50 = .ok (.iconst 1, 1) := by decide +kernel
theorem dk_7_addChange_51 : decode bk_7_addChange 51 = .ok (.ireturn, 1) := by decide +kernel
theorem dk_7_settingAt_0 : decode bk_7_settingAt 0 = .ok (.aload_n 0, 1) := by decide +kernel
theorem dk_7_settingAt_1 : decode bk_7_settingAt 1 = .ok (.getfield 21, 3) := by decide +kernel
theorem dk_7_settingAt_4 : decode bk_7_settingAt 4 = .ok (.iload_n 1, 1) := by decide +kernel
theorem dk_7_settingAt_5 : decode bk_7_settingAt 5 = .ok (.iconst 2, 1) := by decide +kernel
theorem dk_7_settingAt_6 : decode bk_7_settingAt 6 = .ok (.imul, 1) := by decide +kernel
theorem dk_7_settingAt_7 : decode bk_7_settingAt 7 = .ok (.iload_n 2, 1) := by decide +kernel
theorem dk_7_settingAt_8 : decode bk_7_settingAt 8 = .ok (.iadd, 1) := by decide +kernel
theorem dk_7_settingAt_9 : decode bk_7_settingAt 9 = .ok (.iaload, 1) := by decide +kernel
theorem dk_7_settingAt_10 : decode bk_7_settingAt 10 = .ok (.ireturn, 1) := by decide +kernel
theorem dk_7_valuesAt_0 : decode bk_7_valuesAt 0 = .ok (.aload_n 0, 1) := by decide +kernel
theorem dk_7_valuesAt_1 : decode bk_7_valuesAt 1 = .ok (.getfield 24, 3) := by decide +kernel
theorem dk_7_valuesAt_4 : decode bk_7_valuesAt 4 = .ok (.iload_n 1, 1) := by decide +kernel
theorem dk_7_valuesAt_5 : decode bk_7_valuesAt 5 = .ok (.iconst 2, 1) := by decide +kernel
theorem dk_7_valuesAt_6 : decode bk_7_valuesAt 6 = .ok (.imul, 1) := by decide +kernel
theorem dk_7_valuesAt_7 : decode bk_7_valuesAt 7 = .ok (.iload_n 2, 1) := by decide +kernel
theorem dk_7_valuesAt_8 : decode bk_7_valuesAt 8 = .ok (.iadd, 1) := by decide +kernel
theorem dk_7_valuesAt_9 : decode bk_7_valuesAt 9 = .ok (.iaload, 1) := by decide +kernel
theorem dk_7_valuesAt_10 : decode bk_7_valuesAt 10 = .ok (.ireturn, 1) := by decide +kernel
theorem dk_8_init_0 : decode bk_8_init 0 = .ok (.aload_n 0, 1) := by decide +kernel
theorem dk_8_init_1 : decode bk_8_init 1 = .ok (.invokespecial 3, 3) := by decide +kernel
theorem dk_8_init_4 : decode bk_8_init 4 = .ok (.aload_n 0, 1) := by decide +kernel
theorem dk_8_init_5 : decode bk_8_init 5 = .ok (.bipush 60, 2) := by decide +kernel
theorem dk_8_init_7 : decode bk_8_init 7 = .ok (.newarray .int, 2) := by decide +kernel
theorem dk_8_init_9 : decode bk_8_init 9 = .ok (.putfield 9, 3) := by decide +kernel
theorem dk_8_init_12 : decode bk_8_init 12 = .ok (.aload_n 0, 1) := by decide +kernel
theorem dk_8_init_13 : decode bk_8_init 13 = .ok (.bipush 60, 2) := by decide +kernel
theorem dk_8_init_15 : decode bk_8_init 15 = .ok (.newarray .int, 2) := by decide +kernel
theorem dk_8_init_17 : decode bk_8_init 17 = .ok (.putfield 15, 3) := by decide +kernel
theorem dk_8_init_20 : decode bk_8_init 20 = .ok (.aload_n 0, 1) := by decide +kernel
theorem dk_8_init_21 : decode bk_8_init 21 = .ok (.bipush 60, 2) := by decide +kernel
theorem dk_8_init_23 : decode bk_8_init 23 = .ok (.newarray .int, 2) := by decide +kernel
theorem dk_8_init_25 : decode bk_8_init 25 = .ok (.putfield 18, 3) := by decide +kernel
theorem dk_8_init_28 : decode bk_8_init 28 = .ok (.aload_n 0, 1) := by decide +kernel
theorem dk_8_init_29 : decode bk_8_init 29 = .ok (.bipush 60, 2) := by decide +kernel
theorem dk_8_init_31 : decode bk_8_init 31 = .ok (.newarray .long, 2) := by decide +kernel
theorem dk_8_init_33 : decode bk_8_init 33 = .ok (.putfield 21, 3) := by decide +kernel
theorem dk_8_init_36 : decode bk_8_init 36 = .ok (.return_, 1) := by decide +kernel
theorem dk_8_clear_0 : decode bk_8_clear 0 = .ok (.aload_n 0, 1) := by decide +kernel
theorem dk_8_clear_1 : decode bk_8_clear 1 = .ok (.iconst 0, 1) := by decide +kernel
theorem dk_8_clear_2 : decode bk_8_clear 2 = .ok (.putfield 25, 3) := by decide +kernel
theorem dk_8_clear_5 : decode bk_8_clear 5 = .ok (.return_, 1) := by decide +kernel
theorem dk_8_isThere_0 : decode bk_8_isThere 0 = .ok (.iload_n 1, 1) := by decide +kernel
theorem dk_8_isThere_1 : decode bk_8_isThere 1 = .ok (.ifCond .lt 15, 3) := by decide +kernel
theorem dk_8_isThere_4 : decode bk_8_isThere 4 = .ok (.iload_n 1, 1) := by decide +kernel
theorem dk_8_isThere_5 : decode bk_8_isThere 5 = .ok (.aload_n 0, 1) := by decide +kernel
theorem dk_8_isThere_6 : decode bk_8_isThere 6 = .ok (.getfield 25, 3) := by decide +kernel
theorem dk_8_isThere_9 : decode bk_8_isThere 9 = .ok (.if_icmp .ge 7, 3) := by decide +kernel
theorem dk_8_isThere_12 : decode bk_8_isThere 12 = .ok (.iconst 1, 1) := by decide +kernel
theorem dk_8_isThere_13 : decode bk_8_isThere 13 = .ok (.goto 4, 3) := by decide +kernel
theorem dk_8_isThere_16 : decode bk_8_isThere 16 = .ok (.iconst 0, 1) := by decide +kernel
theorem dk_8_isThere_17 : decode bk_8_isThere 17 = .ok (.ireturn, 1) := by decide +kernel
theorem dk_8_numberOf_0 : decode bk_8_numberOf 0 = .ok (.iconst 0, 1) := by decide +kernel
theorem dk_8_numberOf_1 : decode bk_8_numberOf 1 = .ok (.istore_n 3, 1) := by decide +kernel
theorem dk_8_numberOf_2 : decode bk_8_numberOf 2 = .ok (.iload_n 3, 1) := by decide +kernel
theorem dk_8_numberOf_3 : decode bk_8_numberOf 3 = .ok (.aload_n 0, 1) := by decide +kernel
theorem dk_8_numberOf_4 : decode bk_8_numberOf 4 = .ok (.getfield 25, 3) := by decide +kernel
theorem dk_8_numberOf_7 : decode bk_8_numberOf 7 = .ok (.if_icmp .ge 31, 3) := by decide +kernel
theorem dk_8_numberOf_10 : decode bk_8_numberOf 10 = .ok (.aload_n 0, 1) := by decide +kernel
theorem dk_8_numberOf_11 : decode bk_8_numberOf 11 = .ok (.getfield 9, 3) := by decide +kernel
theorem dk_8_numberOf_14 : decode bk_8_numberOf 14 = .ok (.iload_n 3, 1) := by decide +kernel
theorem dk_8_numberOf_15 : decode bk_8_numberOf 15 = .ok (.iaload, 1) := by decide +kernel
theorem dk_8_numberOf_16 : decode bk_8_numberOf 16 = .ok (.iload_n 1, 1) := by decide +kernel
theorem dk_8_numberOf_17 : decode bk_8_numberOf 17 = .ok (.if_icmp .ne 15, 3) := by decide +kernel
theorem dk_8_numberOf_20 : decode bk_8_numberOf 20 = .ok (.aload_n 0, 1) := by decide +kernel
theorem dk_8_numberOf_21 : decode bk_8_numberOf 21 = .ok (.getfield 15, 3) := by decide +kernel
theorem dk_8_numberOf_24 : decode bk_8_numberOf 24 = .ok (.iload_n 3, 1) := by decide +kernel
theorem dk_8_numberOf_25 : decode bk_8_numberOf 25 = .ok (.iaload, 1) := by decide +kernel
theorem dk_8_numberOf_26 : decode bk_8_numberOf 26 = .ok (.iload_n 2, 1) := by decide +kernel
theorem dk_8_numberOf_27 : decode bk_8_numberOf 27 = .ok (.if_icmp .ne 5, 3) := by decide +kernel
theorem dk_8_numberOf_30 : decode bk_8_numberOf 30 = .ok (.iload_n 3, 1) := by decide +kernel
theorem dk_8_numberOf_31 : decode bk_8_numberOf 31 = .ok (.ireturn, 1) := by decide +kernel
theorem dk_8_numberOf_32 : decode bk_8_numberOf 32 = .ok (.iinc 3 1, 3) := by decide +kernel
theorem dk_8_numberOf_35 : decode bk_8_numberOf 35 = .ok (.goto (-33), 3) := by decide +kernel
theorem dk_8_numberOf_38 : decode bk_8_numberOf 38 = .ok (.aload_n 0, 1) := by decide +kernel
theorem dk_8_numberOf_39 : decode bk_8_numberOf 39 = .ok (.getfield 25, 3) := by decide +kernel
theorem dk_8_numberOf_42 : decode bk_8_numberOf 42 = .ok (.bipush 60, 2) := by decide +kernel
theorem dk_8_numberOf_44 : decode bk_8_numberOf 44 = .ok (.if_icmp .lt 5, 3) := by decide +kernel
theorem dk_8_numberOf_47 : decode bk_8_numberOf 47 = .ok (.iconst (-1), 1) := by decide +kernel
theorem dk_8_numberOf_48 : decode bk_8_numberOf 48 = .ok (.ireturn, 1) := by decide +kernel
theorem dk_8_numberOf_49 : decode bk_8_numberOf 49 = .ok (.aload_n 0, 1) := by decide +kernel
theorem dk_8_numberOf_50 : decode bk_8_numberOf 50 = .ok (.getfield 9, 3) := by decide +kernel
theorem dk_8_numberOf_53 : decode bk_8_numberOf 53 = .ok (.aload_n 0, 1) := by decide +kernel
theorem dk_8_numberOf_54 : decode bk_8_numberOf 54 = .ok (.getfield 25, 3) := by decide +kernel
theorem dk_8_numberOf_57 : decode bk_8_numberOf 57 = .ok (.iload_n 1, 1) := by decide +kernel
theorem dk_8_numberOf_58 : decode bk_8_numberOf 58 = .ok (.iastore, 1) := by decide +kernel
theorem dk_8_numberOf_59 : decode bk_8_numberOf 59 = .ok (.aload_n 0, 1) := by decide +kernel
theorem dk_8_numberOf_60 : decode bk_8_numberOf 60 = .ok (.getfield 15, 3) := by decide +kernel
theorem dk_8_numberOf_63 : decode bk_8_numberOf 63 = .ok (.aload_n 0, 1) := by decide +kernel
theorem dk_8_numberOf_64 : decode bk_8_numberOf 64 = .ok (.getfield 25, 3) := by decide +kernel
theorem dk_8_numberOf_67 : decode bk_8_numberOf 67 = .ok (.iload_n 2, 1) := by decide +kernel
theorem dk_8_numberOf_68 : decode bk_8_numberOf 68 = .ok (.iastore, 1) := by decide +kernel
theorem dk_8_numberOf_69 : decode bk_8_numberOf 69 = .ok (.aload_n 0, 1) := by decide +kernel
theorem dk_8_numberOf_70 : decode bk_8_numberOf 70 = .ok (.getfield 18, 3) := by decide +kernel
theorem dk_8_numberOf_73 : decode bk_8_numberOf 73 = .ok (.aload_n 0, 1) := by decide +kernel
theorem dk_8_numberOf_74 : decode bk_8_numberOf 74 = .ok (.getfield 25, 3) := by decide +kernel
theorem dk_8_numberOf_77 : decode bk_8_numberOf 77 = .ok (.iconst 0, 1) := by decide +kernel
theorem dk_8_numberOf_78 : decode bk_8_numberOf 78 = .ok (.iastore, 1) := by decide +kernel
theorem dk_8_numberOf_79 : decode bk_8_numberOf 79 = .ok (.aload_n 0, 1) := by decide +kernel
theorem dk_8_numberOf_80 : decode bk_8_numberOf 80 = .ok (.getfield 21, 3) := by decide +kernel
theorem dk_8_numberOf_83 : decode bk_8_numberOf 83 = .ok (.aload_n 0, 1) := by decide +kernel
theorem dk_8_numberOf_84 : decode bk_8_numberOf 84 = .ok (.getfield 25, 3) := by decide +kernel
theorem dk_8_numberOf_87 : decode bk_8_numberOf 87 = .ok (.lconst 0, 1) := by decide +kernel
theorem dk_8_numberOf_88 : decode bk_8_numberOf 88 = .ok (.lastore, 1) := by decide +kernel
theorem dk_8_numberOf_89 : decode bk_8_numberOf 89 = .ok (.aload_n 0, 1) := by decide +kernel
theorem dk_8_numberOf_90 : decode bk_8_numberOf 90 = .ok (.dup, 1) := by decide +kernel
theorem dk_8_numberOf_91 : decode bk_8_numberOf 91 = .ok (.getfield 25, 3) := by decide +kernel
theorem dk_8_numberOf_94 : decode bk_8_numberOf 94 = .ok (.dup_x1, 1) := by decide +kernel
theorem dk_8_numberOf_95 : decode bk_8_numberOf 95 = .ok (.iconst 1, 1) := by decide +kernel
theorem dk_8_numberOf_96 : decode bk_8_numberOf 96 = .ok (.iadd, 1) := by decide +kernel
theorem dk_8_numberOf_97 : decode bk_8_numberOf 97 = .ok (.putfield 25, 3) := by decide +kernel
theorem dk_8_numberOf_100 : decode bk_8_numberOf 100 = .ok (.ireturn, 1) := by decide +kernel
theorem dk_8_leaveOutByNeeds_0 : decode bk_8_leaveOutByNeeds 0 = .ok (.iconst 0, 1) := by decide +kernel
theorem dk_8_leaveOutByNeeds_1 : decode bk_8_leaveOutByNeeds 1 = .ok (.istore_n 1, 1) := by decide +kernel
theorem dk_8_leaveOutByNeeds_2 : decode bk_8_leaveOutByNeeds 2 = .ok (.iload_n 1, 1) := by decide +kernel
theorem dk_8_leaveOutByNeeds_3 : decode bk_8_leaveOutByNeeds 3 = .ok (.bipush 60, 2) := by decide +kernel
theorem dk_8_leaveOutByNeeds_5 : decode bk_8_leaveOutByNeeds 5 = .ok (.if_icmp .ge 74, 3) := by decide +kernel
theorem dk_8_leaveOutByNeeds_8 : decode bk_8_leaveOutByNeeds 8 = .ok (.aload_n 0, 1) := by decide +kernel
theorem dk_8_leaveOutByNeeds_9 : decode bk_8_leaveOutByNeeds 9 = .ok (.invokevirtual 29, 3) := by decide +kernel
theorem dk_8_leaveOutByNeeds_12 : decode bk_8_leaveOutByNeeds 12 = .ok (.lstore_n 2, 1) := by decide +kernel
theorem dk_8_leaveOutByNeeds_13 : decode bk_8_leaveOutByNeeds 13 = .ok (.iconst 0, 1) := by decide +kernel
theorem dk_8_leaveOutByNeeds_14 : decode bk_8_leaveOutByNeeds 14 = .ok (.istore 4, 2) := by decide +kernel
theorem dk_8_leaveOutByNeeds_16 : decode bk_8_leaveOutByNeeds 16 = .ok (.iload 4, 2) := by decide +kernel
theorem dk_8_leaveOutByNeeds_18 : decode bk_8_leaveOutByNeeds 18 = .ok (.aload_n 0, 1) := by decide +kernel
theorem dk_8_leaveOutByNeeds_19 : decode bk_8_leaveOutByNeeds 19 = .ok (.getfield 25, 3) := by decide +kernel
theorem dk_8_leaveOutByNeeds_22 : decode bk_8_leaveOutByNeeds 22 = .ok (.if_icmp .ge 41, 3) := by decide +kernel
theorem dk_8_leaveOutByNeeds_25 : decode bk_8_leaveOutByNeeds 25 = .ok (.aload_n 0, 1) := by decide +kernel
theorem dk_8_leaveOutByNeeds_26 : decode bk_8_leaveOutByNeeds 26 = .ok (.getfield 18, 3) := by decide +kernel
theorem dk_8_leaveOutByNeeds_29 : decode bk_8_leaveOutByNeeds 29 = .ok (.iload 4, 2) := by decide +kernel
theorem dk_8_leaveOutByNeeds_31 : decode bk_8_leaveOutByNeeds 31 = .ok (.iaload, 1) := by decide +kernel
theorem dk_8_leaveOutByNeeds_32 : decode bk_8_leaveOutByNeeds 32 = .ok (.ifCond .ne 25, 3) := by decide +kernel
theorem dk_8_leaveOutByNeeds_35 : decode bk_8_leaveOutByNeeds 35 = .ok (.aload_n 0, 1) := by decide +kernel
theorem dk_8_leaveOutByNeeds_36 : decode bk_8_leaveOutByNeeds 36 = .ok (.getfield 21, 3) := by decide +kernel
theorem dk_8_leaveOutByNeeds_39 : decode bk_8_leaveOutByNeeds 39 = .ok (.iload 4, 2) := by decide +kernel
theorem dk_8_leaveOutByNeeds_41 : decode bk_8_leaveOutByNeeds 41 = .ok (.laload, 1) := by decide +kernel
theorem dk_8_leaveOutByNeeds_42 : decode bk_8_leaveOutByNeeds 42 = .ok (.lload_n 2, 1) := by decide +kernel
theorem dk_8_leaveOutByNeeds_43 : decode bk_8_leaveOutByNeeds 43 = .ok (.land, 1) := by decide +kernel
theorem dk_8_leaveOutByNeeds_44 : decode bk_8_leaveOutByNeeds 44 = .ok (.lconst 0, 1) := by decide +kernel
theorem dk_8_leaveOutByNeeds_45 : decode bk_8_leaveOutByNeeds 45 = .ok (.lcmp, 1) := by decide +kernel
theorem dk_8_leaveOutByNeeds_46 : decode bk_8_leaveOutByNeeds 46 = .ok (.ifCond .eq 11, 3) := by decide +kernel
theorem dk_8_leaveOutByNeeds_49 : decode bk_8_leaveOutByNeeds 49 = .ok (.aload_n 0, 1) := by decide +kernel
theorem dk_8_leaveOutByNeeds_50 : decode bk_8_leaveOutByNeeds 50 = .ok (.getfield 18, 3) := by decide +kernel
theorem dk_8_leaveOutByNeeds_53 : decode bk_8_leaveOutByNeeds 53 = .ok (.iload 4, 2) := by decide +kernel
theorem dk_8_leaveOutByNeeds_55 : decode bk_8_leaveOutByNeeds 55 = .ok (.iconst 2, 1) := by decide +kernel
theorem dk_8_leaveOutByNeeds_56 : decode bk_8_leaveOutByNeeds 56 = .ok (.iastore, 1) := by decide +kernel
theorem dk_8_leaveOutByNeeds_57 : decode bk_8_leaveOutByNeeds 57 = .ok (.iinc 4 1, 3) := by decide +kernel
theorem dk_8_leaveOutByNeeds_60 : decode bk_8_leaveOutByNeeds 60 = .ok (.goto (-44), 3) := by decide +kernel
theorem dk_8_leaveOutByNeeds_63 : decode bk_8_leaveOutByNeeds 63 = .ok (.aload_n 0, 1) := by decide +kernel
theorem dk_8_leaveOutByNeeds_64 : decode bk_8_leaveOutByNeeds 64 = .ok (.invokevirtual 29, 3) := by decide +kernel
theorem dk_8_leaveOutByNeeds_67 : decode bk_8_leaveOutByNeeds 67 = .ok (.lload_n 2, 1) := by decide +kernel
theorem dk_8_leaveOutByNeeds_68 : decode bk_8_leaveOutByNeeds 68 = .ok (.lcmp, 1) := by decide +kernel
theorem dk_8_leaveOutByNeeds_69 : decode bk_8_leaveOutByNeeds 69 = .ok (.ifCond .ne 4, 3) := by decide +kernel
theorem dk_8_leaveOutByNeeds_72 : decode bk_8_leaveOutByNeeds 72 = .ok (.return_, 1) := by decide +kernel
theorem dk_8_leaveOutByNeeds_73 : decode bk_8_leaveOutByNeeds 73 = .ok (.iinc 1 1, 3) := by decide +kernel
theorem dk_8_leaveOutByNeeds_76 : decode bk_8_leaveOutByNeeds 76 = .ok (.goto (-74), 3) := by decide +kernel
theorem dk_8_leaveOutByNeeds_79 : decode bk_8_leaveOutByNeeds 79 = .ok (.return_, 1) := by decide +kernel
theorem dk_8_allLeftOut_0 : decode bk_8_allLeftOut 0 = .ok (.lconst 0, 1) := by decide +kernel
theorem dk_8_allLeftOut_1 : decode bk_8_allLeftOut 1 = .ok (.lstore_n 1, 1) := by decide +kernel
theorem dk_8_allLeftOut_2 : decode bk_8_allLeftOut 2 = .ok (.iconst 0, 1) := by decide +kernel
theorem dk_8_allLeftOut_3 : decode bk_8_allLeftOut 3 = .ok (.istore_n 3, 1) := by decide +kernel
theorem dk_8_allLeftOut_4 : decode bk_8_allLeftOut 4 = .ok (.iload_n 3, 1) := by decide +kernel
theorem dk_8_allLeftOut_5 : decode bk_8_allLeftOut 5 = .ok (.aload_n 0, 1) := by decide +kernel
theorem dk_8_allLeftOut_6 : decode bk_8_allLeftOut 6 = .ok (.getfield 25, 3) := by decide +kernel
theorem dk_8_allLeftOut_9 : decode bk_8_allLeftOut 9 = .ok (.if_icmp .ge 24, 3) := by decide +kernel
theorem dk_8_allLeftOut_12 : decode bk_8_allLeftOut 12 = .ok (.aload_n 0, 1) := by decide +kernel
theorem dk_8_allLeftOut_13 : decode bk_8_allLeftOut 13 = .ok (.getfield 18, 3) := by decide +kernel
theorem dk_8_allLeftOut_16 : decode bk_8_allLeftOut 16 = .ok (.iload_n 3, 1) := by decide +kernel
theorem dk_8_allLeftOut_17 : decode bk_8_allLeftOut 17 = .ok (.iaload, 1) := by decide +kernel
theorem dk_8_allLeftOut_18 : decode bk_8_allLeftOut 18 = .ok (.ifCond .eq 9, 3) := by decide +kernel
theorem dk_8_allLeftOut_21 : decode bk_8_allLeftOut 21 = .ok (.lload_n 1, 1) := by decide +kernel
theorem dk_8_allLeftOut_22 : decode bk_8_allLeftOut 22 = .ok (.lconst 1, 1) := by decide +kernel
theorem dk_8_allLeftOut_23 : decode bk_8_allLeftOut 23 = .ok (.iload_n 3, 1) := by decide +kernel
theorem dk_8_allLeftOut_24 : decode bk_8_allLeftOut 24 = .ok (.lshl, 1) := by decide +kernel
theorem dk_8_allLeftOut_25 : decode bk_8_allLeftOut 25 = .ok (.lor, 1) := by decide +kernel
theorem dk_8_allLeftOut_26 : decode bk_8_allLeftOut 26 = .ok (.lstore_n 1, 1) := by decide +kernel
theorem dk_8_allLeftOut_27 : decode bk_8_allLeftOut 27 = .ok (.iinc 3 1, 3) := by decide +kernel
theorem dk_8_allLeftOut_30 : decode bk_8_allLeftOut 30 = .ok (.goto (-26), 3) := by decide +kernel
theorem dk_8_allLeftOut_33 : decode bk_8_allLeftOut 33 = .ok (.lload_n 1, 1) := by decide +kernel
theorem dk_8_allLeftOut_34 : decode bk_8_allLeftOut 34 = .ok (.lreturn, 1) := by decide +kernel
theorem dk_9_init_0 : decode bk_9_init 0 = .ok (.aload_n 0, 1) := by decide +kernel
theorem dk_9_init_1 : decode bk_9_init 1 = .ok (.invokespecial 3, 3) := by decide +kernel
theorem dk_9_init_4 : decode bk_9_init 4 = .ok (.aload_n 0, 1) := by decide +kernel
theorem dk_9_init_5 : decode bk_9_init 5 = .ok (.bipush 64, 2) := by decide +kernel
theorem dk_9_init_7 : decode bk_9_init 7 = .ok (.newarray .int, 2) := by decide +kernel
theorem dk_9_init_9 : decode bk_9_init 9 = .ok (.putfield 9, 3) := by decide +kernel
theorem dk_9_init_12 : decode bk_9_init 12 = .ok (.return_, 1) := by decide +kernel
theorem dk_9_isThere_0 : decode bk_9_isThere 0 = .ok (.iload_n 1, 1) := by decide +kernel
theorem dk_9_isThere_1 : decode bk_9_isThere 1 = .ok (.ifCond .lt 15, 3) := by decide +kernel
theorem dk_9_isThere_4 : decode bk_9_isThere 4 = .ok (.iload_n 1, 1) := by decide +kernel
theorem dk_9_isThere_5 : decode bk_9_isThere 5 = .ok (.aload_n 0, 1) := by decide +kernel
theorem dk_9_isThere_6 : decode bk_9_isThere 6 = .ok (.getfield 15, 3) := by decide +kernel
theorem dk_9_isThere_9 : decode bk_9_isThere 9 = .ok (.if_icmp .ge 7, 3) := by decide +kernel
theorem dk_9_isThere_12 : decode bk_9_isThere 12 = .ok (.iconst 1, 1) := by decide +kernel
theorem dk_9_isThere_13 : decode bk_9_isThere 13 = .ok (.goto 4, 3) := by decide +kernel
theorem dk_9_isThere_16 : decode bk_9_isThere 16 = .ok (.iconst 0, 1) := by decide +kernel
theorem dk_9_isThere_17 : decode bk_9_isThere 17 = .ok (.ireturn, 1) := by decide +kernel
theorem dk_9_add_0 : decode bk_9_add 0 = .ok (.aload_n 0, 1) := by decide +kernel
theorem dk_9_add_1 : decode bk_9_add 1 = .ok (.getfield 15, 3) := by decide +kernel
theorem dk_9_add_4 : decode bk_9_add 4 = .ok (.bipush 8, 2) := by decide +kernel
theorem dk_9_add_6 : decode bk_9_add 6 = .ok (.if_icmp .lt 5, 3) := by decide +kernel
theorem dk_9_add_9 : decode bk_9_add 9 = .ok (.iconst (-1), 1) := by decide +kernel
theorem dk_9_add_10 : decode bk_9_add 10 = .ok (.ireturn, 1) := by decide +kernel
theorem dk_9_add_11 : decode bk_9_add 11 = .ok (.iconst 0, 1) := by decide +kernel
theorem dk_9_add_12 : decode bk_9_add 12 = .ok (.istore_n 1, 1) := by decide +kernel
theorem dk_9_add_13 : decode bk_9_add 13 = .ok (.iload_n 1, 1) := by decide +kernel
theorem dk_9_add_14 : decode bk_9_add 14 = .ok (.bipush 8, 2) := by decide +kernel
theorem dk_9_add_16 : decode bk_9_add 16 = .ok (.if_icmp .ge 19, 3) := by decide +kernel
theorem dk_9_add_19 : decode bk_9_add 19 = .ok (.aload_n 0, 1) := by decide +kernel
theorem dk_9_add_20 : decode bk_9_add 20 = .ok (.aload_n 0, 1) := by decide +kernel
theorem dk_9_add_21 : decode bk_9_add 21 = .ok (.getfield 15, 3) := by decide +kernel
theorem dk_9_add_24 : decode bk_9_add 24 = .ok (.iload_n 1, 1) := by decide +kernel
theorem dk_9_add_25 : decode bk_9_add 25 = .ok (.iconst (-1), 1) := by decide +kernel
theorem dk_9_add_26 : decode bk_9_add 26 = .ok (.invokevirtual 19, 3) := by decide +kernel
theorem dk_9_add_29 : decode bk_9_add 29 = .ok (.iinc 1 1, 3) := by decide +kernel
theorem dk_9_add_32 : decode bk_9_add 32 = .ok (.goto (-19), 3) := by decide +kernel
theorem dk_9_add_35 : decode bk_9_add 35 = .ok (.aload_n 0, 1) := by decide +kernel
theorem dk_9_add_36 : decode bk_9_add 36 = .ok (.dup, 1) := by decide +kernel
theorem dk_9_add_37 : decode bk_9_add 37 = .ok (.getfield 15, 3) := by decide +kernel
theorem dk_9_add_40 : decode bk_9_add 40 = .ok (.dup_x1, 1) := by decide +kernel
theorem dk_9_add_41 : decode bk_9_add 41 = .ok (.iconst 1, 1) := by decide +kernel
theorem dk_9_add_42 : decode bk_9_add 42 = .ok (.iadd, 1) := by decide +kernel
theorem dk_9_add_43 : decode bk_9_add 43 = .ok (.putfield 15, 3) := by decide +kernel
theorem dk_9_add_46 : decode bk_9_add 46 = .ok (.ireturn, 1) := by decide +kernel
theorem dk_9_put_0 : decode bk_9_put 0 = .ok (.aload_n 0, 1) := by decide +kernel
theorem dk_9_put_1 : decode bk_9_put 1 = .ok (.getfield 9, 3) := by decide +kernel
theorem dk_9_put_4 : decode bk_9_put 4 = .ok (.iload_n 1, 1) := by decide +kernel
theorem dk_9_put_5 : decode bk_9_put 5 = .ok (.bipush 8, 2) := by decide +kernel
theorem dk_9_put_7 : decode bk_9_put 7 = .ok (.imul, 1) := by decide +kernel
theorem dk_9_put_8 : decode bk_9_put 8 = .ok (.iload_n 2, 1) := by decide +kernel
theorem dk_9_put_9 : decode bk_9_put 9 = .ok (.iadd, 1) := by decide +kernel
theorem dk_9_put_10 : decode bk_9_put 10 = .ok (.iload_n 3, 1) := by decide +kernel
theorem dk_9_put_11 : decode bk_9_put 11 = .ok (.iastore, 1) := by decide +kernel
theorem dk_9_put_12 : decode bk_9_put 12 = .ok (.return_, 1) := by decide +kernel
theorem dk_9_valueAt_0 : decode bk_9_valueAt 0 = .ok (.aload_n 0, 1) := by decide +kernel
theorem dk_9_valueAt_1 : decode bk_9_valueAt 1 = .ok (.getfield 9, 3) := by decide +kernel
theorem dk_9_valueAt_4 : decode bk_9_valueAt 4 = .ok (.iload_n 1, 1) := by decide +kernel
theorem dk_9_valueAt_5 : decode bk_9_valueAt 5 = .ok (.bipush 8, 2) := by decide +kernel
theorem dk_9_valueAt_7 : decode bk_9_valueAt 7 = .ok (.imul, 1) := by decide +kernel
theorem dk_9_valueAt_8 : decode bk_9_valueAt 8 = .ok (.iload_n 2, 1) := by decide +kernel
theorem dk_9_valueAt_9 : decode bk_9_valueAt 9 = .ok (.iadd, 1) := by decide +kernel
theorem dk_9_valueAt_10 : decode bk_9_valueAt 10 = .ok (.iaload, 1) := by decide +kernel
theorem dk_9_valueAt_11 : decode bk_9_valueAt 11 = .ok (.ireturn, 1) := by decide +kernel
theorem dk_10_init_0 : decode bk_10_init 0 = .ok (.aload_n 0, 1) := by decide +kernel
theorem dk_10_init_1 : decode bk_10_init 1 = .ok (.invokespecial 3, 3) := by decide +kernel
theorem dk_10_init_4 : decode bk_10_init 4 = .ok (.aload_n 0, 1) := by decide +kernel
theorem dk_10_init_5 : decode bk_10_init 5 = .ok (.bipush 24, 2) := by decide +kernel
theorem dk_10_init_7 : decode bk_10_init 7 = .ok (.newarray .int, 2) := by decide +kernel
theorem dk_10_init_9 : decode bk_10_init 9 = .ok (.putfield 9, 3) := by decide +kernel
theorem dk_10_init_12 : decode bk_10_init 12 = .ok (.aload_n 0, 1) := by decide +kernel
theorem dk_10_init_13 : decode bk_10_init 13 = .ok (.bipush 24, 2) := by decide +kernel
theorem dk_10_init_15 : decode bk_10_init 15 = .ok (.newarray .long, 2) := by decide +kernel
theorem dk_10_init_17 : decode bk_10_init 17 = .ok (.putfield 15, 3) := by decide +kernel
theorem dk_10_init_20 : decode bk_10_init 20 = .ok (.aload_n 0, 1) := by decide +kernel
theorem dk_10_init_21 : decode bk_10_init 21 = .ok (.bipush 24, 2) := by decide +kernel
theorem dk_10_init_23 : decode bk_10_init 23 = .ok (.newarray .boolean, 2) := by decide +kernel
theorem dk_10_init_25 : decode bk_10_init 25 = .ok (.putfield 19, 3) := by decide +kernel
theorem dk_10_init_28 : decode bk_10_init 28 = .ok (.aload_n 0, 1) := by decide +kernel
theorem dk_10_init_29 : decode bk_10_init 29 = .ok (.bipush 24, 2) := by decide +kernel
theorem dk_10_init_31 : decode bk_10_init 31 = .ok (.newarray .boolean, 2) := by decide +kernel
theorem dk_10_init_33 : decode bk_10_init 33 = .ok (.putfield 23, 3) := by decide +kernel
theorem dk_10_init_36 : decode bk_10_init 36 = .ok (.aload_n 0, 1) := by decide +kernel
theorem dk_10_init_37 : decode bk_10_init 37 = .ok (.bipush 24, 2) := by decide +kernel
theorem dk_10_init_39 : decode bk_10_init 39 = .ok (.newarray .int, 2) := by decide +kernel
theorem dk_10_init_41 : decode bk_10_init 41 = .ok (.putfield 26, 3) := by decide +kernel
theorem dk_10_init_44 : decode bk_10_init 44 = .ok (.aload_n 0, 1) := by decide +kernel
theorem dk_10_init_45 : decode bk_10_init 45 = .ok (.sipush 192, 3) := by decide +kernel
theorem dk_10_init_48 : decode bk_10_init 48 = .ok (.newarray .int, 2) := by decide +kernel
theorem dk_10_init_50 : decode bk_10_init 50 = .ok (.putfield 29, 3) := by decide +kernel
theorem dk_10_init_53 : decode bk_10_init 53 = .ok (.aload_n 0, 1) := by decide +kernel
theorem dk_10_init_54 : decode bk_10_init 54 = .ok (.sipush 192, 3) := by decide +kernel
theorem dk_10_init_57 : decode bk_10_init 57 = .ok (.newarray .boolean, 2) := by decide +kernel
theorem dk_10_init_59 : decode bk_10_init 59 = .ok (.putfield 32, 3) := by decide +kernel
theorem dk_10_init_62 : decode bk_10_init 62 = .ok (.aload_n 0, 1) := by decide +kernel
theorem dk_10_init_63 : decode bk_10_init 63 = .ok (.sipush 192, 3) := by decide +kernel
theorem dk_10_init_66 : decode bk_10_init 66 = .ok (.newarray .int, 2) := by decide +kernel
theorem dk_10_init_68 : decode bk_10_init 68 = .ok (.putfield 35, 3) := by decide +kernel
theorem dk_10_init_71 : decode bk_10_init 71 = .ok (.return_, 1) := by decide +kernel
theorem dk_10_place_0 : decode bk_10_place 0 = .ok (.iload_n 0, 1) := by decide +kernel
theorem dk_10_place_1 : decode bk_10_place 1 = .ok (.bipush 8, 2) := by decide +kernel
theorem dk_10_place_3 : decode bk_10_place 3 = .ok (.imul, 1) := by decide +kernel
theorem dk_10_place_4 : decode bk_10_place 4 = .ok (.iload_n 1, 1) := by decide +kernel
theorem dk_10_place_5 : decode bk_10_place 5 = .ok (.iadd, 1) := by decide +kernel
theorem dk_10_place_6 : decode bk_10_place 6 = .ok (.ireturn, 1) := by decide +kernel
theorem dk_10_isThere_0 : decode bk_10_isThere 0 = .ok (.iload_n 1, 1) := by decide +kernel
theorem dk_10_isThere_1 : decode bk_10_isThere 1 = .ok (.ifCond .lt 15, 3) := by decide +kernel
theorem dk_10_isThere_4 : decode bk_10_isThere 4 = .ok (.iload_n 1, 1) := by decide +kernel
theorem dk_10_isThere_5 : decode bk_10_isThere 5 = .ok (.aload_n 0, 1) := by decide +kernel
theorem dk_10_isThere_6 : decode bk_10_isThere 6 = .ok (.getfield 38, 3) := by decide +kernel
theorem dk_10_isThere_9 : decode bk_10_isThere 9 = .ok (.if_icmp .ge 7, 3) := by decide +kernel
theorem dk_10_isThere_12 : decode bk_10_isThere 12 = .ok (.iconst 1, 1) := by decide +kernel
theorem dk_10_isThere_13 : decode bk_10_isThere 13 = .ok (.goto 4, 3) := by decide +kernel
theorem dk_10_isThere_16 : decode bk_10_isThere 16 = .ok (.iconst 0, 1) := by decide +kernel
theorem dk_10_isThere_17 : decode bk_10_isThere 17 = .ok (.ireturn, 1) := by decide +kernel
theorem dk_10_add_0 : decode bk_10_add 0 = .ok (.aload_n 0, 1) := by decide +kernel
theorem dk_10_add_1 : decode bk_10_add 1 = .ok (.getfield 38, 3) := by decide +kernel
theorem dk_10_add_4 : decode bk_10_add 4 = .ok (.bipush 24, 2) := by decide +kernel
theorem dk_10_add_6 : decode bk_10_add 6 = .ok (.if_icmp .lt 5, 3) := by decide +kernel
theorem dk_10_add_9 : decode bk_10_add 9 = .ok (.iconst (-1), 1) := by decide +kernel
theorem dk_10_add_10 : decode bk_10_add 10 = .ok (.ireturn, 1) := by decide +kernel
theorem dk_10_add_11 : decode bk_10_add 11 = .ok (.aload_n 0, 1) := by decide +kernel
theorem dk_10_add_12 : decode bk_10_add 12 = .ok (.getfield 9, 3) := by decide +kernel
theorem dk_10_add_15 : decode bk_10_add 15 = .ok (.aload_n 0, 1) := by decide +kernel
theorem dk_10_add_16 : decode bk_10_add 16 = .ok (.getfield 38, 3) := by decide +kernel
theorem dk_10_add_19 : decode bk_10_add 19 = .ok (.iload_n 1, 1) := by decide +kernel
theorem dk_10_add_20 : decode bk_10_add 20 = .ok (.iastore, 1) := by decide +kernel
theorem dk_10_add_21 : decode bk_10_add 21 = .ok (.aload_n 0, 1) := by decide +kernel
theorem dk_10_add_22 : decode bk_10_add 22 = .ok (.getfield 15, 3) := by decide +kernel
theorem dk_10_add_25 : decode bk_10_add 25 = .ok (.aload_n 0, 1) := by decide +kernel
theorem dk_10_add_26 : decode bk_10_add 26 = .ok (.getfield 38, 3) := by decide +kernel
theorem dk_10_add_29 : decode bk_10_add 29 = .ok (.invokestatic 42, 3) := by decide +kernel
theorem dk_10_add_32 : decode bk_10_add 32 = .ok (.lastore, 1) := by decide +kernel
theorem dk_10_add_33 : decode bk_10_add 33 = .ok (.aload_n 0, 1) := by decide +kernel
theorem dk_10_add_34 : decode bk_10_add 34 = .ok (.dup, 1) := by decide +kernel
theorem dk_10_add_35 : decode bk_10_add 35 = .ok (.getfield 38, 3) := by decide +kernel
theorem dk_10_add_38 : decode bk_10_add 38 = .ok (.dup_x1, 1) := by decide +kernel
theorem dk_10_add_39 : decode bk_10_add 39 = .ok (.iconst 1, 1) := by decide +kernel
theorem dk_10_add_40 : decode bk_10_add 40 = .ok (.iadd, 1) := by decide +kernel
theorem dk_10_add_41 : decode bk_10_add 41 = .ok (.putfield 38, 3) := by decide +kernel
theorem dk_10_add_44 : decode bk_10_add 44 = .ok (.ireturn, 1) := by decide +kernel
theorem dk_10_conditionAt_0 : decode bk_10_conditionAt 0 = .ok (.aload_n 0, 1) := by decide +kernel
theorem dk_10_conditionAt_1 : decode bk_10_conditionAt 1 = .ok (.getfield 29, 3) := by decide +kernel
theorem dk_10_conditionAt_4 : decode bk_10_conditionAt 4 = .ok (.iload_n 1, 1) := by decide +kernel
theorem dk_10_conditionAt_5 : decode bk_10_conditionAt 5 = .ok (.iload_n 2, 1) := by decide +kernel
theorem dk_10_conditionAt_6 : decode bk_10_conditionAt 6 = .ok (.invokestatic 48, 3) := by decide +kernel
theorem dk_10_conditionAt_9 : decode bk_10_conditionAt 9 = .ok (.iaload, 1) := by decide +kernel
theorem dk_10_conditionAt_10 : decode bk_10_conditionAt 10 = .ok (.ireturn, 1) := by decide +kernel
