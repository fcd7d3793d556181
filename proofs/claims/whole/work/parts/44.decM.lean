theorem dk_1_change_0 : decode bk_1_change 0 = .ok (.iload_n 1, 1) := by decide +kernel
theorem dk_1_change_1 : decode bk_1_change 1 = .ok (.aload_n 0, 1) := by decide +kernel
theorem dk_1_change_2 : decode bk_1_change 2 = .ok (.getfield 195, 3) := by decide +kernel
theorem dk_1_change_5 : decode bk_1_change 5 = .ok (.invokestatic 102, 3) := by decide +kernel
theorem dk_1_change_8 : decode bk_1_change 8 = .ok (.ifCond .eq 32, 3) := by decide +kernel
theorem dk_1_change_11 : decode bk_1_change 11 = .ok (.iload_n 2, 1) := by decide +kernel
theorem dk_1_change_12 : decode bk_1_change 12 = .ok (.aload_n 0, 1) := by decide +kernel
theorem dk_1_change_13 : decode bk_1_change 13 = .ok (.getfield 99, 3) := by decide +kernel
theorem dk_1_change_16 : decode bk_1_change 16 = .ok (.invokestatic 102, 3) := by decide +kernel
theorem dk_1_change_19 : decode bk_1_change 19 = .ok (.ifCond .eq 21, 3) := by decide +kernel
theorem dk_1_change_22 : decode bk_1_change 22 = .ok (.iload_n 3, 1) := by decide +kernel
theorem dk_1_change_23 : decode bk_1_change 23 = .ok (.sipush 255, 3) := by decide +kernel
theorem dk_1_change_26 : decode bk_1_change 26 = .ok (.iand, 1) := by decide +kernel
theorem dk_1_change_27 : decode bk_1_change 27 = .ok (.ifCond .eq 13, 3) := by decide +kernel
theorem dk_1_change_30 : decode bk_1_change 30 = .ok (.aload_n 0, 1) := by decide +kernel
theorem dk_1_change_31 : decode bk_1_change 31 = .ok (.getfield 74, 3) := by decide +kernel
theorem dk_1_change_34 : decode bk_1_change 34 = .ok (.iload_n 1, 1) := by decide +kernel
theorem dk_1_change_35 : decode bk_1_change 35 = .ok (.iaload, 1) := by decide +kernel
theorem dk_1_change_36 : decode bk_1_change 36 = .ok (.iconst 2, 1) := by decide +kernel
theorem dk_1_change_37 : decode bk_1_change 37 = .ok (.if_icmp .ne 5, 3) := by decide +kernel
theorem dk_1_change_40 : decode bk_1_change 40 = .ok (.iconst 0, 1) := by decide +kernel
theorem dk_1_change_41 : decode bk_1_change 41 = .ok (.ireturn, 1) := by decide +kernel
theorem dk_1_change_42 : decode bk_1_change 42 = .ok (.aload_n 0, 1) := by decide +kernel
theorem dk_1_change_43 : decode bk_1_change 43 = .ok (.getfield 77, 3) := by decide +kernel
theorem dk_1_change_46 : decode bk_1_change 46 = .ok (.iconst 2, 1) := by decide +kernel
theorem dk_1_change_47 : decode bk_1_change 47 = .ok (.iload_n 1, 1) := by decide +kernel
theorem dk_1_change_48 : decode bk_1_change 48 = .ok (.imul, 1) := by decide +kernel
theorem dk_1_change_49 : decode bk_1_change 49 = .ok (.aload_n 0, 1) := by decide +kernel
theorem dk_1_change_50 : decode bk_1_change 50 = .ok (.getfield 74, 3) := by decide +kernel
theorem dk_1_change_53 : decode bk_1_change 53 = .ok (.iload_n 1, 1) := by decide +kernel
theorem dk_1_change_54 : decode bk_1_change 54 = .ok (.iaload, 1) := by decide +kernel
theorem dk_1_change_55 : decode bk_1_change 55 = .ok (.iadd, 1) := by decide +kernel
theorem dk_1_change_56 : decode bk_1_change 56 = .ok (.iload_n 2, 1) := by decide +kernel
theorem dk_1_change_57 : decode bk_1_change 57 = .ok (.iastore, 1) := by decide +kernel
theorem dk_1_change_58 : decode bk_1_change 58 = .ok (.aload_n 0, 1) := by decide +kernel
theorem dk_1_change_59 : decode bk_1_change 59 = .ok (.getfield 80, 3) := by decide +kernel
theorem dk_1_change_62 : decode bk_1_change 62 = .ok (.iconst 2, 1) := by decide +kernel
theorem dk_1_change_63 : decode bk_1_change 63 = .ok (.iload_n 1, 1) := by decide +kernel
theorem dk_1_change_64 : decode bk_1_change 64 = .ok (.imul, 1) := by decide +kernel
theorem dk_1_change_65 : decode bk_1_change 65 = .ok (.aload_n 0, 1) := by decide +kernel
theorem dk_1_change_66 : decode bk_1_change 66 = .ok (.getfield 74, 3) := by decide +kernel
theorem dk_1_change_69 : decode bk_1_change 69 = .ok (.iload_n 1, 1) := by decide +kernel
theorem dk_1_change_70 : decode bk_1_change 70 = .ok (.iaload, 1) := by decide +kernel
theorem dk_1_change_71 : decode bk_1_change 71 = .ok (.iadd, 1) := by decide +kernel
theorem dk_1_change_72 : decode bk_1_change 72 = .ok (.iload_n 3, 1) := by decide +kernel
theorem dk_1_change_73 : decode bk_1_change 73 = .ok (.sipush 255, 3) := by decide +kernel
theorem dk_1_change_76 : decode bk_1_change 76 = .ok (.iand, 1) := by decide +kernel
theorem dk_1_change_77 : decode bk_1_change 77 = .ok (.iastore, 1) := by decide +kernel
theorem dk_1_change_78 : decode bk_1_change 78 = .ok (.aload_n 0, 1) := by decide +kernel
theorem dk_1_change_79 : decode bk_1_change 79 = .ok (.getfield 74, 3) := by decide +kernel
theorem dk_1_change_82 : decode bk_1_change 82 = .ok (.iload_n 1, 1) := by decide +kernel
theorem dk_1_change_83 : decode bk_1_change 83 = .ok (.dup2, 1) := by decide +kernel
theorem dk_1_change_84 : decode bk_1_change 84 = .ok (.iaload, 1) := by decide +kernel
theorem dk_1_change_85 : decode bk_1_change 85 = .ok (.iconst 1, 1) := by decide +kernel
theorem dk_1_change_86 : decode bk_1_change 86 = .ok (.iadd, 1) := by decide +kernel
theorem dk_1_change_87 : decode bk_1_change 87 = .ok (.iastore, 1) := by decide +kernel
theorem dk_1_change_88 : decode bk_1_change 88 = .ok (.iconst 1, 1) := by decide +kernel
theorem dk_1_change_89 : decode bk_1_change 89 = .ok (.ireturn, 1) := by decide +kernel
theorem dk_1_readBy_0 : decode bk_1_readBy 0 = .ok (.iconst 0, 1) := by decide +kernel
theorem dk_1_readBy_1 : decode bk_1_readBy 1 = .ok (.istore_n 2, 1) := by decide +kernel
theorem dk_1_readBy_2 : decode bk_1_readBy 2 = .ok (.bipush 6, 2) := by decide +kernel
theorem dk_1_readBy_4 : decode bk_1_readBy 4 = .ok (.iload_n 1, 1) := by decide +kernel
theorem dk_1_readBy_5 : decode bk_1_readBy 5 = .ok (.imul, 1) := by decide +kernel
theorem dk_1_readBy_6 : decode bk_1_readBy 6 = .ok (.istore_n 3, 1) := by decide +kernel
theorem dk_1_readBy_7 : decode bk_1_readBy 7 = .ok (.iload_n 3, 1) := by decide +kernel
theorem dk_1_readBy_8 : decode bk_1_readBy 8 = .ok (.bipush 6, 2) := by decide +kernel
theorem dk_1_readBy_10 : decode bk_1_readBy 10 = .ok (.iload_n 1, 1) := by decide +kernel
theorem dk_1_readBy_11 : decode bk_1_readBy 11 = .ok (.imul, 1) := by decide +kernel
theorem dk_1_readBy_12 : decode bk_1_readBy 12 = .ok (.aload_n 0, 1) := by decide +kernel
theorem dk_1_readBy_13 : decode bk_1_readBy 13 = .ok (.getfield 28, 3) := by decide +kernel
theorem dk_1_readBy_16 : decode bk_1_readBy 16 = .ok (.iload_n 1, 1) := by decide +kernel
theorem dk_1_readBy_17 : decode bk_1_readBy 17 = .ok (.iaload, 1) := by decide +kernel
theorem dk_1_readBy_18 : decode bk_1_readBy 18 = .ok (.iadd, 1) := by decide +kernel
theorem dk_1_readBy_19 : decode bk_1_readBy 19 = .ok (.if_icmp .ge 51, 3) := by decide +kernel
theorem dk_1_readBy_22 : decode bk_1_readBy 22 = .ok (.aload_n 0, 1) := by decide +kernel
theorem dk_1_readBy_23 : decode bk_1_readBy 23 = .ok (.getfield 37, 3) := by decide +kernel
theorem dk_1_readBy_26 : decode bk_1_readBy 26 = .ok (.iload_n 3, 1) := by decide +kernel
theorem dk_1_readBy_27 : decode bk_1_readBy 27 = .ok (.baload, 1) := by decide +kernel
theorem dk_1_readBy_28 : decode bk_1_readBy 28 = .ok (.ifCond .eq 7, 3) := by decide +kernel
theorem dk_1_readBy_31 : decode bk_1_readBy 31 = .ok (.iconst (-1), 1) := by decide +kernel
theorem dk_1_readBy_32 : decode bk_1_readBy 32 = .ok (.goto 13, 3) := by decide +kernel
theorem dk_1_readBy_35 : decode bk_1_readBy 35 = .ok (.aload_n 0, 1) := by decide +kernel
theorem dk_1_readBy_36 : decode bk_1_readBy 36 = .ok (.aload_n 0, 1) := by decide +kernel
theorem dk_1_readBy_37 : decode bk_1_readBy 37 = .ok (.getfield 31, 3) := by decide +kernel
theorem dk_1_readBy_40 : decode bk_1_readBy 40 = .ok (.iload_n 3, 1) := by decide +kernel
theorem dk_1_readBy_41 : decode bk_1_readBy 41 = .ok (.iaload, 1) := by decide +kernel
theorem dk_1_readBy_42 : decode bk_1_readBy 42 = .ok (.invokevirtual 106, 3) := by decide +kernel
theorem dk_1_readBy_45 : decode bk_1_readBy 45 = .ok (.istore 4, 2) := by decide +kernel
theorem dk_1_readBy_47 : decode bk_1_readBy 47 = .ok (.iload_n 2, 1) := by decide +kernel
theorem dk_1_readBy_48 : decode bk_1_readBy 48 = .ok (.iload 4, 2) := by decide +kernel
theorem dk_1_readBy_50 : decode bk_1_readBy 50 = .ok (.iconst (-1), 1) := by decide +kernel
theorem dk_1_readBy_51 : decode bk_1_readBy 51 = .ok (.if_icmp .ne 7, 3) := by decide +kernel
theorem dk_1_readBy_54 : decode bk_1_readBy 54 = .ok (.iconst 0, 1) := by decide +kernel
theorem dk_1_readBy_55 : decode bk_1_readBy 55 = .ok (.goto 7, 3) := by decide +kernel
theorem dk_1_readBy_58 : decode bk_1_readBy 58 = .ok (.iconst 1, 1) := by decide +kernel
theorem dk_1_readBy_59 : decode bk_1_readBy 59 = .ok (.iload 4, 2) := by decide +kernel
theorem dk_1_readBy_61 : decode bk_1_readBy 61 = .ok (.ishl, 1) := by decide +kernel
theorem dk_1_readBy_62 : decode bk_1_readBy 62 = .ok (.ior, 1) := by decide +kernel
theorem dk_1_readBy_63 : decode bk_1_readBy 63 = .ok (.istore_n 2, 1) := by decide +kernel
theorem dk_1_readBy_64 : decode bk_1_readBy 64 = .ok (.iinc 3 1, 3) := by decide +kernel
theorem dk_1_readBy_67 : decode bk_1_readBy 67 = .ok (.goto (-60), 3) := by decide +kernel
theorem dk_1_readBy_70 : decode bk_1_readBy 70 = .ok (.iload_n 2, 1) := by decide +kernel
theorem dk_1_readBy_71 : decode bk_1_readBy 71 = .ok (.ireturn, 1) := by decide +kernel
theorem dk_1_readAlone_0 : decode bk_1_readAlone 0 = .ok (.aload_n 0, 1) := by decide +kernel
theorem dk_1_readAlone_1 : decode bk_1_readAlone 1 = .ok (.getfield 62, 3) := by decide +kernel
theorem dk_1_readAlone_4 : decode bk_1_readAlone 4 = .ok (.iload_n 1, 1) := by decide +kernel
theorem dk_1_readAlone_5 : decode bk_1_readAlone 5 = .ok (.iaload, 1) := by decide +kernel
theorem dk_1_readAlone_6 : decode bk_1_readAlone 6 = .ok (.iconst (-1), 1) := by decide +kernel
theorem dk_1_readAlone_7 : decode bk_1_readAlone 7 = .ok (.if_icmp .ne 7, 3) := by decide +kernel
theorem dk_1_readAlone_10 : decode bk_1_readAlone 10 = .ok (.iconst 0, 1) := by decide +kernel
theorem dk_1_readAlone_11 : decode bk_1_readAlone 11 = .ok (.goto 13, 3) := by decide +kernel
theorem dk_1_readAlone_14 : decode bk_1_readAlone 14 = .ok (.aload_n 0, 1) := by decide +kernel
theorem dk_1_readAlone_15 : decode bk_1_readAlone 15 = .ok (.aload_n 0, 1) := by decide +kernel
theorem dk_1_readAlone_16 : decode bk_1_readAlone 16 = .ok (.getfield 62, 3) := by decide +kernel
theorem dk_1_readAlone_19 : decode bk_1_readAlone 19 = .ok (.iload_n 1, 1) := by decide +kernel
theorem dk_1_readAlone_20 : decode bk_1_readAlone 20 = .ok (.iaload, 1) := by decide +kernel
theorem dk_1_readAlone_21 : decode bk_1_readAlone 21 = .ok (.invokevirtual 198, 3) := by decide +kernel
theorem dk_1_readAlone_24 : decode bk_1_readAlone 24 = .ok (.istore_n 2, 1) := by decide +kernel
theorem dk_1_readAlone_25 : decode bk_1_readAlone 25 = .ok (.iconst 0, 1) := by decide +kernel
theorem dk_1_readAlone_26 : decode bk_1_readAlone 26 = .ok (.istore_n 3, 1) := by decide +kernel
theorem dk_1_readAlone_27 : decode bk_1_readAlone 27 = .ok (.iload_n 3, 1) := by decide +kernel
theorem dk_1_readAlone_28 : decode bk_1_readAlone 28 = .ok (.aload_n 0, 1) := by decide +kernel
theorem dk_1_readAlone_29 : decode bk_1_readAlone 29 = .ok (.getfield 119, 3) := by decide +kernel
theorem dk_1_readAlone_32 : decode bk_1_readAlone 32 = .ok (.if_icmp .ge 61, 3) := by decide +kernel
theorem dk_1_readAlone_35 : decode bk_1_readAlone 35 = .ok (.bipush 8, 2) := by decide +kernel
theorem dk_1_readAlone_37 : decode bk_1_readAlone 37 = .ok (.iload_n 3, 1) := by decide +kernel
theorem dk_1_readAlone_38 : decode bk_1_readAlone 38 = .ok (.imul, 1) := by decide +kernel
theorem dk_1_readAlone_39 : decode bk_1_readAlone 39 = .ok (.istore 4, 2) := by decide +kernel
theorem dk_1_readAlone_41 : decode bk_1_readAlone 41 = .ok (.iload 4, 2) := by decide +kernel
theorem dk_1_readAlone_43 : decode bk_1_readAlone 43 = .ok (.bipush 8, 2) := by decide +kernel
theorem dk_1_readAlone_45 : decode bk_1_readAlone 45 = .ok (.iload_n 3, 1) := by decide +kernel
theorem dk_1_readAlone_46 : decode bk_1_readAlone 46 = .ok (.imul, 1) := by decide +kernel
theorem dk_1_readAlone_47 : decode bk_1_readAlone 47 = .ok (.aload_n 0, 1) := by decide +kernel
theorem dk_1_readAlone_48 : decode bk_1_readAlone 48 = .ok (.getfield 44, 3) := by decide +kernel
theorem dk_1_readAlone_51 : decode bk_1_readAlone 51 = .ok (.iload_n 3, 1) := by decide +kernel
theorem dk_1_readAlone_52 : decode bk_1_readAlone 52 = .ok (.iaload, 1) := by decide +kernel
theorem dk_1_readAlone_53 : decode bk_1_readAlone 53 = .ok (.iadd, 1) := by decide +kernel
theorem dk_1_readAlone_54 : decode bk_1_readAlone 54 = .ok (.if_icmp .ge 33, 3) := by decide +kernel
theorem dk_1_readAlone_57 : decode bk_1_readAlone 57 = .ok (.aload_n 0, 1) := by decide +kernel
theorem dk_1_readAlone_58 : decode bk_1_readAlone 58 = .ok (.getfield 41, 3) := by decide +kernel
theorem dk_1_readAlone_61 : decode bk_1_readAlone 61 = .ok (.iload_n 3, 1) := by decide +kernel
theorem dk_1_readAlone_62 : decode bk_1_readAlone 62 = .ok (.iaload, 1) := by decide +kernel
theorem dk_1_readAlone_63 : decode bk_1_readAlone 63 = .ok (.iload_n 1, 1) := by decide +kernel
theorem dk_1_readAlone_64 : decode bk_1_readAlone 64 = .ok (.if_icmp .ne 23, 3) := by decide +kernel
theorem dk_1_readAlone_67 : decode bk_1_readAlone 67 = .ok (.iload_n 2, 1) := by decide +kernel
theorem dk_1_readAlone_68 : decode bk_1_readAlone 68 = .ok (.aload_n 0, 1) := by decide +kernel
theorem dk_1_readAlone_69 : decode bk_1_readAlone 69 = .ok (.aload_n 0, 1) := by decide +kernel
theorem dk_1_readAlone_70 : decode bk_1_readAlone 70 = .ok (.getfield 47, 3) := by decide +kernel
theorem dk_1_readAlone_73 : decode bk_1_readAlone 73 = .ok (.iload 4, 2) := by decide +kernel
theorem dk_1_readAlone_75 : decode bk_1_readAlone 75 = .ok (.iaload, 1) := by decide +kernel
theorem dk_1_readAlone_76 : decode bk_1_readAlone 76 = .ok (.invokevirtual 198, 3) := by decide +kernel
theorem dk_1_readAlone_79 : decode bk_1_readAlone 79 = .ok (.ior, 1) := by decide +kernel
theorem dk_1_readAlone_80 : decode bk_1_readAlone 80 = .ok (.istore_n 2, 1) := by decide +kernel
theorem dk_1_readAlone_81 : decode bk_1_readAlone 81 = .ok (.iinc 4 1, 3) := by decide +kernel
theorem dk_1_readAlone_84 : decode bk_1_readAlone 84 = .ok (.goto (-43), 3) := by decide +kernel
theorem dk_1_readAlone_87 : decode bk_1_readAlone 87 = .ok (.iinc 3 1, 3) := by decide +kernel
theorem dk_1_readAlone_90 : decode bk_1_readAlone 90 = .ok (.goto (-63), 3) := by decide +kernel
theorem dk_1_readAlone_93 : decode bk_1_readAlone 93 = .ok (.iload_n 2, 1) := by decide +kernel
theorem dk_1_readAlone_94 : decode bk_1_readAlone 94 = .ok (.ireturn, 1) := by decide +kernel
theorem dk_1_led_0 : decode bk_1_led 0 = .ok (.iconst 1, 1) := by decide +kernel
theorem dk_1_led_1 : decode bk_1_led 1 = .ok (.iload_n 1, 1) := by decide +kernel
theorem dk_1_led_2 : decode bk_1_led 2 = .ok (.ishl, 1) := by decide +kernel
theorem dk_1_led_3 : decode bk_1_led 3 = .ok (.istore_n 2, 1) := by decide +kernel
theorem dk_1_led_4 : decode bk_1_led 4 = .ok (.iconst 0, 1) := by decide +kernel
theorem dk_1_led_5 : decode bk_1_led 5 = .ok (.istore_n 3, 1) := by decide +kernel
theorem dk_1_led_6 : decode bk_1_led 6 = .ok (.iload_n 2, 1) := by decide +kernel
theorem dk_1_led_7 : decode bk_1_led 7 = .ok (.iload_n 3, 1) := by decide +kernel
theorem dk_1_led_8 : decode bk_1_led 8 = .ok (.if_icmp .eq 57, 3) := by decide +kernel
theorem dk_1_led_11 : decode bk_1_led 11 = .ok (.iload_n 2, 1) := by decide +kernel
theorem dk_1_led_12 : decode bk_1_led 12 = .ok (.istore_n 3, 1) := by decide +kernel
theorem dk_1_led_13 : decode bk_1_led 13 = .ok (.iconst 0, 1) := by decide +kernel
theorem dk_1_led_14 : decode bk_1_led 14 = .ok (.istore 4, 2) := by decide +kernel
theorem dk_1_led_16 : decode bk_1_led 16 = .ok (.iload 4, 2) := by decide +kernel
theorem dk_1_led_18 : decode bk_1_led 18 = .ok (.aload_n 0, 1) := by decide +kernel
theorem dk_1_led_19 : decode bk_1_led 19 = .ok (.getfield 195, 3) := by decide +kernel
theorem dk_1_led_22 : decode bk_1_led 22 = .ok (.if_icmp .ge 40, 3) := by decide +kernel
theorem dk_1_led_25 : decode bk_1_led 25 = .ok (.iload_n 2, 1) := by decide +kernel
theorem dk_1_led_26 : decode bk_1_led 26 = .ok (.iload_n 2, 1) := by decide +kernel
theorem dk_1_led_27 : decode bk_1_led 27 = .ok (.aload_n 0, 1) := by decide +kernel
theorem dk_1_led_28 : decode bk_1_led 28 = .ok (.getfield 68, 3) := by decide +kernel
theorem dk_1_led_31 : decode bk_1_led 31 = .ok (.iload 4, 2) := by decide +kernel
theorem dk_1_led_33 : decode bk_1_led 33 = .ok (.iaload, 1) := by decide +kernel
theorem dk_1_led_34 : decode bk_1_led 34 = .ok (.ishr, 1) := by decide +kernel
theorem dk_1_led_35 : decode bk_1_led 35 = .ok (.iconst 1, 1) := by decide +kernel
theorem dk_1_led_36 : decode bk_1_led 36 = .ok (.iand, 1) := by decide +kernel
theorem dk_1_led_37 : decode bk_1_led 37 = .ok (.iconst 1, 1) := by decide +kernel
theorem dk_1_led_38 : decode bk_1_led 38 = .ok (.if_icmp .ne 15, 3) := by decide +kernel
theorem dk_1_led_41 : decode bk_1_led 41 = .ok (.iconst 1, 1) := by decide +kernel
theorem dk_1_led_42 : decode bk_1_led 42 = .ok (.aload_n 0, 1) := by decide +kernel
theorem dk_1_led_43 : decode bk_1_led 43 = .ok (.getfield 71, 3) := by decide +kernel
theorem dk_1_led_46 : decode bk_1_led 46 = .ok (.iload 4, 2) := by decide +kernel
theorem dk_1_led_48 : decode bk_1_led 48 = .ok (.iaload, 1) := by decide +kernel
theorem dk_1_led_49 : decode bk_1_led 49 = .ok (.ishl, 1) := by decide +kernel
theorem dk_1_led_50 : decode bk_1_led 50 = .ok (.goto 4, 3) := by decide +kernel
theorem dk_1_led_53 : decode bk_1_led 53 = .ok (.iconst 0, 1) := by decide +kernel
theorem dk_1_led_54 : decode bk_1_led 54 = .ok (.ior, 1) := by decide +kernel
theorem dk_1_led_55 : decode bk_1_led 55 = .ok (.istore_n 2, 1) := by decide +kernel
theorem dk_1_led_56 : decode bk_1_led 56 = .ok (.iinc 4 1, 3) := by decide +kernel
theorem dk_1_led_59 : decode bk_1_led 59 = .ok (.goto (-43), 3) := by decide +kernel
theorem dk_1_led_62 : decode bk_1_led 62 = .ok (.goto (-56), 3) := by decide +kernel
theorem dk_1_led_65 : decode bk_1_led 65 = .ok (.iload_n 2, 1) := by decide +kernel
theorem dk_1_led_66 : decode bk_1_led 66 = .ok (.ireturn, 1) := by decide +kernel
theorem dk_1_readAll_0 : decode bk_1_readAll 0 = .ok (.aload_n 0, 1) := by decide +kernel
theorem dk_1_readAll_1 : decode bk_1_readAll 1 = .ok (.iload_n 1, 1) := by decide +kernel
theorem dk_1_readAll_2 : decode bk_1_readAll 2 = .ok (.invokevirtual 201, 3) := by decide +kernel
theorem dk_1_readAll_5 : decode bk_1_readAll 5 = .ok (.istore_n 2, 1) := by decide +kernel
theorem dk_1_readAll_6 : decode bk_1_readAll 6 = .ok (.iconst 0, 1) := by decide +kernel
theorem dk_1_readAll_7 : decode bk_1_readAll 7 = .ok (.istore_n 3, 1) := by decide +kernel
theorem dk_1_readAll_8 : decode bk_1_readAll 8 = .ok (.iconst 0, 1) := by decide +kernel
theorem dk_1_readAll_9 : decode bk_1_readAll 9 = .ok (.istore 4, 2) := by decide +kernel
theorem dk_1_readAll_11 : decode bk_1_readAll 11 = .ok (.iload 4, 2) := by decide +kernel
theorem dk_1_readAll_13 : decode bk_1_readAll 13 = .ok (.aload_n 0, 1) := by decide +kernel
theorem dk_1_readAll_14 : decode bk_1_readAll 14 = .ok (.getfield 138, 3) := by decide +kernel
theorem dk_1_readAll_17 : decode bk_1_readAll 17 = .ok (.if_icmp .ge 32, 3) := by decide +kernel
theorem dk_1_readAll_20 : decode bk_1_readAll 20 = .ok (.iload_n 3, 1) := by decide +kernel
theorem dk_1_readAll_21 : decode bk_1_readAll 21 = .ok (.iload_n 2, 1) := by decide +kernel
theorem dk_1_readAll_22 : decode bk_1_readAll 22 = .ok (.iload 4, 2) := by decide +kernel
theorem dk_1_readAll_24 : decode bk_1_readAll 24 = .ok (.ishr, 1) := by decide +kernel
theorem dk_1_readAll_25 : decode bk_1_readAll 25 = .ok (.iconst 1, 1) := by decide +kernel
theorem dk_1_readAll_26 : decode bk_1_readAll 26 = .ok (.iand, 1) := by decide +kernel
theorem dk_1_readAll_27 : decode bk_1_readAll 27 = .ok (.iconst 1, 1) := by decide +kernel
theorem dk_1_readAll_28 : decode bk_1_readAll 28 = .ok (.if_icmp .ne 12, 3) := by decide +kernel
theorem dk_1_readAll_31 : decode bk_1_readAll 31 = .ok (.aload_n 0, 1) := by decide +kernel
theorem dk_1_readAll_32 : decode bk_1_readAll 32 = .ok (.iload 4, 2) := by decide +kernel
theorem dk_1_readAll_34 : decode bk_1_readAll 34 = .ok (.invokevirtual 204, 3) := by decide +kernel
theorem dk_1_readAll_37 : decode bk_1_readAll 37 = .ok (.goto 4, 3) := by decide +kernel
theorem dk_1_readAll_40 : decode bk_1_readAll 40 = .ok (.iconst 0, 1) := by decide +kernel
theorem dk_1_readAll_41 : decode bk_1_readAll 41 = .ok (.ior, 1) := by decide +kernel
theorem dk_1_readAll_42 : decode bk_1_readAll 42 = .ok (.istore_n 3, 1) := by decide +kernel
theorem dk_1_readAll_43 : decode bk_1_readAll 43 = .ok (.iinc 4 1, 3) := by decide +kernel
theorem dk_1_readAll_46 : decode bk_1_readAll 46 = .ok (.goto (-35), 3) := by decide +kernel
theorem dk_1_readAll_49 : decode bk_1_readAll 49 = .ok (.iload_n 3, 1) := by decide +kernel
theorem dk_1_readAll_50 : decode bk_1_readAll 50 = .ok (.ireturn, 1) := by decide +kernel
theorem dk_1_reads_0 : decode bk_1_reads 0 = .ok (.iload_n 1, 1) := by decide +kernel
theorem dk_1_reads_1 : decode bk_1_reads 1 = .ok (.aload_n 0, 1) := by decide +kernel
theorem dk_1_reads_2 : decode bk_1_reads 2 = .ok (.getfield 138, 3) := by decide +kernel
theorem dk_1_reads_5 : decode bk_1_reads 5 = .ok (.invokestatic 102, 3) := by decide +kernel
theorem dk_1_reads_8 : decode bk_1_reads 8 = .ok (.ifCond .eq 11, 3) := by decide +kernel
theorem dk_1_reads_11 : decode bk_1_reads 11 = .ok (.aload_n 0, 1) := by decide +kernel
theorem dk_1_reads_12 : decode bk_1_reads 12 = .ok (.iload_n 1, 1) := by decide +kernel
theorem dk_1_reads_13 : decode bk_1_reads 13 = .ok (.invokevirtual 207, 3) := by decide +kernel
theorem dk_1_reads_16 : decode bk_1_reads 16 = .ok (.goto 4, 3) := by decide +kernel
theorem dk_1_reads_19 : decode bk_1_reads 19 = .ok (.iconst 0, 1) := by decide +kernel
theorem dk_1_reads_20 : decode bk_1_reads 20 = .ok (.ireturn, 1) := by decide +kernel
theorem dk_1_trimmed_0 : decode bk_1_trimmed 0 = .ok (.aload_n 0, 1) := by decide +kernel
theorem dk_1_trimmed_1 : decode bk_1_trimmed 1 = .ok (.iload_n 1, 1) := by decide +kernel
theorem dk_1_trimmed_2 : decode bk_1_trimmed 2 = .ok (.invokevirtual 207, 3) := by decide +kernel
theorem dk_1_trimmed_5 : decode bk_1_trimmed 5 = .ok (.istore_n 2, 1) := by decide +kernel
theorem dk_1_trimmed_6 : decode bk_1_trimmed 6 = .ok (.iconst 0, 1) := by decide +kernel
theorem dk_1_trimmed_7 : decode bk_1_trimmed 7 = .ok (.istore_n 3, 1) := by decide +kernel
theorem dk_1_trimmed_8 : decode bk_1_trimmed 8 = .ok (.iload_n 3, 1) := by decide +kernel
theorem dk_1_trimmed_9 : decode bk_1_trimmed 9 = .ok (.aload_n 0, 1) := by decide +kernel
theorem dk_1_trimmed_10 : decode bk_1_trimmed 10 = .ok (.getfield 99, 3) := by decide +kernel
theorem dk_1_trimmed_13 : decode bk_1_trimmed 13 = .ok (.if_icmp .ge 28, 3) := by decide +kernel
theorem dk_1_trimmed_16 : decode bk_1_trimmed 16 = .ok (.iload_n 2, 1) := by decide +kernel
theorem dk_1_trimmed_17 : decode bk_1_trimmed 17 = .ok (.iload_n 3, 1) := by decide +kernel
theorem dk_1_trimmed_18 : decode bk_1_trimmed 18 = .ok (.ishr, 1) := by decide +kernel
theorem dk_1_trimmed_19 : decode bk_1_trimmed 19 = .ok (.iconst 1, 1) := by decide +kernel
theorem dk_1_trimmed_20 : decode bk_1_trimmed 20 = .ok (.iand, 1) := by decide +kernel
theorem dk_1_trimmed_21 : decode bk_1_trimmed 21 = .ok (.ifCond .ne 14, 3) := by decide +kernel
theorem dk_1_trimmed_24 : decode bk_1_trimmed 24 = .ok (.aload_n 0, 1) := by decide +kernel
theorem dk_1_trimmed_25 : decode bk_1_trimmed 25 = .ok (.iload_n 3, 1) := by decide +kernel
theorem dk_1_trimmed_26 : decode bk_1_trimmed 26 = .ok (.aload_n 0, 1) := by decide +kernel
theorem dk_1_trimmed_27 : decode bk_1_trimmed 27 = .ok (.getfield 16, 3) := by decide +kernel
theorem dk_1_trimmed_30 : decode bk_1_trimmed 30 = .ok (.iload_n 3, 1) := by decide +kernel
theorem dk_1_trimmed_31 : decode bk_1_trimmed 31 = .ok (.iaload, 1) := by decide +kernel
theorem dk_1_trimmed_32 : decode bk_1_trimmed 32 = .ok (.invokevirtual 154, 3) := by decide +kernel
theorem dk_1_trimmed_35 : decode bk_1_trimmed 35 = .ok (.iinc 3 1, 3) := by decide +kernel
theorem dk_1_trimmed_38 : decode bk_1_trimmed 38 = .ok (.goto (-30), 3) := by decide +kernel
theorem dk_1_trimmed_41 : decode bk_1_trimmed 41 = .ok (.aload_n 0, 1) := by decide +kernel
theorem dk_1_trimmed_42 : decode bk_1_trimmed 42 = .ok (.invokevirtual 157, 3) := by decide +kernel
theorem dk_1_trimmed_45 : decode bk_1_trimmed 45 = .ok (.ireturn, 1) := by decide +kernel
theorem dk_1_trim_0 : decode bk_1_trim 0 = .ok (.iload_n 1, 1) := by decide +kernel
theorem dk_1_trim_1 : decode bk_1_trim 1 = .ok (.aload_n 0, 1) := by decide +kernel
theorem dk_1_trim_2 : decode bk_1_trim 2 = .ok (.getfield 138, 3) := by decide +kernel
theorem dk_1_trim_5 : decode bk_1_trim 5 = .ok (.invokestatic 102, 3) := by decide +kernel
theorem dk_1_trim_8 : decode bk_1_trim 8 = .ok (.ifCond .eq 14, 3) := by decide +kernel
theorem dk_1_trim_11 : decode bk_1_trim 11 = .ok (.iload_n 2, 1) := by decide +kernel
theorem dk_1_trim_12 : decode bk_1_trim 12 = .ok (.aload_n 0, 1) := by decide +kernel
theorem dk_1_trim_13 : decode bk_1_trim 13 = .ok (.getfield 113, 3) := by decide +kernel
theorem dk_1_trim_16 : decode bk_1_trim 16 = .ok (.invokestatic 102, 3) := by decide +kernel
theorem dk_1_trim_19 : decode bk_1_trim 19 = .ok (.ifCond .ne 5, 3) := by decide +kernel
theorem dk_1_trim_22 : decode bk_1_trim 22 = .ok (.iconst (-1), 1) := by decide +kernel
theorem dk_1_trim_23 : decode bk_1_trim 23 = .ok (.ireturn, 1) := by decide +kernel
theorem dk_1_trim_24 : decode bk_1_trim 24 = .ok (.aload_n 0, 1) := by decide +kernel
theorem dk_1_trim_25 : decode bk_1_trim 25 = .ok (.iload_n 2, 1) := by decide +kernel
theorem dk_1_trim_26 : decode bk_1_trim 26 = .ok (.bipush 60, 2) := by decide +kernel
theorem dk_1_trim_28 : decode bk_1_trim 28 = .ok (.invokevirtual 150, 3) := by decide +kernel
theorem dk_1_trim_31 : decode bk_1_trim 31 = .ok (.aload_n 0, 1) := by decide +kernel
theorem dk_1_trim_32 : decode bk_1_trim 32 = .ok (.iload_n 1, 1) := by decide +kernel
theorem dk_1_trim_33 : decode bk_1_trim 33 = .ok (.invokevirtual 210, 3) := by decide +kernel
theorem dk_1_trim_36 : decode bk_1_trim 36 = .ok (.ireturn, 1) := by decide +kernel
theorem dk_1_pairOf_0 : decode bk_1_pairOf 0 = .ok (.aload_n 0, 1) := by decide +kernel
theorem dk_1_pairOf_1 : decode bk_1_pairOf 1 = .ok (.iload_n 1, 1) := by decide +kernel
theorem dk_1_pairOf_2 : decode bk_1_pairOf 2 = .ok (.invokevirtual 210, 3) := by decide +kernel
theorem dk_1_pairOf_5 : decode bk_1_pairOf 5 = .ok (.istore_n 2, 1) := by decide +kernel
theorem dk_1_pairOf_6 : decode bk_1_pairOf 6 = .ok (.iload_n 2, 1) := by decide +kernel
theorem dk_1_pairOf_7 : decode bk_1_pairOf 7 = .ok (.iconst (-1), 1) := by decide +kernel
theorem dk_1_pairOf_8 : decode bk_1_pairOf 8 = .ok (.if_icmp .ne 5, 3) := by decide +kernel
theorem dk_1_pairOf_11 : decode bk_1_pairOf 11 = .ok (.iconst (-1), 1) := by decide +kernel
theorem dk_1_pairOf_12 : decode bk_1_pairOf 12 = .ok (.ireturn, 1) := by decide +kernel
theorem dk_1_pairOf_13 : decode bk_1_pairOf 13 = .ok (.iconst 0, 1) := by decide +kernel
theorem dk_1_pairOf_14 : decode bk_1_pairOf 14 = .ok (.istore_n 3, 1) := by decide +kernel
theorem dk_1_pairOf_15 : decode bk_1_pairOf 15 = .ok (.iload_n 3, 1) := by decide +kernel
theorem dk_1_pairOf_16 : decode bk_1_pairOf 16 = .ok (.aload_n 0, 1) := by decide +kernel
theorem dk_1_pairOf_17 : decode bk_1_pairOf 17 = .ok (.getfield 213, 3) := by decide +kernel
theorem dk_1_pairOf_20 : decode bk_1_pairOf 20 = .ok (.if_icmp .ge 31, 3) := by decide +kernel
theorem dk_1_pairOf_23 : decode bk_1_pairOf 23 = .ok (.aload_n 0, 1) := by decide +kernel
theorem dk_1_pairOf_24 : decode bk_1_pairOf 24 = .ok (.getfield 87, 3) := by decide +kernel
theorem dk_1_pairOf_27 : decode bk_1_pairOf 27 = .ok (.iload_n 3, 1) := by decide +kernel
theorem dk_1_pairOf_28 : decode bk_1_pairOf 28 = .ok (.iaload, 1) := by decide +kernel
theorem dk_1_pairOf_29 : decode bk_1_pairOf 29 = .ok (.iload_n 1, 1) := by decide +kernel
theorem dk_1_pairOf_30 : decode bk_1_pairOf 30 = .ok (.if_icmp .ne 15, 3) := by decide +kernel
theorem dk_1_pairOf_33 : decode bk_1_pairOf 33 = .ok (.aload_n 0, 1) := by decide +kernel
theorem dk_1_pairOf_34 : decode bk_1_pairOf 34 = .ok (.getfield 90, 3) := by decide +kernel
theorem dk_1_pairOf_37 : decode bk_1_pairOf 37 = .ok (.iload_n 3, 1) := by decide +kernel
theorem dk_1_pairOf_38 : decode bk_1_pairOf 38 = .ok (.iaload, 1) := by decide +kernel
theorem dk_1_pairOf_39 : decode bk_1_pairOf 39 = .ok (.iload_n 2, 1) := by decide +kernel
theorem dk_1_pairOf_40 : decode bk_1_pairOf 40 = .ok (.if_icmp .ne 5, 3) := by decide +kernel
theorem dk_1_pairOf_43 : decode bk_1_pairOf 43 = .ok (.iload_n 3, 1) := by decide +kernel
theorem dk_1_pairOf_44 : decode bk_1_pairOf 44 = .ok (.ireturn, 1) := by decide +kernel
theorem dk_1_pairOf_45 : decode bk_1_pairOf 45 = .ok (.iinc 3 1, 3) := by decide +kernel
theorem dk_1_pairOf_48 : decode bk_1_pairOf 48 = .ok (.goto (-33), 3) := by decide +kernel
theorem dk_1_pairOf_51 : decode bk_1_pairOf 51 = .ok (.aload_n 0, 1) := by decide +kernel
theorem dk_1_pairOf_52 : decode bk_1_pairOf 52 = .ok (.getfield 213, 3) := by decide +kernel
theorem dk_1_pairOf_55 : decode bk_1_pairOf 55 = .ok (.bipush 60, 2) := by decide +kernel
theorem dk_1_pairOf_57 : decode bk_1_pairOf 57 = .ok (.if_icmp .ne 5, 3) := by decide +kernel
theorem dk_1_pairOf_60 : decode bk_1_pairOf 60 = .ok (.iconst (-1), 1) := by decide +kernel
theorem dk_1_pairOf_61 : decode bk_1_pairOf 61 = .ok (.ireturn, 1) := by decide +kernel
theorem dk_1_pairOf_62 : decode bk_1_pairOf 62 = .ok (.aload_n 0, 1) := by decide +kernel
theorem dk_1_pairOf_63 : decode bk_1_pairOf 63 = .ok (.getfield 87, 3) := by decide +kernel
theorem dk_1_pairOf_66 : decode bk_1_pairOf 66 = .ok (.aload_n 0, 1) := by decide +kernel
theorem dk_1_pairOf_67 : decode bk_1_pairOf 67 = .ok (.getfield 213, 3) := by decide +kernel
theorem dk_1_pairOf_70 : decode bk_1_pairOf 70 = .ok (.iload_n 1, 1) := by decide +kernel
theorem dk_1_pairOf_71 : decode bk_1_pairOf 71 = .ok (.iastore, 1) := by decide +kernel
theorem dk_1_pairOf_72 : decode bk_1_pairOf 72 = .ok (.aload_n 0, 1) := by decide +kernel
theorem dk_1_pairOf_73 : decode bk_1_pairOf 73 = .ok (.getfield 90, 3) := by decide +kernel
theorem dk_1_pairOf_76 : decode bk_1_pairOf 76 = .ok (.aload_n 0, 1) := by decide +kernel
theorem dk_1_pairOf_77 : decode bk_1_pairOf 77 = .ok (.getfield 213, 3) := by decide +kernel
theorem dk_1_pairOf_80 : decode bk_1_pairOf 80 = .ok (.iload_n 2, 1) := by decide +kernel
theorem dk_1_pairOf_81 : decode bk_1_pairOf 81 = .ok (.iastore, 1) := by decide +kernel
theorem dk_1_pairOf_82 : decode bk_1_pairOf 82 = .ok (.aload_n 0, 1) := by decide +kernel
theorem dk_1_pairOf_83 : decode bk_1_pairOf 83 = .ok (.getfield 93, 3) := by decide +kernel
theorem dk_1_pairOf_86 : decode bk_1_pairOf 86 = .ok (.aload_n 0, 1) := by decide +kernel
theorem dk_1_pairOf_87 : decode bk_1_pairOf 87 = .ok (.getfield 213, 3) := by decide +kernel
theorem dk_1_pairOf_90 : decode bk_1_pairOf 90 = .ok (.aload_n 0, 1) := by decide +kernel
theorem dk_1_pairOf_91 : decode bk_1_pairOf 91 = .ok (.getfield 62, 3) := by decide +kernel
theorem dk_1_pairOf_94 : decode bk_1_pairOf 94 = .ok (.iload_n 1, 1) := by decide +kernel
theorem dk_1_pairOf_95 : decode bk_1_pairOf 95 = .ok (.iaload, 1) := by decide +kernel
theorem dk_1_pairOf_96 : decode bk_1_pairOf 96 = .ok (.iconst (-1), 1) := by decide +kernel
theorem dk_1_pairOf_97 : decode bk_1_pairOf 97 = .ok (.if_icmp .eq 21, 3) := by decide +kernel
theorem dk_1_pairOf_100 : decode bk_1_pairOf 100 = .ok (.aload_n 0, 1) := by decide +kernel
theorem dk_1_pairOf_101 : decode bk_1_pairOf 101 = .ok (.aload_n 0, 1) := by decide +kernel
theorem dk_1_pairOf_102 : decode bk_1_pairOf 102 = .ok (.getfield 62, 3) := by decide +kernel
theorem dk_1_pairOf_105 : decode bk_1_pairOf 105 = .ok (.iload_n 1, 1) := by decide +kernel
theorem dk_1_pairOf_106 : decode bk_1_pairOf 106 = .ok (.iaload, 1) := by decide +kernel
theorem dk_1_pairOf_107 : decode bk_1_pairOf 107 = .ok (.iload_n 2, 1) := by decide +kernel
theorem dk_1_pairOf_108 : decode bk_1_pairOf 108 = .ok (.invokevirtual 129, 3) := by decide +kernel
theorem dk_1_pairOf_111 : decode bk_1_pairOf 111 = .ok (.ifCond .ne 7, 3) := by decide +kernel
theorem dk_1_pairOf_114 : decode bk_1_pairOf 114 = .ok (.iconst 1, 1) := by decide +kernel
theorem dk_1_pairOf_115 : decode bk_1_pairOf 115 = .ok (.goto 4, 3) := by decide +kernel
theorem dk_1_pairOf_118 : decode bk_1_pairOf 118 = .ok (.iconst 0, 1) := by decide +kernel
theorem dk_1_pairOf_119 : decode bk_1_pairOf 119 = .ok (.iastore, 1) := by decide +kernel
theorem dk_1_pairOf_120 : decode bk_1_pairOf 120 = .ok (.iconst 0, 1) := by decide +kernel
theorem dk_1_pairOf_121 : decode bk_1_pairOf 121 = .ok (.istore_n 3, 1) := by decide +kernel
theorem dk_1_pairOf_122 : decode bk_1_pairOf 122 = .ok (.iload_n 3, 1) := by decide +kernel
theorem dk_1_pairOf_123 : decode bk_1_pairOf 123 = .ok (.aload_n 0, 1) := by decide +kernel
theorem dk_1_pairOf_124 : decode bk_1_pairOf 124 = .ok (.getfield 213, 3) := by decide +kernel
theorem dk_1_pairOf_127 : decode bk_1_pairOf 127 = .ok (.if_icmp .gt 39, 3) := by decide +kernel
theorem dk_1_pairOf_130 : decode bk_1_pairOf 130 = .ok (.aload_n 0, 1) := by decide +kernel
theorem dk_1_pairOf_131 : decode bk_1_pairOf 131 = .ok (.getfield 96, 3) := by decide +kernel
theorem dk_1_pairOf_134 : decode bk_1_pairOf 134 = .ok (.bipush 60, 2) := by decide +kernel
theorem dk_1_pairOf_136 : decode bk_1_pairOf 136 = .ok (.iload_n 3, 1) := by decide +kernel
theorem dk_1_pairOf_137 : decode bk_1_pairOf 137 = .ok (.imul, 1) := by decide +kernel
theorem dk_1_pairOf_138 : decode bk_1_pairOf 138 = .ok (.aload_n 0, 1) := by decide +kernel
theorem dk_1_pairOf_139 : decode bk_1_pairOf 139 = .ok (.getfield 213, 3) := by decide +kernel
theorem dk_1_pairOf_142 : decode bk_1_pairOf 142 = .ok (.iadd, 1) := by decide +kernel
theorem dk_1_pairOf_143 : decode bk_1_pairOf 143 = .ok (.iconst 0, 1) := by decide +kernel
theorem dk_1_pairOf_144 : decode bk_1_pairOf 144 = .ok (.bastore, 1) := by decide +kernel
theorem dk_1_pairOf_145 : decode bk_1_pairOf 145 = .ok (.aload_n 0, 1) := by decide +kernel
theorem dk_1_pairOf_146 : decode bk_1_pairOf 146 = .ok (.getfield 96, 3) := by decide +kernel
theorem dk_1_pairOf_149 : decode bk_1_pairOf 149 = .ok (.bipush 60, 2) := by decide +kernel
theorem dk_1_pairOf_151 : decode bk_1_pairOf 151 = .ok (.aload_n 0, 1) := by decide +kernel
theorem dk_1_pairOf_152 : decode bk_1_pairOf 152 = .ok (.getfield 213, 3) := by decide +kernel
theorem dk_1_pairOf_155 : decode bk_1_pairOf 155 = .ok (.imul, 1) := by decide +kernel
theorem dk_1_pairOf_156 : decode bk_1_pairOf 156 = .ok (.iload_n 3, 1) := by decide +kernel
theorem dk_1_pairOf_157 : decode bk_1_pairOf 157 = .ok (.iadd, 1) := by decide +kernel
theorem dk_1_pairOf_158 : decode bk_1_pairOf 158 = .ok (.iconst 0, 1) := by decide +kernel
theorem dk_1_pairOf_159 : decode bk_1_pairOf 159 = .ok (.bastore, 1) := by decide +kernel
theorem dk_1_pairOf_160 : decode bk_1_pairOf 160 = .ok (.iinc 3 1, 3) := by decide +kernel
theorem dk_1_pairOf_163 : decode bk_1_pairOf 163 = .ok (.goto (-41), 3) := by decide +kernel
theorem dk_1_pairOf_166 : decode bk_1_pairOf 166 = .ok (.aload_n 0, 1) := by decide +kernel
theorem dk_1_pairOf_167 : decode bk_1_pairOf 167 = .ok (.dup, 1) := by decide +kernel
theorem dk_1_pairOf_168 : decode bk_1_pairOf 168 = .ok (.getfield 213, 3) := by decide +kernel
theorem dk_1_pairOf_171 : decode bk_1_pairOf 171 = .ok (.iconst 1, 1) := by decide +kernel
theorem dk_1_pairOf_172 : decode bk_1_pairOf 172 = .ok (.iadd, 1) := by decide +kernel
theorem dk_1_pairOf_173 : decode bk_1_pairOf 173 = .ok (.putfield 213, 3) := by decide +kernel
theorem dk_1_pairOf_176 : decode bk_1_pairOf 176 = .ok (.aload_n 0, 1) := by decide +kernel
theorem dk_1_pairOf_177 : decode bk_1_pairOf 177 = .ok (.getfield 213, 3) := by decide +kernel
theorem dk_1_pairOf_180 : decode bk_1_pairOf 180 = .ok (.iconst 1, 1) := by decide +kernel
theorem dk_1_pairOf_181 : decode bk_1_pairOf 181 = .ok (.isub, 1) := by decide +kernel
theorem dk_1_pairOf_182 : decode bk_1_pairOf 182 = .ok (.ireturn, 1) := by decide +kernel
