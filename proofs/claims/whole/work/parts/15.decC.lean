theorem dk_10_mayNest_0 : decode bk_10_mayNest 0 = .ok (.iload_n 2, 1) := by decide +kernel
theorem dk_10_mayNest_1 : decode bk_10_mayNest 1 = .ok (.ifCond .lt 45, 3) := by decide +kernel
theorem dk_10_mayNest_4 : decode bk_10_mayNest 4 = .ok (.iload_n 2, 1) := by decide +kernel
theorem dk_10_mayNest_5 : decode bk_10_mayNest 5 = .ok (.iload_n 1, 1) := by decide +kernel
theorem dk_10_mayNest_6 : decode bk_10_mayNest 6 = .ok (.if_icmp .ge 40, 3) := by decide +kernel
theorem dk_10_mayNest_9 : decode bk_10_mayNest 9 = .ok (.aload_n 0, 1) := by decide +kernel
theorem dk_10_mayNest_10 : decode bk_10_mayNest 10 = .ok (.getfield 9, 3) := by decide +kernel
theorem dk_10_mayNest_13 : decode bk_10_mayNest 13 = .ok (.iload_n 2, 1) := by decide +kernel
theorem dk_10_mayNest_14 : decode bk_10_mayNest 14 = .ok (.iaload, 1) := by decide +kernel
theorem dk_10_mayNest_15 : decode bk_10_mayNest 15 = .ok (.aload_n 0, 1) := by decide +kernel
theorem dk_10_mayNest_16 : decode bk_10_mayNest 16 = .ok (.getfield 9, 3) := by decide +kernel
theorem dk_10_mayNest_19 : decode bk_10_mayNest 19 = .ok (.iload_n 1, 1) := by decide +kernel
theorem dk_10_mayNest_20 : decode bk_10_mayNest 20 = .ok (.iaload, 1) := by decide +kernel
theorem dk_10_mayNest_21 : decode bk_10_mayNest 21 = .ok (.if_icmp .ne 25, 3) := by decide +kernel
theorem dk_10_mayNest_24 : decode bk_10_mayNest 24 = .ok (.aload_n 0, 1) := by decide +kernel
theorem dk_10_mayNest_25 : decode bk_10_mayNest 25 = .ok (.getfield 23, 3) := by decide +kernel
theorem dk_10_mayNest_28 : decode bk_10_mayNest 28 = .ok (.iload_n 2, 1) := by decide +kernel
theorem dk_10_mayNest_29 : decode bk_10_mayNest 29 = .ok (.baload, 1) := by decide +kernel
theorem dk_10_mayNest_30 : decode bk_10_mayNest 30 = .ok (.ifCond .ne 16, 3) := by decide +kernel
theorem dk_10_mayNest_33 : decode bk_10_mayNest 33 = .ok (.aload_n 0, 1) := by decide +kernel
theorem dk_10_mayNest_34 : decode bk_10_mayNest 34 = .ok (.getfield 19, 3) := by decide +kernel
theorem dk_10_mayNest_37 : decode bk_10_mayNest 37 = .ok (.iload_n 1, 1) := by decide +kernel
theorem dk_10_mayNest_38 : decode bk_10_mayNest 38 = .ok (.baload, 1) := by decide +kernel
theorem dk_10_mayNest_39 : decode bk_10_mayNest 39 = .ok (.ifCond .ne 7, 3) := by decide +kernel
theorem dk_10_mayNest_42 : decode bk_10_mayNest 42 = .ok (.iconst 1, 1) := by decide +kernel
theorem dk_10_mayNest_43 : decode bk_10_mayNest 43 = .ok (.goto 4, 3) := by decide +kernel
theorem dk_10_mayNest_46 : decode bk_10_mayNest 46 = .ok (.iconst 0, 1) := by decide +kernel
theorem dk_10_mayNest_47 : decode bk_10_mayNest 47 = .ok (.ireturn, 1) := by decide +kernel
theorem dk_10_addBranch_0 : decode bk_10_addBranch 0 = .ok (.aload_n 0, 1) := by decide +kernel
theorem dk_10_addBranch_1 : decode bk_10_addBranch 1 = .ok (.getfield 26, 3) := by decide +kernel
theorem dk_10_addBranch_4 : decode bk_10_addBranch 4 = .ok (.iload_n 1, 1) := by decide +kernel
theorem dk_10_addBranch_5 : decode bk_10_addBranch 5 = .ok (.iaload, 1) := by decide +kernel
theorem dk_10_addBranch_6 : decode bk_10_addBranch 6 = .ok (.bipush 8, 2) := by decide +kernel
theorem dk_10_addBranch_8 : decode bk_10_addBranch 8 = .ok (.if_icmp .lt 5, 3) := by decide +kernel
theorem dk_10_addBranch_11 : decode bk_10_addBranch 11 = .ok (.iconst 0, 1) := by decide +kernel
theorem dk_10_addBranch_12 : decode bk_10_addBranch 12 = .ok (.ireturn, 1) := by decide +kernel
theorem dk_10_addBranch_13 : decode bk_10_addBranch 13 = .ok (.iload_n 1, 1) := by decide +kernel
theorem dk_10_addBranch_14 : decode bk_10_addBranch 14 = .ok (.aload_n 0, 1) := by decide +kernel
theorem dk_10_addBranch_15 : decode bk_10_addBranch 15 = .ok (.getfield 26, 3) := by decide +kernel
theorem dk_10_addBranch_18 : decode bk_10_addBranch 18 = .ok (.iload_n 1, 1) := by decide +kernel
theorem dk_10_addBranch_19 : decode bk_10_addBranch 19 = .ok (.iaload, 1) := by decide +kernel
theorem dk_10_addBranch_20 : decode bk_10_addBranch 20 = .ok (.invokestatic 48, 3) := by decide +kernel
theorem dk_10_addBranch_23 : decode bk_10_addBranch 23 = .ok (.istore 5, 2) := by decide +kernel
theorem dk_10_addBranch_25 : decode bk_10_addBranch 25 = .ok (.aload_n 0, 1) := by decide +kernel
theorem dk_10_addBranch_26 : decode bk_10_addBranch 26 = .ok (.getfield 29, 3) := by decide +kernel
theorem dk_10_addBranch_29 : decode bk_10_addBranch 29 = .ok (.iload 5, 2) := by decide +kernel
theorem dk_10_addBranch_31 : decode bk_10_addBranch 31 = .ok (.iload_n 2, 1) := by decide +kernel
theorem dk_10_addBranch_32 : decode bk_10_addBranch 32 = .ok (.iastore, 1) := by decide +kernel
theorem dk_10_addBranch_33 : decode bk_10_addBranch 33 = .ok (.aload_n 0, 1) := by decide +kernel
theorem dk_10_addBranch_34 : decode bk_10_addBranch 34 = .ok (.getfield 32, 3) := by decide +kernel
theorem dk_10_addBranch_37 : decode bk_10_addBranch 37 = .ok (.iload 5, 2) := by decide +kernel
theorem dk_10_addBranch_39 : decode bk_10_addBranch 39 = .ok (.iload_n 3, 1) := by decide +kernel
theorem dk_10_addBranch_40 : decode bk_10_addBranch 40 = .ok (.bastore, 1) := by decide +kernel
theorem dk_10_addBranch_41 : decode bk_10_addBranch 41 = .ok (.aload_n 0, 1) := by decide +kernel
theorem dk_10_addBranch_42 : decode bk_10_addBranch 42 = .ok (.getfield 35, 3) := by decide +kernel
theorem dk_10_addBranch_45 : decode bk_10_addBranch 45 = .ok (.iload 5, 2) := by decide +kernel
theorem dk_10_addBranch_47 : decode bk_10_addBranch 47 = .ok (.iload 4, 2) := by decide +kernel
theorem dk_10_addBranch_49 : decode bk_10_addBranch 49 = .ok (.iastore, 1) := by decide +kernel
theorem dk_10_addBranch_50 : decode bk_10_addBranch 50 = .ok (.aload_n 0, 1) := by decide +kernel
theorem dk_10_addBranch_51 : decode bk_10_addBranch 51 = .ok (.getfield 26, 3) := by decide +kernel
theorem dk_10_addBranch_54 : decode bk_10_addBranch 54 = .ok (.iload_n 1, 1) := by decide +kernel
theorem dk_10_addBranch_55 : decode bk_10_addBranch 55 = .ok (.dup2, 1) := by decide +kernel
theorem dk_10_addBranch_56 : decode bk_10_addBranch 56 = .ok (.iaload, 1) := by decide +kernel
theorem dk_10_addBranch_57 : decode bk_10_addBranch 57 = .ok (.iconst 1, 1) := by decide +kernel
theorem dk_10_addBranch_58 : decode bk_10_addBranch 58 = .ok (.iadd, 1) := by decide +kernel
theorem dk_10_addBranch_59 : decode bk_10_addBranch 59 = .ok (.iastore, 1) := by decide +kernel
theorem dk_10_addBranch_60 : decode bk_10_addBranch 60 = .ok (.iload_n 3, 1) := by decide +kernel
theorem dk_10_addBranch_61 : decode bk_10_addBranch 61 = .ok (.ifCond .eq 18, 3) := by decide +kernel
theorem dk_10_addBranch_64 : decode bk_10_addBranch 64 = .ok (.aload_n 0, 1) := by decide +kernel
theorem dk_10_addBranch_65 : decode bk_10_addBranch 65 = .ok (.getfield 23, 3) := by decide +kernel
theorem dk_10_addBranch_68 : decode bk_10_addBranch 68 = .ok (.iload_n 1, 1) := by decide +kernel
theorem dk_10_addBranch_69 : decode bk_10_addBranch 69 = .ok (.iconst 1, 1) := by decide +kernel
theorem dk_10_addBranch_70 : decode bk_10_addBranch 70 = .ok (.bastore, 1) := by decide +kernel
theorem dk_10_addBranch_71 : decode bk_10_addBranch 71 = .ok (.aload_n 0, 1) := by decide +kernel
theorem dk_10_addBranch_72 : decode bk_10_addBranch 72 = .ok (.getfield 19, 3) := by decide +kernel
theorem dk_10_addBranch_75 : decode bk_10_addBranch 75 = .ok (.iload 4, 2) := by decide +kernel
theorem dk_10_addBranch_77 : decode bk_10_addBranch 77 = .ok (.iconst 1, 1) := by decide +kernel
theorem dk_10_addBranch_78 : decode bk_10_addBranch 78 = .ok (.bastore, 1) := by decide +kernel
theorem dk_10_addBranch_79 : decode bk_10_addBranch 79 = .ok (.iconst 1, 1) := by decide +kernel
theorem dk_10_addBranch_80 : decode bk_10_addBranch 80 = .ok (.ireturn, 1) := by decide +kernel
theorem dk_11_init_0 : decode bk_11_init 0 = .ok (.aload_n 0, 1) := by decide +kernel
theorem dk_11_init_1 : decode bk_11_init 1 = .ok (.invokespecial 3, 3) := by decide +kernel
theorem dk_11_init_4 : decode bk_11_init 4 = .ok (.aload_n 0, 1) := by decide +kernel
theorem dk_11_init_5 : decode bk_11_init 5 = .ok (.bipush 16, 2) := by decide +kernel
theorem dk_11_init_7 : decode bk_11_init 7 = .ok (.newarray .int, 2) := by decide +kernel
theorem dk_11_init_9 : decode bk_11_init 9 = .ok (.putfield 9, 3) := by decide +kernel
theorem dk_11_init_12 : decode bk_11_init 12 = .ok (.aload_n 0, 1) := by decide +kernel
theorem dk_11_init_13 : decode bk_11_init 13 = .ok (.bipush 16, 2) := by decide +kernel
theorem dk_11_init_15 : decode bk_11_init 15 = .ok (.newarray .int, 2) := by decide +kernel
theorem dk_11_init_17 : decode bk_11_init 17 = .ok (.putfield 15, 3) := by decide +kernel
theorem dk_11_init_20 : decode bk_11_init 20 = .ok (.aload_n 0, 1) := by decide +kernel
theorem dk_11_init_21 : decode bk_11_init 21 = .ok (.bipush 16, 2) := by decide +kernel
theorem dk_11_init_23 : decode bk_11_init 23 = .ok (.newarray .int, 2) := by decide +kernel
theorem dk_11_init_25 : decode bk_11_init 25 = .ok (.putfield 18, 3) := by decide +kernel
theorem dk_11_init_28 : decode bk_11_init 28 = .ok (.return_, 1) := by decide +kernel
theorem dk_11_isThere_0 : decode bk_11_isThere 0 = .ok (.iload_n 1, 1) := by decide +kernel
theorem dk_11_isThere_1 : decode bk_11_isThere 1 = .ok (.ifCond .lt 15, 3) := by decide +kernel
theorem dk_11_isThere_4 : decode bk_11_isThere 4 = .ok (.iload_n 1, 1) := by decide +kernel
theorem dk_11_isThere_5 : decode bk_11_isThere 5 = .ok (.aload_n 0, 1) := by decide +kernel
theorem dk_11_isThere_6 : decode bk_11_isThere 6 = .ok (.getfield 21, 3) := by decide +kernel
theorem dk_11_isThere_9 : decode bk_11_isThere 9 = .ok (.if_icmp .ge 7, 3) := by decide +kernel
theorem dk_11_isThere_12 : decode bk_11_isThere 12 = .ok (.iconst 1, 1) := by decide +kernel
theorem dk_11_isThere_13 : decode bk_11_isThere 13 = .ok (.goto 4, 3) := by decide +kernel
theorem dk_11_isThere_16 : decode bk_11_isThere 16 = .ok (.iconst 0, 1) := by decide +kernel
theorem dk_11_isThere_17 : decode bk_11_isThere 17 = .ok (.ireturn, 1) := by decide +kernel
theorem dk_11_add_0 : decode bk_11_add 0 = .ok (.aload_n 0, 1) := by decide +kernel
theorem dk_11_add_1 : decode bk_11_add 1 = .ok (.getfield 21, 3) := by decide +kernel
theorem dk_11_add_4 : decode bk_11_add 4 = .ok (.bipush 16, 2) := by decide +kernel
theorem dk_11_add_6 : decode bk_11_add 6 = .ok (.if_icmp .lt 5, 3) := by decide +kernel
theorem dk_11_add_9 : decode bk_11_add 9 = .ok (.iconst (-1), 1) := by decide +kernel
theorem dk_11_add_10 : decode bk_11_add 10 = .ok (.ireturn, 1) := by decide +kernel
theorem dk_11_add_11 : decode bk_11_add 11 = .ok (.aload_n 0, 1) := by decide +kernel
theorem dk_11_add_12 : decode bk_11_add 12 = .ok (.getfield 9, 3) := by decide +kernel
theorem dk_11_add_15 : decode bk_11_add 15 = .ok (.aload_n 0, 1) := by decide +kernel
theorem dk_11_add_16 : decode bk_11_add 16 = .ok (.getfield 21, 3) := by decide +kernel
theorem dk_11_add_19 : decode bk_11_add 19 = .ok (.iload_n 1, 1) := by decide +kernel
theorem dk_11_add_20 : decode bk_11_add 20 = .ok (.iastore, 1) := by decide +kernel
theorem dk_11_add_21 : decode bk_11_add 21 = .ok (.aload_n 0, 1) := by decide +kernel
theorem dk_11_add_22 : decode bk_11_add 22 = .ok (.getfield 15, 3) := by decide +kernel
theorem dk_11_add_25 : decode bk_11_add 25 = .ok (.aload_n 0, 1) := by decide +kernel
theorem dk_11_add_26 : decode bk_11_add 26 = .ok (.getfield 21, 3) := by decide +kernel
theorem dk_11_add_29 : decode bk_11_add 29 = .ok (.iload_n 2, 1) := by decide +kernel
theorem dk_11_add_30 : decode bk_11_add 30 = .ok (.iastore, 1) := by decide +kernel
theorem dk_11_add_31 : decode bk_11_add 31 = .ok (.aload_n 0, 1) := by decide +kernel
theorem dk_11_add_32 : decode bk_11_add 32 = .ok (.getfield 18, 3) := by decide +kernel
theorem dk_11_add_35 : decode bk_11_add 35 = .ok (.aload_n 0, 1) := by decide +kernel
theorem dk_11_add_36 : decode bk_11_add 36 = .ok (.getfield 21, 3) := by decide +kernel
theorem dk_11_add_39 : decode bk_11_add 39 = .ok (.iload_n 3, 1) := by decide +kernel
theorem dk_11_add_40 : decode bk_11_add 40 = .ok (.iastore, 1) := by decide +kernel
theorem dk_11_add_41 : decode bk_11_add 41 = .ok (.aload_n 0, 1) := by decide +kernel
theorem dk_11_add_42 : decode bk_11_add 42 = .ok (.dup, 1) := by decide +kernel
theorem dk_11_add_43 : decode bk_11_add 43 = .ok (.getfield 21, 3) := by decide +kernel
theorem dk_11_add_46 : decode bk_11_add 46 = .ok (.dup_x1, 1) := by decide +kernel
theorem dk_11_add_47 : decode bk_11_add 47 = .ok (.iconst 1, 1) := by decide +kernel
theorem dk_11_add_48 : decode bk_11_add 48 = .ok (.iadd, 1) := by decide +kernel
theorem dk_11_add_49 : decode bk_11_add 49 = .ok (.putfield 21, 3) := by decide +kernel
theorem dk_11_add_52 : decode bk_11_add 52 = .ok (.ireturn, 1) := by decide +kernel
theorem dk_11_baseOf_0 : decode bk_11_baseOf 0 = .ok (.iload_n 1, 1) := by decide +kernel
theorem dk_11_baseOf_1 : decode bk_11_baseOf 1 = .ok (.istore_n 2, 1) := by decide +kernel
theorem dk_11_baseOf_2 : decode bk_11_baseOf 2 = .ok (.iconst 0, 1) := by decide +kernel
theorem dk_11_baseOf_3 : decode bk_11_baseOf 3 = .ok (.istore_n 3, 1) := by decide +kernel
theorem dk_11_baseOf_4 : decode bk_11_baseOf 4 = .ok (.iload_n 3, 1) := by decide +kernel
theorem dk_11_baseOf_5 : decode bk_11_baseOf 5 = .ok (.bipush 16, 2) := by decide +kernel
theorem dk_11_baseOf_7 : decode bk_11_baseOf 7 = .ok (.if_icmp .ge 38, 3) := by decide +kernel
theorem dk_11_baseOf_10 : decode bk_11_baseOf 10 = .ok (.aload_n 0, 1) := by decide +kernel
theorem dk_11_baseOf_11 : decode bk_11_baseOf 11 = .ok (.iload_n 2, 1) := by decide +kernel
theorem dk_11_baseOf_12 : decode bk_11_baseOf 12 = .ok (.invokevirtual 25, 3) := by decide +kernel
theorem dk_11_baseOf_15 : decode bk_11_baseOf 15 = .ok (.ifCond .ne 5, 3) := by decide +kernel
theorem dk_11_baseOf_18 : decode bk_11_baseOf 18 = .ok (.iconst (-1), 1) := by decide +kernel
theorem dk_11_baseOf_19 : decode bk_11_baseOf 19 = .ok (.ireturn, 1) := by decide +kernel
theorem dk_11_baseOf_20 : decode bk_11_baseOf 20 = .ok (.aload_n 0, 1) := by decide +kernel
theorem dk_11_baseOf_21 : decode bk_11_baseOf 21 = .ok (.getfield 18, 3) := by decide +kernel
theorem dk_11_baseOf_24 : decode bk_11_baseOf 24 = .ok (.iload_n 2, 1) := by decide +kernel
theorem dk_11_baseOf_25 : decode bk_11_baseOf 25 = .ok (.iaload, 1) := by decide +kernel
theorem dk_11_baseOf_26 : decode bk_11_baseOf 26 = .ok (.iconst (-1), 1) := by decide +kernel
theorem dk_11_baseOf_27 : decode bk_11_baseOf 27 = .ok (.if_icmp .ne 5, 3) := by decide +kernel
theorem dk_11_baseOf_30 : decode bk_11_baseOf 30 = .ok (.iload_n 2, 1) := by decide +kernel
theorem dk_11_baseOf_31 : decode bk_11_baseOf 31 = .ok (.ireturn, 1) := by decide +kernel
theorem dk_11_baseOf_32 : decode bk_11_baseOf 32 = .ok (.aload_n 0, 1) := by decide +kernel
theorem dk_11_baseOf_33 : decode bk_11_baseOf 33 = .ok (.getfield 18, 3) := by decide +kernel
theorem dk_11_baseOf_36 : decode bk_11_baseOf 36 = .ok (.iload_n 2, 1) := by decide +kernel
theorem dk_11_baseOf_37 : decode bk_11_baseOf 37 = .ok (.iaload, 1) := by decide +kernel
theorem dk_11_baseOf_38 : decode bk_11_baseOf 38 = .ok (.istore_n 2, 1) := by decide +kernel
theorem dk_11_baseOf_39 : decode bk_11_baseOf 39 = .ok (.iinc 3 1, 3) := by decide +kernel
theorem dk_11_baseOf_42 : decode bk_11_baseOf 42 = .ok (.goto (-38), 3) := by decide +kernel
theorem dk_11_baseOf_45 : decode bk_11_baseOf 45 = .ok (.iconst (-1), 1) := by decide +kernel
theorem dk_11_baseOf_46 : decode bk_11_baseOf 46 = .ok (.ireturn, 1) := by decide +kernel
theorem dk_12_init_0 : decode bk_12_init 0 = .ok (.aload_n 0, 1) := by decide +kernel
theorem dk_12_init_1 : decode bk_12_init 1 = .ok (.invokespecial 3, 3) := by decide +kernel
theorem dk_12_init_4 : decode bk_12_init 4 = .ok (.aload_n 0, 1) := by decide +kernel
theorem dk_12_init_5 : decode bk_12_init 5 = .ok (.bipush 16, 2) := by decide +kernel
theorem dk_12_init_7 : decode bk_12_init 7 = .ok (.newarray .int, 2) := by decide +kernel
theorem dk_12_init_9 : decode bk_12_init 9 = .ok (.putfield 9, 3) := by decide +kernel
theorem dk_12_init_12 : decode bk_12_init 12 = .ok (.aload_n 0, 1) := by decide +kernel
theorem dk_12_init_13 : decode bk_12_init 13 = .ok (.bipush 16, 2) := by decide +kernel
theorem dk_12_init_15 : decode bk_12_init 15 = .ok (.newarray .int, 2) := by decide +kernel
theorem dk_12_init_17 : decode bk_12_init 17 = .ok (.putfield 15, 3) := by decide +kernel
theorem dk_12_init_20 : decode bk_12_init 20 = .ok (.return_, 1) := by decide +kernel
theorem dk_12_isThere_0 : decode bk_12_isThere 0 = .ok (.iload_n 1, 1) := by decide +kernel
theorem dk_12_isThere_1 : decode bk_12_isThere 1 = .ok (.ifCond .lt 15, 3) := by decide +kernel
theorem dk_12_isThere_4 : decode bk_12_isThere 4 = .ok (.iload_n 1, 1) := by decide +kernel
theorem dk_12_isThere_5 : decode bk_12_isThere 5 = .ok (.aload_n 0, 1) := by decide +kernel
theorem dk_12_isThere_6 : decode bk_12_isThere 6 = .ok (.getfield 18, 3) := by decide +kernel
theorem dk_12_isThere_9 : decode bk_12_isThere 9 = .ok (.if_icmp .ge 7, 3) := by decide +kernel
theorem dk_12_isThere_12 : decode bk_12_isThere 12 = .ok (.iconst 1, 1) := by decide +kernel
theorem dk_12_isThere_13 : decode bk_12_isThere 13 = .ok (.goto 4, 3) := by decide +kernel
theorem dk_12_isThere_16 : decode bk_12_isThere 16 = .ok (.iconst 0, 1) := by decide +kernel
theorem dk_12_isThere_17 : decode bk_12_isThere 17 = .ok (.ireturn, 1) := by decide +kernel
theorem dk_12_add_0 : decode bk_12_add 0 = .ok (.aload_n 0, 1) := by decide +kernel
theorem dk_12_add_1 : decode bk_12_add 1 = .ok (.getfield 18, 3) := by decide +kernel
theorem dk_12_add_4 : decode bk_12_add 4 = .ok (.bipush 16, 2) := by decide +kernel
theorem dk_12_add_6 : decode bk_12_add 6 = .ok (.if_icmp .lt 5, 3) := by decide +kernel
theorem dk_12_add_9 : decode bk_12_add 9 = .ok (.iconst (-1), 1) := by decide +kernel
theorem dk_12_add_10 : decode bk_12_add 10 = .ok (.ireturn, 1) := by decide +kernel
theorem dk_12_add_11 : decode bk_12_add 11 = .ok (.aload_n 0, 1) := by decide +kernel
theorem dk_12_add_12 : decode bk_12_add 12 = .ok (.getfield 9, 3) := by decide +kernel
theorem dk_12_add_15 : decode bk_12_add 15 = .ok (.aload_n 0, 1) := by decide +kernel
theorem dk_12_add_16 : decode bk_12_add 16 = .ok (.getfield 18, 3) := by decide +kernel
theorem dk_12_add_19 : decode bk_12_add 19 = .ok (.iconst (-1), 1) := by decide +kernel
theorem dk_12_add_20 : decode bk_12_add 20 = .ok (.iastore, 1) := by decide +kernel
theorem dk_12_add_21 : decode bk_12_add 21 = .ok (.aload_n 0, 1) := by decide +kernel
theorem dk_12_add_22 : decode bk_12_add 22 = .ok (.dup, 1) := by decide +kernel
theorem dk_12_add_23 : decode bk_12_add 23 = .ok (.getfield 18, 3) := by decide +kernel
theorem dk_12_add_26 : decode bk_12_add 26 = .ok (.dup_x1, 1) := by decide +kernel
theorem dk_12_add_27 : decode bk_12_add 27 = .ok (.iconst 1, 1) := by decide +kernel
theorem dk_12_add_28 : decode bk_12_add 28 = .ok (.iadd, 1) := by decide +kernel
theorem dk_12_add_29 : decode bk_12_add 29 = .ok (.putfield 18, 3) := by decide +kernel
theorem dk_12_add_32 : decode bk_12_add 32 = .ok (.ireturn, 1) := by decide +kernel
