theorem dk_0_init_0 : decode bk_0_init 0 = .ok (.aload_n 0, 1) := by decide +kernel
theorem dk_0_init_1 : decode bk_0_init 1 = .ok (.invokespecial 3, 3) := by decide +kernel
theorem dk_0_init_4 : decode bk_0_init 4 = .ok (.aload_n 0, 1) := by decide +kernel
theorem dk_0_init_5 : decode bk_0_init 5 = .ok (.new 9, 3) := by decide +kernel
theorem dk_0_init_8 : decode bk_0_init 8 = .ok (.dup, 1) := by decide +kernel
theorem dk_0_init_9 : decode bk_0_init 9 = .ok (.invokespecial 11, 3) := by decide +kernel
theorem dk_0_init_12 : decode bk_0_init 12 = .ok (.putfield 12, 3) := by decide +kernel
theorem dk_0_init_15 : decode bk_0_init 15 = .ok (.aload_n 0, 1) := by decide +kernel
theorem dk_0_init_16 : decode bk_0_init 16 = .ok (.new 16, 3) := by decide +kernel
theorem dk_0_init_19 : decode bk_0_init 19 = .ok (.dup, 1) := by decide +kernel
theorem dk_0_init_20 : decode bk_0_init 20 = .ok (.invokespecial 18, 3) := by decide +kernel
theorem dk_0_init_23 : decode bk_0_init 23 = .ok (.putfield 19, 3) := by decide +kernel
theorem dk_0_init_26 : decode bk_0_init 26 = .ok (.aload_n 0, 1) := by decide +kernel
theorem dk_0_init_27 : decode bk_0_init 27 = .ok (.new 23, 3) := by decide +kernel
theorem dk_0_init_30 : decode bk_0_init 30 = .ok (.dup, 1) := by decide +kernel
theorem dk_0_init_31 : decode bk_0_init 31 = .ok (.invokespecial 25, 3) := by decide +kernel
theorem dk_0_init_34 : decode bk_0_init 34 = .ok (.putfield 26, 3) := by decide +kernel
theorem dk_0_init_37 : decode bk_0_init 37 = .ok (.aload_n 0, 1) := by decide +kernel
theorem dk_0_init_38 : decode bk_0_init 38 = .ok (.new 30, 3) := by decide +kernel
theorem dk_0_init_41 : decode bk_0_init 41 = .ok (.dup, 1) := by decide +kernel
theorem dk_0_init_42 : decode bk_0_init 42 = .ok (.invokespecial 32, 3) := by decide +kernel
theorem dk_0_init_45 : decode bk_0_init 45 = .ok (.putfield 33, 3) := by decide +kernel
theorem dk_0_init_48 : decode bk_0_init 48 = .ok (.aload_n 0, 1) := by decide +kernel
theorem dk_0_init_49 : decode bk_0_init 49 = .ok (.new 37, 3) := by decide +kernel
theorem dk_0_init_52 : decode bk_0_init 52 = .ok (.dup, 1) := by decide +kernel
theorem dk_0_init_53 : decode bk_0_init 53 = .ok (.invokespecial 39, 3) := by decide +kernel
theorem dk_0_init_56 : decode bk_0_init 56 = .ok (.putfield 40, 3) := by decide +kernel
theorem dk_0_init_59 : decode bk_0_init 59 = .ok (.aload_n 0, 1) := by decide +kernel
theorem dk_0_init_60 : decode bk_0_init 60 = .ok (.new 44, 3) := by decide +kernel
theorem dk_0_init_63 : decode bk_0_init 63 = .ok (.dup, 1) := by decide +kernel
theorem dk_0_init_64 : decode bk_0_init 64 = .ok (.invokespecial 46, 3) := by decide +kernel
theorem dk_0_init_67 : decode bk_0_init 67 = .ok (.putfield 47, 3) := by decide +kernel
theorem dk_0_init_70 : decode bk_0_init 70 = .ok (.aload_n 0, 1) := by decide +kernel
theorem dk_0_init_71 : decode bk_0_init 71 = .ok (.new 51, 3) := by decide +kernel
theorem dk_0_init_74 : decode bk_0_init 74 = .ok (.dup, 1) := by decide +kernel
theorem dk_0_init_75 : decode bk_0_init 75 = .ok (.invokespecial 53, 3) := by decide +kernel
theorem dk_0_init_78 : decode bk_0_init 78 = .ok (.putfield 54, 3) := by decide +kernel
theorem dk_0_init_81 : decode bk_0_init 81 = .ok (.aload_n 0, 1) := by decide +kernel
theorem dk_0_init_82 : decode bk_0_init 82 = .ok (.new 58, 3) := by decide +kernel
theorem dk_0_init_85 : decode bk_0_init 85 = .ok (.dup, 1) := by decide +kernel
theorem dk_0_init_86 : decode bk_0_init 86 = .ok (.invokespecial 60, 3) := by decide +kernel
theorem dk_0_init_89 : decode bk_0_init 89 = .ok (.putfield 61, 3) := by decide +kernel
theorem dk_0_init_92 : decode bk_0_init 92 = .ok (.aload_n 0, 1) := by decide +kernel
theorem dk_0_init_93 : decode bk_0_init 93 = .ok (.invokestatic 65, 3) := by decide +kernel
theorem dk_0_init_96 : decode bk_0_init 96 = .ok (.putfield 71, 3) := by decide +kernel
theorem dk_0_init_99 : decode bk_0_init 99 = .ok (.return_, 1) := by decide +kernel
theorem dk_0_setting_0 : decode bk_0_setting 0 = .ok (.iload_n 1, 1) := by decide +kernel
theorem dk_0_setting_1 : decode bk_0_setting 1 = .ok (.iconst 1, 1) := by decide +kernel
theorem dk_0_setting_2 : decode bk_0_setting 2 = .ok (.if_icmp .lt 18, 3) := by decide +kernel
theorem dk_0_setting_5 : decode bk_0_setting 5 = .ok (.iload_n 1, 1) := by decide +kernel
theorem dk_0_setting_6 : decode bk_0_setting 6 = .ok (.bipush 8, 2) := by decide +kernel
theorem dk_0_setting_8 : decode bk_0_setting 8 = .ok (.if_icmp .gt 12, 3) := by decide +kernel
theorem dk_0_setting_11 : decode bk_0_setting 11 = .ok (.iload_n 2, 1) := by decide +kernel
theorem dk_0_setting_12 : decode bk_0_setting 12 = .ok (.ifCond .lt 8, 3) := by decide +kernel
theorem dk_0_setting_15 : decode bk_0_setting 15 = .ok (.iload_n 2, 1) := by decide +kernel
theorem dk_0_setting_16 : decode bk_0_setting 16 = .ok (.iload_n 1, 1) := by decide +kernel
theorem dk_0_setting_17 : decode bk_0_setting 17 = .ok (.if_icmp .lt 5, 3) := by decide +kernel
theorem dk_0_setting_20 : decode bk_0_setting 20 = .ok (.iconst (-1), 1) := by decide +kernel
theorem dk_0_setting_21 : decode bk_0_setting 21 = .ok (.ireturn, 1) := by decide +kernel
theorem dk_0_setting_22 : decode bk_0_setting 22 = .ok (.aload_n 0, 1) := by decide +kernel
theorem dk_0_setting_23 : decode bk_0_setting 23 = .ok (.getfield 12, 3) := by decide +kernel
theorem dk_0_setting_26 : decode bk_0_setting 26 = .ok (.iload_n 1, 1) := by decide +kernel
theorem dk_0_setting_27 : decode bk_0_setting 27 = .ok (.iload_n 2, 1) := by decide +kernel
theorem dk_0_setting_28 : decode bk_0_setting 28 = .ok (.iconst (-1), 1) := by decide +kernel
theorem dk_0_setting_29 : decode bk_0_setting 29 = .ok (.invokevirtual 75, 3) := by decide +kernel
theorem dk_0_setting_32 : decode bk_0_setting 32 = .ok (.istore_n 3, 1) := by decide +kernel
theorem dk_0_setting_33 : decode bk_0_setting 33 = .ok (.iload_n 3, 1) := by decide +kernel
theorem dk_0_setting_34 : decode bk_0_setting 34 = .ok (.iconst (-1), 1) := by decide +kernel
theorem dk_0_setting_35 : decode bk_0_setting 35 = .ok (.if_icmp .eq 12, 3) := by decide +kernel
theorem dk_0_setting_38 : decode bk_0_setting 38 = .ok (.aload_n 0, 1) := by decide +kernel
theorem dk_0_setting_39 : decode bk_0_setting 39 = .ok (.getfield 26, 3) := by decide +kernel
theorem dk_0_setting_42 : decode bk_0_setting 42 = .ok (.iload_n 3, 1) := by decide +kernel
theorem dk_0_setting_43 : decode bk_0_setting 43 = .ok (.iload_n 2, 1) := by decide +kernel
theorem dk_0_setting_44 : decode bk_0_setting 44 = .ok (.invokevirtual 79, 3) := by decide +kernel
theorem dk_0_setting_47 : decode bk_0_setting 47 = .ok (.iload_n 3, 1) := by decide +kernel
theorem dk_0_setting_48 : decode bk_0_setting 48 = .ok (.ireturn, 1) := by decide +kernel
theorem dk_0_alias_0 : decode bk_0_alias 0 = .ok (.iload_n 1, 1) := by decide +kernel
theorem dk_0_alias_1 : decode bk_0_alias 1 = .ok (.ifCond .lt 9, 3) := by decide +kernel
theorem dk_0_alias_4 : decode bk_0_alias 4 = .ok (.iload_n 1, 1) := by decide +kernel
theorem dk_0_alias_5 : decode bk_0_alias 5 = .ok (.bipush 16, 2) := by decide +kernel
theorem dk_0_alias_7 : decode bk_0_alias 7 = .ok (.if_icmp .lt 5, 3) := by decide +kernel
theorem dk_0_alias_10 : decode bk_0_alias 10 = .ok (.iconst (-1), 1) := by decide +kernel
theorem dk_0_alias_11 : decode bk_0_alias 11 = .ok (.ireturn, 1) := by decide +kernel
theorem dk_0_alias_12 : decode bk_0_alias 12 = .ok (.aload_n 0, 1) := by decide +kernel
theorem dk_0_alias_13 : decode bk_0_alias 13 = .ok (.getfield 12, 3) := by decide +kernel
theorem dk_0_alias_16 : decode bk_0_alias 16 = .ok (.iconst 0, 1) := by decide +kernel
theorem dk_0_alias_17 : decode bk_0_alias 17 = .ok (.iconst 0, 1) := by decide +kernel
theorem dk_0_alias_18 : decode bk_0_alias 18 = .ok (.iload_n 1, 1) := by decide +kernel
theorem dk_0_alias_19 : decode bk_0_alias 19 = .ok (.invokevirtual 75, 3) := by decide +kernel
theorem dk_0_alias_22 : decode bk_0_alias 22 = .ok (.ireturn, 1) := by decide +kernel
theorem dk_0_base_0 : decode bk_0_base 0 = .ok (.aload_n 0, 1) := by decide +kernel
theorem dk_0_base_1 : decode bk_0_base 1 = .ok (.getfield 12, 3) := by decide +kernel
theorem dk_0_base_4 : decode bk_0_base 4 = .ok (.iload_n 1, 1) := by decide +kernel
theorem dk_0_base_5 : decode bk_0_base 5 = .ok (.invokevirtual 83, 3) := by decide +kernel
theorem dk_0_base_8 : decode bk_0_base 8 = .ok (.ireturn, 1) := by decide +kernel
theorem dk_0_platform_0 : decode bk_0_platform 0 = .ok (.aload_n 0, 1) := by decide +kernel
theorem dk_0_platform_1 : decode bk_0_platform 1 = .ok (.getfield 19, 3) := by decide +kernel
theorem dk_0_platform_4 : decode bk_0_platform 4 = .ok (.invokevirtual 87, 3) := by decide +kernel
theorem dk_0_platform_7 : decode bk_0_platform 7 = .ok (.ireturn, 1) := by decide +kernel
theorem dk_0_has_0 : decode bk_0_has 0 = .ok (.aload_n 0, 1) := by decide +kernel
theorem dk_0_has_1 : decode bk_0_has 1 = .ok (.getfield 19, 3) := by decide +kernel
theorem dk_0_has_4 : decode bk_0_has 4 = .ok (.iload_n 1, 1) := by decide +kernel
theorem dk_0_has_5 : decode bk_0_has 5 = .ok (.invokevirtual 90, 3) := by decide +kernel
theorem dk_0_has_8 : decode bk_0_has 8 = .ok (.ifCond .eq 10, 3) := by decide +kernel
theorem dk_0_has_11 : decode bk_0_has 11 = .ok (.iload_n 2, 1) := by decide +kernel
theorem dk_0_has_12 : decode bk_0_has 12 = .ok (.invokestatic 94, 3) := by decide +kernel
theorem dk_0_has_15 : decode bk_0_has 15 = .ok (.ifCond .ne 5, 3) := by decide +kernel
theorem dk_0_has_18 : decode bk_0_has 18 = .ok (.iconst 0, 1) := by decide +kernel
theorem dk_0_has_19 : decode bk_0_has 19 = .ok (.ireturn, 1) := by decide +kernel
theorem dk_0_has_20 : decode bk_0_has 20 = .ok (.iload_n 3, 1) := by decide +kernel
theorem dk_0_has_21 : decode bk_0_has 21 = .ok (.iconst (-1), 1) := by decide +kernel
theorem dk_0_has_22 : decode bk_0_has 22 = .ok (.if_icmp .eq 10, 3) := by decide +kernel
theorem dk_0_has_25 : decode bk_0_has 25 = .ok (.iload_n 3, 1) := by decide +kernel
theorem dk_0_has_26 : decode bk_0_has 26 = .ok (.invokestatic 97, 3) := by decide +kernel
theorem dk_0_has_29 : decode bk_0_has 29 = .ok (.ifCond .eq 14, 3) := by decide +kernel
theorem dk_0_has_32 : decode bk_0_has 32 = .ok (.aload_n 0, 1) := by decide +kernel
theorem dk_0_has_33 : decode bk_0_has 33 = .ok (.getfield 26, 3) := by decide +kernel
theorem dk_0_has_36 : decode bk_0_has 36 = .ok (.iload_n 1, 1) := by decide +kernel
theorem dk_0_has_37 : decode bk_0_has 37 = .ok (.invokevirtual 100, 3) := by decide +kernel
theorem dk_0_has_40 : decode bk_0_has 40 = .ok (.ifCond .eq 5, 3) := by decide +kernel
theorem dk_0_has_43 : decode bk_0_has 43 = .ok (.iconst 0, 1) := by decide +kernel
theorem dk_0_has_44 : decode bk_0_has 44 = .ok (.ireturn, 1) := by decide +kernel
theorem dk_0_has_45 : decode bk_0_has 45 = .ok (.aload_n 0, 1) := by decide +kernel
theorem dk_0_has_46 : decode bk_0_has 46 = .ok (.getfield 19, 3) := by decide +kernel
theorem dk_0_has_49 : decode bk_0_has 49 = .ok (.iload_n 1, 1) := by decide +kernel
theorem dk_0_has_50 : decode bk_0_has 50 = .ok (.iload_n 2, 1) := by decide +kernel
theorem dk_0_has_51 : decode bk_0_has 51 = .ok (.iload_n 3, 1) := by decide +kernel
theorem dk_0_has_52 : decode bk_0_has 52 = .ok (.invokevirtual 103, 3) := by decide +kernel
theorem dk_0_has_55 : decode bk_0_has 55 = .ok (.iconst 1, 1) := by decide +kernel
theorem dk_0_has_56 : decode bk_0_has 56 = .ok (.ireturn, 1) := by decide +kernel
theorem dk_0_condition_0 : decode bk_0_condition 0 = .ok (.aload_n 0, 1) := by decide +kernel
theorem dk_0_condition_1 : decode bk_0_condition 1 = .ok (.getfield 33, 3) := by decide +kernel
theorem dk_0_condition_4 : decode bk_0_condition 4 = .ok (.invokevirtual 107, 3) := by decide +kernel
theorem dk_0_condition_7 : decode bk_0_condition 7 = .ok (.ireturn, 1) := by decide +kernel
theorem dk_0_asks_0 : decode bk_0_asks 0 = .ok (.aload_n 0, 1) := by decide +kernel
theorem dk_0_asks_1 : decode bk_0_asks 1 = .ok (.getfield 33, 3) := by decide +kernel
theorem dk_0_asks_4 : decode bk_0_asks 4 = .ok (.iload_n 1, 1) := by decide +kernel
theorem dk_0_asks_5 : decode bk_0_asks 5 = .ok (.invokevirtual 108, 3) := by decide +kernel
theorem dk_0_asks_8 : decode bk_0_asks 8 = .ok (.ifCond .eq 11, 3) := by decide +kernel
theorem dk_0_asks_11 : decode bk_0_asks 11 = .ok (.iload 4, 2) := by decide +kernel
theorem dk_0_asks_13 : decode bk_0_asks 13 = .ok (.invokestatic 97, 3) := by decide +kernel
theorem dk_0_asks_16 : decode bk_0_asks 16 = .ok (.ifCond .ne 5, 3) := by decide +kernel
theorem dk_0_asks_19 : decode bk_0_asks 19 = .ok (.iconst 0, 1) := by decide +kernel
theorem dk_0_asks_20 : decode bk_0_asks 20 = .ok (.ireturn, 1) := by decide +kernel
theorem dk_0_asks_21 : decode bk_0_asks 21 = .ok (.iload_n 2, 1) := by decide +kernel
theorem dk_0_asks_22 : decode bk_0_asks 22 = .ok (.ifCond .eq 13, 3) := by decide +kernel
theorem dk_0_asks_25 : decode bk_0_asks 25 = .ok (.iload_n 3, 1) := by decide +kernel
theorem dk_0_asks_26 : decode bk_0_asks 26 = .ok (.invokestatic 94, 3) := by decide +kernel
theorem dk_0_asks_29 : decode bk_0_asks 29 = .ok (.ifCond .ne 19, 3) := by decide +kernel
theorem dk_0_asks_32 : decode bk_0_asks 32 = .ok (.goto 14, 3) := by decide +kernel
theorem dk_0_asks_35 : decode bk_0_asks 35 = .ok (.aload_n 0, 1) := by decide +kernel
theorem dk_0_asks_36 : decode bk_0_asks 36 = .ok (.getfield 12, 3) := by decide +kernel
theorem dk_0_asks_39 : decode bk_0_asks 39 = .ok (.iload_n 3, 1) := by decide +kernel
theorem dk_0_asks_40 : decode bk_0_asks 40 = .ok (.invokevirtual 109, 3) := by decide +kernel
theorem dk_0_asks_43 : decode bk_0_asks 43 = .ok (.ifCond .ne 5, 3) := by decide +kernel
theorem dk_0_asks_46 : decode bk_0_asks 46 = .ok (.iconst 0, 1) := by decide +kernel
theorem dk_0_asks_47 : decode bk_0_asks 47 = .ok (.ireturn, 1) := by decide +kernel
theorem dk_0_asks_48 : decode bk_0_asks 48 = .ok (.aload_n 0, 1) := by decide +kernel
theorem dk_0_asks_49 : decode bk_0_asks 49 = .ok (.getfield 33, 3) := by decide +kernel
theorem dk_0_asks_52 : decode bk_0_asks 52 = .ok (.iload_n 1, 1) := by decide +kernel
theorem dk_0_asks_53 : decode bk_0_asks 53 = .ok (.iload_n 2, 1) := by decide +kernel
theorem dk_0_asks_54 : decode bk_0_asks 54 = .ok (.iload_n 3, 1) := by decide +kernel
theorem dk_0_asks_55 : decode bk_0_asks 55 = .ok (.iload 4, 2) := by decide +kernel
theorem dk_0_asks_57 : decode bk_0_asks 57 = .ok (.invokestatic 110, 3) := by decide +kernel
theorem dk_0_asks_60 : decode bk_0_asks 60 = .ok (.invokevirtual 116, 3) := by decide +kernel
theorem dk_0_asks_63 : decode bk_0_asks 63 = .ok (.ireturn, 1) := by decide +kernel
theorem dk_0_target_0 : decode bk_0_target 0 = .ok (.aload_n 0, 1) := by decide +kernel
theorem dk_0_target_1 : decode bk_0_target 1 = .ok (.getfield 40, 3) := by decide +kernel
theorem dk_0_target_4 : decode bk_0_target 4 = .ok (.invokevirtual 120, 3) := by decide +kernel
theorem dk_0_target_7 : decode bk_0_target 7 = .ok (.ireturn, 1) := by decide +kernel
theorem dk_0_wants_0 : decode bk_0_wants 0 = .ok (.aload_n 0, 1) := by decide +kernel
theorem dk_0_wants_1 : decode bk_0_wants 1 = .ok (.getfield 40, 3) := by decide +kernel
theorem dk_0_wants_4 : decode bk_0_wants 4 = .ok (.iload_n 1, 1) := by decide +kernel
theorem dk_0_wants_5 : decode bk_0_wants 5 = .ok (.invokevirtual 121, 3) := by decide +kernel
theorem dk_0_wants_8 : decode bk_0_wants 8 = .ok (.ifCond .eq 14, 3) := by decide +kernel
theorem dk_0_wants_11 : decode bk_0_wants 11 = .ok (.aload_n 0, 1) := by decide +kernel
theorem dk_0_wants_12 : decode bk_0_wants 12 = .ok (.getfield 33, 3) := by decide +kernel
theorem dk_0_wants_15 : decode bk_0_wants 15 = .ok (.iload_n 2, 1) := by decide +kernel
theorem dk_0_wants_16 : decode bk_0_wants 16 = .ok (.invokevirtual 108, 3) := by decide +kernel
theorem dk_0_wants_19 : decode bk_0_wants 19 = .ok (.ifCond .ne 5, 3) := by decide +kernel
theorem dk_0_wants_22 : decode bk_0_wants 22 = .ok (.iconst 0, 1) := by decide +kernel
theorem dk_0_wants_23 : decode bk_0_wants 23 = .ok (.ireturn, 1) := by decide +kernel
theorem dk_0_wants_24 : decode bk_0_wants 24 = .ok (.aload_n 0, 1) := by decide +kernel
theorem dk_0_wants_25 : decode bk_0_wants 25 = .ok (.getfield 40, 3) := by decide +kernel
theorem dk_0_wants_28 : decode bk_0_wants 28 = .ok (.getfield 122, 3) := by decide +kernel
theorem dk_0_wants_31 : decode bk_0_wants 31 = .ok (.iload_n 1, 1) := by decide +kernel
theorem dk_0_wants_32 : decode bk_0_wants 32 = .ok (.iload_n 2, 1) := by decide +kernel
theorem dk_0_wants_33 : decode bk_0_wants 33 = .ok (.iastore, 1) := by decide +kernel
theorem dk_0_wants_34 : decode bk_0_wants 34 = .ok (.aload_n 0, 1) := by decide +kernel
theorem dk_0_wants_35 : decode bk_0_wants 35 = .ok (.getfield 33, 3) := by decide +kernel
theorem dk_0_wants_38 : decode bk_0_wants 38 = .ok (.getfield 126, 3) := by decide +kernel
theorem dk_0_wants_41 : decode bk_0_wants 41 = .ok (.iload_n 2, 1) := by decide +kernel
theorem dk_0_wants_42 : decode bk_0_wants 42 = .ok (.iconst 1, 1) := by decide +kernel
theorem dk_0_wants_43 : decode bk_0_wants 43 = .ok (.bastore, 1) := by decide +kernel
theorem dk_0_wants_44 : decode bk_0_wants 44 = .ok (.iconst 1, 1) := by decide +kernel
theorem dk_0_wants_45 : decode bk_0_wants 45 = .ok (.ireturn, 1) := by decide +kernel
theorem dk_0_select_0 : decode bk_0_select 0 = .ok (.aload_n 0, 1) := by decide +kernel
theorem dk_0_select_1 : decode bk_0_select 1 = .ok (.getfield 40, 3) := by decide +kernel
theorem dk_0_select_4 : decode bk_0_select 4 = .ok (.iload_n 1, 1) := by decide +kernel
theorem dk_0_select_5 : decode bk_0_select 5 = .ok (.invokevirtual 121, 3) := by decide +kernel
theorem dk_0_select_8 : decode bk_0_select 8 = .ok (.ifCond .eq 14, 3) := by decide +kernel
theorem dk_0_select_11 : decode bk_0_select 11 = .ok (.aload_n 0, 1) := by decide +kernel
theorem dk_0_select_12 : decode bk_0_select 12 = .ok (.getfield 47, 3) := by decide +kernel
theorem dk_0_select_15 : decode bk_0_select 15 = .ok (.iload_n 1, 1) := by decide +kernel
theorem dk_0_select_16 : decode bk_0_select 16 = .ok (.invokevirtual 130, 3) := by decide +kernel
theorem dk_0_select_19 : decode bk_0_select 19 = .ok (.goto 4, 3) := by decide +kernel
theorem dk_0_select_22 : decode bk_0_select 22 = .ok (.iconst (-1), 1) := by decide +kernel
theorem dk_0_select_23 : decode bk_0_select 23 = .ok (.ireturn, 1) := by decide +kernel
theorem dk_0_branch_0 : decode bk_0_branch 0 = .ok (.aload_n 0, 1) := by decide +kernel
theorem dk_0_branch_1 : decode bk_0_branch 1 = .ok (.getfield 47, 3) := by decide +kernel
theorem dk_0_branch_4 : decode bk_0_branch 4 = .ok (.iload_n 1, 1) := by decide +kernel
theorem dk_0_branch_5 : decode bk_0_branch 5 = .ok (.invokevirtual 132, 3) := by decide +kernel
theorem dk_0_branch_8 : decode bk_0_branch 8 = .ok (.ifCond .eq 14, 3) := by decide +kernel
theorem dk_0_branch_11 : decode bk_0_branch 11 = .ok (.aload_n 0, 1) := by decide +kernel
theorem dk_0_branch_12 : decode bk_0_branch 12 = .ok (.getfield 33, 3) := by decide +kernel
theorem dk_0_branch_15 : decode bk_0_branch 15 = .ok (.iload_n 2, 1) := by decide +kernel
theorem dk_0_branch_16 : decode bk_0_branch 16 = .ok (.invokevirtual 108, 3) := by decide +kernel
theorem dk_0_branch_19 : decode bk_0_branch 19 = .ok (.ifCond .ne 5, 3) := by decide +kernel
theorem dk_0_branch_22 : decode bk_0_branch 22 = .ok (.iconst 0, 1) := by decide +kernel
theorem dk_0_branch_23 : decode bk_0_branch 23 = .ok (.ireturn, 1) := by decide +kernel
theorem dk_0_branch_24 : decode bk_0_branch 24 = .ok (.iload_n 3, 1) := by decide +kernel
theorem dk_0_branch_25 : decode bk_0_branch 25 = .ok (.ifCond .eq 18, 3) := by decide +kernel
theorem dk_0_branch_28 : decode bk_0_branch 28 = .ok (.aload_n 0, 1) := by decide +kernel
theorem dk_0_branch_29 : decode bk_0_branch 29 = .ok (.getfield 47, 3) := by decide +kernel
theorem dk_0_branch_32 : decode bk_0_branch 32 = .ok (.iload_n 1, 1) := by decide +kernel
theorem dk_0_branch_33 : decode bk_0_branch 33 = .ok (.iload 4, 2) := by decide +kernel
theorem dk_0_branch_35 : decode bk_0_branch 35 = .ok (.invokevirtual 133, 3) := by decide +kernel
theorem dk_0_branch_38 : decode bk_0_branch 38 = .ok (.ifCond .ne 5, 3) := by decide +kernel
theorem dk_0_branch_41 : decode bk_0_branch 41 = .ok (.iconst 0, 1) := by decide +kernel
theorem dk_0_branch_42 : decode bk_0_branch 42 = .ok (.ireturn, 1) := by decide +kernel
theorem dk_0_branch_43 : decode bk_0_branch 43 = .ok (.aload_n 0, 1) := by decide +kernel
theorem dk_0_branch_44 : decode bk_0_branch 44 = .ok (.getfield 47, 3) := by decide +kernel
theorem dk_0_branch_47 : decode bk_0_branch 47 = .ok (.iload_n 1, 1) := by decide +kernel
theorem dk_0_branch_48 : decode bk_0_branch 48 = .ok (.iload_n 2, 1) := by decide +kernel
theorem dk_0_branch_49 : decode bk_0_branch 49 = .ok (.iload_n 3, 1) := by decide +kernel
theorem dk_0_branch_50 : decode bk_0_branch 50 = .ok (.iload 4, 2) := by decide +kernel
theorem dk_0_branch_52 : decode bk_0_branch 52 = .ok (.invokevirtual 136, 3) := by decide +kernel
theorem dk_0_branch_55 : decode bk_0_branch 55 = .ok (.ifCond .ne 5, 3) := by decide +kernel
theorem dk_0_branch_58 : decode bk_0_branch 58 = .ok (.iconst 0, 1) := by decide +kernel
theorem dk_0_branch_59 : decode bk_0_branch 59 = .ok (.ireturn, 1) := by decide +kernel
theorem dk_0_branch_60 : decode bk_0_branch 60 = .ok (.aload_n 0, 1) := by decide +kernel
theorem dk_0_branch_61 : decode bk_0_branch 61 = .ok (.getfield 33, 3) := by decide +kernel
theorem dk_0_branch_64 : decode bk_0_branch 64 = .ok (.getfield 126, 3) := by decide +kernel
theorem dk_0_branch_67 : decode bk_0_branch 67 = .ok (.iload_n 2, 1) := by decide +kernel
theorem dk_0_branch_68 : decode bk_0_branch 68 = .ok (.iconst 1, 1) := by decide +kernel
theorem dk_0_branch_69 : decode bk_0_branch 69 = .ok (.bastore, 1) := by decide +kernel
theorem dk_0_branch_70 : decode bk_0_branch 70 = .ok (.iconst 1, 1) := by decide +kernel
theorem dk_0_branch_71 : decode bk_0_branch 71 = .ok (.ireturn, 1) := by decide +kernel
theorem dk_0_otherwise_0 : decode bk_0_otherwise 0 = .ok (.aload_n 0, 1) := by decide +kernel
theorem dk_0_otherwise_1 : decode bk_0_otherwise 1 = .ok (.getfield 47, 3) := by decide +kernel
theorem dk_0_otherwise_4 : decode bk_0_otherwise 4 = .ok (.iload_n 1, 1) := by decide +kernel
theorem dk_0_otherwise_5 : decode bk_0_otherwise 5 = .ok (.invokevirtual 132, 3) := by decide +kernel
theorem dk_0_otherwise_8 : decode bk_0_otherwise 8 = .ok (.ifCond .ne 5, 3) := by decide +kernel
theorem dk_0_otherwise_11 : decode bk_0_otherwise 11 = .ok (.iconst 0, 1) := by decide +kernel
theorem dk_0_otherwise_12 : decode bk_0_otherwise 12 = .ok (.ireturn, 1) := by decide +kernel
theorem dk_0_otherwise_13 : decode bk_0_otherwise 13 = .ok (.aload_n 0, 1) := by decide +kernel
theorem dk_0_otherwise_14 : decode bk_0_otherwise 14 = .ok (.getfield 47, 3) := by decide +kernel
theorem dk_0_otherwise_17 : decode bk_0_otherwise 17 = .ok (.getfield 140, 3) := by decide +kernel
theorem dk_0_otherwise_20 : decode bk_0_otherwise 20 = .ok (.iload_n 1, 1) := by decide +kernel
theorem dk_0_otherwise_21 : decode bk_0_otherwise 21 = .ok (.iload_n 2, 1) := by decide +kernel
theorem dk_0_otherwise_22 : decode bk_0_otherwise 22 = .ok (.invokestatic 144, 3) := by decide +kernel
theorem dk_0_otherwise_25 : decode bk_0_otherwise 25 = .ok (.lastore, 1) := by decide +kernel
theorem dk_0_otherwise_26 : decode bk_0_otherwise 26 = .ok (.iconst 1, 1) := by decide +kernel
theorem dk_0_otherwise_27 : decode bk_0_otherwise 27 = .ok (.ireturn, 1) := by decide +kernel
theorem dk_0_configuration_0 : decode bk_0_configuration 0 = .ok (.aload_n 0, 1) := by decide +kernel
theorem dk_0_configuration_1 : decode bk_0_configuration 1 = .ok (.getfield 19, 3) := by decide +kernel
theorem dk_0_configuration_4 : decode bk_0_configuration 4 = .ok (.iload_n 1, 1) := by decide +kernel
theorem dk_0_configuration_5 : decode bk_0_configuration 5 = .ok (.invokevirtual 90, 3) := by decide +kernel
theorem dk_0_configuration_8 : decode bk_0_configuration 8 = .ok (.ifCond .ne 5, 3) := by decide +kernel
theorem dk_0_configuration_11 : decode bk_0_configuration 11 = .ok (.iconst (-1), 1) := by decide +kernel
theorem dk_0_configuration_12 : decode bk_0_configuration 12 = .ok (.ireturn, 1) := by decide +kernel
theorem dk_0_configuration_13 : decode bk_0_configuration 13 = .ok (.aload_n 0, 1) := by decide +kernel
theorem dk_0_configuration_14 : decode bk_0_configuration 14 = .ok (.getfield 26, 3) := by decide +kernel
theorem dk_0_configuration_17 : decode bk_0_configuration 17 = .ok (.aload_n 0, 1) := by decide +kernel
theorem dk_0_configuration_18 : decode bk_0_configuration 18 = .ok (.iload_n 1, 1) := by decide +kernel
theorem dk_0_configuration_19 : decode bk_0_configuration 19 = .ok (.invokestatic 148, 3) := by decide +kernel
theorem dk_0_configuration_22 : decode bk_0_configuration 22 = .ok (.iconst 0, 1) := by decide +kernel
theorem dk_0_configuration_23 : decode bk_0_configuration 23 = .ok (.invokevirtual 153, 3) := by decide +kernel
theorem dk_0_configuration_26 : decode bk_0_configuration 26 = .ok (.invokevirtual 157, 3) := by decide +kernel
theorem dk_0_configuration_29 : decode bk_0_configuration 29 = .ok (.ireturn, 1) := by decide +kernel
theorem dk_0_set_0 : decode bk_0_set 0 = .ok (.aload_n 0, 1) := by decide +kernel
theorem dk_0_set_1 : decode bk_0_set 1 = .ok (.getfield 12, 3) := by decide +kernel
theorem dk_0_set_4 : decode bk_0_set 4 = .ok (.iload_n 2, 1) := by decide +kernel
theorem dk_0_set_5 : decode bk_0_set 5 = .ok (.invokevirtual 83, 3) := by decide +kernel
theorem dk_0_set_8 : decode bk_0_set 8 = .ok (.istore 4, 2) := by decide +kernel
theorem dk_0_set_10 : decode bk_0_set 10 = .ok (.aload_n 0, 1) := by decide +kernel
theorem dk_0_set_11 : decode bk_0_set 11 = .ok (.getfield 26, 3) := by decide +kernel
theorem dk_0_set_14 : decode bk_0_set 14 = .ok (.iload_n 1, 1) := by decide +kernel
theorem dk_0_set_15 : decode bk_0_set 15 = .ok (.invokevirtual 161, 3) := by decide +kernel
theorem dk_0_set_18 : decode bk_0_set 18 = .ok (.ifCond .eq 9, 3) := by decide +kernel
theorem dk_0_set_21 : decode bk_0_set 21 = .ok (.iload 4, 2) := by decide +kernel
theorem dk_0_set_23 : decode bk_0_set 23 = .ok (.iconst (-1), 1) := by decide +kernel
theorem dk_0_set_24 : decode bk_0_set 24 = .ok (.if_icmp .ne 5, 3) := by decide +kernel
theorem dk_0_set_27 : decode bk_0_set 27 = .ok (.iconst (-1), 1) := by decide +kernel
theorem dk_0_set_28 : decode bk_0_set 28 = .ok (.ireturn, 1) := by decide +kernel
theorem dk_0_set_29 : decode bk_0_set 29 = .ok (.iload_n 3, 1) := by decide +kernel
theorem dk_0_set_30 : decode bk_0_set 30 = .ok (.ifCond .lt 17, 3) := by decide +kernel
theorem dk_0_set_33 : decode bk_0_set 33 = .ok (.iload_n 3, 1) := by decide +kernel
theorem dk_0_set_34 : decode bk_0_set 34 = .ok (.aload_n 0, 1) := by decide +kernel
theorem dk_0_set_35 : decode bk_0_set 35 = .ok (.getfield 12, 3) := by decide +kernel
theorem dk_0_set_38 : decode bk_0_set 38 = .ok (.getfield 162, 3) := by decide +kernel
theorem dk_0_set_41 : decode bk_0_set 41 = .ok (.iload 4, 2) := by decide +kernel
theorem dk_0_set_43 : decode bk_0_set 43 = .ok (.iaload, 1) := by decide +kernel
theorem dk_0_set_44 : decode bk_0_set 44 = .ok (.if_icmp .lt 5, 3) := by decide +kernel
theorem dk_0_set_47 : decode bk_0_set 47 = .ok (.iconst (-1), 1) := by decide +kernel
theorem dk_0_set_48 : decode bk_0_set 48 = .ok (.ireturn, 1) := by decide +kernel
theorem dk_0_set_49 : decode bk_0_set 49 = .ok (.aload_n 0, 1) := by decide +kernel
theorem dk_0_set_50 : decode bk_0_set 50 = .ok (.getfield 26, 3) := by decide +kernel
theorem dk_0_set_53 : decode bk_0_set 53 = .ok (.getfield 165, 3) := by decide +kernel
theorem dk_0_set_56 : decode bk_0_set 56 = .ok (.iload_n 1, 1) := by decide +kernel
theorem dk_0_set_57 : decode bk_0_set 57 = .ok (.laload, 1) := by decide +kernel
theorem dk_0_set_58 : decode bk_0_set 58 = .ok (.lstore 5, 2) := by decide +kernel
theorem dk_0_set_60 : decode bk_0_set 60 = .ok (.aload_n 0, 1) := by decide +kernel
theorem dk_0_set_61 : decode bk_0_set 61 = .ok (.getfield 26, 3) := by decide +kernel
theorem dk_0_set_64 : decode bk_0_set 64 = .ok (.lload 5, 2) := by decide +kernel
theorem dk_0_set_66 : decode bk_0_set 66 = .ok (.iload 4, 2) := by decide +kernel
theorem dk_0_set_68 : decode bk_0_set 68 = .ok (.iload_n 3, 1) := by decide +kernel
theorem dk_0_set_69 : decode bk_0_set 69 = .ok (.invokestatic 168, 3) := by decide +kernel
theorem dk_0_set_72 : decode bk_0_set 72 = .ok (.invokevirtual 157, 3) := by decide +kernel
theorem dk_0_set_75 : decode bk_0_set 75 = .ok (.ireturn, 1) := by decide +kernel
theorem dk_0_value_0 : decode bk_0_value 0 = .ok (.aload_n 0, 1) := by decide +kernel
theorem dk_0_value_1 : decode bk_0_value 1 = .ok (.getfield 12, 3) := by decide +kernel
theorem dk_0_value_4 : decode bk_0_value 4 = .ok (.iload_n 2, 1) := by decide +kernel
theorem dk_0_value_5 : decode bk_0_value 5 = .ok (.invokevirtual 83, 3) := by decide +kernel
theorem dk_0_value_8 : decode bk_0_value 8 = .ok (.istore_n 3, 1) := by decide +kernel
theorem dk_0_value_9 : decode bk_0_value 9 = .ok (.aload_n 0, 1) := by decide +kernel
theorem dk_0_value_10 : decode bk_0_value 10 = .ok (.getfield 26, 3) := by decide +kernel
theorem dk_0_value_13 : decode bk_0_value 13 = .ok (.iload_n 1, 1) := by decide +kernel
theorem dk_0_value_14 : decode bk_0_value 14 = .ok (.invokevirtual 161, 3) := by decide +kernel
theorem dk_0_value_17 : decode bk_0_value 17 = .ok (.ifCond .eq 8, 3) := by decide +kernel
theorem dk_0_value_20 : decode bk_0_value 20 = .ok (.iload_n 3, 1) := by decide +kernel
theorem dk_0_value_21 : decode bk_0_value 21 = .ok (.iconst (-1), 1) := by decide +kernel
theorem dk_0_value_22 : decode bk_0_value 22 = .ok (.if_icmp .ne 5, 3) := by decide +kernel
theorem dk_0_value_25 : decode bk_0_value 25 = .ok (.iconst (-1), 1) := by decide +kernel
theorem dk_0_value_26 : decode bk_0_value 26 = .ok (.ireturn, 1) := by decide +kernel
theorem dk_0_value_27 : decode bk_0_value 27 = .ok (.aload_n 0, 1) := by decide +kernel
theorem dk_0_value_28 : decode bk_0_value 28 = .ok (.getfield 26, 3) := by decide +kernel
theorem dk_0_value_31 : decode bk_0_value 31 = .ok (.getfield 165, 3) := by decide +kernel
theorem dk_0_value_34 : decode bk_0_value 34 = .ok (.iload_n 1, 1) := by decide +kernel
theorem dk_0_value_35 : decode bk_0_value 35 = .ok (.laload, 1) := by decide +kernel
theorem dk_0_value_36 : decode bk_0_value 36 = .ok (.iload_n 3, 1) := by decide +kernel
theorem dk_0_value_37 : decode bk_0_value 37 = .ok (.invokestatic 172, 3) := by decide +kernel
theorem dk_0_value_40 : decode bk_0_value 40 = .ok (.ireturn, 1) := by decide +kernel
theorem dk_0_holds_0 : decode bk_0_holds 0 = .ok (.aload_n 0, 1) := by decide +kernel
theorem dk_0_holds_1 : decode bk_0_holds 1 = .ok (.getfield 33, 3) := by decide +kernel
theorem dk_0_holds_4 : decode bk_0_holds 4 = .ok (.iload_n 1, 1) := by decide +kernel
theorem dk_0_holds_5 : decode bk_0_holds 5 = .ok (.invokevirtual 108, 3) := by decide +kernel
theorem dk_0_holds_8 : decode bk_0_holds 8 = .ok (.ifCond .eq 14, 3) := by decide +kernel
theorem dk_0_holds_11 : decode bk_0_holds 11 = .ok (.aload_n 0, 1) := by decide +kernel
theorem dk_0_holds_12 : decode bk_0_holds 12 = .ok (.getfield 26, 3) := by decide +kernel
theorem dk_0_holds_15 : decode bk_0_holds 15 = .ok (.iload_n 2, 1) := by decide +kernel
theorem dk_0_holds_16 : decode bk_0_holds 16 = .ok (.invokevirtual 161, 3) := by decide +kernel
theorem dk_0_holds_19 : decode bk_0_holds 19 = .ok (.ifCond .ne 5, 3) := by decide +kernel
theorem dk_0_holds_22 : decode bk_0_holds 22 = .ok (.iconst 0, 1) := by decide +kernel
theorem dk_0_holds_23 : decode bk_0_holds 23 = .ok (.ireturn, 1) := by decide +kernel
theorem dk_0_holds_24 : decode bk_0_holds 24 = .ok (.aload_n 0, 1) := by decide +kernel
theorem dk_0_holds_25 : decode bk_0_holds 25 = .ok (.iload_n 1, 1) := by decide +kernel
theorem dk_0_holds_26 : decode bk_0_holds 26 = .ok (.aload_n 0, 1) := by decide +kernel
theorem dk_0_holds_27 : decode bk_0_holds 27 = .ok (.getfield 26, 3) := by decide +kernel
theorem dk_0_holds_30 : decode bk_0_holds 30 = .ok (.getfield 165, 3) := by decide +kernel
theorem dk_0_holds_33 : decode bk_0_holds 33 = .ok (.iload_n 2, 1) := by decide +kernel
theorem dk_0_holds_34 : decode bk_0_holds 34 = .ok (.laload, 1) := by decide +kernel
theorem dk_0_holds_35 : decode bk_0_holds 35 = .ok (.invokevirtual 176, 3) := by decide +kernel
theorem dk_0_holds_38 : decode bk_0_holds 38 = .ok (.ireturn, 1) := by decide +kernel
theorem dk_0_choose_0 : decode bk_0_choose 0 = .ok (.aload_n 0, 1) := by decide +kernel
theorem dk_0_choose_1 : decode bk_0_choose 1 = .ok (.getfield 47, 3) := by decide +kernel
theorem dk_0_choose_4 : decode bk_0_choose 4 = .ok (.iload_n 1, 1) := by decide +kernel
theorem dk_0_choose_5 : decode bk_0_choose 5 = .ok (.invokevirtual 132, 3) := by decide +kernel
theorem dk_0_choose_8 : decode bk_0_choose 8 = .ok (.ifCond .eq 14, 3) := by decide +kernel
theorem dk_0_choose_11 : decode bk_0_choose 11 = .ok (.aload_n 0, 1) := by decide +kernel
theorem dk_0_choose_12 : decode bk_0_choose 12 = .ok (.getfield 26, 3) := by decide +kernel
theorem dk_0_choose_15 : decode bk_0_choose 15 = .ok (.iload_n 2, 1) := by decide +kernel
theorem dk_0_choose_16 : decode bk_0_choose 16 = .ok (.invokevirtual 161, 3) := by decide +kernel
theorem dk_0_choose_19 : decode bk_0_choose 19 = .ok (.ifCond .ne 5, 3) := by decide +kernel
theorem dk_0_choose_22 : decode bk_0_choose 22 = .ok (.iconst (-1), 1) := by decide +kernel
theorem dk_0_choose_23 : decode bk_0_choose 23 = .ok (.ireturn, 1) := by decide +kernel
theorem dk_0_choose_24 : decode bk_0_choose 24 = .ok (.aload_n 0, 1) := by decide +kernel
theorem dk_0_choose_25 : decode bk_0_choose 25 = .ok (.aload_n 0, 1) := by decide +kernel
theorem dk_0_choose_26 : decode bk_0_choose 26 = .ok (.iload_n 1, 1) := by decide +kernel
theorem dk_0_choose_27 : decode bk_0_choose 27 = .ok (.aload_n 0, 1) := by decide +kernel
theorem dk_0_choose_28 : decode bk_0_choose 28 = .ok (.getfield 26, 3) := by decide +kernel
theorem dk_0_choose_31 : decode bk_0_choose 31 = .ok (.getfield 165, 3) := by decide +kernel
theorem dk_0_choose_34 : decode bk_0_choose 34 = .ok (.iload_n 2, 1) := by decide +kernel
theorem dk_0_choose_35 : decode bk_0_choose 35 = .ok (.laload, 1) := by decide +kernel
theorem dk_0_choose_36 : decode bk_0_choose 36 = .ok (.iconst 0, 1) := by decide +kernel
theorem dk_0_choose_37 : decode bk_0_choose 37 = .ok (.invokevirtual 180, 3) := by decide +kernel
theorem dk_0_choose_40 : decode bk_0_choose 40 = .ok (.putfield 71, 3) := by decide +kernel
theorem dk_0_choose_43 : decode bk_0_choose 43 = .ok (.aload_n 0, 1) := by decide +kernel
theorem dk_0_choose_44 : decode bk_0_choose 44 = .ok (.getfield 71, 3) := by decide +kernel
theorem dk_0_choose_47 : decode bk_0_choose 47 = .ok (.invokestatic 184, 3) := by decide +kernel
theorem dk_0_choose_50 : decode bk_0_choose 50 = .ok (.ireturn, 1) := by decide +kernel
theorem dk_0_chosen_0 : decode bk_0_chosen 0 = .ok (.aload_n 0, 1) := by decide +kernel
theorem dk_0_chosen_1 : decode bk_0_chosen 1 = .ok (.getfield 71, 3) := by decide +kernel
theorem dk_0_chosen_4 : decode bk_0_chosen 4 = .ok (.invokestatic 184, 3) := by decide +kernel
theorem dk_0_chosen_7 : decode bk_0_chosen 7 = .ok (.istore_n 2, 1) := by decide +kernel
theorem dk_0_chosen_8 : decode bk_0_chosen 8 = .ok (.iload_n 2, 1) := by decide +kernel
theorem dk_0_chosen_9 : decode bk_0_chosen 9 = .ok (.iconst 1, 1) := by decide +kernel
theorem dk_0_chosen_10 : decode bk_0_chosen 10 = .ok (.if_icmp .ne 15, 3) := by decide +kernel
theorem dk_0_chosen_13 : decode bk_0_chosen 13 = .ok (.iload_n 1, 1) := by decide +kernel
theorem dk_0_chosen_14 : decode bk_0_chosen 14 = .ok (.ifCond .ne 11, 3) := by decide +kernel
theorem dk_0_chosen_17 : decode bk_0_chosen 17 = .ok (.aload_n 0, 1) := by decide +kernel
theorem dk_0_chosen_18 : decode bk_0_chosen 18 = .ok (.getfield 71, 3) := by decide +kernel
theorem dk_0_chosen_21 : decode bk_0_chosen 21 = .ok (.invokestatic 187, 3) := by decide +kernel
theorem dk_0_chosen_24 : decode bk_0_chosen 24 = .ok (.ireturn, 1) := by decide +kernel
theorem dk_0_chosen_25 : decode bk_0_chosen 25 = .ok (.iload_n 2, 1) := by decide +kernel
theorem dk_0_chosen_26 : decode bk_0_chosen 26 = .ok (.iconst 2, 1) := by decide +kernel
theorem dk_0_chosen_27 : decode bk_0_chosen 27 = .ok (.if_icmp .ne 15, 3) := by decide +kernel
theorem dk_0_chosen_30 : decode bk_0_chosen 30 = .ok (.iload_n 1, 1) := by decide +kernel
theorem dk_0_chosen_31 : decode bk_0_chosen 31 = .ok (.ifCond .ne 11, 3) := by decide +kernel
theorem dk_0_chosen_34 : decode bk_0_chosen 34 = .ok (.aload_n 0, 1) := by decide +kernel
theorem dk_0_chosen_35 : decode bk_0_chosen 35 = .ok (.getfield 71, 3) := by decide +kernel
theorem dk_0_chosen_38 : decode bk_0_chosen 38 = .ok (.invokestatic 190, 3) := by decide +kernel
theorem dk_0_chosen_41 : decode bk_0_chosen 41 = .ok (.ireturn, 1) := by decide +kernel
theorem dk_0_chosen_42 : decode bk_0_chosen 42 = .ok (.iload_n 2, 1) := by decide +kernel
theorem dk_0_chosen_43 : decode bk_0_chosen 43 = .ok (.iconst 2, 1) := by decide +kernel
theorem dk_0_chosen_44 : decode bk_0_chosen 44 = .ok (.if_icmp .ne 16, 3) := by decide +kernel
theorem dk_0_chosen_47 : decode bk_0_chosen 47 = .ok (.iload_n 1, 1) := by decide +kernel
theorem dk_0_chosen_48 : decode bk_0_chosen 48 = .ok (.iconst 1, 1) := by decide +kernel
theorem dk_0_chosen_49 : decode bk_0_chosen 49 = .ok (.if_icmp .ne 11, 3) := by decide +kernel
theorem dk_0_chosen_52 : decode bk_0_chosen 52 = .ok (.aload_n 0, 1) := by decide +kernel
theorem dk_0_chosen_53 : decode bk_0_chosen 53 = .ok (.getfield 71, 3) := by decide +kernel
theorem dk_0_chosen_56 : decode bk_0_chosen 56 = .ok (.invokestatic 193, 3) := by decide +kernel
theorem dk_0_chosen_59 : decode bk_0_chosen 59 = .ok (.ireturn, 1) := by decide +kernel
theorem dk_0_chosen_60 : decode bk_0_chosen 60 = .ok (.iconst (-1), 1) := by decide +kernel
theorem dk_0_chosen_61 : decode bk_0_chosen 61 = .ok (.ireturn, 1) := by decide +kernel
theorem dk_0_need_0 : decode bk_0_need 0 = .ok (.aload_n 0, 1) := by decide +kernel
theorem dk_0_need_1 : decode bk_0_need 1 = .ok (.getfield 40, 3) := by decide +kernel
theorem dk_0_need_4 : decode bk_0_need 4 = .ok (.iload_n 1, 1) := by decide +kernel
theorem dk_0_need_5 : decode bk_0_need 5 = .ok (.invokevirtual 121, 3) := by decide +kernel
theorem dk_0_need_8 : decode bk_0_need 8 = .ok (.ifCond .eq 14, 3) := by decide +kernel
theorem dk_0_need_11 : decode bk_0_need 11 = .ok (.aload_n 0, 1) := by decide +kernel
theorem dk_0_need_12 : decode bk_0_need 12 = .ok (.getfield 40, 3) := by decide +kernel
theorem dk_0_need_15 : decode bk_0_need 15 = .ok (.iload_n 2, 1) := by decide +kernel
theorem dk_0_need_16 : decode bk_0_need 16 = .ok (.invokevirtual 121, 3) := by decide +kernel
theorem dk_0_need_19 : decode bk_0_need 19 = .ok (.ifCond .ne 5, 3) := by decide +kernel
theorem dk_0_need_22 : decode bk_0_need 22 = .ok (.iconst (-1), 1) := by decide +kernel
theorem dk_0_need_23 : decode bk_0_need 23 = .ok (.ireturn, 1) := by decide +kernel
theorem dk_0_need_24 : decode bk_0_need 24 = .ok (.aload_n 0, 1) := by decide +kernel
theorem dk_0_need_25 : decode bk_0_need 25 = .ok (.getfield 54, 3) := by decide +kernel
theorem dk_0_need_28 : decode bk_0_need 28 = .ok (.iload_n 1, 1) := by decide +kernel
theorem dk_0_need_29 : decode bk_0_need 29 = .ok (.iload_n 2, 1) := by decide +kernel
theorem dk_0_need_30 : decode bk_0_need 30 = .ok (.invokevirtual 196, 3) := by decide +kernel
theorem dk_0_need_33 : decode bk_0_need 33 = .ok (.ireturn, 1) := by decide +kernel
