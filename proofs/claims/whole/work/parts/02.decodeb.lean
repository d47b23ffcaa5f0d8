theorem dX5_init_0 : decode cX5_init 0 = .ok (.aload_n 0, 1) := by decide +kernel
theorem dX5_init_1 : decode cX5_init 1 = .ok (.invokespecial 3, 3) := by decide +kernel
theorem dX5_init_4 : decode cX5_init 4 = .ok (.aload_n 0, 1) := by decide +kernel
theorem dX5_init_5 : decode cX5_init 5 = .ok (.iconst 0, 1) := by decide +kernel
theorem dX5_init_6 : decode cX5_init 6 = .ok (.putfield 9, 3) := by decide +kernel
theorem dX5_init_9 : decode cX5_init 9 = .ok (.aload_n 0, 1) := by decide +kernel
theorem dX5_init_10 : decode cX5_init 10 = .ok (.bipush 30, 2) := by decide +kernel
theorem dX5_init_12 : decode cX5_init 12 = .ok (.newarray .int, 2) := by decide +kernel
theorem dX5_init_14 : decode cX5_init 14 = .ok (.putfield 15, 3) := by decide +kernel
theorem dX5_init_17 : decode cX5_init 17 = .ok (.aload_n 0, 1) := by decide +kernel
theorem dX5_init_18 : decode cX5_init 18 = .ok (.bipush 30, 2) := by decide +kernel
theorem dX5_init_20 : decode cX5_init 20 = .ok (.newarray .int, 2) := by decide +kernel
theorem dX5_init_22 : decode cX5_init 22 = .ok (.putfield 19, 3) := by decide +kernel
theorem dX5_init_25 : decode cX5_init 25 = .ok (.aload_n 0, 1) := by decide +kernel
theorem dX5_init_26 : decode cX5_init 26 = .ok (.bipush 30, 2) := by decide +kernel
theorem dX5_init_28 : decode cX5_init 28 = .ok (.newarray .int, 2) := by decide +kernel
theorem dX5_init_30 : decode cX5_init 30 = .ok (.putfield 22, 3) := by decide +kernel
theorem dX5_init_33 : decode cX5_init 33 = .ok (.return_, 1) := by decide +kernel
theorem dX5_add_0 : decode cX5_add 0 = .ok (.iload_n 1, 1) := by decide +kernel
theorem dX5_add_1 : decode cX5_add 1 = .ok (.iconst 0, 1) := by decide +kernel
theorem dX5_add_2 : decode cX5_add 2 = .ok (.sipush 999, 3) := by decide +kernel
theorem dX5_add_5 : decode cX5_add 5 = .ok (.invokestatic 25, 3) := by decide +kernel
theorem dX5_add_8 : decode cX5_add 8 = .ok (.ifCond .eq 23, 3) := by decide +kernel
theorem dX5_add_11 : decode cX5_add 11 = .ok (.iload_n 2, 1) := by decide +kernel
theorem dX5_add_12 : decode cX5_add 12 = .ok (.iconst 0, 1) := by decide +kernel
theorem dX5_add_13 : decode cX5_add 13 = .ok (.bipush 99, 2) := by decide +kernel
theorem dX5_add_15 : decode cX5_add 15 = .ok (.invokestatic 25, 3) := by decide +kernel
theorem dX5_add_18 : decode cX5_add 18 = .ok (.ifCond .eq 13, 3) := by decide +kernel
theorem dX5_add_21 : decode cX5_add 21 = .ok (.iload_n 3, 1) := by decide +kernel
theorem dX5_add_22 : decode cX5_add 22 = .ok (.iconst 0, 1) := by decide +kernel
theorem dX5_add_23 : decode cX5_add 23 = .ok (.bipush 100, 2) := by decide +kernel
theorem dX5_add_25 : decode cX5_add 25 = .ok (.invokestatic 25, 3) := by decide +kernel
theorem dX5_add_28 : decode cX5_add 28 = .ok (.ifCond .ne 6, 3) := by decide +kernel
theorem dX5_add_31 : decode cX5_add 31 = .ok (.bipush (-2), 2) := by decide +kernel
theorem dX5_add_33 : decode cX5_add 33 = .ok (.ireturn, 1) := by decide +kernel
theorem dX5_add_34 : decode cX5_add 34 = .ok (.aload_n 0, 1) := by decide +kernel
theorem dX5_add_35 : decode cX5_add 35 = .ok (.getfield 9, 3) := by decide +kernel
theorem dX5_add_38 : decode cX5_add 38 = .ok (.bipush 30, 2) := by decide +kernel
theorem dX5_add_40 : decode cX5_add 40 = .ok (.if_icmp .lt 6, 3) := by decide +kernel
theorem dX5_add_43 : decode cX5_add 43 = .ok (.bipush (-4), 2) := by decide +kernel
theorem dX5_add_45 : decode cX5_add 45 = .ok (.ireturn, 1) := by decide +kernel
theorem dX5_add_46 : decode cX5_add 46 = .ok (.aload_n 0, 1) := by decide +kernel
theorem dX5_add_47 : decode cX5_add 47 = .ok (.getfield 15, 3) := by decide +kernel
theorem dX5_add_50 : decode cX5_add 50 = .ok (.aload_n 0, 1) := by decide +kernel
theorem dX5_add_51 : decode cX5_add 51 = .ok (.getfield 9, 3) := by decide +kernel
theorem dX5_add_54 : decode cX5_add 54 = .ok (.iload_n 1, 1) := by decide +kernel
theorem dX5_add_55 : decode cX5_add 55 = .ok (.iastore, 1) := by decide +kernel
theorem dX5_add_56 : decode cX5_add 56 = .ok (.aload_n 0, 1) := by decide +kernel
theorem dX5_add_57 : decode cX5_add 57 = .ok (.getfield 19, 3) := by decide +kernel
theorem dX5_add_60 : decode cX5_add 60 = .ok (.aload_n 0, 1) := by decide +kernel
theorem dX5_add_61 : decode cX5_add 61 = .ok (.getfield 9, 3) := by decide +kernel
theorem dX5_add_64 : decode cX5_add 64 = .ok (.iload_n 2, 1) := by decide +kernel
theorem dX5_add_65 : decode cX5_add 65 = .ok (.iastore, 1) := by decide +kernel
theorem dX5_add_66 : decode cX5_add 66 = .ok (.aload_n 0, 1) := by decide +kernel
theorem dX5_add_67 : decode cX5_add 67 = .ok (.getfield 22, 3) := by decide +kernel
theorem dX5_add_70 : decode cX5_add 70 = .ok (.aload_n 0, 1) := by decide +kernel
theorem dX5_add_71 : decode cX5_add 71 = .ok (.getfield 9, 3) := by decide +kernel
theorem dX5_add_74 : decode cX5_add 74 = .ok (.iload_n 3, 1) := by decide +kernel
theorem dX5_add_75 : decode cX5_add 75 = .ok (.iastore, 1) := by decide +kernel
theorem dX5_add_76 : decode cX5_add 76 = .ok (.aload_n 0, 1) := by decide +kernel
theorem dX5_add_77 : decode cX5_add 77 = .ok (.dup, 1) := by decide +kernel
theorem dX5_add_78 : decode cX5_add 78 = .ok (.getfield 9, 3) := by decide +kernel
theorem dX5_add_81 : decode cX5_add 81 = .ok (.iconst 1, 1) := by decide +kernel
theorem dX5_add_82 : decode cX5_add 82 = .ok (.iadd, 1) := by decide +kernel
theorem dX5_add_83 : decode cX5_add 83 = .ok (.putfield 9, 3) := by decide +kernel
theorem dX5_add_86 : decode cX5_add 86 = .ok (.aload_n 0, 1) := by decide +kernel
theorem dX5_add_87 : decode cX5_add 87 = .ok (.getfield 9, 3) := by decide +kernel
theorem dX5_add_90 : decode cX5_add 90 = .ok (.ireturn, 1) := by decide +kernel
theorem dX5_paidBack_0 : decode cX5_paidBack 0 = .ok (.iload_n 1, 1) := by decide +kernel
theorem dX5_paidBack_1 : decode cX5_paidBack 1 = .ok (.iconst 0, 1) := by decide +kernel
theorem dX5_paidBack_2 : decode cX5_paidBack 2 = .ok (.sipush 999, 3) := by decide +kernel
theorem dX5_paidBack_5 : decode cX5_paidBack 5 = .ok (.invokestatic 25, 3) := by decide +kernel
theorem dX5_paidBack_8 : decode cX5_paidBack 8 = .ok (.ifCond .eq 14, 3) := by decide +kernel
theorem dX5_paidBack_11 : decode cX5_paidBack 11 = .ok (.iload_n 2, 1) := by decide +kernel
theorem dX5_paidBack_12 : decode cX5_paidBack 12 = .ok (.iconst 0, 1) := by decide +kernel
theorem dX5_paidBack_13 : decode cX5_paidBack 13 = .ok (.sipush 999, 3) := by decide +kernel
theorem dX5_paidBack_16 : decode cX5_paidBack 16 = .ok (.invokestatic 25, 3) := by decide +kernel
theorem dX5_paidBack_19 : decode cX5_paidBack 19 = .ok (.ifCond .ne 6, 3) := by decide +kernel
theorem dX5_paidBack_22 : decode cX5_paidBack 22 = .ok (.bipush (-2), 2) := by decide +kernel
theorem dX5_paidBack_24 : decode cX5_paidBack 24 = .ok (.ireturn, 1) := by decide +kernel
theorem dX5_paidBack_25 : decode cX5_paidBack 25 = .ok (.aload_n 0, 1) := by decide +kernel
theorem dX5_paidBack_26 : decode cX5_paidBack 26 = .ok (.iload_n 1, 1) := by decide +kernel
theorem dX5_paidBack_27 : decode cX5_paidBack 27 = .ok (.invokevirtual 29, 3) := by decide +kernel
theorem dX5_paidBack_30 : decode cX5_paidBack 30 = .ok (.istore_n 3, 1) := by decide +kernel
theorem dX5_paidBack_31 : decode cX5_paidBack 31 = .ok (.iconst 0, 1) := by decide +kernel
theorem dX5_paidBack_32 : decode cX5_paidBack 32 = .ok (.istore 4, 2) := by decide +kernel
theorem dX5_paidBack_34 : decode cX5_paidBack 34 = .ok (.iconst 0, 1) := by decide +kernel
theorem dX5_paidBack_35 : decode cX5_paidBack 35 = .ok (.istore 5, 2) := by decide +kernel
theorem dX5_paidBack_37 : decode cX5_paidBack 37 = .ok (.iload 5, 2) := by decide +kernel
theorem dX5_paidBack_39 : decode cX5_paidBack 39 = .ok (.aload_n 0, 1) := by decide +kernel
theorem dX5_paidBack_40 : decode cX5_paidBack 40 = .ok (.getfield 9, 3) := by decide +kernel
theorem dX5_paidBack_43 : decode cX5_paidBack 43 = .ok (.if_icmp .ge 45, 3) := by decide +kernel
theorem dX5_paidBack_46 : decode cX5_paidBack 46 = .ok (.aload_n 0, 1) := by decide +kernel
theorem dX5_paidBack_47 : decode cX5_paidBack 47 = .ok (.getfield 15, 3) := by decide +kernel
theorem dX5_paidBack_50 : decode cX5_paidBack 50 = .ok (.iload 5, 2) := by decide +kernel
theorem dX5_paidBack_52 : decode cX5_paidBack 52 = .ok (.iaload, 1) := by decide +kernel
theorem dX5_paidBack_53 : decode cX5_paidBack 53 = .ok (.iload_n 3, 1) := by decide +kernel
theorem dX5_paidBack_54 : decode cX5_paidBack 54 = .ok (.if_icmp .ne 28, 3) := by decide +kernel
theorem dX5_paidBack_57 : decode cX5_paidBack 57 = .ok (.aload_n 0, 1) := by decide +kernel
theorem dX5_paidBack_58 : decode cX5_paidBack 58 = .ok (.getfield 19, 3) := by decide +kernel
theorem dX5_paidBack_61 : decode cX5_paidBack 61 = .ok (.iload 5, 2) := by decide +kernel
theorem dX5_paidBack_63 : decode cX5_paidBack 63 = .ok (.iaload, 1) := by decide +kernel
theorem dX5_paidBack_64 : decode cX5_paidBack 64 = .ok (.iload_n 2, 1) := by decide +kernel
theorem dX5_paidBack_65 : decode cX5_paidBack 65 = .ok (.if_icmp .gt 17, 3) := by decide +kernel
theorem dX5_paidBack_68 : decode cX5_paidBack 68 = .ok (.iload 4, 2) := by decide +kernel
theorem dX5_paidBack_70 : decode cX5_paidBack 70 = .ok (.aload_n 0, 1) := by decide +kernel
theorem dX5_paidBack_71 : decode cX5_paidBack 71 = .ok (.getfield 22, 3) := by decide +kernel
theorem dX5_paidBack_74 : decode cX5_paidBack 74 = .ok (.iload 5, 2) := by decide +kernel
theorem dX5_paidBack_76 : decode cX5_paidBack 76 = .ok (.iaload, 1) := by decide +kernel
theorem dX5_paidBack_77 : decode cX5_paidBack 77 = .ok (.invokestatic 33, 3) := by decide +kernel
theorem dX5_paidBack_80 : decode cX5_paidBack 80 = .ok (.istore 4, 2) := by decide +kernel
theorem dX5_paidBack_82 : decode cX5_paidBack 82 = .ok (.iinc 5 1, 3) := by decide +kernel
theorem dX5_paidBack_85 : decode cX5_paidBack 85 = .ok (.goto (-48), 3) := by decide +kernel
theorem dX5_paidBack_88 : decode cX5_paidBack 88 = .ok (.iload 4, 2) := by decide +kernel
theorem dX5_paidBack_90 : decode cX5_paidBack 90 = .ok (.ireturn, 1) := by decide +kernel
theorem dX5_latestDay_0 : decode cX5_latestDay 0 = .ok (.iconst (-1), 1) := by decide +kernel
theorem dX5_latestDay_1 : decode cX5_latestDay 1 = .ok (.istore_n 2, 1) := by decide +kernel
theorem dX5_latestDay_2 : decode cX5_latestDay 2 = .ok (.iconst 0, 1) := by decide +kernel
theorem dX5_latestDay_3 : decode cX5_latestDay 3 = .ok (.istore_n 3, 1) := by decide +kernel
theorem dX5_latestDay_4 : decode cX5_latestDay 4 = .ok (.iload_n 3, 1) := by decide +kernel
theorem dX5_latestDay_5 : decode cX5_latestDay 5 = .ok (.aload_n 0, 1) := by decide +kernel
theorem dX5_latestDay_6 : decode cX5_latestDay 6 = .ok (.getfield 9, 3) := by decide +kernel
theorem dX5_latestDay_9 : decode cX5_latestDay 9 = .ok (.if_icmp .ge 30, 3) := by decide +kernel
theorem dX5_latestDay_12 : decode cX5_latestDay 12 = .ok (.aload_n 0, 1) := by decide +kernel
theorem dX5_latestDay_13 : decode cX5_latestDay 13 = .ok (.getfield 15, 3) := by decide +kernel
theorem dX5_latestDay_16 : decode cX5_latestDay 16 = .ok (.iload_n 3, 1) := by decide +kernel
theorem dX5_latestDay_17 : decode cX5_latestDay 17 = .ok (.iaload, 1) := by decide +kernel
theorem dX5_latestDay_18 : decode cX5_latestDay 18 = .ok (.iload_n 1, 1) := by decide +kernel
theorem dX5_latestDay_19 : decode cX5_latestDay 19 = .ok (.if_icmp .gt 14, 3) := by decide +kernel
theorem dX5_latestDay_22 : decode cX5_latestDay 22 = .ok (.iload_n 2, 1) := by decide +kernel
theorem dX5_latestDay_23 : decode cX5_latestDay 23 = .ok (.aload_n 0, 1) := by decide +kernel
theorem dX5_latestDay_24 : decode cX5_latestDay 24 = .ok (.getfield 15, 3) := by decide +kernel
theorem dX5_latestDay_27 : decode cX5_latestDay 27 = .ok (.iload_n 3, 1) := by decide +kernel
theorem dX5_latestDay_28 : decode cX5_latestDay 28 = .ok (.iaload, 1) := by decide +kernel
theorem dX5_latestDay_29 : decode cX5_latestDay 29 = .ok (.invokestatic 33, 3) := by decide +kernel
theorem dX5_latestDay_32 : decode cX5_latestDay 32 = .ok (.istore_n 2, 1) := by decide +kernel
theorem dX5_latestDay_33 : decode cX5_latestDay 33 = .ok (.iinc 3 1, 3) := by decide +kernel
theorem dX5_latestDay_36 : decode cX5_latestDay 36 = .ok (.goto (-32), 3) := by decide +kernel
theorem dX5_latestDay_39 : decode cX5_latestDay 39 = .ok (.iload_n 2, 1) := by decide +kernel
theorem dX5_latestDay_40 : decode cX5_latestDay 40 = .ok (.ireturn, 1) := by decide +kernel
theorem dX6_init_0 : decode cX6_init 0 = .ok (.aload_n 0, 1) := by decide +kernel
theorem dX6_init_1 : decode cX6_init 1 = .ok (.invokespecial 3, 3) := by decide +kernel
theorem dX6_init_4 : decode cX6_init 4 = .ok (.aload_n 0, 1) := by decide +kernel
theorem dX6_init_5 : decode cX6_init 5 = .ok (.iconst 0, 1) := by decide +kernel
theorem dX6_init_6 : decode cX6_init 6 = .ok (.putfield 9, 3) := by decide +kernel
theorem dX6_init_9 : decode cX6_init 9 = .ok (.aload_n 0, 1) := by decide +kernel
theorem dX6_init_10 : decode cX6_init 10 = .ok (.iconst 4, 1) := by decide +kernel
theorem dX6_init_11 : decode cX6_init 11 = .ok (.newarray .int, 2) := by decide +kernel
theorem dX6_init_13 : decode cX6_init 13 = .ok (.putfield 15, 3) := by decide +kernel
theorem dX6_init_16 : decode cX6_init 16 = .ok (.aload_n 0, 1) := by decide +kernel
theorem dX6_init_17 : decode cX6_init 17 = .ok (.iconst 4, 1) := by decide +kernel
theorem dX6_init_18 : decode cX6_init 18 = .ok (.newarray .int, 2) := by decide +kernel
theorem dX6_init_20 : decode cX6_init 20 = .ok (.putfield 19, 3) := by decide +kernel
theorem dX6_init_23 : decode cX6_init 23 = .ok (.aload_n 0, 1) := by decide +kernel
theorem dX6_init_24 : decode cX6_init 24 = .ok (.sipush 240, 3) := by decide +kernel
theorem dX6_init_27 : decode cX6_init 27 = .ok (.newarray .int, 2) := by decide +kernel
theorem dX6_init_29 : decode cX6_init 29 = .ok (.putfield 22, 3) := by decide +kernel
theorem dX6_init_32 : decode cX6_init 32 = .ok (.aload_n 0, 1) := by decide +kernel
theorem dX6_init_33 : decode cX6_init 33 = .ok (.getfield 15, 3) := by decide +kernel
theorem dX6_init_36 : decode cX6_init 36 = .ok (.iconst (-1), 1) := by decide +kernel
theorem dX6_init_37 : decode cX6_init 37 = .ok (.invokestatic 25, 3) := by decide +kernel
theorem dX6_init_40 : decode cX6_init 40 = .ok (.return_, 1) := by decide +kernel
theorem dX6_has_0 : decode cX6_has 0 = .ok (.iload_n 1, 1) := by decide +kernel
theorem dX6_has_1 : decode cX6_has 1 = .ok (.iconst 0, 1) := by decide +kernel
theorem dX6_has_2 : decode cX6_has 2 = .ok (.iconst 3, 1) := by decide +kernel
theorem dX6_has_3 : decode cX6_has 3 = .ok (.invokestatic 31, 3) := by decide +kernel
theorem dX6_has_6 : decode cX6_has 6 = .ok (.ireturn, 1) := by decide +kernel
theorem dX6_find_0 : decode cX6_find 0 = .ok (.aload_n 0, 1) := by decide +kernel
theorem dX6_find_1 : decode cX6_find 1 = .ok (.iload_n 1, 1) := by decide +kernel
theorem dX6_find_2 : decode cX6_find 2 = .ok (.putfield 9, 3) := by decide +kernel
theorem dX6_find_5 : decode cX6_find 5 = .ok (.bipush (-10), 2) := by decide +kernel
theorem dX6_find_7 : decode cX6_find 7 = .ok (.iload_n 1, 1) := by decide +kernel
theorem dX6_find_8 : decode cX6_find 8 = .ok (.isub, 1) := by decide +kernel
theorem dX6_find_9 : decode cX6_find 9 = .ok (.ireturn, 1) := by decide +kernel
theorem dX6_renew_0 : decode cX6_renew 0 = .ok (.aload_n 0, 1) := by decide +kernel
theorem dX6_renew_1 : decode cX6_renew 1 = .ok (.iload_n 1, 1) := by decide +kernel
theorem dX6_renew_2 : decode cX6_renew 2 = .ok (.invokevirtual 35, 3) := by decide +kernel
theorem dX6_renew_5 : decode cX6_renew 5 = .ok (.ifCond .eq 18, 3) := by decide +kernel
theorem dX6_renew_8 : decode cX6_renew 8 = .ok (.iload_n 2, 1) := by decide +kernel
theorem dX6_renew_9 : decode cX6_renew 9 = .ok (.iconst 0, 1) := by decide +kernel
theorem dX6_renew_10 : decode cX6_renew 10 = .ok (.iconst 2, 1) := by decide +kernel
theorem dX6_renew_11 : decode cX6_renew 11 = .ok (.invokestatic 31, 3) := by decide +kernel
theorem dX6_renew_14 : decode cX6_renew 14 = .ok (.ifCond .eq 9, 3) := by decide +kernel
theorem dX6_renew_17 : decode cX6_renew 17 = .ok (.iload_n 3, 1) := by decide +kernel
theorem dX6_renew_18 : decode cX6_renew 18 = .ok (.bipush 60, 2) := by decide +kernel
theorem dX6_renew_20 : decode cX6_renew 20 = .ok (.if_icmp .le 6, 3) := by decide +kernel
theorem dX6_renew_23 : decode cX6_renew 23 = .ok (.bipush (-2), 2) := by decide +kernel
theorem dX6_renew_25 : decode cX6_renew 25 = .ok (.ireturn, 1) := by decide +kernel
theorem dX6_renew_26 : decode cX6_renew 26 = .ok (.iload_n 3, 1) := by decide +kernel
theorem dX6_renew_27 : decode cX6_renew 27 = .ok (.ifCond .ge 9, 3) := by decide +kernel
theorem dX6_renew_30 : decode cX6_renew 30 = .ok (.aload_n 0, 1) := by decide +kernel
theorem dX6_renew_31 : decode cX6_renew 31 = .ok (.iconst 5, 1) := by decide +kernel
theorem dX6_renew_32 : decode cX6_renew 32 = .ok (.invokevirtual 39, 3) := by decide +kernel
theorem dX6_renew_35 : decode cX6_renew 35 = .ok (.ireturn, 1) := by decide +kernel
theorem dX6_renew_36 : decode cX6_renew 36 = .ok (.aload_n 0, 1) := by decide +kernel
theorem dX6_renew_37 : decode cX6_renew 37 = .ok (.getfield 15, 3) := by decide +kernel
theorem dX6_renew_40 : decode cX6_renew 40 = .ok (.iload_n 1, 1) := by decide +kernel
theorem dX6_renew_41 : decode cX6_renew 41 = .ok (.iload_n 2, 1) := by decide +kernel
theorem dX6_renew_42 : decode cX6_renew 42 = .ok (.iastore, 1) := by decide +kernel
theorem dX6_renew_43 : decode cX6_renew 43 = .ok (.aload_n 0, 1) := by decide +kernel
theorem dX6_renew_44 : decode cX6_renew 44 = .ok (.getfield 19, 3) := by decide +kernel
theorem dX6_renew_47 : decode cX6_renew 47 = .ok (.iload_n 1, 1) := by decide +kernel
theorem dX6_renew_48 : decode cX6_renew 48 = .ok (.iload_n 3, 1) := by decide +kernel
theorem dX6_renew_49 : decode cX6_renew 49 = .ok (.iastore, 1) := by decide +kernel
theorem dX6_renew_50 : decode cX6_renew 50 = .ok (.aload_n 0, 1) := by decide +kernel
theorem dX6_renew_51 : decode cX6_renew 51 = .ok (.getfield 22, 3) := by decide +kernel
theorem dX6_renew_54 : decode cX6_renew 54 = .ok (.iload_n 1, 1) := by decide +kernel
theorem dX6_renew_55 : decode cX6_renew 55 = .ok (.bipush 60, 2) := by decide +kernel
theorem dX6_renew_57 : decode cX6_renew 57 = .ok (.imul, 1) := by decide +kernel
theorem dX6_renew_58 : decode cX6_renew 58 = .ok (.iload_n 1, 1) := by decide +kernel
theorem dX6_renew_59 : decode cX6_renew 59 = .ok (.bipush 60, 2) := by decide +kernel
theorem dX6_renew_61 : decode cX6_renew 61 = .ok (.imul, 1) := by decide +kernel
theorem dX6_renew_62 : decode cX6_renew 62 = .ok (.iload_n 3, 1) := by decide +kernel
theorem dX6_renew_63 : decode cX6_renew 63 = .ok (.iadd, 1) := by decide +kernel
theorem dX6_renew_64 : decode cX6_renew 64 = .ok (.iconst 0, 1) := by decide +kernel
theorem dX6_renew_65 : decode cX6_renew 65 = .ok (.invokestatic 43, 3) := by decide +kernel
theorem dX6_renew_68 : decode cX6_renew 68 = .ok (.iload_n 3, 1) := by decide +kernel
theorem dX6_renew_69 : decode cX6_renew 69 = .ok (.ireturn, 1) := by decide +kernel
theorem dX6_drop_0 : decode cX6_drop 0 = .ok (.aload_n 0, 1) := by decide +kernel
theorem dX6_drop_1 : decode cX6_drop 1 = .ok (.iload_n 1, 1) := by decide +kernel
theorem dX6_drop_2 : decode cX6_drop 2 = .ok (.invokevirtual 35, 3) := by decide +kernel
theorem dX6_drop_5 : decode cX6_drop 5 = .ok (.ifCond .ne 6, 3) := by decide +kernel
theorem dX6_drop_8 : decode cX6_drop 8 = .ok (.bipush (-2), 2) := by decide +kernel
theorem dX6_drop_10 : decode cX6_drop 10 = .ok (.ireturn, 1) := by decide +kernel
theorem dX6_drop_11 : decode cX6_drop 11 = .ok (.aload_n 0, 1) := by decide +kernel
theorem dX6_drop_12 : decode cX6_drop 12 = .ok (.getfield 15, 3) := by decide +kernel
theorem dX6_drop_15 : decode cX6_drop 15 = .ok (.iload_n 1, 1) := by decide +kernel
theorem dX6_drop_16 : decode cX6_drop 16 = .ok (.iaload, 1) := by decide +kernel
theorem dX6_drop_17 : decode cX6_drop 17 = .ok (.iconst (-1), 1) := by decide +kernel
theorem dX6_drop_18 : decode cX6_drop 18 = .ok (.if_icmp .ne 9, 3) := by decide +kernel
theorem dX6_drop_21 : decode cX6_drop 21 = .ok (.aload_n 0, 1) := by decide +kernel
theorem dX6_drop_22 : decode cX6_drop 22 = .ok (.iconst 1, 1) := by decide +kernel
theorem dX6_drop_23 : decode cX6_drop 23 = .ok (.invokevirtual 39, 3) := by decide +kernel
theorem dX6_drop_26 : decode cX6_drop 26 = .ok (.ireturn, 1) := by decide +kernel
theorem dX6_drop_27 : decode cX6_drop 27 = .ok (.aload_n 0, 1) := by decide +kernel
theorem dX6_drop_28 : decode cX6_drop 28 = .ok (.getfield 15, 3) := by decide +kernel
theorem dX6_drop_31 : decode cX6_drop 31 = .ok (.iload_n 1, 1) := by decide +kernel
theorem dX6_drop_32 : decode cX6_drop 32 = .ok (.iconst (-1), 1) := by decide +kernel
theorem dX6_drop_33 : decode cX6_drop 33 = .ok (.iastore, 1) := by decide +kernel
theorem dX6_drop_34 : decode cX6_drop 34 = .ok (.aload_n 0, 1) := by decide +kernel
theorem dX6_drop_35 : decode cX6_drop 35 = .ok (.getfield 19, 3) := by decide +kernel
theorem dX6_drop_38 : decode cX6_drop 38 = .ok (.iload_n 1, 1) := by decide +kernel
theorem dX6_drop_39 : decode cX6_drop 39 = .ok (.iaload, 1) := by decide +kernel
theorem dX6_drop_40 : decode cX6_drop 40 = .ok (.ireturn, 1) := by decide +kernel
theorem dX6_store_0 : decode cX6_store 0 = .ok (.aload_n 0, 1) := by decide +kernel
theorem dX6_store_1 : decode cX6_store 1 = .ok (.iload_n 1, 1) := by decide +kernel
theorem dX6_store_2 : decode cX6_store 2 = .ok (.iload_n 2, 1) := by decide +kernel
theorem dX6_store_3 : decode cX6_store 3 = .ok (.iload_n 3, 1) := by decide +kernel
theorem dX6_store_4 : decode cX6_store 4 = .ok (.invokevirtual 46, 3) := by decide +kernel
theorem dX6_store_7 : decode cX6_store 7 = .ok (.istore 5, 2) := by decide +kernel
theorem dX6_store_9 : decode cX6_store 9 = .ok (.iload 5, 2) := by decide +kernel
theorem dX6_store_11 : decode cX6_store 11 = .ok (.ifCond .eq 6, 3) := by decide +kernel
theorem dX6_store_14 : decode cX6_store 14 = .ok (.iload 5, 2) := by decide +kernel
theorem dX6_store_16 : decode cX6_store 16 = .ok (.ireturn, 1) := by decide +kernel
theorem dX6_store_17 : decode cX6_store 17 = .ok (.aload_n 0, 1) := by decide +kernel
theorem dX6_store_18 : decode cX6_store 18 = .ok (.getfield 22, 3) := by decide +kernel
theorem dX6_store_21 : decode cX6_store 21 = .ok (.iload_n 1, 1) := by decide +kernel
theorem dX6_store_22 : decode cX6_store 22 = .ok (.bipush 60, 2) := by decide +kernel
theorem dX6_store_24 : decode cX6_store 24 = .ok (.imul, 1) := by decide +kernel
theorem dX6_store_25 : decode cX6_store 25 = .ok (.iload_n 3, 1) := by decide +kernel
theorem dX6_store_26 : decode cX6_store 26 = .ok (.iadd, 1) := by decide +kernel
theorem dX6_store_27 : decode cX6_store 27 = .ok (.iload_n 2, 1) := by decide +kernel
theorem dX6_store_28 : decode cX6_store 28 = .ok (.iload 4, 2) := by decide +kernel
theorem dX6_store_30 : decode cX6_store 30 = .ok (.invokestatic 50, 3) := by decide +kernel
theorem dX6_store_33 : decode cX6_store 33 = .ok (.iastore, 1) := by decide +kernel
theorem dX6_store_34 : decode cX6_store 34 = .ok (.iconst 1, 1) := by decide +kernel
theorem dX6_store_35 : decode cX6_store 35 = .ok (.ireturn, 1) := by decide +kernel
theorem dX6_read_0 : decode cX6_read 0 = .ok (.aload_n 0, 1) := by decide +kernel
theorem dX6_read_1 : decode cX6_read 1 = .ok (.iload_n 1, 1) := by decide +kernel
theorem dX6_read_2 : decode cX6_read 2 = .ok (.iload_n 2, 1) := by decide +kernel
theorem dX6_read_3 : decode cX6_read 3 = .ok (.iload_n 3, 1) := by decide +kernel
theorem dX6_read_4 : decode cX6_read 4 = .ok (.invokevirtual 46, 3) := by decide +kernel
theorem dX6_read_7 : decode cX6_read 7 = .ok (.ifCond .ne 17, 3) := by decide +kernel
theorem dX6_read_10 : decode cX6_read 10 = .ok (.aload_n 0, 1) := by decide +kernel
theorem dX6_read_11 : decode cX6_read 11 = .ok (.getfield 22, 3) := by decide +kernel
theorem dX6_read_14 : decode cX6_read 14 = .ok (.iload_n 1, 1) := by decide +kernel
theorem dX6_read_15 : decode cX6_read 15 = .ok (.bipush 60, 2) := by decide +kernel
theorem dX6_read_17 : decode cX6_read 17 = .ok (.imul, 1) := by decide +kernel
theorem dX6_read_18 : decode cX6_read 18 = .ok (.iload_n 3, 1) := by decide +kernel
theorem dX6_read_19 : decode cX6_read 19 = .ok (.iadd, 1) := by decide +kernel
theorem dX6_read_20 : decode cX6_read 20 = .ok (.iaload, 1) := by decide +kernel
theorem dX6_read_21 : decode cX6_read 21 = .ok (.goto 5, 3) := by decide +kernel
theorem dX6_read_24 : decode cX6_read 24 = .ok (.ldc 54, 2) := by decide +kernel
theorem dX6_read_26 : decode cX6_read 26 = .ok (.ireturn, 1) := by decide +kernel
theorem dX6_refusal_0 : decode cX6_refusal 0 = .ok (.aload_n 0, 1) := by decide +kernel
theorem dX6_refusal_1 : decode cX6_refusal 1 = .ok (.iload_n 1, 1) := by decide +kernel
theorem dX6_refusal_2 : decode cX6_refusal 2 = .ok (.invokevirtual 35, 3) := by decide +kernel
theorem dX6_refusal_5 : decode cX6_refusal 5 = .ok (.ifCond .eq 12, 3) := by decide +kernel
theorem dX6_refusal_8 : decode cX6_refusal 8 = .ok (.iload_n 2, 1) := by decide +kernel
theorem dX6_refusal_9 : decode cX6_refusal 9 = .ok (.iconst 0, 1) := by decide +kernel
theorem dX6_refusal_10 : decode cX6_refusal 10 = .ok (.iconst 2, 1) := by decide +kernel
theorem dX6_refusal_11 : decode cX6_refusal 11 = .ok (.invokestatic 31, 3) := by decide +kernel
theorem dX6_refusal_14 : decode cX6_refusal 14 = .ok (.ifCond .ne 6, 3) := by decide +kernel
theorem dX6_refusal_17 : decode cX6_refusal 17 = .ok (.bipush (-2), 2) := by decide +kernel
theorem dX6_refusal_19 : decode cX6_refusal 19 = .ok (.ireturn, 1) := by decide +kernel
theorem dX6_refusal_20 : decode cX6_refusal 20 = .ok (.aload_n 0, 1) := by decide +kernel
theorem dX6_refusal_21 : decode cX6_refusal 21 = .ok (.getfield 15, 3) := by decide +kernel
theorem dX6_refusal_24 : decode cX6_refusal 24 = .ok (.iload_n 1, 1) := by decide +kernel
theorem dX6_refusal_25 : decode cX6_refusal 25 = .ok (.iaload, 1) := by decide +kernel
theorem dX6_refusal_26 : decode cX6_refusal 26 = .ok (.iconst (-1), 1) := by decide +kernel
theorem dX6_refusal_27 : decode cX6_refusal 27 = .ok (.if_icmp .ne 9, 3) := by decide +kernel
theorem dX6_refusal_30 : decode cX6_refusal 30 = .ok (.aload_n 0, 1) := by decide +kernel
theorem dX6_refusal_31 : decode cX6_refusal 31 = .ok (.iconst 1, 1) := by decide +kernel
theorem dX6_refusal_32 : decode cX6_refusal 32 = .ok (.invokevirtual 39, 3) := by decide +kernel
theorem dX6_refusal_35 : decode cX6_refusal 35 = .ok (.ireturn, 1) := by decide +kernel
theorem dX6_refusal_36 : decode cX6_refusal 36 = .ok (.aload_n 0, 1) := by decide +kernel
theorem dX6_refusal_37 : decode cX6_refusal 37 = .ok (.getfield 15, 3) := by decide +kernel
theorem dX6_refusal_40 : decode cX6_refusal 40 = .ok (.iload_n 1, 1) := by decide +kernel
theorem dX6_refusal_41 : decode cX6_refusal 41 = .ok (.iaload, 1) := by decide +kernel
theorem dX6_refusal_42 : decode cX6_refusal 42 = .ok (.iload_n 2, 1) := by decide +kernel
theorem dX6_refusal_43 : decode cX6_refusal 43 = .ok (.if_icmp .eq 9, 3) := by decide +kernel
theorem dX6_refusal_46 : decode cX6_refusal 46 = .ok (.aload_n 0, 1) := by decide +kernel
theorem dX6_refusal_47 : decode cX6_refusal 47 = .ok (.iconst 3, 1) := by decide +kernel
theorem dX6_refusal_48 : decode cX6_refusal 48 = .ok (.invokevirtual 39, 3) := by decide +kernel
theorem dX6_refusal_51 : decode cX6_refusal 51 = .ok (.ireturn, 1) := by decide +kernel
theorem dX6_refusal_52 : decode cX6_refusal 52 = .ok (.iload_n 3, 1) := by decide +kernel
theorem dX6_refusal_53 : decode cX6_refusal 53 = .ok (.iconst 0, 1) := by decide +kernel
theorem dX6_refusal_54 : decode cX6_refusal 54 = .ok (.aload_n 0, 1) := by decide +kernel
theorem dX6_refusal_55 : decode cX6_refusal 55 = .ok (.getfield 19, 3) := by decide +kernel
theorem dX6_refusal_58 : decode cX6_refusal 58 = .ok (.iload_n 1, 1) := by decide +kernel
theorem dX6_refusal_59 : decode cX6_refusal 59 = .ok (.iaload, 1) := by decide +kernel
theorem dX6_refusal_60 : decode cX6_refusal 60 = .ok (.iconst 1, 1) := by decide +kernel
theorem dX6_refusal_61 : decode cX6_refusal 61 = .ok (.isub, 1) := by decide +kernel
theorem dX6_refusal_62 : decode cX6_refusal 62 = .ok (.invokestatic 31, 3) := by decide +kernel
theorem dX6_refusal_65 : decode cX6_refusal 65 = .ok (.ifCond .eq 7, 3) := by decide +kernel
theorem dX6_refusal_68 : decode cX6_refusal 68 = .ok (.iconst 0, 1) := by decide +kernel
theorem dX6_refusal_69 : decode cX6_refusal 69 = .ok (.goto 8, 3) := by decide +kernel
theorem dX6_refusal_72 : decode cX6_refusal 72 = .ok (.aload_n 0, 1) := by decide +kernel
theorem dX6_refusal_73 : decode cX6_refusal 73 = .ok (.iconst 2, 1) := by decide +kernel
theorem dX6_refusal_74 : decode cX6_refusal 74 = .ok (.invokevirtual 39, 3) := by decide +kernel
theorem dX6_refusal_77 : decode cX6_refusal 77 = .ok (.ireturn, 1) := by decide +kernel
theorem dX6_cut_0 : decode cX6_cut 0 = .ok (.iload_n 0, 1) := by decide +kernel
theorem dX6_cut_1 : decode cX6_cut 1 = .ok (.ifCond .ne 6, 3) := by decide +kernel
theorem dX6_cut_4 : decode cX6_cut 4 = .ok (.iload_n 1, 1) := by decide +kernel
theorem dX6_cut_5 : decode cX6_cut 5 = .ok (.i2b, 1) := by decide +kernel
theorem dX6_cut_6 : decode cX6_cut 6 = .ok (.ireturn, 1) := by decide +kernel
theorem dX6_cut_7 : decode cX6_cut 7 = .ok (.iload_n 0, 1) := by decide +kernel
theorem dX6_cut_8 : decode cX6_cut 8 = .ok (.iconst 1, 1) := by decide +kernel
theorem dX6_cut_9 : decode cX6_cut 9 = .ok (.if_icmp .ne 8, 3) := by decide +kernel
theorem dX6_cut_12 : decode cX6_cut 12 = .ok (.iload_n 1, 1) := by decide +kernel
theorem dX6_cut_13 : decode cX6_cut 13 = .ok (.i2s, 1) := by decide +kernel
theorem dX6_cut_14 : decode cX6_cut 14 = .ok (.goto 4, 3) := by decide +kernel
theorem dX6_cut_17 : decode cX6_cut 17 = .ok (.iload_n 1, 1) := by decide +kernel
theorem dX6_cut_18 : decode cX6_cut 18 = .ok (.ireturn, 1) := by decide +kernel
theorem dX6_transfer_0 : decode cX6_transfer 0 = .ok (.aload_n 0, 1) := by decide +kernel
theorem dX6_transfer_1 : decode cX6_transfer 1 = .ok (.iload_n 1, 1) := by decide +kernel
theorem dX6_transfer_2 : decode cX6_transfer 2 = .ok (.invokevirtual 35, 3) := by decide +kernel
theorem dX6_transfer_5 : decode cX6_transfer 5 = .ok (.ifCond .eq 11, 3) := by decide +kernel
theorem dX6_transfer_8 : decode cX6_transfer 8 = .ok (.aload_n 0, 1) := by decide +kernel
theorem dX6_transfer_9 : decode cX6_transfer 9 = .ok (.iload_n 3, 1) := by decide +kernel
theorem dX6_transfer_10 : decode cX6_transfer 10 = .ok (.invokevirtual 35, 3) := by decide +kernel
theorem dX6_transfer_13 : decode cX6_transfer 13 = .ok (.ifCond .ne 6, 3) := by decide +kernel
theorem dX6_transfer_16 : decode cX6_transfer 16 = .ok (.bipush (-2), 2) := by decide +kernel
theorem dX6_transfer_18 : decode cX6_transfer 18 = .ok (.ireturn, 1) := by decide +kernel
theorem dX6_transfer_19 : decode cX6_transfer 19 = .ok (.aload_n 0, 1) := by decide +kernel
theorem dX6_transfer_20 : decode cX6_transfer 20 = .ok (.getfield 15, 3) := by decide +kernel
theorem dX6_transfer_23 : decode cX6_transfer 23 = .ok (.iload_n 1, 1) := by decide +kernel
theorem dX6_transfer_24 : decode cX6_transfer 24 = .ok (.iaload, 1) := by decide +kernel
theorem dX6_transfer_25 : decode cX6_transfer 25 = .ok (.iconst (-1), 1) := by decide +kernel
theorem dX6_transfer_26 : decode cX6_transfer 26 = .ok (.if_icmp .eq 13, 3) := by decide +kernel
theorem dX6_transfer_29 : decode cX6_transfer 29 = .ok (.aload_n 0, 1) := by decide +kernel
theorem dX6_transfer_30 : decode cX6_transfer 30 = .ok (.getfield 15, 3) := by decide +kernel
theorem dX6_transfer_33 : decode cX6_transfer 33 = .ok (.iload_n 3, 1) := by decide +kernel
theorem dX6_transfer_34 : decode cX6_transfer 34 = .ok (.iaload, 1) := by decide +kernel
theorem dX6_transfer_35 : decode cX6_transfer 35 = .ok (.iconst (-1), 1) := by decide +kernel
theorem dX6_transfer_36 : decode cX6_transfer 36 = .ok (.if_icmp .ne 9, 3) := by decide +kernel
theorem dX6_transfer_39 : decode cX6_transfer 39 = .ok (.aload_n 0, 1) := by decide +kernel
theorem dX6_transfer_40 : decode cX6_transfer 40 = .ok (.iconst 1, 1) := by decide +kernel
theorem dX6_transfer_41 : decode cX6_transfer 41 = .ok (.invokevirtual 39, 3) := by decide +kernel
theorem dX6_transfer_44 : decode cX6_transfer 44 = .ok (.ireturn, 1) := by decide +kernel
theorem dX6_transfer_45 : decode cX6_transfer 45 = .ok (.aload_n 0, 1) := by decide +kernel
theorem dX6_transfer_46 : decode cX6_transfer 46 = .ok (.getfield 15, 3) := by decide +kernel
theorem dX6_transfer_49 : decode cX6_transfer 49 = .ok (.iload_n 1, 1) := by decide +kernel
theorem dX6_transfer_50 : decode cX6_transfer 50 = .ok (.iaload, 1) := by decide +kernel
theorem dX6_transfer_51 : decode cX6_transfer 51 = .ok (.aload_n 0, 1) := by decide +kernel
theorem dX6_transfer_52 : decode cX6_transfer 52 = .ok (.getfield 15, 3) := by decide +kernel
theorem dX6_transfer_55 : decode cX6_transfer 55 = .ok (.iload_n 3, 1) := by decide +kernel
theorem dX6_transfer_56 : decode cX6_transfer 56 = .ok (.iaload, 1) := by decide +kernel
theorem dX6_transfer_57 : decode cX6_transfer 57 = .ok (.if_icmp .eq 9, 3) := by decide +kernel
theorem dX6_transfer_60 : decode cX6_transfer 60 = .ok (.aload_n 0, 1) := by decide +kernel
theorem dX6_transfer_61 : decode cX6_transfer 61 = .ok (.iconst 4, 1) := by decide +kernel
theorem dX6_transfer_62 : decode cX6_transfer 62 = .ok (.invokevirtual 39, 3) := by decide +kernel
theorem dX6_transfer_65 : decode cX6_transfer 65 = .ok (.ireturn, 1) := by decide +kernel
theorem dX6_transfer_66 : decode cX6_transfer 66 = .ok (.aload_n 0, 1) := by decide +kernel
theorem dX6_transfer_67 : decode cX6_transfer 67 = .ok (.iload_n 1, 1) := by decide +kernel
theorem dX6_transfer_68 : decode cX6_transfer 68 = .ok (.iload_n 2, 1) := by decide +kernel
theorem dX6_transfer_69 : decode cX6_transfer 69 = .ok (.iload 5, 2) := by decide +kernel
theorem dX6_transfer_71 : decode cX6_transfer 71 = .ok (.invokevirtual 55, 3) := by decide +kernel
theorem dX6_transfer_74 : decode cX6_transfer 74 = .ok (.ifCond .eq 15, 3) := by decide +kernel
theorem dX6_transfer_77 : decode cX6_transfer 77 = .ok (.aload_n 0, 1) := by decide +kernel
theorem dX6_transfer_78 : decode cX6_transfer 78 = .ok (.iload_n 3, 1) := by decide +kernel
theorem dX6_transfer_79 : decode cX6_transfer 79 = .ok (.iload 4, 2) := by decide +kernel
theorem dX6_transfer_81 : decode cX6_transfer 81 = .ok (.iload 5, 2) := by decide +kernel
theorem dX6_transfer_83 : decode cX6_transfer 83 = .ok (.invokevirtual 55, 3) := by decide +kernel
theorem dX6_transfer_86 : decode cX6_transfer 86 = .ok (.ifCond .ne 9, 3) := by decide +kernel
theorem dX6_transfer_89 : decode cX6_transfer 89 = .ok (.aload_n 0, 1) := by decide +kernel
theorem dX6_transfer_90 : decode cX6_transfer 90 = .ok (.iconst 2, 1) := by decide +kernel
theorem dX6_transfer_91 : decode cX6_transfer 91 = .ok (.invokevirtual 39, 3) := by decide +kernel
theorem dX6_transfer_94 : decode cX6_transfer 94 = .ok (.ireturn, 1) := by decide +kernel
theorem dX6_transfer_95 : decode cX6_transfer 95 = .ok (.aload_n 0, 1) := by decide +kernel
theorem dX6_transfer_96 : decode cX6_transfer 96 = .ok (.getfield 22, 3) := by decide +kernel
theorem dX6_transfer_99 : decode cX6_transfer 99 = .ok (.iload_n 1, 1) := by decide +kernel
theorem dX6_transfer_100 : decode cX6_transfer 100 = .ok (.bipush 60, 2) := by decide +kernel
theorem dX6_transfer_102 : decode cX6_transfer 102 = .ok (.imul, 1) := by decide +kernel
theorem dX6_transfer_103 : decode cX6_transfer 103 = .ok (.iload_n 2, 1) := by decide +kernel
theorem dX6_transfer_104 : decode cX6_transfer 104 = .ok (.iadd, 1) := by decide +kernel
theorem dX6_transfer_105 : decode cX6_transfer 105 = .ok (.aload_n 0, 1) := by decide +kernel
theorem dX6_transfer_106 : decode cX6_transfer 106 = .ok (.getfield 22, 3) := by decide +kernel
theorem dX6_transfer_109 : decode cX6_transfer 109 = .ok (.iload_n 3, 1) := by decide +kernel
theorem dX6_transfer_110 : decode cX6_transfer 110 = .ok (.bipush 60, 2) := by decide +kernel
theorem dX6_transfer_112 : decode cX6_transfer 112 = .ok (.imul, 1) := by decide +kernel
theorem dX6_transfer_113 : decode cX6_transfer 113 = .ok (.iload 4, 2) := by decide +kernel
theorem dX6_transfer_115 : decode cX6_transfer 115 = .ok (.iadd, 1) := by decide +kernel
theorem dX6_transfer_116 : decode cX6_transfer 116 = .ok (.iload 5, 2) := by decide +kernel
theorem dX6_transfer_118 : decode cX6_transfer 118 = .ok (.invokestatic 58, 3) := by decide +kernel
theorem dX6_transfer_121 : decode cX6_transfer 121 = .ok (.iconst 1, 1) := by decide +kernel
theorem dX6_transfer_122 : decode cX6_transfer 122 = .ok (.ireturn, 1) := by decide +kernel
theorem dX6_hasItems_0 : decode cX6_hasItems 0 = .ok (.iload_n 2, 1) := by decide +kernel
theorem dX6_hasItems_1 : decode cX6_hasItems 1 = .ok (.ifCond .lt 33, 3) := by decide +kernel
theorem dX6_hasItems_4 : decode cX6_hasItems 4 = .ok (.iload_n 3, 1) := by decide +kernel
theorem dX6_hasItems_5 : decode cX6_hasItems 5 = .ok (.ifCond .lt 29, 3) := by decide +kernel
theorem dX6_hasItems_8 : decode cX6_hasItems 8 = .ok (.iload_n 2, 1) := by decide +kernel
theorem dX6_hasItems_9 : decode cX6_hasItems 9 = .ok (.aload_n 0, 1) := by decide +kernel
theorem dX6_hasItems_10 : decode cX6_hasItems 10 = .ok (.getfield 19, 3) := by decide +kernel
theorem dX6_hasItems_13 : decode cX6_hasItems 13 = .ok (.iload_n 1, 1) := by decide +kernel
theorem dX6_hasItems_14 : decode cX6_hasItems 14 = .ok (.iaload, 1) := by decide +kernel
theorem dX6_hasItems_15 : decode cX6_hasItems 15 = .ok (.if_icmp .gt 19, 3) := by decide +kernel
theorem dX6_hasItems_18 : decode cX6_hasItems 18 = .ok (.iload_n 3, 1) := by decide +kernel
theorem dX6_hasItems_19 : decode cX6_hasItems 19 = .ok (.aload_n 0, 1) := by decide +kernel
theorem dX6_hasItems_20 : decode cX6_hasItems 20 = .ok (.getfield 19, 3) := by decide +kernel
theorem dX6_hasItems_23 : decode cX6_hasItems 23 = .ok (.iload_n 1, 1) := by decide +kernel
theorem dX6_hasItems_24 : decode cX6_hasItems 24 = .ok (.iaload, 1) := by decide +kernel
theorem dX6_hasItems_25 : decode cX6_hasItems 25 = .ok (.iload_n 2, 1) := by decide +kernel
theorem dX6_hasItems_26 : decode cX6_hasItems 26 = .ok (.isub, 1) := by decide +kernel
theorem dX6_hasItems_27 : decode cX6_hasItems 27 = .ok (.if_icmp .gt 7, 3) := by decide +kernel
theorem dX6_hasItems_30 : decode cX6_hasItems 30 = .ok (.iconst 1, 1) := by decide +kernel
theorem dX6_hasItems_31 : decode cX6_hasItems 31 = .ok (.goto 4, 3) := by decide +kernel
theorem dX6_hasItems_34 : decode cX6_hasItems 34 = .ok (.iconst 0, 1) := by decide +kernel
theorem dX6_hasItems_35 : decode cX6_hasItems 35 = .ok (.ireturn, 1) := by decide +kernel
theorem dX6_countsAsWet_0 : decode cX6_countsAsWet 0 = .ok (.iload_n 1, 1) := by decide +kernel
theorem dX6_countsAsWet_1 : decode cX6_countsAsWet 1 = .ok (.iload_n 1, 1) := by decide +kernel
theorem dX6_countsAsWet_2 : decode cX6_countsAsWet 2 = .ok (.bipush 8, 2) := by decide +kernel
theorem dX6_countsAsWet_4 : decode cX6_countsAsWet 4 = .ok (.irem, 1) := by decide +kernel
theorem dX6_countsAsWet_5 : decode cX6_countsAsWet 5 = .ok (.isub, 1) := by decide +kernel
theorem dX6_countsAsWet_6 : decode cX6_countsAsWet 6 = .ok (.istore_n 2, 1) := by decide +kernel
theorem dX6_countsAsWet_7 : decode cX6_countsAsWet 7 = .ok (.iload_n 2, 1) := by decide +kernel
theorem dX6_countsAsWet_8 : decode cX6_countsAsWet 8 = .ok (.iload_n 1, 1) := by decide +kernel
theorem dX6_countsAsWet_9 : decode cX6_countsAsWet 9 = .ok (.if_icmp .gt 19, 3) := by decide +kernel
theorem dX6_countsAsWet_12 : decode cX6_countsAsWet 12 = .ok (.aload_n 0, 1) := by decide +kernel
theorem dX6_countsAsWet_13 : decode cX6_countsAsWet 13 = .ok (.iload_n 2, 1) := by decide +kernel
theorem dX6_countsAsWet_14 : decode cX6_countsAsWet 14 = .ok (.invokevirtual 64, 3) := by decide +kernel
theorem dX6_countsAsWet_17 : decode cX6_countsAsWet 17 = .ok (.ifCond .eq 5, 3) := by decide +kernel
theorem dX6_countsAsWet_20 : decode cX6_countsAsWet 20 = .ok (.iconst 1, 1) := by decide +kernel
theorem dX6_countsAsWet_21 : decode cX6_countsAsWet 21 = .ok (.ireturn, 1) := by decide +kernel
theorem dX6_countsAsWet_22 : decode cX6_countsAsWet 22 = .ok (.iinc 2 1, 3) := by decide +kernel
theorem dX6_countsAsWet_25 : decode cX6_countsAsWet 25 = .ok (.goto (-18), 3) := by decide +kernel
theorem dX6_countsAsWet_28 : decode cX6_countsAsWet 28 = .ok (.iconst 0, 1) := by decide +kernel
theorem dX6_countsAsWet_29 : decode cX6_countsAsWet 29 = .ok (.ireturn, 1) := by decide +kernel
theorem dX6_isWet_0 : decode cX6_isWet 0 = .ok (.aload_n 0, 1) := by decide +kernel
theorem dX6_isWet_1 : decode cX6_isWet 1 = .ok (.getfield 15, 3) := by decide +kernel
theorem dX6_isWet_4 : decode cX6_isWet 4 = .ok (.iconst 0, 1) := by decide +kernel
theorem dX6_isWet_5 : decode cX6_isWet 5 = .ok (.iaload, 1) := by decide +kernel
theorem dX6_isWet_6 : decode cX6_isWet 6 = .ok (.iconst (-1), 1) := by decide +kernel
theorem dX6_isWet_7 : decode cX6_isWet 7 = .ok (.if_icmp .eq 28, 3) := by decide +kernel
theorem dX6_isWet_10 : decode cX6_isWet 10 = .ok (.iload_n 1, 1) := by decide +kernel
theorem dX6_isWet_11 : decode cX6_isWet 11 = .ok (.aload_n 0, 1) := by decide +kernel
theorem dX6_isWet_12 : decode cX6_isWet 12 = .ok (.getfield 19, 3) := by decide +kernel
theorem dX6_isWet_15 : decode cX6_isWet 15 = .ok (.iconst 0, 1) := by decide +kernel
theorem dX6_isWet_16 : decode cX6_isWet 16 = .ok (.iaload, 1) := by decide +kernel
theorem dX6_isWet_17 : decode cX6_isWet 17 = .ok (.if_icmp .ge 18, 3) := by decide +kernel
theorem dX6_isWet_20 : decode cX6_isWet 20 = .ok (.aload_n 0, 1) := by decide +kernel
theorem dX6_isWet_21 : decode cX6_isWet 21 = .ok (.getfield 22, 3) := by decide +kernel
theorem dX6_isWet_24 : decode cX6_isWet 24 = .ok (.iconst 0, 1) := by decide +kernel
theorem dX6_isWet_25 : decode cX6_isWet 25 = .ok (.iload_n 1, 1) := by decide +kernel
theorem dX6_isWet_26 : decode cX6_isWet 26 = .ok (.iadd, 1) := by decide +kernel
theorem dX6_isWet_27 : decode cX6_isWet 27 = .ok (.iaload, 1) := by decide +kernel
theorem dX6_isWet_28 : decode cX6_isWet 28 = .ok (.ifCond .le 7, 3) := by decide +kernel
theorem dX6_isWet_31 : decode cX6_isWet 31 = .ok (.iconst 1, 1) := by decide +kernel
theorem dX6_isWet_32 : decode cX6_isWet 32 = .ok (.goto 4, 3) := by decide +kernel
theorem dX6_isWet_35 : decode cX6_isWet 35 = .ok (.iconst 0, 1) := by decide +kernel
theorem dX6_isWet_36 : decode cX6_isWet 36 = .ok (.ireturn, 1) := by decide +kernel
theorem dX7_init_0 : decode cX7_init 0 = .ok (.aload_n 0, 1) := by decide +kernel
theorem dX7_init_1 : decode cX7_init 1 = .ok (.invokespecial 3, 3) := by decide +kernel
theorem dX7_init_4 : decode cX7_init 4 = .ok (.aload_n 0, 1) := by decide +kernel
theorem dX7_init_5 : decode cX7_init 5 = .ok (.bipush 12, 2) := by decide +kernel
theorem dX7_init_7 : decode cX7_init 7 = .ok (.newarray .int, 2) := by decide +kernel
theorem dX7_init_9 : decode cX7_init 9 = .ok (.putfield 11, 3) := by decide +kernel
theorem dX7_init_12 : decode cX7_init 12 = .ok (.aload_n 0, 1) := by decide +kernel
theorem dX7_init_13 : decode cX7_init 13 = .ok (.bipush 24, 2) := by decide +kernel
theorem dX7_init_15 : decode cX7_init 15 = .ok (.newarray .int, 2) := by decide +kernel
theorem dX7_init_17 : decode cX7_init 17 = .ok (.putfield 17, 3) := by decide +kernel
theorem dX7_init_20 : decode cX7_init 20 = .ok (.aload_n 0, 1) := by decide +kernel
theorem dX7_init_21 : decode cX7_init 21 = .ok (.bipush 24, 2) := by decide +kernel
theorem dX7_init_23 : decode cX7_init 23 = .ok (.newarray .int, 2) := by decide +kernel
theorem dX7_init_25 : decode cX7_init 25 = .ok (.putfield 20, 3) := by decide +kernel
theorem dX7_init_28 : decode cX7_init 28 = .ok (.aload_n 0, 1) := by decide +kernel
theorem dX7_init_29 : decode cX7_init 29 = .ok (.iconst 0, 1) := by decide +kernel
theorem dX7_init_30 : decode cX7_init 30 = .ok (.putfield 23, 3) := by decide +kernel
theorem dX7_init_33 : decode cX7_init 33 = .ok (.aload_n 0, 1) := by decide +kernel
theorem dX7_init_34 : decode cX7_init 34 = .ok (.bipush 12, 2) := by decide +kernel
theorem dX7_init_36 : decode cX7_init 36 = .ok (.newarray .int, 2) := by decide +kernel
theorem dX7_init_38 : decode cX7_init 38 = .ok (.putfield 27, 3) := by decide +kernel
theorem dX7_init_41 : decode cX7_init 41 = .ok (.aload_n 0, 1) := by decide +kernel
theorem dX7_init_42 : decode cX7_init 42 = .ok (.bipush 12, 2) := by decide +kernel
theorem dX7_init_44 : decode cX7_init 44 = .ok (.newarray .int, 2) := by decide +kernel
theorem dX7_init_46 : decode cX7_init 46 = .ok (.putfield 30, 3) := by decide +kernel
theorem dX7_init_49 : decode cX7_init 49 = .ok (.aload_n 0, 1) := by decide +kernel
theorem dX7_init_50 : decode cX7_init 50 = .ok (.bipush 7, 2) := by decide +kernel
theorem dX7_init_52 : decode cX7_init 52 = .ok (.newarray .int, 2) := by decide +kernel
theorem dX7_init_54 : decode cX7_init 54 = .ok (.putfield 33, 3) := by decide +kernel
theorem dX7_init_57 : decode cX7_init 57 = .ok (.aload_n 0, 1) := by decide +kernel
theorem dX7_init_58 : decode cX7_init 58 = .ok (.bipush 7, 2) := by decide +kernel
theorem dX7_init_60 : decode cX7_init 60 = .ok (.newarray .int, 2) := by decide +kernel
theorem dX7_init_62 : decode cX7_init 62 = .ok (.putfield 36, 3) := by decide +kernel
theorem dX7_init_65 : decode cX7_init 65 = .ok (.aload_n 0, 1) := by decide +kernel
theorem dX7_init_66 : decode cX7_init 66 = .ok (.sipush 144, 3) := by decide +kernel
theorem dX7_init_69 : decode cX7_init 69 = .ok (.newarray .int, 2) := by decide +kernel
theorem dX7_init_71 : decode cX7_init 71 = .ok (.putfield 39, 3) := by decide +kernel
theorem dX7_init_74 : decode cX7_init 74 = .ok (.aload_n 0, 1) := by decide +kernel
theorem dX7_init_75 : decode cX7_init 75 = .ok (.bipush 24, 2) := by decide +kernel
theorem dX7_init_77 : decode cX7_init 77 = .ok (.newarray .int, 2) := by decide +kernel
theorem dX7_init_79 : decode cX7_init 79 = .ok (.putfield 42, 3) := by decide +kernel
theorem dX7_init_82 : decode cX7_init 82 = .ok (.aload_n 0, 1) := by decide +kernel
theorem dX7_init_83 : decode cX7_init 83 = .ok (.getfield 33, 3) := by decide +kernel
theorem dX7_init_86 : decode cX7_init 86 = .ok (.bipush 6, 2) := by decide +kernel
theorem dX7_init_88 : decode cX7_init 88 = .ok (.sipush 1000, 3) := by decide +kernel
theorem dX7_init_91 : decode cX7_init 91 = .ok (.iastore, 1) := by decide +kernel
theorem dX7_init_92 : decode cX7_init 92 = .ok (.return_, 1) := by decide +kernel
theorem dX7_has_0 : decode cX7_has 0 = .ok (.iload_n 1, 1) := by decide +kernel
theorem dX7_has_1 : decode cX7_has 1 = .ok (.iconst 0, 1) := by decide +kernel
theorem dX7_has_2 : decode cX7_has 2 = .ok (.aload_n 0, 1) := by decide +kernel
theorem dX7_has_3 : decode cX7_has 3 = .ok (.getfield 23, 3) := by decide +kernel
theorem dX7_has_6 : decode cX7_has 6 = .ok (.iconst 1, 1) := by decide +kernel
theorem dX7_has_7 : decode cX7_has 7 = .ok (.isub, 1) := by decide +kernel
theorem dX7_has_8 : decode cX7_has 8 = .ok (.invokestatic 45, 3) := by decide +kernel
theorem dX7_has_11 : decode cX7_has 11 = .ok (.ireturn, 1) := by decide +kernel
theorem dX7_setRoom_0 : decode cX7_setRoom 0 = .ok (.iload_n 1, 1) := by decide +kernel
theorem dX7_setRoom_1 : decode cX7_setRoom 1 = .ok (.iconst 0, 1) := by decide +kernel
theorem dX7_setRoom_2 : decode cX7_setRoom 2 = .ok (.iconst 5, 1) := by decide +kernel
theorem dX7_setRoom_3 : decode cX7_setRoom 3 = .ok (.invokestatic 45, 3) := by decide +kernel
theorem dX7_setRoom_6 : decode cX7_setRoom 6 = .ok (.ifCond .eq 14, 3) := by decide +kernel
theorem dX7_setRoom_9 : decode cX7_setRoom 9 = .ok (.iload_n 2, 1) := by decide +kernel
theorem dX7_setRoom_10 : decode cX7_setRoom 10 = .ok (.iconst 0, 1) := by decide +kernel
theorem dX7_setRoom_11 : decode cX7_setRoom 11 = .ok (.sipush 500, 3) := by decide +kernel
theorem dX7_setRoom_14 : decode cX7_setRoom 14 = .ok (.invokestatic 45, 3) := by decide +kernel
theorem dX7_setRoom_17 : decode cX7_setRoom 17 = .ok (.ifCond .ne 6, 3) := by decide +kernel
theorem dX7_setRoom_20 : decode cX7_setRoom 20 = .ok (.bipush (-2), 2) := by decide +kernel
theorem dX7_setRoom_22 : decode cX7_setRoom 22 = .ok (.ireturn, 1) := by decide +kernel
theorem dX7_setRoom_23 : decode cX7_setRoom 23 = .ok (.aload_n 0, 1) := by decide +kernel
theorem dX7_setRoom_24 : decode cX7_setRoom 24 = .ok (.getfield 33, 3) := by decide +kernel
theorem dX7_setRoom_27 : decode cX7_setRoom 27 = .ok (.iload_n 1, 1) := by decide +kernel
theorem dX7_setRoom_28 : decode cX7_setRoom 28 = .ok (.iaload, 1) := by decide +kernel
theorem dX7_setRoom_29 : decode cX7_setRoom 29 = .ok (.istore_n 3, 1) := by decide +kernel
theorem dX7_setRoom_30 : decode cX7_setRoom 30 = .ok (.aload_n 0, 1) := by decide +kernel
theorem dX7_setRoom_31 : decode cX7_setRoom 31 = .ok (.getfield 33, 3) := by decide +kernel
theorem dX7_setRoom_34 : decode cX7_setRoom 34 = .ok (.iload_n 1, 1) := by decide +kernel
theorem dX7_setRoom_35 : decode cX7_setRoom 35 = .ok (.iload_n 2, 1) := by decide +kernel
theorem dX7_setRoom_36 : decode cX7_setRoom 36 = .ok (.iastore, 1) := by decide +kernel
theorem dX7_setRoom_37 : decode cX7_setRoom 37 = .ok (.iload_n 3, 1) := by decide +kernel
theorem dX7_setRoom_38 : decode cX7_setRoom 38 = .ok (.ireturn, 1) := by decide +kernel
theorem dX7_add_0 : decode cX7_add 0 = .ok (.iload_n 1, 1) := by decide +kernel
theorem dX7_add_1 : decode cX7_add 1 = .ok (.iconst (-1), 1) := by decide +kernel
theorem dX7_add_2 : decode cX7_add 2 = .ok (.iconst 5, 1) := by decide +kernel
theorem dX7_add_3 : decode cX7_add 3 = .ok (.invokestatic 45, 3) := by decide +kernel
theorem dX7_add_6 : decode cX7_add 6 = .ok (.ifCond .eq 29, 3) := by decide +kernel
theorem dX7_add_9 : decode cX7_add 9 = .ok (.iload_n 2, 1) := by decide +kernel
theorem dX7_add_10 : decode cX7_add 10 = .ok (.invokestatic 49, 3) := by decide +kernel
theorem dX7_add_13 : decode cX7_add 13 = .ok (.ifCond .eq 22, 3) := by decide +kernel
theorem dX7_add_16 : decode cX7_add 16 = .ok (.iload_n 3, 1) := by decide +kernel
theorem dX7_add_17 : decode cX7_add 17 = .ok (.iconst (-1), 1) := by decide +kernel
theorem dX7_add_18 : decode cX7_add 18 = .ok (.iconst 5, 1) := by decide +kernel
theorem dX7_add_19 : decode cX7_add 19 = .ok (.invokestatic 45, 3) := by decide +kernel
theorem dX7_add_22 : decode cX7_add 22 = .ok (.ifCond .eq 13, 3) := by decide +kernel
theorem dX7_add_25 : decode cX7_add 25 = .ok (.iload_n 1, 1) := by decide +kernel
theorem dX7_add_26 : decode cX7_add 26 = .ok (.iconst (-1), 1) := by decide +kernel
theorem dX7_add_27 : decode cX7_add 27 = .ok (.if_icmp .eq 11, 3) := by decide +kernel
theorem dX7_add_30 : decode cX7_add 30 = .ok (.iload_n 3, 1) := by decide +kernel
theorem dX7_add_31 : decode cX7_add 31 = .ok (.iconst (-1), 1) := by decide +kernel
theorem dX7_add_32 : decode cX7_add 32 = .ok (.if_icmp .eq 6, 3) := by decide +kernel
theorem dX7_add_35 : decode cX7_add 35 = .ok (.bipush (-2), 2) := by decide +kernel
theorem dX7_add_37 : decode cX7_add 37 = .ok (.ireturn, 1) := by decide +kernel
theorem dX7_add_38 : decode cX7_add 38 = .ok (.aload_n 0, 1) := by decide +kernel
theorem dX7_add_39 : decode cX7_add 39 = .ok (.getfield 23, 3) := by decide +kernel
theorem dX7_add_42 : decode cX7_add 42 = .ok (.bipush 12, 2) := by decide +kernel
theorem dX7_add_44 : decode cX7_add 44 = .ok (.if_icmp .lt 6, 3) := by decide +kernel
theorem dX7_add_47 : decode cX7_add 47 = .ok (.bipush (-4), 2) := by decide +kernel
theorem dX7_add_49 : decode cX7_add 49 = .ok (.ireturn, 1) := by decide +kernel
theorem dX7_add_50 : decode cX7_add 50 = .ok (.aload_n 0, 1) := by decide +kernel
theorem dX7_add_51 : decode cX7_add 51 = .ok (.getfield 27, 3) := by decide +kernel
theorem dX7_add_54 : decode cX7_add 54 = .ok (.aload_n 0, 1) := by decide +kernel
theorem dX7_add_55 : decode cX7_add 55 = .ok (.getfield 23, 3) := by decide +kernel
theorem dX7_add_58 : decode cX7_add 58 = .ok (.iload_n 1, 1) := by decide +kernel
theorem dX7_add_59 : decode cX7_add 59 = .ok (.iastore, 1) := by decide +kernel
theorem dX7_add_60 : decode cX7_add 60 = .ok (.aload_n 0, 1) := by decide +kernel
theorem dX7_add_61 : decode cX7_add 61 = .ok (.getfield 11, 3) := by decide +kernel
theorem dX7_add_64 : decode cX7_add 64 = .ok (.aload_n 0, 1) := by decide +kernel
theorem dX7_add_65 : decode cX7_add 65 = .ok (.getfield 23, 3) := by decide +kernel
theorem dX7_add_68 : decode cX7_add 68 = .ok (.iload_n 2, 1) := by decide +kernel
theorem dX7_add_69 : decode cX7_add 69 = .ok (.iastore, 1) := by decide +kernel
theorem dX7_add_70 : decode cX7_add 70 = .ok (.aload_n 0, 1) := by decide +kernel
theorem dX7_add_71 : decode cX7_add 71 = .ok (.getfield 30, 3) := by decide +kernel
theorem dX7_add_74 : decode cX7_add 74 = .ok (.aload_n 0, 1) := by decide +kernel
theorem dX7_add_75 : decode cX7_add 75 = .ok (.getfield 23, 3) := by decide +kernel
theorem dX7_add_78 : decode cX7_add 78 = .ok (.iload_n 3, 1) := by decide +kernel
theorem dX7_add_79 : decode cX7_add 79 = .ok (.iastore, 1) := by decide +kernel
theorem dX7_add_80 : decode cX7_add 80 = .ok (.aload_n 0, 1) := by decide +kernel
theorem dX7_add_81 : decode cX7_add 81 = .ok (.dup, 1) := by decide +kernel
theorem dX7_add_82 : decode cX7_add 82 = .ok (.getfield 23, 3) := by decide +kernel
theorem dX7_add_85 : decode cX7_add 85 = .ok (.iconst 1, 1) := by decide +kernel
theorem dX7_add_86 : decode cX7_add 86 = .ok (.iadd, 1) := by decide +kernel
theorem dX7_add_87 : decode cX7_add 87 = .ok (.putfield 23, 3) := by decide +kernel
theorem dX7_add_90 : decode cX7_add 90 = .ok (.aload_n 0, 1) := by decide +kernel
theorem dX7_add_91 : decode cX7_add 91 = .ok (.getfield 23, 3) := by decide +kernel
theorem dX7_add_94 : decode cX7_add 94 = .ok (.iconst 1, 1) := by decide +kernel
theorem dX7_add_95 : decode cX7_add 95 = .ok (.isub, 1) := by decide +kernel
theorem dX7_add_96 : decode cX7_add 96 = .ok (.ireturn, 1) := by decide +kernel
theorem dX7_addWish_0 : decode cX7_addWish 0 = .ok (.aload_n 0, 1) := by decide +kernel
theorem dX7_addWish_1 : decode cX7_addWish 1 = .ok (.iload_n 2, 1) := by decide +kernel
theorem dX7_addWish_2 : decode cX7_addWish 2 = .ok (.invokevirtual 53, 3) := by decide +kernel
theorem dX7_addWish_5 : decode cX7_addWish 5 = .ok (.ifCond .eq 12, 3) := by decide +kernel
theorem dX7_addWish_8 : decode cX7_addWish 8 = .ok (.aload_n 0, 1) := by decide +kernel
theorem dX7_addWish_9 : decode cX7_addWish 9 = .ok (.iload_n 1, 1) := by decide +kernel
theorem dX7_addWish_10 : decode cX7_addWish 10 = .ok (.iload_n 2, 1) := by decide +kernel
theorem dX7_addWish_11 : decode cX7_addWish 11 = .ok (.invokevirtual 56, 3) := by decide +kernel
theorem dX7_addWish_14 : decode cX7_addWish 14 = .ok (.ifCond .eq 6, 3) := by decide +kernel
theorem dX7_addWish_17 : decode cX7_addWish 17 = .ok (.bipush (-2), 2) := by decide +kernel
theorem dX7_addWish_19 : decode cX7_addWish 19 = .ok (.ireturn, 1) := by decide +kernel
theorem dX7_addWish_20 : decode cX7_addWish 20 = .ok (.aload_n 0, 1) := by decide +kernel
theorem dX7_addWish_21 : decode cX7_addWish 21 = .ok (.getfield 42, 3) := by decide +kernel
theorem dX7_addWish_24 : decode cX7_addWish 24 = .ok (.iload_n 1, 1) := by decide +kernel
theorem dX7_addWish_25 : decode cX7_addWish 25 = .ok (.iaload, 1) := by decide +kernel
theorem dX7_addWish_26 : decode cX7_addWish 26 = .ok (.bipush 6, 2) := by decide +kernel
theorem dX7_addWish_28 : decode cX7_addWish 28 = .ok (.if_icmp .lt 6, 3) := by decide +kernel
theorem dX7_addWish_31 : decode cX7_addWish 31 = .ok (.bipush (-4), 2) := by decide +kernel
theorem dX7_addWish_33 : decode cX7_addWish 33 = .ok (.ireturn, 1) := by decide +kernel
theorem dX7_addWish_34 : decode cX7_addWish 34 = .ok (.aload_n 0, 1) := by decide +kernel
theorem dX7_addWish_35 : decode cX7_addWish 35 = .ok (.getfield 39, 3) := by decide +kernel
theorem dX7_addWish_38 : decode cX7_addWish 38 = .ok (.iload_n 1, 1) := by decide +kernel
theorem dX7_addWish_39 : decode cX7_addWish 39 = .ok (.bipush 6, 2) := by decide +kernel
theorem dX7_addWish_41 : decode cX7_addWish 41 = .ok (.imul, 1) := by decide +kernel
theorem dX7_addWish_42 : decode cX7_addWish 42 = .ok (.aload_n 0, 1) := by decide +kernel
theorem dX7_addWish_43 : decode cX7_addWish 43 = .ok (.getfield 42, 3) := by decide +kernel
theorem dX7_addWish_46 : decode cX7_addWish 46 = .ok (.iload_n 1, 1) := by decide +kernel
theorem dX7_addWish_47 : decode cX7_addWish 47 = .ok (.iaload, 1) := by decide +kernel
theorem dX7_addWish_48 : decode cX7_addWish 48 = .ok (.iadd, 1) := by decide +kernel
theorem dX7_addWish_49 : decode cX7_addWish 49 = .ok (.iload_n 2, 1) := by decide +kernel
theorem dX7_addWish_50 : decode cX7_addWish 50 = .ok (.iastore, 1) := by decide +kernel
theorem dX7_addWish_51 : decode cX7_addWish 51 = .ok (.aload_n 0, 1) := by decide +kernel
theorem dX7_addWish_52 : decode cX7_addWish 52 = .ok (.getfield 42, 3) := by decide +kernel
theorem dX7_addWish_55 : decode cX7_addWish 55 = .ok (.iload_n 1, 1) := by decide +kernel
theorem dX7_addWish_56 : decode cX7_addWish 56 = .ok (.dup2, 1) := by decide +kernel
theorem dX7_addWish_57 : decode cX7_addWish 57 = .ok (.iaload, 1) := by decide +kernel
theorem dX7_addWish_58 : decode cX7_addWish 58 = .ok (.iconst 1, 1) := by decide +kernel
theorem dX7_addWish_59 : decode cX7_addWish 59 = .ok (.iadd, 1) := by decide +kernel
theorem dX7_addWish_60 : decode cX7_addWish 60 = .ok (.iastore, 1) := by decide +kernel
theorem dX7_addWish_61 : decode cX7_addWish 61 = .ok (.aload_n 0, 1) := by decide +kernel
theorem dX7_addWish_62 : decode cX7_addWish 62 = .ok (.getfield 42, 3) := by decide +kernel
theorem dX7_addWish_65 : decode cX7_addWish 65 = .ok (.iload_n 1, 1) := by decide +kernel
theorem dX7_addWish_66 : decode cX7_addWish 66 = .ok (.iaload, 1) := by decide +kernel
theorem dX7_addWish_67 : decode cX7_addWish 67 = .ok (.ireturn, 1) := by decide +kernel
theorem dX7_isWished_0 : decode cX7_isWished 0 = .ok (.iconst 0, 1) := by decide +kernel
theorem dX7_isWished_1 : decode cX7_isWished 1 = .ok (.istore_n 3, 1) := by decide +kernel
theorem dX7_isWished_2 : decode cX7_isWished 2 = .ok (.iload_n 3, 1) := by decide +kernel
theorem dX7_isWished_3 : decode cX7_isWished 3 = .ok (.aload_n 0, 1) := by decide +kernel
theorem dX7_isWished_4 : decode cX7_isWished 4 = .ok (.getfield 42, 3) := by decide +kernel
theorem dX7_isWished_7 : decode cX7_isWished 7 = .ok (.iload_n 1, 1) := by decide +kernel
theorem dX7_isWished_8 : decode cX7_isWished 8 = .ok (.iaload, 1) := by decide +kernel
theorem dX7_isWished_9 : decode cX7_isWished 9 = .ok (.if_icmp .ge 26, 3) := by decide +kernel
theorem dX7_isWished_12 : decode cX7_isWished 12 = .ok (.aload_n 0, 1) := by decide +kernel
theorem dX7_isWished_13 : decode cX7_isWished 13 = .ok (.getfield 39, 3) := by decide +kernel
theorem dX7_isWished_16 : decode cX7_isWished 16 = .ok (.iload_n 1, 1) := by decide +kernel
theorem dX7_isWished_17 : decode cX7_isWished 17 = .ok (.bipush 6, 2) := by decide +kernel
theorem dX7_isWished_19 : decode cX7_isWished 19 = .ok (.imul, 1) := by decide +kernel
theorem dX7_isWished_20 : decode cX7_isWished 20 = .ok (.iload_n 3, 1) := by decide +kernel
theorem dX7_isWished_21 : decode cX7_isWished 21 = .ok (.iadd, 1) := by decide +kernel
theorem dX7_isWished_22 : decode cX7_isWished 22 = .ok (.iaload, 1) := by decide +kernel
theorem dX7_isWished_23 : decode cX7_isWished 23 = .ok (.iload_n 2, 1) := by decide +kernel
theorem dX7_isWished_24 : decode cX7_isWished 24 = .ok (.if_icmp .ne 5, 3) := by decide +kernel
theorem dX7_isWished_27 : decode cX7_isWished 27 = .ok (.iconst 1, 1) := by decide +kernel
theorem dX7_isWished_28 : decode cX7_isWished 28 = .ok (.ireturn, 1) := by decide +kernel
theorem dX7_isWished_29 : decode cX7_isWished 29 = .ok (.iinc 3 1, 3) := by decide +kernel
theorem dX7_isWished_32 : decode cX7_isWished 32 = .ok (.goto (-30), 3) := by decide +kernel
theorem dX7_isWished_35 : decode cX7_isWished 35 = .ok (.iconst 0, 1) := by decide +kernel
theorem dX7_isWished_36 : decode cX7_isWished 36 = .ok (.ireturn, 1) := by decide +kernel
theorem dX7_place_0 : decode cX7_place 0 = .ok (.aload_n 0, 1) := by decide +kernel
theorem dX7_place_1 : decode cX7_place 1 = .ok (.getfield 27, 3) := by decide +kernel
theorem dX7_place_4 : decode cX7_place 4 = .ok (.iload_n 1, 1) := by decide +kernel
theorem dX7_place_5 : decode cX7_place 5 = .ok (.iaload, 1) := by decide +kernel
theorem dX7_place_6 : decode cX7_place 6 = .ok (.iconst (-1), 1) := by decide +kernel
theorem dX7_place_7 : decode cX7_place 7 = .ok (.if_icmp .eq 10, 3) := by decide +kernel
theorem dX7_place_10 : decode cX7_place 10 = .ok (.aload_n 0, 1) := by decide +kernel
theorem dX7_place_11 : decode cX7_place 11 = .ok (.getfield 27, 3) := by decide +kernel
theorem dX7_place_14 : decode cX7_place 14 = .ok (.iload_n 1, 1) := by decide +kernel
theorem dX7_place_15 : decode cX7_place 15 = .ok (.iaload, 1) := by decide +kernel
theorem dX7_place_16 : decode cX7_place 16 = .ok (.ireturn, 1) := by decide +kernel
theorem dX7_place_17 : decode cX7_place 17 = .ok (.iload_n 2, 1) := by decide +kernel
theorem dX7_place_18 : decode cX7_place 18 = .ok (.ifCond .eq 12, 3) := by decide +kernel
theorem dX7_place_21 : decode cX7_place 21 = .ok (.aload_n 0, 1) := by decide +kernel
theorem dX7_place_22 : decode cX7_place 22 = .ok (.getfield 30, 3) := by decide +kernel
theorem dX7_place_25 : decode cX7_place 25 = .ok (.iload_n 1, 1) := by decide +kernel
theorem dX7_place_26 : decode cX7_place 26 = .ok (.iaload, 1) := by decide +kernel
theorem dX7_place_27 : decode cX7_place 27 = .ok (.goto 5, 3) := by decide +kernel
theorem dX7_place_30 : decode cX7_place 30 = .ok (.bipush 6, 2) := by decide +kernel
theorem dX7_place_32 : decode cX7_place 32 = .ok (.ireturn, 1) := by decide +kernel
theorem dX7_send_0 : decode cX7_send 0 = .ok (.aload_n 0, 1) := by decide +kernel
theorem dX7_send_1 : decode cX7_send 1 = .ok (.getfield 33, 3) := by decide +kernel
theorem dX7_send_4 : decode cX7_send 4 = .ok (.iconst 0, 1) := by decide +kernel
theorem dX7_send_5 : decode cX7_send 5 = .ok (.aload_n 0, 1) := by decide +kernel
theorem dX7_send_6 : decode cX7_send 6 = .ok (.getfield 36, 3) := by decide +kernel
theorem dX7_send_9 : decode cX7_send 9 = .ok (.iconst 0, 1) := by decide +kernel
theorem dX7_send_10 : decode cX7_send 10 = .ok (.bipush 7, 2) := by decide +kernel
theorem dX7_send_12 : decode cX7_send 12 = .ok (.invokestatic 60, 3) := by decide +kernel
theorem dX7_send_15 : decode cX7_send 15 = .ok (.iconst 0, 1) := by decide +kernel
theorem dX7_send_16 : decode cX7_send 16 = .ok (.istore 5, 2) := by decide +kernel
theorem dX7_send_18 : decode cX7_send 18 = .ok (.iload 5, 2) := by decide +kernel
theorem dX7_send_20 : decode cX7_send 20 = .ok (.aload_n 1, 1) := by decide +kernel
theorem dX7_send_21 : decode cX7_send 21 = .ok (.getfield 66, 3) := by decide +kernel
theorem dX7_send_24 : decode cX7_send 24 = .ok (.if_icmp .ge 51, 3) := by decide +kernel
theorem dX7_send_27 : decode cX7_send 27 = .ok (.aload_n 0, 1) := by decide +kernel
theorem dX7_send_28 : decode cX7_send 28 = .ok (.getfield 17, 3) := by decide +kernel
theorem dX7_send_31 : decode cX7_send 31 = .ok (.iload 5, 2) := by decide +kernel
theorem dX7_send_33 : decode cX7_send 33 = .ok (.iconst (-1), 1) := by decide +kernel
theorem dX7_send_34 : decode cX7_send 34 = .ok (.iastore, 1) := by decide +kernel
theorem dX7_send_35 : decode cX7_send 35 = .ok (.aload_n 0, 1) := by decide +kernel
theorem dX7_send_36 : decode cX7_send 36 = .ok (.getfield 20, 3) := by decide +kernel
theorem dX7_send_39 : decode cX7_send 39 = .ok (.iload 5, 2) := by decide +kernel
theorem dX7_send_41 : decode cX7_send 41 = .ok (.iconst 0, 1) := by decide +kernel
theorem dX7_send_42 : decode cX7_send 42 = .ok (.iastore, 1) := by decide +kernel
theorem dX7_send_43 : decode cX7_send 43 = .ok (.aload_n 1, 1) := by decide +kernel
theorem dX7_send_44 : decode cX7_send 44 = .ok (.iload 5, 2) := by decide +kernel
theorem dX7_send_46 : decode cX7_send 46 = .ok (.iload_n 2, 1) := by decide +kernel
theorem dX7_send_47 : decode cX7_send 47 = .ok (.invokevirtual 67, 3) := by decide +kernel
theorem dX7_send_50 : decode cX7_send 50 = .ok (.ifCond .eq 19, 3) := by decide +kernel
theorem dX7_send_53 : decode cX7_send 53 = .ok (.aload_n 0, 1) := by decide +kernel
theorem dX7_send_54 : decode cX7_send 54 = .ok (.iload 5, 2) := by decide +kernel
theorem dX7_send_56 : decode cX7_send 56 = .ok (.aload_n 1, 1) := by decide +kernel
theorem dX7_send_57 : decode cX7_send 57 = .ok (.getfield 70, 3) := by decide +kernel
theorem dX7_send_60 : decode cX7_send 60 = .ok (.iload 5, 2) := by decide +kernel
theorem dX7_send_62 : decode cX7_send 62 = .ok (.iaload, 1) := by decide +kernel
theorem dX7_send_63 : decode cX7_send 63 = .ok (.iload_n 3, 1) := by decide +kernel
theorem dX7_send_64 : decode cX7_send 64 = .ok (.iload 4, 2) := by decide +kernel
theorem dX7_send_66 : decode cX7_send 66 = .ok (.invokevirtual 73, 3) := by decide +kernel
theorem dX7_send_69 : decode cX7_send 69 = .ok (.iinc 5 1, 3) := by decide +kernel
theorem dX7_send_72 : decode cX7_send 72 = .ok (.goto (-54), 3) := by decide +kernel
theorem dX7_send_75 : decode cX7_send 75 = .ok (.return_, 1) := by decide +kernel
theorem dX7_sendParty_0 : decode cX7_sendParty 0 = .ok (.iconst 0, 1) := by decide +kernel
theorem dX7_sendParty_1 : decode cX7_sendParty 1 = .ok (.istore 5, 2) := by decide +kernel
theorem dX7_sendParty_3 : decode cX7_sendParty 3 = .ok (.iload 5, 2) := by decide +kernel
theorem dX7_sendParty_5 : decode cX7_sendParty 5 = .ok (.aload_n 0, 1) := by decide +kernel
theorem dX7_sendParty_6 : decode cX7_sendParty 6 = .ok (.getfield 42, 3) := by decide +kernel
theorem dX7_sendParty_9 : decode cX7_sendParty 9 = .ok (.iload_n 1, 1) := by decide +kernel
theorem dX7_sendParty_10 : decode cX7_sendParty 10 = .ok (.iaload, 1) := by decide +kernel
theorem dX7_sendParty_11 : decode cX7_sendParty 11 = .ok (.if_icmp .ge 101, 3) := by decide +kernel
theorem dX7_sendParty_14 : decode cX7_sendParty 14 = .ok (.aload_n 0, 1) := by decide +kernel
theorem dX7_sendParty_15 : decode cX7_sendParty 15 = .ok (.getfield 39, 3) := by decide +kernel
theorem dX7_sendParty_18 : decode cX7_sendParty 18 = .ok (.iload_n 1, 1) := by decide +kernel
theorem dX7_sendParty_19 : decode cX7_sendParty 19 = .ok (.bipush 6, 2) := by decide +kernel
theorem dX7_sendParty_21 : decode cX7_sendParty 21 = .ok (.imul, 1) := by decide +kernel
theorem dX7_sendParty_22 : decode cX7_sendParty 22 = .ok (.iload 5, 2) := by decide +kernel
theorem dX7_sendParty_24 : decode cX7_sendParty 24 = .ok (.iadd, 1) := by decide +kernel
theorem dX7_sendParty_25 : decode cX7_sendParty 25 = .ok (.iaload, 1) := by decide +kernel
theorem dX7_sendParty_26 : decode cX7_sendParty 26 = .ok (.istore 6, 2) := by decide +kernel
theorem dX7_sendParty_28 : decode cX7_sendParty 28 = .ok (.aload_n 0, 1) := by decide +kernel
theorem dX7_sendParty_29 : decode cX7_sendParty 29 = .ok (.getfield 11, 3) := by decide +kernel
theorem dX7_sendParty_32 : decode cX7_sendParty 32 = .ok (.iload 6, 2) := by decide +kernel
theorem dX7_sendParty_34 : decode cX7_sendParty 34 = .ok (.iaload, 1) := by decide +kernel
theorem dX7_sendParty_35 : decode cX7_sendParty 35 = .ok (.iload_n 3, 1) := by decide +kernel
theorem dX7_sendParty_36 : decode cX7_sendParty 36 = .ok (.if_icmp .ne 14, 3) := by decide +kernel
theorem dX7_sendParty_39 : decode cX7_sendParty 39 = .ok (.aload_n 0, 1) := by decide +kernel
theorem dX7_sendParty_40 : decode cX7_sendParty 40 = .ok (.iload 6, 2) := by decide +kernel
theorem dX7_sendParty_42 : decode cX7_sendParty 42 = .ok (.iload 4, 2) := by decide +kernel
theorem dX7_sendParty_44 : decode cX7_sendParty 44 = .ok (.invokevirtual 77, 3) := by decide +kernel
theorem dX7_sendParty_47 : decode cX7_sendParty 47 = .ok (.goto 4, 3) := by decide +kernel
theorem dX7_sendParty_50 : decode cX7_sendParty 50 = .ok (.iconst (-1), 1) := by decide +kernel
theorem dX7_sendParty_51 : decode cX7_sendParty 51 = .ok (.istore 7, 2) := by decide +kernel
theorem dX7_sendParty_53 : decode cX7_sendParty 53 = .ok (.iload 7, 2) := by decide +kernel
theorem dX7_sendParty_55 : decode cX7_sendParty 55 = .ok (.iconst (-1), 1) := by decide +kernel
theorem dX7_sendParty_56 : decode cX7_sendParty 56 = .ok (.if_icmp .eq 34, 3) := by decide +kernel
theorem dX7_sendParty_59 : decode cX7_sendParty 59 = .ok (.aload_n 0, 1) := by decide +kernel
theorem dX7_sendParty_60 : decode cX7_sendParty 60 = .ok (.getfield 36, 3) := by decide +kernel
theorem dX7_sendParty_63 : decode cX7_sendParty 63 = .ok (.iload 7, 2) := by decide +kernel
theorem dX7_sendParty_65 : decode cX7_sendParty 65 = .ok (.iaload, 1) := by decide +kernel
theorem dX7_sendParty_66 : decode cX7_sendParty 66 = .ok (.iload_n 2, 1) := by decide +kernel
theorem dX7_sendParty_67 : decode cX7_sendParty 67 = .ok (.if_icmp .lt 23, 3) := by decide +kernel
theorem dX7_sendParty_70 : decode cX7_sendParty 70 = .ok (.aload_n 0, 1) := by decide +kernel
theorem dX7_sendParty_71 : decode cX7_sendParty 71 = .ok (.getfield 36, 3) := by decide +kernel
theorem dX7_sendParty_74 : decode cX7_sendParty 74 = .ok (.iload 7, 2) := by decide +kernel
theorem dX7_sendParty_76 : decode cX7_sendParty 76 = .ok (.dup2, 1) := by decide +kernel
theorem dX7_sendParty_77 : decode cX7_sendParty 77 = .ok (.iaload, 1) := by decide +kernel
theorem dX7_sendParty_78 : decode cX7_sendParty 78 = .ok (.iload_n 2, 1) := by decide +kernel
theorem dX7_sendParty_79 : decode cX7_sendParty 79 = .ok (.isub, 1) := by decide +kernel
theorem dX7_sendParty_80 : decode cX7_sendParty 80 = .ok (.iastore, 1) := by decide +kernel
theorem dX7_sendParty_81 : decode cX7_sendParty 81 = .ok (.aload_n 0, 1) := by decide +kernel
theorem dX7_sendParty_82 : decode cX7_sendParty 82 = .ok (.getfield 17, 3) := by decide +kernel
theorem dX7_sendParty_85 : decode cX7_sendParty 85 = .ok (.iload_n 1, 1) := by decide +kernel
theorem dX7_sendParty_86 : decode cX7_sendParty 86 = .ok (.iload 6, 2) := by decide +kernel
theorem dX7_sendParty_88 : decode cX7_sendParty 88 = .ok (.iastore, 1) := by decide +kernel
theorem dX7_sendParty_89 : decode cX7_sendParty 89 = .ok (.return_, 1) := by decide +kernel
theorem dX7_sendParty_90 : decode cX7_sendParty 90 = .ok (.iload 7, 2) := by decide +kernel
theorem dX7_sendParty_92 : decode cX7_sendParty 92 = .ok (.iconst (-1), 1) := by decide +kernel
theorem dX7_sendParty_93 : decode cX7_sendParty 93 = .ok (.if_icmp .eq 13, 3) := by decide +kernel
theorem dX7_sendParty_96 : decode cX7_sendParty 96 = .ok (.aload_n 0, 1) := by decide +kernel
theorem dX7_sendParty_97 : decode cX7_sendParty 97 = .ok (.getfield 20, 3) := by decide +kernel
theorem dX7_sendParty_100 : decode cX7_sendParty 100 = .ok (.iload_n 1, 1) := by decide +kernel
theorem dX7_sendParty_101 : decode cX7_sendParty 101 = .ok (.dup2, 1) := by decide +kernel
theorem dX7_sendParty_102 : decode cX7_sendParty 102 = .ok (.iaload, 1) := by decide +kernel
theorem dX7_sendParty_103 : decode cX7_sendParty 103 = .ok (.iconst 1, 1) := by decide +kernel
theorem dX7_sendParty_104 : decode cX7_sendParty 104 = .ok (.iadd, 1) := by decide +kernel
theorem dX7_sendParty_105 : decode cX7_sendParty 105 = .ok (.iastore, 1) := by decide +kernel
theorem dX7_sendParty_106 : decode cX7_sendParty 106 = .ok (.iinc 5 1, 3) := by decide +kernel
theorem dX7_sendParty_109 : decode cX7_sendParty 109 = .ok (.goto (-106), 3) := by decide +kernel
theorem dX7_sendParty_112 : decode cX7_sendParty 112 = .ok (.return_, 1) := by decide +kernel
theorem dX7_peopleIn_0 : decode cX7_peopleIn 0 = .ok (.iconst 0, 1) := by decide +kernel
theorem dX7_peopleIn_1 : decode cX7_peopleIn 1 = .ok (.istore_n 3, 1) := by decide +kernel
theorem dX7_peopleIn_2 : decode cX7_peopleIn 2 = .ok (.iconst 0, 1) := by decide +kernel
theorem dX7_peopleIn_3 : decode cX7_peopleIn 3 = .ok (.istore 4, 2) := by decide +kernel
theorem dX7_peopleIn_5 : decode cX7_peopleIn 5 = .ok (.iload 4, 2) := by decide +kernel
theorem dX7_peopleIn_7 : decode cX7_peopleIn 7 = .ok (.aload_n 2, 1) := by decide +kernel
theorem dX7_peopleIn_8 : decode cX7_peopleIn 8 = .ok (.getfield 66, 3) := by decide +kernel
theorem dX7_peopleIn_11 : decode cX7_peopleIn 11 = .ok (.if_icmp .ge 30, 3) := by decide +kernel
theorem dX7_peopleIn_14 : decode cX7_peopleIn 14 = .ok (.aload_n 0, 1) := by decide +kernel
theorem dX7_peopleIn_15 : decode cX7_peopleIn 15 = .ok (.getfield 17, 3) := by decide +kernel
theorem dX7_peopleIn_18 : decode cX7_peopleIn 18 = .ok (.iload 4, 2) := by decide +kernel
theorem dX7_peopleIn_20 : decode cX7_peopleIn 20 = .ok (.iaload, 1) := by decide +kernel
theorem dX7_peopleIn_21 : decode cX7_peopleIn 21 = .ok (.iload_n 1, 1) := by decide +kernel
theorem dX7_peopleIn_22 : decode cX7_peopleIn 22 = .ok (.if_icmp .ne 13, 3) := by decide +kernel
theorem dX7_peopleIn_25 : decode cX7_peopleIn 25 = .ok (.iload_n 3, 1) := by decide +kernel
theorem dX7_peopleIn_26 : decode cX7_peopleIn 26 = .ok (.aload_n 2, 1) := by decide +kernel
theorem dX7_peopleIn_27 : decode cX7_peopleIn 27 = .ok (.getfield 70, 3) := by decide +kernel
theorem dX7_peopleIn_30 : decode cX7_peopleIn 30 = .ok (.iload 4, 2) := by decide +kernel
theorem dX7_peopleIn_32 : decode cX7_peopleIn 32 = .ok (.iaload, 1) := by decide +kernel
theorem dX7_peopleIn_33 : decode cX7_peopleIn 33 = .ok (.iadd, 1) := by decide +kernel
theorem dX7_peopleIn_34 : decode cX7_peopleIn 34 = .ok (.istore_n 3, 1) := by decide +kernel
theorem dX7_peopleIn_35 : decode cX7_peopleIn 35 = .ok (.iinc 4 1, 3) := by decide +kernel
theorem dX7_peopleIn_38 : decode cX7_peopleIn 38 = .ok (.goto (-33), 3) := by decide +kernel
theorem dX7_peopleIn_41 : decode cX7_peopleIn 41 = .ok (.iload_n 3, 1) := by decide +kernel
theorem dX7_peopleIn_42 : decode cX7_peopleIn 42 = .ok (.ireturn, 1) := by decide +kernel
theorem dX8_init_0 : decode cX8_init 0 = .ok (.aload_n 0, 1) := by decide +kernel
theorem dX8_init_1 : decode cX8_init 1 = .ok (.invokespecial 5, 3) := by decide +kernel
theorem dX8_init_4 : decode cX8_init 4 = .ok (.aload_n 0, 1) := by decide +kernel
theorem dX8_init_5 : decode cX8_init 5 = .ok (.bipush 60, 2) := by decide +kernel
theorem dX8_init_7 : decode cX8_init 7 = .ok (.putfield 13, 3) := by decide +kernel
theorem dX8_init_10 : decode cX8_init 10 = .ok (.aload_n 0, 1) := by decide +kernel
theorem dX8_init_11 : decode cX8_init 11 = .ok (.bipush 60, 2) := by decide +kernel
theorem dX8_init_13 : decode cX8_init 13 = .ok (.putfield 17, 3) := by decide +kernel
theorem dX8_init_16 : decode cX8_init 16 = .ok (.aload_n 0, 1) := by decide +kernel
theorem dX8_init_17 : decode cX8_init 17 = .ok (.iconst (-1), 1) := by decide +kernel
theorem dX8_init_18 : decode cX8_init 18 = .ok (.putfield 20, 3) := by decide +kernel
theorem dX8_init_21 : decode cX8_init 21 = .ok (.aload_n 0, 1) := by decide +kernel
theorem dX8_init_22 : decode cX8_init 22 = .ok (.iconst 0, 1) := by decide +kernel
theorem dX8_init_23 : decode cX8_init 23 = .ok (.putfield 23, 3) := by decide +kernel
theorem dX8_init_26 : decode cX8_init 26 = .ok (.aload_n 0, 1) := by decide +kernel
theorem dX8_init_27 : decode cX8_init 27 = .ok (.iconst 0, 1) := by decide +kernel
theorem dX8_init_28 : decode cX8_init 28 = .ok (.putfield 26, 3) := by decide +kernel
theorem dX8_init_31 : decode cX8_init 31 = .ok (.aload_n 0, 1) := by decide +kernel
theorem dX8_init_32 : decode cX8_init 32 = .ok (.bipush 24, 2) := by decide +kernel
theorem dX8_init_34 : decode cX8_init 34 = .ok (.newarray .int, 2) := by decide +kernel
theorem dX8_init_36 : decode cX8_init 36 = .ok (.putfield 29, 3) := by decide +kernel
theorem dX8_init_39 : decode cX8_init 39 = .ok (.aload_n 0, 1) := by decide +kernel
theorem dX8_init_40 : decode cX8_init 40 = .ok (.bipush 10, 2) := by decide +kernel
theorem dX8_init_42 : decode cX8_init 42 = .ok (.newarray .int, 2) := by decide +kernel
theorem dX8_init_44 : decode cX8_init 44 = .ok (.putfield 33, 3) := by decide +kernel
theorem dX8_init_47 : decode cX8_init 47 = .ok (.aload_n 0, 1) := by decide +kernel
theorem dX8_init_48 : decode cX8_init 48 = .ok (.bipush 24, 2) := by decide +kernel
theorem dX8_init_50 : decode cX8_init 50 = .ok (.newarray .int, 2) := by decide +kernel
theorem dX8_init_52 : decode cX8_init 52 = .ok (.putfield 36, 3) := by decide +kernel
theorem dX8_init_55 : decode cX8_init 55 = .ok (.aload_n 0, 1) := by decide +kernel
theorem dX8_init_56 : decode cX8_init 56 = .ok (.bipush 24, 2) := by decide +kernel
theorem dX8_init_58 : decode cX8_init 58 = .ok (.newarray .int, 2) := by decide +kernel
theorem dX8_init_60 : decode cX8_init 60 = .ok (.putfield 39, 3) := by decide +kernel
theorem dX8_init_63 : decode cX8_init 63 = .ok (.aload_n 0, 1) := by decide +kernel
theorem dX8_init_64 : decode cX8_init 64 = .ok (.sipush 193, 3) := by decide +kernel
theorem dX8_init_67 : decode cX8_init 67 = .ok (.newarray .int, 2) := by decide +kernel
theorem dX8_init_69 : decode cX8_init 69 = .ok (.putfield 42, 3) := by decide +kernel
theorem dX8_init_72 : decode cX8_init 72 = .ok (.return_, 1) := by decide +kernel
theorem dX8_setSeats_0 : decode cX8_setSeats 0 = .ok (.iload_n 1, 1) := by decide +kernel
theorem dX8_setSeats_1 : decode cX8_setSeats 1 = .ok (.iconst 0, 1) := by decide +kernel
theorem dX8_setSeats_2 : decode cX8_setSeats 2 = .ok (.sipush 200, 3) := by decide +kernel
theorem dX8_setSeats_5 : decode cX8_setSeats 5 = .ok (.invokestatic 45, 3) := by decide +kernel
theorem dX8_setSeats_8 : decode cX8_setSeats 8 = .ok (.ifCond .eq 14, 3) := by decide +kernel
theorem dX8_setSeats_11 : decode cX8_setSeats 11 = .ok (.iload_n 2, 1) := by decide +kernel
theorem dX8_setSeats_12 : decode cX8_setSeats 12 = .ok (.iconst 0, 1) := by decide +kernel
theorem dX8_setSeats_13 : decode cX8_setSeats 13 = .ok (.sipush 200, 3) := by decide +kernel
theorem dX8_setSeats_16 : decode cX8_setSeats 16 = .ok (.invokestatic 45, 3) := by decide +kernel
theorem dX8_setSeats_19 : decode cX8_setSeats 19 = .ok (.ifCond .ne 6, 3) := by decide +kernel
theorem dX8_setSeats_22 : decode cX8_setSeats 22 = .ok (.bipush (-2), 2) := by decide +kernel
theorem dX8_setSeats_24 : decode cX8_setSeats 24 = .ok (.ireturn, 1) := by decide +kernel
theorem dX8_setSeats_25 : decode cX8_setSeats 25 = .ok (.aload_n 0, 1) := by decide +kernel
theorem dX8_setSeats_26 : decode cX8_setSeats 26 = .ok (.iload_n 1, 1) := by decide +kernel
theorem dX8_setSeats_27 : decode cX8_setSeats 27 = .ok (.putfield 13, 3) := by decide +kernel
theorem dX8_setSeats_30 : decode cX8_setSeats 30 = .ok (.aload_n 0, 1) := by decide +kernel
theorem dX8_setSeats_31 : decode cX8_setSeats 31 = .ok (.iload_n 2, 1) := by decide +kernel
theorem dX8_setSeats_32 : decode cX8_setSeats 32 = .ok (.putfield 17, 3) := by decide +kernel
theorem dX8_setSeats_35 : decode cX8_setSeats 35 = .ok (.iconst 1, 1) := by decide +kernel
theorem dX8_setSeats_36 : decode cX8_setSeats 36 = .ok (.ireturn, 1) := by decide +kernel
theorem dX8_arrange_0 : decode cX8_arrange 0 = .ok (.aload_n 0, 1) := by decide +kernel
theorem dX8_arrange_1 : decode cX8_arrange 1 = .ok (.aload_n 1, 1) := by decide +kernel
theorem dX8_arrange_2 : decode cX8_arrange 2 = .ok (.iload_n 2, 1) := by decide +kernel
theorem dX8_arrange_3 : decode cX8_arrange 3 = .ok (.invokevirtual 49, 3) := by decide +kernel
theorem dX8_arrange_6 : decode cX8_arrange 6 = .ok (.aload_n 0, 1) := by decide +kernel
theorem dX8_arrange_7 : decode cX8_arrange 7 = .ok (.invokevirtual 53, 3) := by decide +kernel
theorem dX8_arrange_10 : decode cX8_arrange 10 = .ok (.aload_n 0, 1) := by decide +kernel
theorem dX8_arrange_11 : decode cX8_arrange 11 = .ok (.invokevirtual 56, 3) := by decide +kernel
theorem dX8_arrange_14 : decode cX8_arrange 14 = .ok (.aload_n 0, 1) := by decide +kernel
theorem dX8_arrange_15 : decode cX8_arrange 15 = .ok (.invokevirtual 59, 3) := by decide +kernel
theorem dX8_arrange_18 : decode cX8_arrange 18 = .ok (.return_, 1) := by decide +kernel
theorem dX8_fillBenches_0 : decode cX8_fillBenches 0 = .ok (.aload_n 0, 1) := by decide +kernel
theorem dX8_fillBenches_1 : decode cX8_fillBenches 1 = .ok (.iconst 0, 1) := by decide +kernel
theorem dX8_fillBenches_2 : decode cX8_fillBenches 2 = .ok (.putfield 23, 3) := by decide +kernel
theorem dX8_fillBenches_5 : decode cX8_fillBenches 5 = .ok (.aload_n 0, 1) := by decide +kernel
theorem dX8_fillBenches_6 : decode cX8_fillBenches 6 = .ok (.iconst 0, 1) := by decide +kernel
theorem dX8_fillBenches_7 : decode cX8_fillBenches 7 = .ok (.putfield 26, 3) := by decide +kernel
theorem dX8_fillBenches_10 : decode cX8_fillBenches 10 = .ok (.aload_n 0, 1) := by decide +kernel
theorem dX8_fillBenches_11 : decode cX8_fillBenches 11 = .ok (.getfield 29, 3) := by decide +kernel
theorem dX8_fillBenches_14 : decode cX8_fillBenches 14 = .ok (.iconst (-1), 1) := by decide +kernel
theorem dX8_fillBenches_15 : decode cX8_fillBenches 15 = .ok (.invokestatic 62, 3) := by decide +kernel
theorem dX8_fillBenches_18 : decode cX8_fillBenches 18 = .ok (.aload_n 0, 1) := by decide +kernel
theorem dX8_fillBenches_19 : decode cX8_fillBenches 19 = .ok (.getfield 33, 3) := by decide +kernel
theorem dX8_fillBenches_22 : decode cX8_fillBenches 22 = .ok (.iconst (-1), 1) := by decide +kernel
theorem dX8_fillBenches_23 : decode cX8_fillBenches 23 = .ok (.invokestatic 62, 3) := by decide +kernel
theorem dX8_fillBenches_26 : decode cX8_fillBenches 26 = .ok (.iconst 0, 1) := by decide +kernel
theorem dX8_fillBenches_27 : decode cX8_fillBenches 27 = .ok (.istore_n 3, 1) := by decide +kernel
theorem dX8_fillBenches_28 : decode cX8_fillBenches 28 = .ok (.iload_n 3, 1) := by decide +kernel
theorem dX8_fillBenches_29 : decode cX8_fillBenches 29 = .ok (.aload_n 1, 1) := by decide +kernel
theorem dX8_fillBenches_30 : decode cX8_fillBenches 30 = .ok (.getfield 68, 3) := by decide +kernel
theorem dX8_fillBenches_33 : decode cX8_fillBenches 33 = .ok (.if_icmp .ge 69, 3) := by decide +kernel
theorem dX8_fillBenches_36 : decode cX8_fillBenches 36 = .ok (.aload_n 1, 1) := by decide +kernel
theorem dX8_fillBenches_37 : decode cX8_fillBenches 37 = .ok (.iload_n 3, 1) := by decide +kernel
theorem dX8_fillBenches_38 : decode cX8_fillBenches 38 = .ok (.iload_n 2, 1) := by decide +kernel
theorem dX8_fillBenches_39 : decode cX8_fillBenches 39 = .ok (.invokevirtual 71, 3) := by decide +kernel
theorem dX8_fillBenches_42 : decode cX8_fillBenches 42 = .ok (.ifCond .eq 54, 3) := by decide +kernel
theorem dX8_fillBenches_45 : decode cX8_fillBenches 45 = .ok (.aload_n 0, 1) := by decide +kernel
theorem dX8_fillBenches_46 : decode cX8_fillBenches 46 = .ok (.aload_n 1, 1) := by decide +kernel
theorem dX8_fillBenches_47 : decode cX8_fillBenches 47 = .ok (.getfield 75, 3) := by decide +kernel
theorem dX8_fillBenches_50 : decode cX8_fillBenches 50 = .ok (.iload_n 3, 1) := by decide +kernel
theorem dX8_fillBenches_51 : decode cX8_fillBenches 51 = .ok (.iaload, 1) := by decide +kernel
theorem dX8_fillBenches_52 : decode cX8_fillBenches 52 = .ok (.invokevirtual 78, 3) := by decide +kernel
theorem dX8_fillBenches_55 : decode cX8_fillBenches 55 = .ok (.istore 4, 2) := by decide +kernel
theorem dX8_fillBenches_57 : decode cX8_fillBenches 57 = .ok (.aload_n 0, 1) := by decide +kernel
theorem dX8_fillBenches_58 : decode cX8_fillBenches 58 = .ok (.getfield 29, 3) := by decide +kernel
theorem dX8_fillBenches_61 : decode cX8_fillBenches 61 = .ok (.iload_n 3, 1) := by decide +kernel
theorem dX8_fillBenches_62 : decode cX8_fillBenches 62 = .ok (.iload 4, 2) := by decide +kernel
theorem dX8_fillBenches_64 : decode cX8_fillBenches 64 = .ok (.iastore, 1) := by decide +kernel
theorem dX8_fillBenches_65 : decode cX8_fillBenches 65 = .ok (.aload_n 0, 1) := by decide +kernel
theorem dX8_fillBenches_66 : decode cX8_fillBenches 66 = .ok (.getfield 36, 3) := by decide +kernel
theorem dX8_fillBenches_69 : decode cX8_fillBenches 69 = .ok (.iload 4, 2) := by decide +kernel
theorem dX8_fillBenches_71 : decode cX8_fillBenches 71 = .ok (.dup2, 1) := by decide +kernel
theorem dX8_fillBenches_72 : decode cX8_fillBenches 72 = .ok (.iaload, 1) := by decide +kernel
theorem dX8_fillBenches_73 : decode cX8_fillBenches 73 = .ok (.aload_n 1, 1) := by decide +kernel
theorem dX8_fillBenches_74 : decode cX8_fillBenches 74 = .ok (.getfield 82, 3) := by decide +kernel
theorem dX8_fillBenches_77 : decode cX8_fillBenches 77 = .ok (.iload_n 3, 1) := by decide +kernel
theorem dX8_fillBenches_78 : decode cX8_fillBenches 78 = .ok (.iaload, 1) := by decide +kernel
theorem dX8_fillBenches_79 : decode cX8_fillBenches 79 = .ok (.iadd, 1) := by decide +kernel
theorem dX8_fillBenches_80 : decode cX8_fillBenches 80 = .ok (.iastore, 1) := by decide +kernel
theorem dX8_fillBenches_81 : decode cX8_fillBenches 81 = .ok (.aload_n 0, 1) := by decide +kernel
theorem dX8_fillBenches_82 : decode cX8_fillBenches 82 = .ok (.dup, 1) := by decide +kernel
theorem dX8_fillBenches_83 : decode cX8_fillBenches 83 = .ok (.getfield 26, 3) := by decide +kernel
theorem dX8_fillBenches_86 : decode cX8_fillBenches 86 = .ok (.aload_n 1, 1) := by decide +kernel
theorem dX8_fillBenches_87 : decode cX8_fillBenches 87 = .ok (.getfield 82, 3) := by decide +kernel
theorem dX8_fillBenches_90 : decode cX8_fillBenches 90 = .ok (.iload_n 3, 1) := by decide +kernel
theorem dX8_fillBenches_91 : decode cX8_fillBenches 91 = .ok (.iaload, 1) := by decide +kernel
theorem dX8_fillBenches_92 : decode cX8_fillBenches 92 = .ok (.iadd, 1) := by decide +kernel
theorem dX8_fillBenches_93 : decode cX8_fillBenches 93 = .ok (.putfield 26, 3) := by decide +kernel
theorem dX8_fillBenches_96 : decode cX8_fillBenches 96 = .ok (.iinc 3 1, 3) := by decide +kernel
theorem dX8_fillBenches_99 : decode cX8_fillBenches 99 = .ok (.goto (-71), 3) := by decide +kernel
theorem dX8_fillBenches_102 : decode cX8_fillBenches 102 = .ok (.return_, 1) := by decide +kernel
theorem dX8_benchFor_0 : decode cX8_benchFor 0 = .ok (.iload_n 1, 1) := by decide +kernel
theorem dX8_benchFor_1 : decode cX8_benchFor 1 = .ok (.iconst (-1), 1) := by decide +kernel
theorem dX8_benchFor_2 : decode cX8_benchFor 2 = .ok (.if_icmp .eq 20, 3) := by decide +kernel
theorem dX8_benchFor_5 : decode cX8_benchFor 5 = .ok (.aload_n 0, 1) := by decide +kernel
theorem dX8_benchFor_6 : decode cX8_benchFor 6 = .ok (.getfield 33, 3) := by decide +kernel
theorem dX8_benchFor_9 : decode cX8_benchFor 9 = .ok (.iload_n 1, 1) := by decide +kernel
theorem dX8_benchFor_10 : decode cX8_benchFor 10 = .ok (.iaload, 1) := by decide +kernel
theorem dX8_benchFor_11 : decode cX8_benchFor 11 = .ok (.iconst (-1), 1) := by decide +kernel
theorem dX8_benchFor_12 : decode cX8_benchFor 12 = .ok (.if_icmp .eq 10, 3) := by decide +kernel
theorem dX8_benchFor_15 : decode cX8_benchFor 15 = .ok (.aload_n 0, 1) := by decide +kernel
theorem dX8_benchFor_16 : decode cX8_benchFor 16 = .ok (.getfield 33, 3) := by decide +kernel
theorem dX8_benchFor_19 : decode cX8_benchFor 19 = .ok (.iload_n 1, 1) := by decide +kernel
theorem dX8_benchFor_20 : decode cX8_benchFor 20 = .ok (.iaload, 1) := by decide +kernel
theorem dX8_benchFor_21 : decode cX8_benchFor 21 = .ok (.ireturn, 1) := by decide +kernel
theorem dX8_benchFor_22 : decode cX8_benchFor 22 = .ok (.aload_n 0, 1) := by decide +kernel
theorem dX8_benchFor_23 : decode cX8_benchFor 23 = .ok (.getfield 23, 3) := by decide +kernel
theorem dX8_benchFor_26 : decode cX8_benchFor 26 = .ok (.istore_n 2, 1) := by decide +kernel
theorem dX8_benchFor_27 : decode cX8_benchFor 27 = .ok (.aload_n 0, 1) := by decide +kernel
theorem dX8_benchFor_28 : decode cX8_benchFor 28 = .ok (.dup, 1) := by decide +kernel
theorem dX8_benchFor_29 : decode cX8_benchFor 29 = .ok (.getfield 23, 3) := by decide +kernel
theorem dX8_benchFor_32 : decode cX8_benchFor 32 = .ok (.iconst 1, 1) := by decide +kernel
theorem dX8_benchFor_33 : decode cX8_benchFor 33 = .ok (.iadd, 1) := by decide +kernel
theorem dX8_benchFor_34 : decode cX8_benchFor 34 = .ok (.putfield 23, 3) := by decide +kernel
theorem dX8_benchFor_37 : decode cX8_benchFor 37 = .ok (.aload_n 0, 1) := by decide +kernel
theorem dX8_benchFor_38 : decode cX8_benchFor 38 = .ok (.getfield 36, 3) := by decide +kernel
theorem dX8_benchFor_41 : decode cX8_benchFor 41 = .ok (.iload_n 2, 1) := by decide +kernel
theorem dX8_benchFor_42 : decode cX8_benchFor 42 = .ok (.iconst 0, 1) := by decide +kernel
theorem dX8_benchFor_43 : decode cX8_benchFor 43 = .ok (.iastore, 1) := by decide +kernel
theorem dX8_benchFor_44 : decode cX8_benchFor 44 = .ok (.iload_n 1, 1) := by decide +kernel
theorem dX8_benchFor_45 : decode cX8_benchFor 45 = .ok (.iconst (-1), 1) := by decide +kernel
theorem dX8_benchFor_46 : decode cX8_benchFor 46 = .ok (.if_icmp .eq 10, 3) := by decide +kernel
theorem dX8_benchFor_49 : decode cX8_benchFor 49 = .ok (.aload_n 0, 1) := by decide +kernel
theorem dX8_benchFor_50 : decode cX8_benchFor 50 = .ok (.getfield 33, 3) := by decide +kernel
theorem dX8_benchFor_53 : decode cX8_benchFor 53 = .ok (.iload_n 1, 1) := by decide +kernel
theorem dX8_benchFor_54 : decode cX8_benchFor 54 = .ok (.iload_n 2, 1) := by decide +kernel
theorem dX8_benchFor_55 : decode cX8_benchFor 55 = .ok (.iastore, 1) := by decide +kernel
theorem dX8_benchFor_56 : decode cX8_benchFor 56 = .ok (.iload_n 2, 1) := by decide +kernel
theorem dX8_benchFor_57 : decode cX8_benchFor 57 = .ok (.ireturn, 1) := by decide +kernel
theorem dX8_findNumbers_0 : decode cX8_findNumbers 0 = .ok (.aload_n 0, 1) := by decide +kernel
theorem dX8_findNumbers_1 : decode cX8_findNumbers 1 = .ok (.getfield 42, 3) := by decide +kernel
theorem dX8_findNumbers_4 : decode cX8_findNumbers 4 = .ok (.iconst (-1), 1) := by decide +kernel
theorem dX8_findNumbers_5 : decode cX8_findNumbers 5 = .ok (.invokestatic 62, 3) := by decide +kernel
theorem dX8_findNumbers_8 : decode cX8_findNumbers 8 = .ok (.aload_n 0, 1) := by decide +kernel
theorem dX8_findNumbers_9 : decode cX8_findNumbers 9 = .ok (.getfield 42, 3) := by decide +kernel
theorem dX8_findNumbers_12 : decode cX8_findNumbers 12 = .ok (.iconst 0, 1) := by decide +kernel
theorem dX8_findNumbers_13 : decode cX8_findNumbers 13 = .ok (.aload_n 0, 1) := by decide +kernel
theorem dX8_findNumbers_14 : decode cX8_findNumbers 14 = .ok (.getfield 23, 3) := by decide +kernel
theorem dX8_findNumbers_17 : decode cX8_findNumbers 17 = .ok (.iastore, 1) := by decide +kernel
theorem dX8_findNumbers_18 : decode cX8_findNumbers 18 = .ok (.iconst 0, 1) := by decide +kernel
theorem dX8_findNumbers_19 : decode cX8_findNumbers 19 = .ok (.istore_n 1, 1) := by decide +kernel
theorem dX8_findNumbers_20 : decode cX8_findNumbers 20 = .ok (.aload_n 0, 1) := by decide +kernel
theorem dX8_findNumbers_21 : decode cX8_findNumbers 21 = .ok (.getfield 23, 3) := by decide +kernel
theorem dX8_findNumbers_24 : decode cX8_findNumbers 24 = .ok (.iconst 1, 1) := by decide +kernel
theorem dX8_findNumbers_25 : decode cX8_findNumbers 25 = .ok (.isub, 1) := by decide +kernel
theorem dX8_findNumbers_26 : decode cX8_findNumbers 26 = .ok (.istore_n 2, 1) := by decide +kernel
theorem dX8_findNumbers_27 : decode cX8_findNumbers 27 = .ok (.iload_n 2, 1) := by decide +kernel
theorem dX8_findNumbers_28 : decode cX8_findNumbers 28 = .ok (.ifCond .lt 67, 3) := by decide +kernel
theorem dX8_findNumbers_31 : decode cX8_findNumbers 31 = .ok (.aload_n 0, 1) := by decide +kernel
theorem dX8_findNumbers_32 : decode cX8_findNumbers 32 = .ok (.getfield 36, 3) := by decide +kernel
theorem dX8_findNumbers_35 : decode cX8_findNumbers 35 = .ok (.iload_n 2, 1) := by decide +kernel
theorem dX8_findNumbers_36 : decode cX8_findNumbers 36 = .ok (.iaload, 1) := by decide +kernel
theorem dX8_findNumbers_37 : decode cX8_findNumbers 37 = .ok (.istore_n 3, 1) := by decide +kernel
theorem dX8_findNumbers_38 : decode cX8_findNumbers 38 = .ok (.iload_n 1, 1) := by decide +kernel
theorem dX8_findNumbers_39 : decode cX8_findNumbers 39 = .ok (.iload_n 3, 1) := by decide +kernel
theorem dX8_findNumbers_40 : decode cX8_findNumbers 40 = .ok (.iadd, 1) := by decide +kernel
theorem dX8_findNumbers_41 : decode cX8_findNumbers 41 = .ok (.istore_n 1, 1) := by decide +kernel
theorem dX8_findNumbers_42 : decode cX8_findNumbers 42 = .ok (.iload_n 1, 1) := by decide +kernel
theorem dX8_findNumbers_43 : decode cX8_findNumbers 43 = .ok (.istore 4, 2) := by decide +kernel
theorem dX8_findNumbers_45 : decode cX8_findNumbers 45 = .ok (.iload 4, 2) := by decide +kernel
theorem dX8_findNumbers_47 : decode cX8_findNumbers 47 = .ok (.iload_n 3, 1) := by decide +kernel
theorem dX8_findNumbers_48 : decode cX8_findNumbers 48 = .ok (.if_icmp .lt 41, 3) := by decide +kernel
theorem dX8_findNumbers_51 : decode cX8_findNumbers 51 = .ok (.aload_n 0, 1) := by decide +kernel
theorem dX8_findNumbers_52 : decode cX8_findNumbers 52 = .ok (.getfield 42, 3) := by decide +kernel
theorem dX8_findNumbers_55 : decode cX8_findNumbers 55 = .ok (.iload 4, 2) := by decide +kernel
theorem dX8_findNumbers_57 : decode cX8_findNumbers 57 = .ok (.iaload, 1) := by decide +kernel
theorem dX8_findNumbers_58 : decode cX8_findNumbers 58 = .ok (.iconst (-1), 1) := by decide +kernel
theorem dX8_findNumbers_59 : decode cX8_findNumbers 59 = .ok (.if_icmp .ne 24, 3) := by decide +kernel
theorem dX8_findNumbers_62 : decode cX8_findNumbers 62 = .ok (.aload_n 0, 1) := by decide +kernel
theorem dX8_findNumbers_63 : decode cX8_findNumbers 63 = .ok (.getfield 42, 3) := by decide +kernel
theorem dX8_findNumbers_66 : decode cX8_findNumbers 66 = .ok (.iload 4, 2) := by decide +kernel
theorem dX8_findNumbers_68 : decode cX8_findNumbers 68 = .ok (.iload_n 3, 1) := by decide +kernel
theorem dX8_findNumbers_69 : decode cX8_findNumbers 69 = .ok (.isub, 1) := by decide +kernel
theorem dX8_findNumbers_70 : decode cX8_findNumbers 70 = .ok (.iaload, 1) := by decide +kernel
theorem dX8_findNumbers_71 : decode cX8_findNumbers 71 = .ok (.iconst (-1), 1) := by decide +kernel
theorem dX8_findNumbers_72 : decode cX8_findNumbers 72 = .ok (.if_icmp .eq 11, 3) := by decide +kernel
theorem dX8_findNumbers_75 : decode cX8_findNumbers 75 = .ok (.aload_n 0, 1) := by decide +kernel
theorem dX8_findNumbers_76 : decode cX8_findNumbers 76 = .ok (.getfield 42, 3) := by decide +kernel
theorem dX8_findNumbers_79 : decode cX8_findNumbers 79 = .ok (.iload 4, 2) := by decide +kernel
theorem dX8_findNumbers_81 : decode cX8_findNumbers 81 = .ok (.iload_n 2, 1) := by decide +kernel
theorem dX8_findNumbers_82 : decode cX8_findNumbers 82 = .ok (.iastore, 1) := by decide +kernel
theorem dX8_findNumbers_83 : decode cX8_findNumbers 83 = .ok (.iinc 4 (-1), 3) := by decide +kernel
theorem dX8_findNumbers_86 : decode cX8_findNumbers 86 = .ok (.goto (-41), 3) := by decide +kernel
theorem dX8_findNumbers_89 : decode cX8_findNumbers 89 = .ok (.iinc 2 (-1), 3) := by decide +kernel
theorem dX8_findNumbers_92 : decode cX8_findNumbers 92 = .ok (.goto (-65), 3) := by decide +kernel
theorem dX8_findNumbers_95 : decode cX8_findNumbers 95 = .ok (.return_, 1) := by decide +kernel
theorem dX8_findDifference_0 : decode cX8_findDifference 0 = .ok (.aload_n 0, 1) := by decide +kernel
theorem dX8_findDifference_1 : decode cX8_findDifference 1 = .ok (.iconst (-1), 1) := by decide +kernel
theorem dX8_findDifference_2 : decode cX8_findDifference 2 = .ok (.putfield 20, 3) := by decide +kernel
theorem dX8_findDifference_5 : decode cX8_findDifference 5 = .ok (.iconst 0, 1) := by decide +kernel
theorem dX8_findDifference_6 : decode cX8_findDifference 6 = .ok (.istore_n 1, 1) := by decide +kernel
theorem dX8_findDifference_7 : decode cX8_findDifference 7 = .ok (.iload_n 1, 1) := by decide +kernel
theorem dX8_findDifference_8 : decode cX8_findDifference 8 = .ok (.aload_n 0, 1) := by decide +kernel
theorem dX8_findDifference_9 : decode cX8_findDifference 9 = .ok (.getfield 26, 3) := by decide +kernel
theorem dX8_findDifference_12 : decode cX8_findDifference 12 = .ok (.if_icmp .gt 50, 3) := by decide +kernel
theorem dX8_findDifference_15 : decode cX8_findDifference 15 = .ok (.aload_n 0, 1) := by decide +kernel
theorem dX8_findDifference_16 : decode cX8_findDifference 16 = .ok (.getfield 26, 3) := by decide +kernel
theorem dX8_findDifference_19 : decode cX8_findDifference 19 = .ok (.iconst 2, 1) := by decide +kernel
theorem dX8_findDifference_20 : decode cX8_findDifference 20 = .ok (.iload_n 1, 1) := by decide +kernel
theorem dX8_findDifference_21 : decode cX8_findDifference 21 = .ok (.imul, 1) := by decide +kernel
theorem dX8_findDifference_22 : decode cX8_findDifference 22 = .ok (.isub, 1) := by decide +kernel
theorem dX8_findDifference_23 : decode cX8_findDifference 23 = .ok (.invokestatic 85, 3) := by decide +kernel
theorem dX8_findDifference_26 : decode cX8_findDifference 26 = .ok (.istore_n 2, 1) := by decide +kernel
theorem dX8_findDifference_27 : decode cX8_findDifference 27 = .ok (.aload_n 0, 1) := by decide +kernel
theorem dX8_findDifference_28 : decode cX8_findDifference 28 = .ok (.iload_n 1, 1) := by decide +kernel
theorem dX8_findDifference_29 : decode cX8_findDifference 29 = .ok (.invokevirtual 90, 3) := by decide +kernel
theorem dX8_findDifference_32 : decode cX8_findDifference 32 = .ok (.ifCond .eq 24, 3) := by decide +kernel
theorem dX8_findDifference_35 : decode cX8_findDifference 35 = .ok (.aload_n 0, 1) := by decide +kernel
theorem dX8_findDifference_36 : decode cX8_findDifference 36 = .ok (.getfield 20, 3) := by decide +kernel
theorem dX8_findDifference_39 : decode cX8_findDifference 39 = .ok (.iconst (-1), 1) := by decide +kernel
theorem dX8_findDifference_40 : decode cX8_findDifference 40 = .ok (.if_icmp .eq 11, 3) := by decide +kernel
theorem dX8_findDifference_43 : decode cX8_findDifference 43 = .ok (.iload_n 2, 1) := by decide +kernel
theorem dX8_findDifference_44 : decode cX8_findDifference 44 = .ok (.aload_n 0, 1) := by decide +kernel
theorem dX8_findDifference_45 : decode cX8_findDifference 45 = .ok (.getfield 20, 3) := by decide +kernel
theorem dX8_findDifference_48 : decode cX8_findDifference 48 = .ok (.if_icmp .ge 8, 3) := by decide +kernel
theorem dX8_findDifference_51 : decode cX8_findDifference 51 = .ok (.aload_n 0, 1) := by decide +kernel
theorem dX8_findDifference_52 : decode cX8_findDifference 52 = .ok (.iload_n 2, 1) := by decide +kernel
theorem dX8_findDifference_53 : decode cX8_findDifference 53 = .ok (.putfield 20, 3) := by decide +kernel
theorem dX8_findDifference_56 : decode cX8_findDifference 56 = .ok (.iinc 1 1, 3) := by decide +kernel
theorem dX8_findDifference_59 : decode cX8_findDifference 59 = .ok (.goto (-52), 3) := by decide +kernel
theorem dX8_findDifference_62 : decode cX8_findDifference 62 = .ok (.return_, 1) := by decide +kernel
theorem dX8_isWay_0 : decode cX8_isWay 0 = .ok (.aload_n 0, 1) := by decide +kernel
theorem dX8_isWay_1 : decode cX8_isWay 1 = .ok (.getfield 42, 3) := by decide +kernel
theorem dX8_isWay_4 : decode cX8_isWay 4 = .ok (.iload_n 1, 1) := by decide +kernel
theorem dX8_isWay_5 : decode cX8_isWay 5 = .ok (.iaload, 1) := by decide +kernel
theorem dX8_isWay_6 : decode cX8_isWay 6 = .ok (.iconst (-1), 1) := by decide +kernel
theorem dX8_isWay_7 : decode cX8_isWay 7 = .ok (.if_icmp .eq 28, 3) := by decide +kernel
theorem dX8_isWay_10 : decode cX8_isWay 10 = .ok (.iload_n 1, 1) := by decide +kernel
theorem dX8_isWay_11 : decode cX8_isWay 11 = .ok (.aload_n 0, 1) := by decide +kernel
theorem dX8_isWay_12 : decode cX8_isWay 12 = .ok (.getfield 13, 3) := by decide +kernel
theorem dX8_isWay_15 : decode cX8_isWay 15 = .ok (.if_icmp .gt 20, 3) := by decide +kernel
theorem dX8_isWay_18 : decode cX8_isWay 18 = .ok (.aload_n 0, 1) := by decide +kernel
theorem dX8_isWay_19 : decode cX8_isWay 19 = .ok (.getfield 26, 3) := by decide +kernel
theorem dX8_isWay_22 : decode cX8_isWay 22 = .ok (.iload_n 1, 1) := by decide +kernel
theorem dX8_isWay_23 : decode cX8_isWay 23 = .ok (.isub, 1) := by decide +kernel
theorem dX8_isWay_24 : decode cX8_isWay 24 = .ok (.aload_n 0, 1) := by decide +kernel
theorem dX8_isWay_25 : decode cX8_isWay 25 = .ok (.getfield 17, 3) := by decide +kernel
theorem dX8_isWay_28 : decode cX8_isWay 28 = .ok (.if_icmp .gt 7, 3) := by decide +kernel
theorem dX8_isWay_31 : decode cX8_isWay 31 = .ok (.iconst 1, 1) := by decide +kernel
theorem dX8_isWay_32 : decode cX8_isWay 32 = .ok (.goto 4, 3) := by decide +kernel
theorem dX8_isWay_35 : decode cX8_isWay 35 = .ok (.iconst 0, 1) := by decide +kernel
theorem dX8_isWay_36 : decode cX8_isWay 36 = .ok (.ireturn, 1) := by decide +kernel
theorem dX8_partBenches_0 : decode cX8_partBenches 0 = .ok (.iconst 0, 1) := by decide +kernel
theorem dX8_partBenches_1 : decode cX8_partBenches 1 = .ok (.istore_n 1, 1) := by decide +kernel
theorem dX8_partBenches_2 : decode cX8_partBenches 2 = .ok (.iconst 0, 1) := by decide +kernel
theorem dX8_partBenches_3 : decode cX8_partBenches 3 = .ok (.istore_n 2, 1) := by decide +kernel
theorem dX8_partBenches_4 : decode cX8_partBenches 4 = .ok (.iload_n 2, 1) := by decide +kernel
theorem dX8_partBenches_5 : decode cX8_partBenches 5 = .ok (.aload_n 0, 1) := by decide +kernel
theorem dX8_partBenches_6 : decode cX8_partBenches 6 = .ok (.getfield 23, 3) := by decide +kernel
theorem dX8_partBenches_9 : decode cX8_partBenches 9 = .ok (.if_icmp .ge 48, 3) := by decide +kernel
theorem dX8_partBenches_12 : decode cX8_partBenches 12 = .ok (.iload_n 1, 1) := by decide +kernel
theorem dX8_partBenches_13 : decode cX8_partBenches 13 = .ok (.aload_n 0, 1) := by decide +kernel
theorem dX8_partBenches_14 : decode cX8_partBenches 14 = .ok (.getfield 36, 3) := by decide +kernel
theorem dX8_partBenches_17 : decode cX8_partBenches 17 = .ok (.iload_n 2, 1) := by decide +kernel
theorem dX8_partBenches_18 : decode cX8_partBenches 18 = .ok (.iaload, 1) := by decide +kernel
theorem dX8_partBenches_19 : decode cX8_partBenches 19 = .ok (.iadd, 1) := by decide +kernel
theorem dX8_partBenches_20 : decode cX8_partBenches 20 = .ok (.istore_n 3, 1) := by decide +kernel
theorem dX8_partBenches_21 : decode cX8_partBenches 21 = .ok (.aload_n 0, 1) := by decide +kernel
theorem dX8_partBenches_22 : decode cX8_partBenches 22 = .ok (.iload_n 3, 1) := by decide +kernel
theorem dX8_partBenches_23 : decode cX8_partBenches 23 = .ok (.iload_n 2, 1) := by decide +kernel
theorem dX8_partBenches_24 : decode cX8_partBenches 24 = .ok (.iconst 1, 1) := by decide +kernel
theorem dX8_partBenches_25 : decode cX8_partBenches 25 = .ok (.iadd, 1) := by decide +kernel
theorem dX8_partBenches_26 : decode cX8_partBenches 26 = .ok (.invokevirtual 94, 3) := by decide +kernel
theorem dX8_partBenches_29 : decode cX8_partBenches 29 = .ok (.ifCond .eq 15, 3) := by decide +kernel
theorem dX8_partBenches_32 : decode cX8_partBenches 32 = .ok (.aload_n 0, 1) := by decide +kernel
theorem dX8_partBenches_33 : decode cX8_partBenches 33 = .ok (.getfield 39, 3) := by decide +kernel
theorem dX8_partBenches_36 : decode cX8_partBenches 36 = .ok (.iload_n 2, 1) := by decide +kernel
theorem dX8_partBenches_37 : decode cX8_partBenches 37 = .ok (.iconst 0, 1) := by decide +kernel
theorem dX8_partBenches_38 : decode cX8_partBenches 38 = .ok (.iastore, 1) := by decide +kernel
theorem dX8_partBenches_39 : decode cX8_partBenches 39 = .ok (.iload_n 3, 1) := by decide +kernel
theorem dX8_partBenches_40 : decode cX8_partBenches 40 = .ok (.istore_n 1, 1) := by decide +kernel
theorem dX8_partBenches_41 : decode cX8_partBenches 41 = .ok (.goto 10, 3) := by decide +kernel
theorem dX8_partBenches_44 : decode cX8_partBenches 44 = .ok (.aload_n 0, 1) := by decide +kernel
theorem dX8_partBenches_45 : decode cX8_partBenches 45 = .ok (.getfield 39, 3) := by decide +kernel
theorem dX8_partBenches_48 : decode cX8_partBenches 48 = .ok (.iload_n 2, 1) := by decide +kernel
theorem dX8_partBenches_49 : decode cX8_partBenches 49 = .ok (.iconst 1, 1) := by decide +kernel
theorem dX8_partBenches_50 : decode cX8_partBenches 50 = .ok (.iastore, 1) := by decide +kernel
theorem dX8_partBenches_51 : decode cX8_partBenches 51 = .ok (.iinc 2 1, 3) := by decide +kernel
theorem dX8_partBenches_54 : decode cX8_partBenches 54 = .ok (.goto (-50), 3) := by decide +kernel
theorem dX8_partBenches_57 : decode cX8_partBenches 57 = .ok (.return_, 1) := by decide +kernel
theorem dX8_leadsToBest_0 : decode cX8_leadsToBest 0 = .ok (.aload_n 0, 1) := by decide +kernel
theorem dX8_leadsToBest_1 : decode cX8_leadsToBest 1 = .ok (.getfield 20, 3) := by decide +kernel
theorem dX8_leadsToBest_4 : decode cX8_leadsToBest 4 = .ok (.iconst (-1), 1) := by decide +kernel
theorem dX8_leadsToBest_5 : decode cX8_leadsToBest 5 = .ok (.if_icmp .eq 47, 3) := by decide +kernel
theorem dX8_leadsToBest_8 : decode cX8_leadsToBest 8 = .ok (.aload_n 0, 1) := by decide +kernel
theorem dX8_leadsToBest_9 : decode cX8_leadsToBest 9 = .ok (.iload_n 1, 1) := by decide +kernel
theorem dX8_leadsToBest_10 : decode cX8_leadsToBest 10 = .ok (.aload_n 0, 1) := by decide +kernel
theorem dX8_leadsToBest_11 : decode cX8_leadsToBest 11 = .ok (.getfield 26, 3) := by decide +kernel
theorem dX8_leadsToBest_14 : decode cX8_leadsToBest 14 = .ok (.aload_n 0, 1) := by decide +kernel
theorem dX8_leadsToBest_15 : decode cX8_leadsToBest 15 = .ok (.getfield 20, 3) := by decide +kernel
theorem dX8_leadsToBest_18 : decode cX8_leadsToBest 18 = .ok (.isub, 1) := by decide +kernel
theorem dX8_leadsToBest_19 : decode cX8_leadsToBest 19 = .ok (.iconst 2, 1) := by decide +kernel
theorem dX8_leadsToBest_20 : decode cX8_leadsToBest 20 = .ok (.idiv, 1) := by decide +kernel
theorem dX8_leadsToBest_21 : decode cX8_leadsToBest 21 = .ok (.iload_n 2, 1) := by decide +kernel
theorem dX8_leadsToBest_22 : decode cX8_leadsToBest 22 = .ok (.invokevirtual 97, 3) := by decide +kernel
theorem dX8_leadsToBest_25 : decode cX8_leadsToBest 25 = .ok (.ifCond .ne 23, 3) := by decide +kernel
theorem dX8_leadsToBest_28 : decode cX8_leadsToBest 28 = .ok (.aload_n 0, 1) := by decide +kernel
theorem dX8_leadsToBest_29 : decode cX8_leadsToBest 29 = .ok (.iload_n 1, 1) := by decide +kernel
theorem dX8_leadsToBest_30 : decode cX8_leadsToBest 30 = .ok (.aload_n 0, 1) := by decide +kernel
theorem dX8_leadsToBest_31 : decode cX8_leadsToBest 31 = .ok (.getfield 26, 3) := by decide +kernel
theorem dX8_leadsToBest_34 : decode cX8_leadsToBest 34 = .ok (.aload_n 0, 1) := by decide +kernel
theorem dX8_leadsToBest_35 : decode cX8_leadsToBest 35 = .ok (.getfield 20, 3) := by decide +kernel
theorem dX8_leadsToBest_38 : decode cX8_leadsToBest 38 = .ok (.iadd, 1) := by decide +kernel
theorem dX8_leadsToBest_39 : decode cX8_leadsToBest 39 = .ok (.iconst 2, 1) := by decide +kernel
theorem dX8_leadsToBest_40 : decode cX8_leadsToBest 40 = .ok (.idiv, 1) := by decide +kernel
theorem dX8_leadsToBest_41 : decode cX8_leadsToBest 41 = .ok (.iload_n 2, 1) := by decide +kernel
theorem dX8_leadsToBest_42 : decode cX8_leadsToBest 42 = .ok (.invokevirtual 97, 3) := by decide +kernel
theorem dX8_leadsToBest_45 : decode cX8_leadsToBest 45 = .ok (.ifCond .eq 7, 3) := by decide +kernel
theorem dX8_leadsToBest_48 : decode cX8_leadsToBest 48 = .ok (.iconst 1, 1) := by decide +kernel
theorem dX8_leadsToBest_49 : decode cX8_leadsToBest 49 = .ok (.goto 4, 3) := by decide +kernel
theorem dX8_leadsToBest_52 : decode cX8_leadsToBest 52 = .ok (.iconst 0, 1) := by decide +kernel
theorem dX8_leadsToBest_53 : decode cX8_leadsToBest 53 = .ok (.ireturn, 1) := by decide +kernel
theorem dX8_canBecome_0 : decode cX8_canBecome 0 = .ok (.iload_n 1, 1) := by decide +kernel
theorem dX8_canBecome_1 : decode cX8_canBecome 1 = .ok (.iload_n 2, 1) := by decide +kernel
theorem dX8_canBecome_2 : decode cX8_canBecome 2 = .ok (.if_icmp .gt 27, 3) := by decide +kernel
theorem dX8_canBecome_5 : decode cX8_canBecome 5 = .ok (.aload_n 0, 1) := by decide +kernel
theorem dX8_canBecome_6 : decode cX8_canBecome 6 = .ok (.iload_n 2, 1) := by decide +kernel
theorem dX8_canBecome_7 : decode cX8_canBecome 7 = .ok (.invokevirtual 90, 3) := by decide +kernel
theorem dX8_canBecome_10 : decode cX8_canBecome 10 = .ok (.ifCond .eq 19, 3) := by decide +kernel
theorem dX8_canBecome_13 : decode cX8_canBecome 13 = .ok (.aload_n 0, 1) := by decide +kernel
theorem dX8_canBecome_14 : decode cX8_canBecome 14 = .ok (.getfield 42, 3) := by decide +kernel
theorem dX8_canBecome_17 : decode cX8_canBecome 17 = .ok (.iload_n 2, 1) := by decide +kernel
theorem dX8_canBecome_18 : decode cX8_canBecome 18 = .ok (.iload_n 1, 1) := by decide +kernel
theorem dX8_canBecome_19 : decode cX8_canBecome 19 = .ok (.isub, 1) := by decide +kernel
theorem dX8_canBecome_20 : decode cX8_canBecome 20 = .ok (.iaload, 1) := by decide +kernel
theorem dX8_canBecome_21 : decode cX8_canBecome 21 = .ok (.iload_n 3, 1) := by decide +kernel
theorem dX8_canBecome_22 : decode cX8_canBecome 22 = .ok (.if_icmp .lt 7, 3) := by decide +kernel
theorem dX8_canBecome_25 : decode cX8_canBecome 25 = .ok (.iconst 1, 1) := by decide +kernel
theorem dX8_canBecome_26 : decode cX8_canBecome 26 = .ok (.goto 4, 3) := by decide +kernel
theorem dX8_canBecome_29 : decode cX8_canBecome 29 = .ok (.iconst 0, 1) := by decide +kernel
theorem dX8_canBecome_30 : decode cX8_canBecome 30 = .ok (.ireturn, 1) := by decide +kernel
theorem dX8_sittingOf_0 : decode cX8_sittingOf 0 = .ok (.aload_n 0, 1) := by decide +kernel
theorem dX8_sittingOf_1 : decode cX8_sittingOf 1 = .ok (.getfield 20, 3) := by decide +kernel
theorem dX8_sittingOf_4 : decode cX8_sittingOf 4 = .ok (.iconst (-1), 1) := by decide +kernel
theorem dX8_sittingOf_5 : decode cX8_sittingOf 5 = .ok (.if_icmp .eq 13, 3) := by decide +kernel
theorem dX8_sittingOf_8 : decode cX8_sittingOf 8 = .ok (.aload_n 0, 1) := by decide +kernel
theorem dX8_sittingOf_9 : decode cX8_sittingOf 9 = .ok (.getfield 29, 3) := by decide +kernel
theorem dX8_sittingOf_12 : decode cX8_sittingOf 12 = .ok (.iload_n 1, 1) := by decide +kernel
theorem dX8_sittingOf_13 : decode cX8_sittingOf 13 = .ok (.iaload, 1) := by decide +kernel
theorem dX8_sittingOf_14 : decode cX8_sittingOf 14 = .ok (.iconst (-1), 1) := by decide +kernel
theorem dX8_sittingOf_15 : decode cX8_sittingOf 15 = .ok (.if_icmp .ne 7, 3) := by decide +kernel
theorem dX8_sittingOf_18 : decode cX8_sittingOf 18 = .ok (.iconst (-1), 1) := by decide +kernel
theorem dX8_sittingOf_19 : decode cX8_sittingOf 19 = .ok (.goto 14, 3) := by decide +kernel
theorem dX8_sittingOf_22 : decode cX8_sittingOf 22 = .ok (.aload_n 0, 1) := by decide +kernel
theorem dX8_sittingOf_23 : decode cX8_sittingOf 23 = .ok (.getfield 39, 3) := by decide +kernel
theorem dX8_sittingOf_26 : decode cX8_sittingOf 26 = .ok (.aload_n 0, 1) := by decide +kernel
theorem dX8_sittingOf_27 : decode cX8_sittingOf 27 = .ok (.getfield 29, 3) := by decide +kernel
theorem dX8_sittingOf_30 : decode cX8_sittingOf 30 = .ok (.iload_n 1, 1) := by decide +kernel
theorem dX8_sittingOf_31 : decode cX8_sittingOf 31 = .ok (.iaload, 1) := by decide +kernel
theorem dX8_sittingOf_32 : decode cX8_sittingOf 32 = .ok (.iaload, 1) := by decide +kernel
theorem dX8_sittingOf_33 : decode cX8_sittingOf 33 = .ok (.ireturn, 1) := by decide +kernel
theorem dX8_dinners_0 : decode cX8_dinners 0 = .ok (.aload_n 0, 1) := by decide +kernel
theorem dX8_dinners_1 : decode cX8_dinners 1 = .ok (.getfield 20, 3) := by decide +kernel
theorem dX8_dinners_4 : decode cX8_dinners 4 = .ok (.iconst (-1), 1) := by decide +kernel
theorem dX8_dinners_5 : decode cX8_dinners 5 = .ok (.if_icmp .ne 5, 3) := by decide +kernel
theorem dX8_dinners_8 : decode cX8_dinners 8 = .ok (.iconst (-1), 1) := by decide +kernel
theorem dX8_dinners_9 : decode cX8_dinners 9 = .ok (.ireturn, 1) := by decide +kernel
theorem dX8_dinners_10 : decode cX8_dinners 10 = .ok (.iconst 0, 1) := by decide +kernel
theorem dX8_dinners_11 : decode cX8_dinners 11 = .ok (.istore_n 3, 1) := by decide +kernel
theorem dX8_dinners_12 : decode cX8_dinners 12 = .ok (.iconst 0, 1) := by decide +kernel
theorem dX8_dinners_13 : decode cX8_dinners 13 = .ok (.istore 4, 2) := by decide +kernel
theorem dX8_dinners_15 : decode cX8_dinners 15 = .ok (.iconst 0, 1) := by decide +kernel
theorem dX8_dinners_16 : decode cX8_dinners 16 = .ok (.istore 5, 2) := by decide +kernel
theorem dX8_dinners_18 : decode cX8_dinners 18 = .ok (.iload 5, 2) := by decide +kernel
theorem dX8_dinners_20 : decode cX8_dinners 20 = .ok (.aload_n 1, 1) := by decide +kernel
theorem dX8_dinners_21 : decode cX8_dinners 21 = .ok (.getfield 68, 3) := by decide +kernel
theorem dX8_dinners_24 : decode cX8_dinners 24 = .ok (.if_icmp .ge 49, 3) := by decide +kernel
theorem dX8_dinners_27 : decode cX8_dinners 27 = .ok (.aload_n 0, 1) := by decide +kernel
theorem dX8_dinners_28 : decode cX8_dinners 28 = .ok (.iload 5, 2) := by decide +kernel
theorem dX8_dinners_30 : decode cX8_dinners 30 = .ok (.invokevirtual 100, 3) := by decide +kernel
theorem dX8_dinners_33 : decode cX8_dinners 33 = .ok (.iload_n 2, 1) := by decide +kernel
theorem dX8_dinners_34 : decode cX8_dinners 34 = .ok (.if_icmp .ne 33, 3) := by decide +kernel
theorem dX8_dinners_37 : decode cX8_dinners 37 = .ok (.iload_n 3, 1) := by decide +kernel
theorem dX8_dinners_38 : decode cX8_dinners 38 = .ok (.aload_n 1, 1) := by decide +kernel
theorem dX8_dinners_39 : decode cX8_dinners 39 = .ok (.getfield 82, 3) := by decide +kernel
theorem dX8_dinners_42 : decode cX8_dinners 42 = .ok (.iload 5, 2) := by decide +kernel
theorem dX8_dinners_44 : decode cX8_dinners 44 = .ok (.iaload, 1) := by decide +kernel
theorem dX8_dinners_45 : decode cX8_dinners 45 = .ok (.aload_n 1, 1) := by decide +kernel
theorem dX8_dinners_46 : decode cX8_dinners 46 = .ok (.getfield 103, 3) := by decide +kernel
theorem dX8_dinners_49 : decode cX8_dinners 49 = .ok (.iload 5, 2) := by decide +kernel
theorem dX8_dinners_51 : decode cX8_dinners 51 = .ok (.iaload, 1) := by decide +kernel
theorem dX8_dinners_52 : decode cX8_dinners 52 = .ok (.isub, 1) := by decide +kernel
theorem dX8_dinners_53 : decode cX8_dinners 53 = .ok (.iadd, 1) := by decide +kernel
theorem dX8_dinners_54 : decode cX8_dinners 54 = .ok (.istore_n 3, 1) := by decide +kernel
theorem dX8_dinners_55 : decode cX8_dinners 55 = .ok (.iload 4, 2) := by decide +kernel
theorem dX8_dinners_57 : decode cX8_dinners 57 = .ok (.aload_n 1, 1) := by decide +kernel
theorem dX8_dinners_58 : decode cX8_dinners 58 = .ok (.getfield 103, 3) := by decide +kernel
theorem dX8_dinners_61 : decode cX8_dinners 61 = .ok (.iload 5, 2) := by decide +kernel
theorem dX8_dinners_63 : decode cX8_dinners 63 = .ok (.iaload, 1) := by decide +kernel
theorem dX8_dinners_64 : decode cX8_dinners 64 = .ok (.iadd, 1) := by decide +kernel
theorem dX8_dinners_65 : decode cX8_dinners 65 = .ok (.istore 4, 2) := by decide +kernel
theorem dX8_dinners_67 : decode cX8_dinners 67 = .ok (.iinc 5 1, 3) := by decide +kernel
theorem dX8_dinners_70 : decode cX8_dinners 70 = .ok (.goto (-52), 3) := by decide +kernel
theorem dX8_dinners_73 : decode cX8_dinners 73 = .ok (.iload_n 3, 1) := by decide +kernel
theorem dX8_dinners_74 : decode cX8_dinners 74 = .ok (.iload 4, 2) := by decide +kernel
theorem dX8_dinners_76 : decode cX8_dinners 76 = .ok (.iconst 2, 1) := by decide +kernel
theorem dX8_dinners_77 : decode cX8_dinners 77 = .ok (.idiv, 1) := by decide +kernel
theorem dX8_dinners_78 : decode cX8_dinners 78 = .ok (.iadd, 1) := by decide +kernel
theorem dX8_dinners_79 : decode cX8_dinners 79 = .ok (.ireturn, 1) := by decide +kernel
