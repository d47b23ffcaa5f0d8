theorem dX0_init_0 : decode cX0_init 0 = .ok (.aload_n 0, 1) := by decide +kernel
theorem dX0_init_1 : decode cX0_init 1 = .ok (.invokespecial 3, 3) := by decide +kernel
theorem dX0_init_4 : decode cX0_init 4 = .ok (.aload_n 0, 1) := by decide +kernel
theorem dX0_init_5 : decode cX0_init 5 = .ok (.bipush 40, 2) := by decide +kernel
theorem dX0_init_7 : decode cX0_init 7 = .ok (.newarray .int, 2) := by decide +kernel
theorem dX0_init_9 : decode cX0_init 9 = .ok (.putfield 11, 3) := by decide +kernel
theorem dX0_init_12 : decode cX0_init 12 = .ok (.aload_n 0, 1) := by decide +kernel
theorem dX0_init_13 : decode cX0_init 13 = .ok (.iconst 0, 1) := by decide +kernel
theorem dX0_init_14 : decode cX0_init 14 = .ok (.putfield 15, 3) := by decide +kernel
theorem dX0_init_17 : decode cX0_init 17 = .ok (.aload_n 0, 1) := by decide +kernel
theorem dX0_init_18 : decode cX0_init 18 = .ok (.bipush 40, 2) := by decide +kernel
theorem dX0_init_20 : decode cX0_init 20 = .ok (.newarray .int, 2) := by decide +kernel
theorem dX0_init_22 : decode cX0_init 22 = .ok (.putfield 19, 3) := by decide +kernel
theorem dX0_init_25 : decode cX0_init 25 = .ok (.aload_n 0, 1) := by decide +kernel
theorem dX0_init_26 : decode cX0_init 26 = .ok (.bipush 40, 2) := by decide +kernel
theorem dX0_init_28 : decode cX0_init 28 = .ok (.newarray .int, 2) := by decide +kernel
theorem dX0_init_30 : decode cX0_init 30 = .ok (.putfield 22, 3) := by decide +kernel
theorem dX0_init_33 : decode cX0_init 33 = .ok (.aload_n 0, 1) := by decide +kernel
theorem dX0_init_34 : decode cX0_init 34 = .ok (.iconst 4, 1) := by decide +kernel
theorem dX0_init_35 : decode cX0_init 35 = .ok (.newarray .int, 2) := by decide +kernel
theorem dX0_init_37 : decode cX0_init 37 = .ok (.putfield 25, 3) := by decide +kernel
theorem dX0_init_40 : decode cX0_init 40 = .ok (.aload_n 0, 1) := by decide +kernel
theorem dX0_init_41 : decode cX0_init 41 = .ok (.iconst 4, 1) := by decide +kernel
theorem dX0_init_42 : decode cX0_init 42 = .ok (.newarray .int, 2) := by decide +kernel
theorem dX0_init_44 : decode cX0_init 44 = .ok (.putfield 28, 3) := by decide +kernel
theorem dX0_init_47 : decode cX0_init 47 = .ok (.aload_n 0, 1) := by decide +kernel
theorem dX0_init_48 : decode cX0_init 48 = .ok (.iconst 4, 1) := by decide +kernel
theorem dX0_init_49 : decode cX0_init 49 = .ok (.newarray .int, 2) := by decide +kernel
theorem dX0_init_51 : decode cX0_init 51 = .ok (.putfield 31, 3) := by decide +kernel
theorem dX0_init_54 : decode cX0_init 54 = .ok (.aload_n 0, 1) := by decide +kernel
theorem dX0_init_55 : decode cX0_init 55 = .ok (.getfield 28, 3) := by decide +kernel
theorem dX0_init_58 : decode cX0_init 58 = .ok (.iconst (-1), 1) := by decide +kernel
theorem dX0_init_59 : decode cX0_init 59 = .ok (.invokestatic 34, 3) := by decide +kernel
theorem dX0_init_62 : decode cX0_init 62 = .ok (.return_, 1) := by decide +kernel
theorem dX0_define_0 : decode cX0_define 0 = .ok (.iload_n 1, 1) := by decide +kernel
theorem dX0_define_1 : decode cX0_define 1 = .ok (.iconst 0, 1) := by decide +kernel
theorem dX0_define_2 : decode cX0_define 2 = .ok (.iconst 3, 1) := by decide +kernel
theorem dX0_define_3 : decode cX0_define 3 = .ok (.invokestatic 40, 3) := by decide +kernel
theorem dX0_define_6 : decode cX0_define 6 = .ok (.ifCond .eq 44, 3) := by decide +kernel
theorem dX0_define_9 : decode cX0_define 9 = .ok (.iload_n 2, 1) := by decide +kernel
theorem dX0_define_10 : decode cX0_define 10 = .ok (.iconst 0, 1) := by decide +kernel
theorem dX0_define_11 : decode cX0_define 11 = .ok (.bipush 17, 2) := by decide +kernel
theorem dX0_define_13 : decode cX0_define 13 = .ok (.invokestatic 40, 3) := by decide +kernel
theorem dX0_define_16 : decode cX0_define 16 = .ok (.ifCond .eq 34, 3) := by decide +kernel
theorem dX0_define_19 : decode cX0_define 19 = .ok (.iload_n 3, 1) := by decide +kernel
theorem dX0_define_20 : decode cX0_define 20 = .ok (.iload_n 2, 1) := by decide +kernel
theorem dX0_define_21 : decode cX0_define 21 = .ok (.bipush 17, 2) := by decide +kernel
theorem dX0_define_23 : decode cX0_define 23 = .ok (.invokestatic 40, 3) := by decide +kernel
theorem dX0_define_26 : decode cX0_define 26 = .ok (.ifCond .eq 24, 3) := by decide +kernel
theorem dX0_define_29 : decode cX0_define 29 = .ok (.iload 4, 2) := by decide +kernel
theorem dX0_define_31 : decode cX0_define 31 = .ok (.iconst 1, 1) := by decide +kernel
theorem dX0_define_32 : decode cX0_define 32 = .ok (.bipush 20, 2) := by decide +kernel
theorem dX0_define_34 : decode cX0_define 34 = .ok (.invokestatic 40, 3) := by decide +kernel
theorem dX0_define_37 : decode cX0_define 37 = .ok (.ifCond .eq 13, 3) := by decide +kernel
theorem dX0_define_40 : decode cX0_define 40 = .ok (.aload_n 0, 1) := by decide +kernel
theorem dX0_define_41 : decode cX0_define 41 = .ok (.iload_n 1, 1) := by decide +kernel
theorem dX0_define_42 : decode cX0_define 42 = .ok (.iload_n 2, 1) := by decide +kernel
theorem dX0_define_43 : decode cX0_define 43 = .ok (.iload_n 3, 1) := by decide +kernel
theorem dX0_define_44 : decode cX0_define 44 = .ok (.invokevirtual 44, 3) := by decide +kernel
theorem dX0_define_47 : decode cX0_define 47 = .ok (.ifCond .eq 6, 3) := by decide +kernel
theorem dX0_define_50 : decode cX0_define 50 = .ok (.bipush (-2), 2) := by decide +kernel
theorem dX0_define_52 : decode cX0_define 52 = .ok (.ireturn, 1) := by decide +kernel
theorem dX0_define_53 : decode cX0_define 53 = .ok (.aload_n 0, 1) := by decide +kernel
theorem dX0_define_54 : decode cX0_define 54 = .ok (.iload_n 1, 1) := by decide +kernel
theorem dX0_define_55 : decode cX0_define 55 = .ok (.invokevirtual 47, 3) := by decide +kernel
theorem dX0_define_58 : decode cX0_define 58 = .ok (.ifCond .le 6, 3) := by decide +kernel
theorem dX0_define_61 : decode cX0_define 61 = .ok (.bipush (-3), 2) := by decide +kernel
theorem dX0_define_63 : decode cX0_define 63 = .ok (.ireturn, 1) := by decide +kernel
theorem dX0_define_64 : decode cX0_define 64 = .ok (.aload_n 0, 1) := by decide +kernel
theorem dX0_define_65 : decode cX0_define 65 = .ok (.getfield 25, 3) := by decide +kernel
theorem dX0_define_68 : decode cX0_define 68 = .ok (.iload_n 1, 1) := by decide +kernel
theorem dX0_define_69 : decode cX0_define 69 = .ok (.iload_n 2, 1) := by decide +kernel
theorem dX0_define_70 : decode cX0_define 70 = .ok (.iastore, 1) := by decide +kernel
theorem dX0_define_71 : decode cX0_define 71 = .ok (.aload_n 0, 1) := by decide +kernel
theorem dX0_define_72 : decode cX0_define 72 = .ok (.getfield 28, 3) := by decide +kernel
theorem dX0_define_75 : decode cX0_define 75 = .ok (.iload_n 1, 1) := by decide +kernel
theorem dX0_define_76 : decode cX0_define 76 = .ok (.iload_n 3, 1) := by decide +kernel
theorem dX0_define_77 : decode cX0_define 77 = .ok (.iastore, 1) := by decide +kernel
theorem dX0_define_78 : decode cX0_define 78 = .ok (.aload_n 0, 1) := by decide +kernel
theorem dX0_define_79 : decode cX0_define 79 = .ok (.getfield 31, 3) := by decide +kernel
theorem dX0_define_82 : decode cX0_define 82 = .ok (.iload_n 1, 1) := by decide +kernel
theorem dX0_define_83 : decode cX0_define 83 = .ok (.iload 4, 2) := by decide +kernel
theorem dX0_define_85 : decode cX0_define 85 = .ok (.iastore, 1) := by decide +kernel
theorem dX0_define_86 : decode cX0_define 86 = .ok (.iconst 1, 1) := by decide +kernel
theorem dX0_define_87 : decode cX0_define 87 = .ok (.ireturn, 1) := by decide +kernel
theorem dX0_isOfAnother_0 : decode cX0_isOfAnother 0 = .ok (.iconst 0, 1) := by decide +kernel
theorem dX0_isOfAnother_1 : decode cX0_isOfAnother 1 = .ok (.istore 4, 2) := by decide +kernel
theorem dX0_isOfAnother_3 : decode cX0_isOfAnother 3 = .ok (.iload 4, 2) := by decide +kernel
theorem dX0_isOfAnother_5 : decode cX0_isOfAnother 5 = .ok (.iconst 4, 1) := by decide +kernel
theorem dX0_isOfAnother_6 : decode cX0_isOfAnother 6 = .ok (.if_icmp .ge 39, 3) := by decide +kernel
theorem dX0_isOfAnother_9 : decode cX0_isOfAnother 9 = .ok (.iload 4, 2) := by decide +kernel
theorem dX0_isOfAnother_11 : decode cX0_isOfAnother 11 = .ok (.iload_n 1, 1) := by decide +kernel
theorem dX0_isOfAnother_12 : decode cX0_isOfAnother 12 = .ok (.if_icmp .eq 27, 3) := by decide +kernel
theorem dX0_isOfAnother_15 : decode cX0_isOfAnother 15 = .ok (.iload_n 2, 1) := by decide +kernel
theorem dX0_isOfAnother_16 : decode cX0_isOfAnother 16 = .ok (.aload_n 0, 1) := by decide +kernel
theorem dX0_isOfAnother_17 : decode cX0_isOfAnother 17 = .ok (.getfield 28, 3) := by decide +kernel
theorem dX0_isOfAnother_20 : decode cX0_isOfAnother 20 = .ok (.iload 4, 2) := by decide +kernel
theorem dX0_isOfAnother_22 : decode cX0_isOfAnother 22 = .ok (.iaload, 1) := by decide +kernel
theorem dX0_isOfAnother_23 : decode cX0_isOfAnother 23 = .ok (.if_icmp .gt 16, 3) := by decide +kernel
theorem dX0_isOfAnother_26 : decode cX0_isOfAnother 26 = .ok (.aload_n 0, 1) := by decide +kernel
theorem dX0_isOfAnother_27 : decode cX0_isOfAnother 27 = .ok (.getfield 25, 3) := by decide +kernel
theorem dX0_isOfAnother_30 : decode cX0_isOfAnother 30 = .ok (.iload 4, 2) := by decide +kernel
theorem dX0_isOfAnother_32 : decode cX0_isOfAnother 32 = .ok (.iaload, 1) := by decide +kernel
theorem dX0_isOfAnother_33 : decode cX0_isOfAnother 33 = .ok (.iload_n 3, 1) := by decide +kernel
theorem dX0_isOfAnother_34 : decode cX0_isOfAnother 34 = .ok (.if_icmp .gt 5, 3) := by decide +kernel
theorem dX0_isOfAnother_37 : decode cX0_isOfAnother 37 = .ok (.iconst 1, 1) := by decide +kernel
theorem dX0_isOfAnother_38 : decode cX0_isOfAnother 38 = .ok (.ireturn, 1) := by decide +kernel
theorem dX0_isOfAnother_39 : decode cX0_isOfAnother 39 = .ok (.iinc 4 1, 3) := by decide +kernel
theorem dX0_isOfAnother_42 : decode cX0_isOfAnother 42 = .ok (.goto (-39), 3) := by decide +kernel
theorem dX0_isOfAnother_45 : decode cX0_isOfAnother 45 = .ok (.iconst 0, 1) := by decide +kernel
theorem dX0_isOfAnother_46 : decode cX0_isOfAnother 46 = .ok (.ireturn, 1) := by decide +kernel
theorem dX0_childrenIn_0 : decode cX0_childrenIn 0 = .ok (.iconst 0, 1) := by decide +kernel
theorem dX0_childrenIn_1 : decode cX0_childrenIn 1 = .ok (.istore_n 2, 1) := by decide +kernel
theorem dX0_childrenIn_2 : decode cX0_childrenIn 2 = .ok (.iconst 0, 1) := by decide +kernel
theorem dX0_childrenIn_3 : decode cX0_childrenIn 3 = .ok (.istore_n 3, 1) := by decide +kernel
theorem dX0_childrenIn_4 : decode cX0_childrenIn 4 = .ok (.iload_n 3, 1) := by decide +kernel
theorem dX0_childrenIn_5 : decode cX0_childrenIn 5 = .ok (.aload_n 0, 1) := by decide +kernel
theorem dX0_childrenIn_6 : decode cX0_childrenIn 6 = .ok (.getfield 15, 3) := by decide +kernel
theorem dX0_childrenIn_9 : decode cX0_childrenIn 9 = .ok (.if_icmp .ge 22, 3) := by decide +kernel
theorem dX0_childrenIn_12 : decode cX0_childrenIn 12 = .ok (.aload_n 0, 1) := by decide +kernel
theorem dX0_childrenIn_13 : decode cX0_childrenIn 13 = .ok (.getfield 11, 3) := by decide +kernel
theorem dX0_childrenIn_16 : decode cX0_childrenIn 16 = .ok (.iload_n 3, 1) := by decide +kernel
theorem dX0_childrenIn_17 : decode cX0_childrenIn 17 = .ok (.iaload, 1) := by decide +kernel
theorem dX0_childrenIn_18 : decode cX0_childrenIn 18 = .ok (.iload_n 1, 1) := by decide +kernel
theorem dX0_childrenIn_19 : decode cX0_childrenIn 19 = .ok (.if_icmp .ne 6, 3) := by decide +kernel
theorem dX0_childrenIn_22 : decode cX0_childrenIn 22 = .ok (.iinc 2 1, 3) := by decide +kernel
theorem dX0_childrenIn_25 : decode cX0_childrenIn 25 = .ok (.iinc 3 1, 3) := by decide +kernel
theorem dX0_childrenIn_28 : decode cX0_childrenIn 28 = .ok (.goto (-24), 3) := by decide +kernel
theorem dX0_childrenIn_31 : decode cX0_childrenIn 31 = .ok (.iload_n 2, 1) := by decide +kernel
theorem dX0_childrenIn_32 : decode cX0_childrenIn 32 = .ok (.ireturn, 1) := by decide +kernel
theorem dX0_hasChild_0 : decode cX0_hasChild 0 = .ok (.iload_n 1, 1) := by decide +kernel
theorem dX0_hasChild_1 : decode cX0_hasChild 1 = .ok (.iconst 0, 1) := by decide +kernel
theorem dX0_hasChild_2 : decode cX0_hasChild 2 = .ok (.aload_n 0, 1) := by decide +kernel
theorem dX0_hasChild_3 : decode cX0_hasChild 3 = .ok (.getfield 15, 3) := by decide +kernel
theorem dX0_hasChild_6 : decode cX0_hasChild 6 = .ok (.iconst 1, 1) := by decide +kernel
theorem dX0_hasChild_7 : decode cX0_hasChild 7 = .ok (.isub, 1) := by decide +kernel
theorem dX0_hasChild_8 : decode cX0_hasChild 8 = .ok (.invokestatic 40, 3) := by decide +kernel
theorem dX0_hasChild_11 : decode cX0_hasChild 11 = .ok (.ireturn, 1) := by decide +kernel
theorem dX0_addChild_0 : decode cX0_addChild 0 = .ok (.iload_n 2, 1) := by decide +kernel
theorem dX0_addChild_1 : decode cX0_addChild 1 = .ok (.iconst 0, 1) := by decide +kernel
theorem dX0_addChild_2 : decode cX0_addChild 2 = .ok (.bipush 17, 2) := by decide +kernel
theorem dX0_addChild_4 : decode cX0_addChild 4 = .ok (.invokestatic 40, 3) := by decide +kernel
theorem dX0_addChild_7 : decode cX0_addChild 7 = .ok (.ifCond .ne 6, 3) := by decide +kernel
theorem dX0_addChild_10 : decode cX0_addChild 10 = .ok (.bipush (-2), 2) := by decide +kernel
theorem dX0_addChild_12 : decode cX0_addChild 12 = .ok (.ireturn, 1) := by decide +kernel
theorem dX0_addChild_13 : decode cX0_addChild 13 = .ok (.aload_n 0, 1) := by decide +kernel
theorem dX0_addChild_14 : decode cX0_addChild 14 = .ok (.getfield 15, 3) := by decide +kernel
theorem dX0_addChild_17 : decode cX0_addChild 17 = .ok (.bipush 40, 2) := by decide +kernel
theorem dX0_addChild_19 : decode cX0_addChild 19 = .ok (.if_icmp .ge 12, 3) := by decide +kernel
theorem dX0_addChild_22 : decode cX0_addChild 22 = .ok (.aload_n 0, 1) := by decide +kernel
theorem dX0_addChild_23 : decode cX0_addChild 23 = .ok (.iload_n 1, 1) := by decide +kernel
theorem dX0_addChild_24 : decode cX0_addChild 24 = .ok (.invokevirtual 51, 3) := by decide +kernel
theorem dX0_addChild_27 : decode cX0_addChild 27 = .ok (.iload_n 3, 1) := by decide +kernel
theorem dX0_addChild_28 : decode cX0_addChild 28 = .ok (.if_icmp .lt 6, 3) := by decide +kernel
theorem dX0_addChild_31 : decode cX0_addChild 31 = .ok (.bipush (-4), 2) := by decide +kernel
theorem dX0_addChild_33 : decode cX0_addChild 33 = .ok (.ireturn, 1) := by decide +kernel
theorem dX0_addChild_34 : decode cX0_addChild 34 = .ok (.aload_n 0, 1) := by decide +kernel
theorem dX0_addChild_35 : decode cX0_addChild 35 = .ok (.getfield 19, 3) := by decide +kernel
theorem dX0_addChild_38 : decode cX0_addChild 38 = .ok (.aload_n 0, 1) := by decide +kernel
theorem dX0_addChild_39 : decode cX0_addChild 39 = .ok (.getfield 15, 3) := by decide +kernel
theorem dX0_addChild_42 : decode cX0_addChild 42 = .ok (.iload_n 1, 1) := by decide +kernel
theorem dX0_addChild_43 : decode cX0_addChild 43 = .ok (.iastore, 1) := by decide +kernel
theorem dX0_addChild_44 : decode cX0_addChild 44 = .ok (.aload_n 0, 1) := by decide +kernel
theorem dX0_addChild_45 : decode cX0_addChild 45 = .ok (.getfield 22, 3) := by decide +kernel
theorem dX0_addChild_48 : decode cX0_addChild 48 = .ok (.aload_n 0, 1) := by decide +kernel
theorem dX0_addChild_49 : decode cX0_addChild 49 = .ok (.getfield 15, 3) := by decide +kernel
theorem dX0_addChild_52 : decode cX0_addChild 52 = .ok (.iload_n 2, 1) := by decide +kernel
theorem dX0_addChild_53 : decode cX0_addChild 53 = .ok (.iastore, 1) := by decide +kernel
theorem dX0_addChild_54 : decode cX0_addChild 54 = .ok (.aload_n 0, 1) := by decide +kernel
theorem dX0_addChild_55 : decode cX0_addChild 55 = .ok (.getfield 11, 3) := by decide +kernel
theorem dX0_addChild_58 : decode cX0_addChild 58 = .ok (.aload_n 0, 1) := by decide +kernel
theorem dX0_addChild_59 : decode cX0_addChild 59 = .ok (.getfield 15, 3) := by decide +kernel
theorem dX0_addChild_62 : decode cX0_addChild 62 = .ok (.iconst (-1), 1) := by decide +kernel
theorem dX0_addChild_63 : decode cX0_addChild 63 = .ok (.iastore, 1) := by decide +kernel
theorem dX0_addChild_64 : decode cX0_addChild 64 = .ok (.aload_n 0, 1) := by decide +kernel
theorem dX0_addChild_65 : decode cX0_addChild 65 = .ok (.dup, 1) := by decide +kernel
theorem dX0_addChild_66 : decode cX0_addChild 66 = .ok (.getfield 15, 3) := by decide +kernel
theorem dX0_addChild_69 : decode cX0_addChild 69 = .ok (.iconst 1, 1) := by decide +kernel
theorem dX0_addChild_70 : decode cX0_addChild 70 = .ok (.iadd, 1) := by decide +kernel
theorem dX0_addChild_71 : decode cX0_addChild 71 = .ok (.putfield 15, 3) := by decide +kernel
theorem dX0_addChild_74 : decode cX0_addChild 74 = .ok (.aload_n 0, 1) := by decide +kernel
theorem dX0_addChild_75 : decode cX0_addChild 75 = .ok (.getfield 15, 3) := by decide +kernel
theorem dX0_addChild_78 : decode cX0_addChild 78 = .ok (.iconst 1, 1) := by decide +kernel
theorem dX0_addChild_79 : decode cX0_addChild 79 = .ok (.isub, 1) := by decide +kernel
theorem dX0_addChild_80 : decode cX0_addChild 80 = .ok (.ireturn, 1) := by decide +kernel
theorem dX0_childrenOf_0 : decode cX0_childrenOf 0 = .ok (.iconst 0, 1) := by decide +kernel
theorem dX0_childrenOf_1 : decode cX0_childrenOf 1 = .ok (.istore_n 2, 1) := by decide +kernel
theorem dX0_childrenOf_2 : decode cX0_childrenOf 2 = .ok (.iconst 0, 1) := by decide +kernel
theorem dX0_childrenOf_3 : decode cX0_childrenOf 3 = .ok (.istore_n 3, 1) := by decide +kernel
theorem dX0_childrenOf_4 : decode cX0_childrenOf 4 = .ok (.iload_n 3, 1) := by decide +kernel
theorem dX0_childrenOf_5 : decode cX0_childrenOf 5 = .ok (.aload_n 0, 1) := by decide +kernel
theorem dX0_childrenOf_6 : decode cX0_childrenOf 6 = .ok (.getfield 15, 3) := by decide +kernel
theorem dX0_childrenOf_9 : decode cX0_childrenOf 9 = .ok (.if_icmp .ge 22, 3) := by decide +kernel
theorem dX0_childrenOf_12 : decode cX0_childrenOf 12 = .ok (.aload_n 0, 1) := by decide +kernel
theorem dX0_childrenOf_13 : decode cX0_childrenOf 13 = .ok (.getfield 19, 3) := by decide +kernel
theorem dX0_childrenOf_16 : decode cX0_childrenOf 16 = .ok (.iload_n 3, 1) := by decide +kernel
theorem dX0_childrenOf_17 : decode cX0_childrenOf 17 = .ok (.iaload, 1) := by decide +kernel
theorem dX0_childrenOf_18 : decode cX0_childrenOf 18 = .ok (.iload_n 1, 1) := by decide +kernel
theorem dX0_childrenOf_19 : decode cX0_childrenOf 19 = .ok (.if_icmp .ne 6, 3) := by decide +kernel
theorem dX0_childrenOf_22 : decode cX0_childrenOf 22 = .ok (.iinc 2 1, 3) := by decide +kernel
theorem dX0_childrenOf_25 : decode cX0_childrenOf 25 = .ok (.iinc 3 1, 3) := by decide +kernel
theorem dX0_childrenOf_28 : decode cX0_childrenOf 28 = .ok (.goto (-24), 3) := by decide +kernel
theorem dX0_childrenOf_31 : decode cX0_childrenOf 31 = .ok (.iload_n 2, 1) := by decide +kernel
theorem dX0_childrenOf_32 : decode cX0_childrenOf 32 = .ok (.ireturn, 1) := by decide +kernel
theorem dX0_handOver_0 : decode cX0_handOver 0 = .ok (.aload_n 0, 1) := by decide +kernel
theorem dX0_handOver_1 : decode cX0_handOver 1 = .ok (.iload_n 1, 1) := by decide +kernel
theorem dX0_handOver_2 : decode cX0_handOver 2 = .ok (.invokevirtual 54, 3) := by decide +kernel
theorem dX0_handOver_5 : decode cX0_handOver 5 = .ok (.ifCond .ne 6, 3) := by decide +kernel
theorem dX0_handOver_8 : decode cX0_handOver 8 = .ok (.bipush (-2), 2) := by decide +kernel
theorem dX0_handOver_10 : decode cX0_handOver 10 = .ok (.ireturn, 1) := by decide +kernel
theorem dX0_handOver_11 : decode cX0_handOver 11 = .ok (.aload_n 0, 1) := by decide +kernel
theorem dX0_handOver_12 : decode cX0_handOver 12 = .ok (.aload_n 0, 1) := by decide +kernel
theorem dX0_handOver_13 : decode cX0_handOver 13 = .ok (.getfield 22, 3) := by decide +kernel
theorem dX0_handOver_16 : decode cX0_handOver 16 = .ok (.iload_n 1, 1) := by decide +kernel
theorem dX0_handOver_17 : decode cX0_handOver 17 = .ok (.iaload, 1) := by decide +kernel
theorem dX0_handOver_18 : decode cX0_handOver 18 = .ok (.invokevirtual 58, 3) := by decide +kernel
theorem dX0_handOver_21 : decode cX0_handOver 21 = .ok (.istore_n 2, 1) := by decide +kernel
theorem dX0_handOver_22 : decode cX0_handOver 22 = .ok (.iload_n 2, 1) := by decide +kernel
theorem dX0_handOver_23 : decode cX0_handOver 23 = .ok (.iconst (-1), 1) := by decide +kernel
theorem dX0_handOver_24 : decode cX0_handOver 24 = .ok (.if_icmp .eq 13, 3) := by decide +kernel
theorem dX0_handOver_27 : decode cX0_handOver 27 = .ok (.aload_n 0, 1) := by decide +kernel
theorem dX0_handOver_28 : decode cX0_handOver 28 = .ok (.getfield 11, 3) := by decide +kernel
theorem dX0_handOver_31 : decode cX0_handOver 31 = .ok (.iload_n 1, 1) := by decide +kernel
theorem dX0_handOver_32 : decode cX0_handOver 32 = .ok (.iaload, 1) := by decide +kernel
theorem dX0_handOver_33 : decode cX0_handOver 33 = .ok (.iload_n 2, 1) := by decide +kernel
theorem dX0_handOver_34 : decode cX0_handOver 34 = .ok (.if_icmp .ne 6, 3) := by decide +kernel
theorem dX0_handOver_37 : decode cX0_handOver 37 = .ok (.bipush (-3), 2) := by decide +kernel
theorem dX0_handOver_39 : decode cX0_handOver 39 = .ok (.ireturn, 1) := by decide +kernel
theorem dX0_handOver_40 : decode cX0_handOver 40 = .ok (.aload_n 0, 1) := by decide +kernel
theorem dX0_handOver_41 : decode cX0_handOver 41 = .ok (.iload_n 2, 1) := by decide +kernel
theorem dX0_handOver_42 : decode cX0_handOver 42 = .ok (.invokevirtual 47, 3) := by decide +kernel
theorem dX0_handOver_45 : decode cX0_handOver 45 = .ok (.aload_n 0, 1) := by decide +kernel
theorem dX0_handOver_46 : decode cX0_handOver 46 = .ok (.getfield 31, 3) := by decide +kernel
theorem dX0_handOver_49 : decode cX0_handOver 49 = .ok (.iload_n 2, 1) := by decide +kernel
theorem dX0_handOver_50 : decode cX0_handOver 50 = .ok (.iaload, 1) := by decide +kernel
theorem dX0_handOver_51 : decode cX0_handOver 51 = .ok (.if_icmp .lt 6, 3) := by decide +kernel
theorem dX0_handOver_54 : decode cX0_handOver 54 = .ok (.bipush (-4), 2) := by decide +kernel
theorem dX0_handOver_56 : decode cX0_handOver 56 = .ok (.ireturn, 1) := by decide +kernel
theorem dX0_handOver_57 : decode cX0_handOver 57 = .ok (.aload_n 0, 1) := by decide +kernel
theorem dX0_handOver_58 : decode cX0_handOver 58 = .ok (.getfield 11, 3) := by decide +kernel
theorem dX0_handOver_61 : decode cX0_handOver 61 = .ok (.iload_n 1, 1) := by decide +kernel
theorem dX0_handOver_62 : decode cX0_handOver 62 = .ok (.iload_n 2, 1) := by decide +kernel
theorem dX0_handOver_63 : decode cX0_handOver 63 = .ok (.iastore, 1) := by decide +kernel
theorem dX0_handOver_64 : decode cX0_handOver 64 = .ok (.iload_n 2, 1) := by decide +kernel
theorem dX0_handOver_65 : decode cX0_handOver 65 = .ok (.ireturn, 1) := by decide +kernel
theorem dX0_groupFor_0 : decode cX0_groupFor 0 = .ok (.iconst 0, 1) := by decide +kernel
theorem dX0_groupFor_1 : decode cX0_groupFor 1 = .ok (.istore_n 2, 1) := by decide +kernel
theorem dX0_groupFor_2 : decode cX0_groupFor 2 = .ok (.iload_n 2, 1) := by decide +kernel
theorem dX0_groupFor_3 : decode cX0_groupFor 3 = .ok (.iconst 4, 1) := by decide +kernel
theorem dX0_groupFor_4 : decode cX0_groupFor 4 = .ok (.if_icmp .ge 30, 3) := by decide +kernel
theorem dX0_groupFor_7 : decode cX0_groupFor 7 = .ok (.iload_n 1, 1) := by decide +kernel
theorem dX0_groupFor_8 : decode cX0_groupFor 8 = .ok (.aload_n 0, 1) := by decide +kernel
theorem dX0_groupFor_9 : decode cX0_groupFor 9 = .ok (.getfield 25, 3) := by decide +kernel
theorem dX0_groupFor_12 : decode cX0_groupFor 12 = .ok (.iload_n 2, 1) := by decide +kernel
theorem dX0_groupFor_13 : decode cX0_groupFor 13 = .ok (.iaload, 1) := by decide +kernel
theorem dX0_groupFor_14 : decode cX0_groupFor 14 = .ok (.aload_n 0, 1) := by decide +kernel
theorem dX0_groupFor_15 : decode cX0_groupFor 15 = .ok (.getfield 28, 3) := by decide +kernel
theorem dX0_groupFor_18 : decode cX0_groupFor 18 = .ok (.iload_n 2, 1) := by decide +kernel
theorem dX0_groupFor_19 : decode cX0_groupFor 19 = .ok (.iaload, 1) := by decide +kernel
theorem dX0_groupFor_20 : decode cX0_groupFor 20 = .ok (.invokestatic 40, 3) := by decide +kernel
theorem dX0_groupFor_23 : decode cX0_groupFor 23 = .ok (.ifCond .eq 5, 3) := by decide +kernel
theorem dX0_groupFor_26 : decode cX0_groupFor 26 = .ok (.iload_n 2, 1) := by decide +kernel
theorem dX0_groupFor_27 : decode cX0_groupFor 27 = .ok (.ireturn, 1) := by decide +kernel
theorem dX0_groupFor_28 : decode cX0_groupFor 28 = .ok (.iinc 2 1, 3) := by decide +kernel
theorem dX0_groupFor_31 : decode cX0_groupFor 31 = .ok (.goto (-29), 3) := by decide +kernel
theorem dX0_groupFor_34 : decode cX0_groupFor 34 = .ok (.iconst (-1), 1) := by decide +kernel
theorem dX0_groupFor_35 : decode cX0_groupFor 35 = .ok (.ireturn, 1) := by decide +kernel
theorem dX0_giveBack_0 : decode cX0_giveBack 0 = .ok (.aload_n 0, 1) := by decide +kernel
theorem dX0_giveBack_1 : decode cX0_giveBack 1 = .ok (.iload_n 1, 1) := by decide +kernel
theorem dX0_giveBack_2 : decode cX0_giveBack 2 = .ok (.invokevirtual 54, 3) := by decide +kernel
theorem dX0_giveBack_5 : decode cX0_giveBack 5 = .ok (.ifCond .ne 6, 3) := by decide +kernel
theorem dX0_giveBack_8 : decode cX0_giveBack 8 = .ok (.bipush (-2), 2) := by decide +kernel
theorem dX0_giveBack_10 : decode cX0_giveBack 10 = .ok (.ireturn, 1) := by decide +kernel
theorem dX0_giveBack_11 : decode cX0_giveBack 11 = .ok (.aload_n 0, 1) := by decide +kernel
theorem dX0_giveBack_12 : decode cX0_giveBack 12 = .ok (.getfield 11, 3) := by decide +kernel
theorem dX0_giveBack_15 : decode cX0_giveBack 15 = .ok (.iload_n 1, 1) := by decide +kernel
theorem dX0_giveBack_16 : decode cX0_giveBack 16 = .ok (.iaload, 1) := by decide +kernel
theorem dX0_giveBack_17 : decode cX0_giveBack 17 = .ok (.iconst (-1), 1) := by decide +kernel
theorem dX0_giveBack_18 : decode cX0_giveBack 18 = .ok (.if_icmp .eq 13, 3) := by decide +kernel
theorem dX0_giveBack_21 : decode cX0_giveBack 21 = .ok (.aload_n 0, 1) := by decide +kernel
theorem dX0_giveBack_22 : decode cX0_giveBack 22 = .ok (.getfield 19, 3) := by decide +kernel
theorem dX0_giveBack_25 : decode cX0_giveBack 25 = .ok (.iload_n 1, 1) := by decide +kernel
theorem dX0_giveBack_26 : decode cX0_giveBack 26 = .ok (.iaload, 1) := by decide +kernel
theorem dX0_giveBack_27 : decode cX0_giveBack 27 = .ok (.iload_n 2, 1) := by decide +kernel
theorem dX0_giveBack_28 : decode cX0_giveBack 28 = .ok (.if_icmp .eq 6, 3) := by decide +kernel
theorem dX0_giveBack_31 : decode cX0_giveBack 31 = .ok (.bipush (-3), 2) := by decide +kernel
theorem dX0_giveBack_33 : decode cX0_giveBack 33 = .ok (.ireturn, 1) := by decide +kernel
theorem dX0_giveBack_34 : decode cX0_giveBack 34 = .ok (.aload_n 0, 1) := by decide +kernel
theorem dX0_giveBack_35 : decode cX0_giveBack 35 = .ok (.getfield 11, 3) := by decide +kernel
theorem dX0_giveBack_38 : decode cX0_giveBack 38 = .ok (.iload_n 1, 1) := by decide +kernel
theorem dX0_giveBack_39 : decode cX0_giveBack 39 = .ok (.iconst (-1), 1) := by decide +kernel
theorem dX0_giveBack_40 : decode cX0_giveBack 40 = .ok (.iastore, 1) := by decide +kernel
theorem dX0_giveBack_41 : decode cX0_giveBack 41 = .ok (.iconst 1, 1) := by decide +kernel
theorem dX0_giveBack_42 : decode cX0_giveBack 42 = .ok (.ireturn, 1) := by decide +kernel
theorem dX1_init_0 : decode cX1_init 0 = .ok (.aload_n 0, 1) := by decide +kernel
theorem dX1_init_1 : decode cX1_init 1 = .ok (.invokespecial 3, 3) := by decide +kernel
theorem dX1_init_4 : decode cX1_init 4 = .ok (.aload_n 0, 1) := by decide +kernel
theorem dX1_init_5 : decode cX1_init 5 = .ok (.bipush 30, 2) := by decide +kernel
theorem dX1_init_7 : decode cX1_init 7 = .ok (.newarray .int, 2) := by decide +kernel
theorem dX1_init_9 : decode cX1_init 9 = .ok (.putfield 11, 3) := by decide +kernel
theorem dX1_init_12 : decode cX1_init 12 = .ok (.aload_n 0, 1) := by decide +kernel
theorem dX1_init_13 : decode cX1_init 13 = .ok (.bipush 30, 2) := by decide +kernel
theorem dX1_init_15 : decode cX1_init 15 = .ok (.newarray .int, 2) := by decide +kernel
theorem dX1_init_17 : decode cX1_init 17 = .ok (.putfield 15, 3) := by decide +kernel
theorem dX1_init_20 : decode cX1_init 20 = .ok (.aload_n 0, 1) := by decide +kernel
theorem dX1_init_21 : decode cX1_init 21 = .ok (.iconst 0, 1) := by decide +kernel
theorem dX1_init_22 : decode cX1_init 22 = .ok (.putfield 18, 3) := by decide +kernel
theorem dX1_init_25 : decode cX1_init 25 = .ok (.return_, 1) := by decide +kernel
theorem dX1_has_0 : decode cX1_has 0 = .ok (.iload_n 1, 1) := by decide +kernel
theorem dX1_has_1 : decode cX1_has 1 = .ok (.iconst 0, 1) := by decide +kernel
theorem dX1_has_2 : decode cX1_has 2 = .ok (.aload_n 0, 1) := by decide +kernel
theorem dX1_has_3 : decode cX1_has 3 = .ok (.getfield 18, 3) := by decide +kernel
theorem dX1_has_6 : decode cX1_has 6 = .ok (.iconst 1, 1) := by decide +kernel
theorem dX1_has_7 : decode cX1_has 7 = .ok (.isub, 1) := by decide +kernel
theorem dX1_has_8 : decode cX1_has 8 = .ok (.invokestatic 22, 3) := by decide +kernel
theorem dX1_has_11 : decode cX1_has 11 = .ok (.ireturn, 1) := by decide +kernel
theorem dX1_add_0 : decode cX1_add 0 = .ok (.iload_n 1, 1) := by decide +kernel
theorem dX1_add_1 : decode cX1_add 1 = .ok (.iconst 0, 1) := by decide +kernel
theorem dX1_add_2 : decode cX1_add 2 = .ok (.iconst 5, 1) := by decide +kernel
theorem dX1_add_3 : decode cX1_add 3 = .ok (.invokestatic 22, 3) := by decide +kernel
theorem dX1_add_6 : decode cX1_add 6 = .ok (.ifCond .eq 13, 3) := by decide +kernel
theorem dX1_add_9 : decode cX1_add 9 = .ok (.iload_n 2, 1) := by decide +kernel
theorem dX1_add_10 : decode cX1_add 10 = .ok (.iconst 1, 1) := by decide +kernel
theorem dX1_add_11 : decode cX1_add 11 = .ok (.bipush 8, 2) := by decide +kernel
theorem dX1_add_13 : decode cX1_add 13 = .ok (.invokestatic 22, 3) := by decide +kernel
theorem dX1_add_16 : decode cX1_add 16 = .ok (.ifCond .ne 6, 3) := by decide +kernel
theorem dX1_add_19 : decode cX1_add 19 = .ok (.bipush (-2), 2) := by decide +kernel
theorem dX1_add_21 : decode cX1_add 21 = .ok (.ireturn, 1) := by decide +kernel
theorem dX1_add_22 : decode cX1_add 22 = .ok (.aload_n 0, 1) := by decide +kernel
theorem dX1_add_23 : decode cX1_add 23 = .ok (.getfield 18, 3) := by decide +kernel
theorem dX1_add_26 : decode cX1_add 26 = .ok (.bipush 30, 2) := by decide +kernel
theorem dX1_add_28 : decode cX1_add 28 = .ok (.if_icmp .lt 6, 3) := by decide +kernel
theorem dX1_add_31 : decode cX1_add 31 = .ok (.bipush (-4), 2) := by decide +kernel
theorem dX1_add_33 : decode cX1_add 33 = .ok (.ireturn, 1) := by decide +kernel
theorem dX1_add_34 : decode cX1_add 34 = .ok (.aload_n 0, 1) := by decide +kernel
theorem dX1_add_35 : decode cX1_add 35 = .ok (.getfield 11, 3) := by decide +kernel
theorem dX1_add_38 : decode cX1_add 38 = .ok (.aload_n 0, 1) := by decide +kernel
theorem dX1_add_39 : decode cX1_add 39 = .ok (.getfield 18, 3) := by decide +kernel
theorem dX1_add_42 : decode cX1_add 42 = .ok (.iload_n 1, 1) := by decide +kernel
theorem dX1_add_43 : decode cX1_add 43 = .ok (.iastore, 1) := by decide +kernel
theorem dX1_add_44 : decode cX1_add 44 = .ok (.aload_n 0, 1) := by decide +kernel
theorem dX1_add_45 : decode cX1_add 45 = .ok (.getfield 15, 3) := by decide +kernel
theorem dX1_add_48 : decode cX1_add 48 = .ok (.aload_n 0, 1) := by decide +kernel
theorem dX1_add_49 : decode cX1_add 49 = .ok (.getfield 18, 3) := by decide +kernel
theorem dX1_add_52 : decode cX1_add 52 = .ok (.iload_n 2, 1) := by decide +kernel
theorem dX1_add_53 : decode cX1_add 53 = .ok (.iastore, 1) := by decide +kernel
theorem dX1_add_54 : decode cX1_add 54 = .ok (.aload_n 0, 1) := by decide +kernel
theorem dX1_add_55 : decode cX1_add 55 = .ok (.dup, 1) := by decide +kernel
theorem dX1_add_56 : decode cX1_add 56 = .ok (.getfield 18, 3) := by decide +kernel
theorem dX1_add_59 : decode cX1_add 59 = .ok (.iconst 1, 1) := by decide +kernel
theorem dX1_add_60 : decode cX1_add 60 = .ok (.iadd, 1) := by decide +kernel
theorem dX1_add_61 : decode cX1_add 61 = .ok (.putfield 18, 3) := by decide +kernel
theorem dX1_add_64 : decode cX1_add 64 = .ok (.aload_n 0, 1) := by decide +kernel
theorem dX1_add_65 : decode cX1_add 65 = .ok (.getfield 18, 3) := by decide +kernel
theorem dX1_add_68 : decode cX1_add 68 = .ok (.iconst 1, 1) := by decide +kernel
theorem dX1_add_69 : decode cX1_add 69 = .ok (.isub, 1) := by decide +kernel
theorem dX1_add_70 : decode cX1_add 70 = .ok (.ireturn, 1) := by decide +kernel
theorem dX2_init_0 : decode cX2_init 0 = .ok (.aload_n 0, 1) := by decide +kernel
theorem dX2_init_1 : decode cX2_init 1 = .ok (.invokespecial 3, 3) := by decide +kernel
theorem dX2_init_4 : decode cX2_init 4 = .ok (.aload_n 0, 1) := by decide +kernel
theorem dX2_init_5 : decode cX2_init 5 = .ok (.bipush 10, 2) := by decide +kernel
theorem dX2_init_7 : decode cX2_init 7 = .ok (.putfield 9, 3) := by decide +kernel
theorem dX2_init_10 : decode cX2_init 10 = .ok (.aload_n 0, 1) := by decide +kernel
theorem dX2_init_11 : decode cX2_init 11 = .ok (.iconst 0, 1) := by decide +kernel
theorem dX2_init_12 : decode cX2_init 12 = .ok (.putfield 15, 3) := by decide +kernel
theorem dX2_init_15 : decode cX2_init 15 = .ok (.aload_n 0, 1) := by decide +kernel
theorem dX2_init_16 : decode cX2_init 16 = .ok (.sipush 200, 3) := by decide +kernel
theorem dX2_init_19 : decode cX2_init 19 = .ok (.newarray .int, 2) := by decide +kernel
theorem dX2_init_21 : decode cX2_init 21 = .ok (.putfield 18, 3) := by decide +kernel
theorem dX2_init_24 : decode cX2_init 24 = .ok (.return_, 1) := by decide +kernel
theorem dX2_setPart_0 : decode cX2_setPart 0 = .ok (.iload_n 1, 1) := by decide +kernel
theorem dX2_setPart_1 : decode cX2_setPart 1 = .ok (.iconst 0, 1) := by decide +kernel
theorem dX2_setPart_2 : decode cX2_setPart 2 = .ok (.bipush 50, 2) := by decide +kernel
theorem dX2_setPart_4 : decode cX2_setPart 4 = .ok (.invokestatic 22, 3) := by decide +kernel
theorem dX2_setPart_7 : decode cX2_setPart 7 = .ok (.ifCond .ne 6, 3) := by decide +kernel
theorem dX2_setPart_10 : decode cX2_setPart 10 = .ok (.bipush (-2), 2) := by decide +kernel
theorem dX2_setPart_12 : decode cX2_setPart 12 = .ok (.ireturn, 1) := by decide +kernel
theorem dX2_setPart_13 : decode cX2_setPart 13 = .ok (.aload_n 0, 1) := by decide +kernel
theorem dX2_setPart_14 : decode cX2_setPart 14 = .ok (.getfield 9, 3) := by decide +kernel
theorem dX2_setPart_17 : decode cX2_setPart 17 = .ok (.istore_n 2, 1) := by decide +kernel
theorem dX2_setPart_18 : decode cX2_setPart 18 = .ok (.aload_n 0, 1) := by decide +kernel
theorem dX2_setPart_19 : decode cX2_setPart 19 = .ok (.iload_n 1, 1) := by decide +kernel
theorem dX2_setPart_20 : decode cX2_setPart 20 = .ok (.putfield 9, 3) := by decide +kernel
theorem dX2_setPart_23 : decode cX2_setPart 23 = .ok (.iload_n 2, 1) := by decide +kernel
theorem dX2_setPart_24 : decode cX2_setPart 24 = .ok (.ireturn, 1) := by decide +kernel
theorem dX2_serve_0 : decode cX2_serve 0 = .ok (.aload_n 0, 1) := by decide +kernel
theorem dX2_serve_1 : decode cX2_serve 1 = .ok (.getfield 15, 3) := by decide +kernel
theorem dX2_serve_4 : decode cX2_serve 4 = .ok (.bipush 40, 2) := by decide +kernel
theorem dX2_serve_6 : decode cX2_serve 6 = .ok (.if_icmp .lt 6, 3) := by decide +kernel
theorem dX2_serve_9 : decode cX2_serve 9 = .ok (.bipush (-4), 2) := by decide +kernel
theorem dX2_serve_11 : decode cX2_serve 11 = .ok (.ireturn, 1) := by decide +kernel
theorem dX2_serve_12 : decode cX2_serve 12 = .ok (.iload_n 3, 1) := by decide +kernel
theorem dX2_serve_13 : decode cX2_serve 13 = .ok (.bipush 100, 2) := by decide +kernel
theorem dX2_serve_15 : decode cX2_serve 15 = .ok (.aload_n 0, 1) := by decide +kernel
theorem dX2_serve_16 : decode cX2_serve 16 = .ok (.getfield 9, 3) := by decide +kernel
theorem dX2_serve_19 : decode cX2_serve 19 = .ok (.iadd, 1) := by decide +kernel
theorem dX2_serve_20 : decode cX2_serve 20 = .ok (.imul, 1) := by decide +kernel
theorem dX2_serve_21 : decode cX2_serve 21 = .ok (.bipush 100, 2) := by decide +kernel
theorem dX2_serve_23 : decode cX2_serve 23 = .ok (.idiv, 1) := by decide +kernel
theorem dX2_serve_24 : decode cX2_serve 24 = .ok (.istore 5, 2) := by decide +kernel
theorem dX2_serve_26 : decode cX2_serve 26 = .ok (.aload_n 0, 1) := by decide +kernel
theorem dX2_serve_27 : decode cX2_serve 27 = .ok (.getfield 15, 3) := by decide +kernel
theorem dX2_serve_30 : decode cX2_serve 30 = .ok (.iconst 5, 1) := by decide +kernel
theorem dX2_serve_31 : decode cX2_serve 31 = .ok (.imul, 1) := by decide +kernel
theorem dX2_serve_32 : decode cX2_serve 32 = .ok (.istore 6, 2) := by decide +kernel
theorem dX2_serve_34 : decode cX2_serve 34 = .ok (.aload_n 0, 1) := by decide +kernel
theorem dX2_serve_35 : decode cX2_serve 35 = .ok (.getfield 18, 3) := by decide +kernel
theorem dX2_serve_38 : decode cX2_serve 38 = .ok (.iload 6, 2) := by decide +kernel
theorem dX2_serve_40 : decode cX2_serve 40 = .ok (.iload_n 1, 1) := by decide +kernel
theorem dX2_serve_41 : decode cX2_serve 41 = .ok (.iastore, 1) := by decide +kernel
theorem dX2_serve_42 : decode cX2_serve 42 = .ok (.aload_n 0, 1) := by decide +kernel
theorem dX2_serve_43 : decode cX2_serve 43 = .ok (.getfield 18, 3) := by decide +kernel
theorem dX2_serve_46 : decode cX2_serve 46 = .ok (.iload 6, 2) := by decide +kernel
theorem dX2_serve_48 : decode cX2_serve 48 = .ok (.iconst 1, 1) := by decide +kernel
theorem dX2_serve_49 : decode cX2_serve 49 = .ok (.iadd, 1) := by decide +kernel
theorem dX2_serve_50 : decode cX2_serve 50 = .ok (.iload_n 2, 1) := by decide +kernel
theorem dX2_serve_51 : decode cX2_serve 51 = .ok (.iastore, 1) := by decide +kernel
theorem dX2_serve_52 : decode cX2_serve 52 = .ok (.aload_n 0, 1) := by decide +kernel
theorem dX2_serve_53 : decode cX2_serve 53 = .ok (.getfield 18, 3) := by decide +kernel
theorem dX2_serve_56 : decode cX2_serve 56 = .ok (.iload 6, 2) := by decide +kernel
theorem dX2_serve_58 : decode cX2_serve 58 = .ok (.iconst 2, 1) := by decide +kernel
theorem dX2_serve_59 : decode cX2_serve 59 = .ok (.iadd, 1) := by decide +kernel
theorem dX2_serve_60 : decode cX2_serve 60 = .ok (.iload_n 3, 1) := by decide +kernel
theorem dX2_serve_61 : decode cX2_serve 61 = .ok (.iastore, 1) := by decide +kernel
theorem dX2_serve_62 : decode cX2_serve 62 = .ok (.aload_n 0, 1) := by decide +kernel
theorem dX2_serve_63 : decode cX2_serve 63 = .ok (.getfield 18, 3) := by decide +kernel
theorem dX2_serve_66 : decode cX2_serve 66 = .ok (.iload 6, 2) := by decide +kernel
theorem dX2_serve_68 : decode cX2_serve 68 = .ok (.iconst 3, 1) := by decide +kernel
theorem dX2_serve_69 : decode cX2_serve 69 = .ok (.iadd, 1) := by decide +kernel
theorem dX2_serve_70 : decode cX2_serve 70 = .ok (.iload 5, 2) := by decide +kernel
theorem dX2_serve_72 : decode cX2_serve 72 = .ok (.iastore, 1) := by decide +kernel
theorem dX2_serve_73 : decode cX2_serve 73 = .ok (.aload_n 0, 1) := by decide +kernel
theorem dX2_serve_74 : decode cX2_serve 74 = .ok (.getfield 18, 3) := by decide +kernel
theorem dX2_serve_77 : decode cX2_serve 77 = .ok (.iload 6, 2) := by decide +kernel
theorem dX2_serve_79 : decode cX2_serve 79 = .ok (.iconst 4, 1) := by decide +kernel
theorem dX2_serve_80 : decode cX2_serve 80 = .ok (.iadd, 1) := by decide +kernel
theorem dX2_serve_81 : decode cX2_serve 81 = .ok (.iload 4, 2) := by decide +kernel
theorem dX2_serve_83 : decode cX2_serve 83 = .ok (.iastore, 1) := by decide +kernel
theorem dX2_serve_84 : decode cX2_serve 84 = .ok (.aload_n 0, 1) := by decide +kernel
theorem dX2_serve_85 : decode cX2_serve 85 = .ok (.dup, 1) := by decide +kernel
theorem dX2_serve_86 : decode cX2_serve 86 = .ok (.getfield 15, 3) := by decide +kernel
theorem dX2_serve_89 : decode cX2_serve 89 = .ok (.iconst 1, 1) := by decide +kernel
theorem dX2_serve_90 : decode cX2_serve 90 = .ok (.iadd, 1) := by decide +kernel
theorem dX2_serve_91 : decode cX2_serve 91 = .ok (.putfield 15, 3) := by decide +kernel
theorem dX2_serve_94 : decode cX2_serve 94 = .ok (.iload 5, 2) := by decide +kernel
theorem dX2_serve_96 : decode cX2_serve 96 = .ok (.iload 4, 2) := by decide +kernel
theorem dX2_serve_98 : decode cX2_serve 98 = .ok (.if_icmp .lt 11, 3) := by decide +kernel
theorem dX2_serve_101 : decode cX2_serve 101 = .ok (.iload 5, 2) := by decide +kernel
theorem dX2_serve_103 : decode cX2_serve 103 = .ok (.iload 4, 2) := by decide +kernel
theorem dX2_serve_105 : decode cX2_serve 105 = .ok (.isub, 1) := by decide +kernel
theorem dX2_serve_106 : decode cX2_serve 106 = .ok (.goto 12, 3) := by decide +kernel
theorem dX2_serve_109 : decode cX2_serve 109 = .ok (.sipush (-1000), 3) := by decide +kernel
theorem dX2_serve_112 : decode cX2_serve 112 = .ok (.iload 4, 2) := by decide +kernel
theorem dX2_serve_114 : decode cX2_serve 114 = .ok (.iload 5, 2) := by decide +kernel
theorem dX2_serve_116 : decode cX2_serve 116 = .ok (.isub, 1) := by decide +kernel
theorem dX2_serve_117 : decode cX2_serve 117 = .ok (.isub, 1) := by decide +kernel
theorem dX2_serve_118 : decode cX2_serve 118 = .ok (.ireturn, 1) := by decide +kernel
theorem dX2_entry_0 : decode cX2_entry 0 = .ok (.iload_n 1, 1) := by decide +kernel
theorem dX2_entry_1 : decode cX2_entry 1 = .ok (.iconst 0, 1) := by decide +kernel
theorem dX2_entry_2 : decode cX2_entry 2 = .ok (.aload_n 0, 1) := by decide +kernel
theorem dX2_entry_3 : decode cX2_entry 3 = .ok (.getfield 15, 3) := by decide +kernel
theorem dX2_entry_6 : decode cX2_entry 6 = .ok (.iconst 1, 1) := by decide +kernel
theorem dX2_entry_7 : decode cX2_entry 7 = .ok (.isub, 1) := by decide +kernel
theorem dX2_entry_8 : decode cX2_entry 8 = .ok (.invokestatic 22, 3) := by decide +kernel
theorem dX2_entry_11 : decode cX2_entry 11 = .ok (.ifCond .eq 12, 3) := by decide +kernel
theorem dX2_entry_14 : decode cX2_entry 14 = .ok (.iload_n 2, 1) := by decide +kernel
theorem dX2_entry_15 : decode cX2_entry 15 = .ok (.iconst 0, 1) := by decide +kernel
theorem dX2_entry_16 : decode cX2_entry 16 = .ok (.iconst 4, 1) := by decide +kernel
theorem dX2_entry_17 : decode cX2_entry 17 = .ok (.invokestatic 22, 3) := by decide +kernel
theorem dX2_entry_20 : decode cX2_entry 20 = .ok (.ifCond .ne 6, 3) := by decide +kernel
theorem dX2_entry_23 : decode cX2_entry 23 = .ok (.bipush (-2), 2) := by decide +kernel
theorem dX2_entry_25 : decode cX2_entry 25 = .ok (.ireturn, 1) := by decide +kernel
theorem dX2_entry_26 : decode cX2_entry 26 = .ok (.aload_n 0, 1) := by decide +kernel
theorem dX2_entry_27 : decode cX2_entry 27 = .ok (.getfield 18, 3) := by decide +kernel
theorem dX2_entry_30 : decode cX2_entry 30 = .ok (.iload_n 1, 1) := by decide +kernel
theorem dX2_entry_31 : decode cX2_entry 31 = .ok (.iconst 5, 1) := by decide +kernel
theorem dX2_entry_32 : decode cX2_entry 32 = .ok (.imul, 1) := by decide +kernel
theorem dX2_entry_33 : decode cX2_entry 33 = .ok (.iload_n 2, 1) := by decide +kernel
theorem dX2_entry_34 : decode cX2_entry 34 = .ok (.iadd, 1) := by decide +kernel
theorem dX2_entry_35 : decode cX2_entry 35 = .ok (.iaload, 1) := by decide +kernel
theorem dX2_entry_36 : decode cX2_entry 36 = .ok (.ireturn, 1) := by decide +kernel
theorem dX3_init_0 : decode cX3_init 0 = .ok (.aload_n 0, 1) := by decide +kernel
theorem dX3_init_1 : decode cX3_init 1 = .ok (.invokespecial 3, 3) := by decide +kernel
theorem dX3_init_4 : decode cX3_init 4 = .ok (.aload_n 0, 1) := by decide +kernel
theorem dX3_init_5 : decode cX3_init 5 = .ok (.new 9, 3) := by decide +kernel
theorem dX3_init_8 : decode cX3_init 8 = .ok (.dup, 1) := by decide +kernel
theorem dX3_init_9 : decode cX3_init 9 = .ok (.invokespecial 11, 3) := by decide +kernel
theorem dX3_init_12 : decode cX3_init 12 = .ok (.putfield 12, 3) := by decide +kernel
theorem dX3_init_15 : decode cX3_init 15 = .ok (.aload_n 0, 1) := by decide +kernel
theorem dX3_init_16 : decode cX3_init 16 = .ok (.new 18, 3) := by decide +kernel
theorem dX3_init_19 : decode cX3_init 19 = .ok (.dup, 1) := by decide +kernel
theorem dX3_init_20 : decode cX3_init 20 = .ok (.invokespecial 20, 3) := by decide +kernel
theorem dX3_init_23 : decode cX3_init 23 = .ok (.putfield 21, 3) := by decide +kernel
theorem dX3_init_26 : decode cX3_init 26 = .ok (.aload_n 0, 1) := by decide +kernel
theorem dX3_init_27 : decode cX3_init 27 = .ok (.iconst (-1), 1) := by decide +kernel
theorem dX3_init_28 : decode cX3_init 28 = .ok (.putfield 25, 3) := by decide +kernel
theorem dX3_init_31 : decode cX3_init 31 = .ok (.return_, 1) := by decide +kernel
theorem dX3_relate_0 : decode cX3_relate 0 = .ok (.aload_n 0, 1) := by decide +kernel
theorem dX3_relate_1 : decode cX3_relate 1 = .ok (.getfield 21, 3) := by decide +kernel
theorem dX3_relate_4 : decode cX3_relate 4 = .ok (.iload_n 1, 1) := by decide +kernel
theorem dX3_relate_5 : decode cX3_relate 5 = .ok (.invokevirtual 29, 3) := by decide +kernel
theorem dX3_relate_8 : decode cX3_relate 8 = .ok (.ifCond .eq 28, 3) := by decide +kernel
theorem dX3_relate_11 : decode cX3_relate 11 = .ok (.aload_n 0, 1) := by decide +kernel
theorem dX3_relate_12 : decode cX3_relate 12 = .ok (.getfield 21, 3) := by decide +kernel
theorem dX3_relate_15 : decode cX3_relate 15 = .ok (.iload_n 2, 1) := by decide +kernel
theorem dX3_relate_16 : decode cX3_relate 16 = .ok (.invokevirtual 29, 3) := by decide +kernel
theorem dX3_relate_19 : decode cX3_relate 19 = .ok (.ifCond .eq 17, 3) := by decide +kernel
theorem dX3_relate_22 : decode cX3_relate 22 = .ok (.iload_n 1, 1) := by decide +kernel
theorem dX3_relate_23 : decode cX3_relate 23 = .ok (.iload_n 2, 1) := by decide +kernel
theorem dX3_relate_24 : decode cX3_relate 24 = .ok (.if_icmp .eq 12, 3) := by decide +kernel
theorem dX3_relate_27 : decode cX3_relate 27 = .ok (.iload_n 3, 1) := by decide +kernel
theorem dX3_relate_28 : decode cX3_relate 28 = .ok (.iconst 0, 1) := by decide +kernel
theorem dX3_relate_29 : decode cX3_relate 29 = .ok (.iconst 2, 1) := by decide +kernel
theorem dX3_relate_30 : decode cX3_relate 30 = .ok (.invokestatic 33, 3) := by decide +kernel
theorem dX3_relate_33 : decode cX3_relate 33 = .ok (.ifCond .ne 6, 3) := by decide +kernel
theorem dX3_relate_36 : decode cX3_relate 36 = .ok (.bipush (-2), 2) := by decide +kernel
theorem dX3_relate_38 : decode cX3_relate 38 = .ok (.ireturn, 1) := by decide +kernel
theorem dX3_relate_39 : decode cX3_relate 39 = .ok (.iload_n 3, 1) := by decide +kernel
theorem dX3_relate_40 : decode cX3_relate 40 = .ok (.iconst 1, 1) := by decide +kernel
theorem dX3_relate_41 : decode cX3_relate 41 = .ok (.if_icmp .ne 15, 3) := by decide +kernel
theorem dX3_relate_44 : decode cX3_relate 44 = .ok (.aload_n 0, 1) := by decide +kernel
theorem dX3_relate_45 : decode cX3_relate 45 = .ok (.iload_n 1, 1) := by decide +kernel
theorem dX3_relate_46 : decode cX3_relate 46 = .ok (.iload_n 2, 1) := by decide +kernel
theorem dX3_relate_47 : decode cX3_relate 47 = .ok (.invokevirtual 37, 3) := by decide +kernel
theorem dX3_relate_50 : decode cX3_relate 50 = .ok (.ifCond .eq 6, 3) := by decide +kernel
theorem dX3_relate_53 : decode cX3_relate 53 = .ok (.bipush (-3), 2) := by decide +kernel
theorem dX3_relate_55 : decode cX3_relate 55 = .ok (.ireturn, 1) := by decide +kernel
theorem dX3_relate_56 : decode cX3_relate 56 = .ok (.aload_n 0, 1) := by decide +kernel
theorem dX3_relate_57 : decode cX3_relate 57 = .ok (.getfield 21, 3) := by decide +kernel
theorem dX3_relate_60 : decode cX3_relate 60 = .ok (.iload_n 1, 1) := by decide +kernel
theorem dX3_relate_61 : decode cX3_relate 61 = .ok (.iload_n 2, 1) := by decide +kernel
theorem dX3_relate_62 : decode cX3_relate 62 = .ok (.iload_n 3, 1) := by decide +kernel
theorem dX3_relate_63 : decode cX3_relate 63 = .ok (.invokevirtual 41, 3) := by decide +kernel
theorem dX3_relate_66 : decode cX3_relate 66 = .ok (.ireturn, 1) := by decide +kernel
theorem dX3_liveInOneRow_0 : decode cX3_liveInOneRow 0 = .ok (.aload_n 0, 1) := by decide +kernel
theorem dX3_liveInOneRow_1 : decode cX3_liveInOneRow 1 = .ok (.getfield 21, 3) := by decide +kernel
theorem dX3_liveInOneRow_4 : decode cX3_liveInOneRow 4 = .ok (.iload_n 1, 1) := by decide +kernel
theorem dX3_liveInOneRow_5 : decode cX3_liveInOneRow 5 = .ok (.invokevirtual 45, 3) := by decide +kernel
theorem dX3_liveInOneRow_8 : decode cX3_liveInOneRow 8 = .ok (.ifCond .eq 44, 3) := by decide +kernel
theorem dX3_liveInOneRow_11 : decode cX3_liveInOneRow 11 = .ok (.aload_n 0, 1) := by decide +kernel
theorem dX3_liveInOneRow_12 : decode cX3_liveInOneRow 12 = .ok (.iload_n 2, 1) := by decide +kernel
theorem dX3_liveInOneRow_13 : decode cX3_liveInOneRow 13 = .ok (.aload_n 0, 1) := by decide +kernel
theorem dX3_liveInOneRow_14 : decode cX3_liveInOneRow 14 = .ok (.getfield 12, 3) := by decide +kernel
theorem dX3_liveInOneRow_17 : decode cX3_liveInOneRow 17 = .ok (.getfield 48, 3) := by decide +kernel
theorem dX3_liveInOneRow_20 : decode cX3_liveInOneRow 20 = .ok (.aload_n 0, 1) := by decide +kernel
theorem dX3_liveInOneRow_21 : decode cX3_liveInOneRow 21 = .ok (.getfield 21, 3) := by decide +kernel
theorem dX3_liveInOneRow_24 : decode cX3_liveInOneRow 24 = .ok (.getfield 52, 3) := by decide +kernel
theorem dX3_liveInOneRow_27 : decode cX3_liveInOneRow 27 = .ok (.iload_n 1, 1) := by decide +kernel
theorem dX3_liveInOneRow_28 : decode cX3_liveInOneRow 28 = .ok (.iaload, 1) := by decide +kernel
theorem dX3_liveInOneRow_29 : decode cX3_liveInOneRow 29 = .ok (.iaload, 1) := by decide +kernel
theorem dX3_liveInOneRow_30 : decode cX3_liveInOneRow 30 = .ok (.invokevirtual 55, 3) := by decide +kernel
theorem dX3_liveInOneRow_33 : decode cX3_liveInOneRow 33 = .ok (.ifCond .eq 19, 3) := by decide +kernel
theorem dX3_liveInOneRow_36 : decode cX3_liveInOneRow 36 = .ok (.aload_n 0, 1) := by decide +kernel
theorem dX3_liveInOneRow_37 : decode cX3_liveInOneRow 37 = .ok (.getfield 21, 3) := by decide +kernel
theorem dX3_liveInOneRow_40 : decode cX3_liveInOneRow 40 = .ok (.iload_n 1, 1) := by decide +kernel
theorem dX3_liveInOneRow_41 : decode cX3_liveInOneRow 41 = .ok (.iload_n 2, 1) := by decide +kernel
theorem dX3_liveInOneRow_42 : decode cX3_liveInOneRow 42 = .ok (.invokevirtual 58, 3) := by decide +kernel
theorem dX3_liveInOneRow_45 : decode cX3_liveInOneRow 45 = .ok (.ifCond .eq 7, 3) := by decide +kernel
theorem dX3_liveInOneRow_48 : decode cX3_liveInOneRow 48 = .ok (.iconst 1, 1) := by decide +kernel
theorem dX3_liveInOneRow_49 : decode cX3_liveInOneRow 49 = .ok (.goto 4, 3) := by decide +kernel
theorem dX3_liveInOneRow_52 : decode cX3_liveInOneRow 52 = .ok (.iconst 0, 1) := by decide +kernel
theorem dX3_liveInOneRow_53 : decode cX3_liveInOneRow 53 = .ok (.ireturn, 1) := by decide +kernel
theorem dX3_isInRow_0 : decode cX3_isInRow 0 = .ok (.aload_n 0, 1) := by decide +kernel
theorem dX3_isInRow_1 : decode cX3_isInRow 1 = .ok (.getfield 21, 3) := by decide +kernel
theorem dX3_isInRow_4 : decode cX3_isInRow 4 = .ok (.getfield 52, 3) := by decide +kernel
theorem dX3_isInRow_7 : decode cX3_isInRow 7 = .ok (.iload_n 1, 1) := by decide +kernel
theorem dX3_isInRow_8 : decode cX3_isInRow 8 = .ok (.iaload, 1) := by decide +kernel
theorem dX3_isInRow_9 : decode cX3_isInRow 9 = .ok (.istore_n 3, 1) := by decide +kernel
theorem dX3_isInRow_10 : decode cX3_isInRow 10 = .ok (.iload_n 3, 1) := by decide +kernel
theorem dX3_isInRow_11 : decode cX3_isInRow 11 = .ok (.iconst (-1), 1) := by decide +kernel
theorem dX3_isInRow_12 : decode cX3_isInRow 12 = .ok (.if_icmp .eq 20, 3) := by decide +kernel
theorem dX3_isInRow_15 : decode cX3_isInRow 15 = .ok (.aload_n 0, 1) := by decide +kernel
theorem dX3_isInRow_16 : decode cX3_isInRow 16 = .ok (.getfield 12, 3) := by decide +kernel
theorem dX3_isInRow_19 : decode cX3_isInRow 19 = .ok (.getfield 48, 3) := by decide +kernel
theorem dX3_isInRow_22 : decode cX3_isInRow 22 = .ok (.iload_n 3, 1) := by decide +kernel
theorem dX3_isInRow_23 : decode cX3_isInRow 23 = .ok (.iaload, 1) := by decide +kernel
theorem dX3_isInRow_24 : decode cX3_isInRow 24 = .ok (.iload_n 2, 1) := by decide +kernel
theorem dX3_isInRow_25 : decode cX3_isInRow 25 = .ok (.if_icmp .ne 7, 3) := by decide +kernel
theorem dX3_isInRow_28 : decode cX3_isInRow 28 = .ok (.iconst 1, 1) := by decide +kernel
theorem dX3_isInRow_29 : decode cX3_isInRow 29 = .ok (.goto 4, 3) := by decide +kernel
theorem dX3_isInRow_32 : decode cX3_isInRow 32 = .ok (.iconst 0, 1) := by decide +kernel
theorem dX3_isInRow_33 : decode cX3_isInRow 33 = .ok (.ireturn, 1) := by decide +kernel
theorem dX3_takeIn_0 : decode cX3_takeIn 0 = .ok (.aload_n 0, 1) := by decide +kernel
theorem dX3_takeIn_1 : decode cX3_takeIn 1 = .ok (.getfield 21, 3) := by decide +kernel
theorem dX3_takeIn_4 : decode cX3_takeIn 4 = .ok (.iload_n 1, 1) := by decide +kernel
theorem dX3_takeIn_5 : decode cX3_takeIn 5 = .ok (.invokevirtual 29, 3) := by decide +kernel
theorem dX3_takeIn_8 : decode cX3_takeIn 8 = .ok (.ifCond .ne 6, 3) := by decide +kernel
theorem dX3_takeIn_11 : decode cX3_takeIn 11 = .ok (.bipush (-2), 2) := by decide +kernel
theorem dX3_takeIn_13 : decode cX3_takeIn 13 = .ok (.ireturn, 1) := by decide +kernel
theorem dX3_takeIn_14 : decode cX3_takeIn 14 = .ok (.aload_n 0, 1) := by decide +kernel
theorem dX3_takeIn_15 : decode cX3_takeIn 15 = .ok (.getfield 21, 3) := by decide +kernel
theorem dX3_takeIn_18 : decode cX3_takeIn 18 = .ok (.iload_n 1, 1) := by decide +kernel
theorem dX3_takeIn_19 : decode cX3_takeIn 19 = .ok (.invokevirtual 45, 3) := by decide +kernel
theorem dX3_takeIn_22 : decode cX3_takeIn 22 = .ok (.ifCond .eq 6, 3) := by decide +kernel
theorem dX3_takeIn_25 : decode cX3_takeIn 25 = .ok (.bipush (-3), 2) := by decide +kernel
theorem dX3_takeIn_27 : decode cX3_takeIn 27 = .ok (.ireturn, 1) := by decide +kernel
theorem dX3_takeIn_28 : decode cX3_takeIn 28 = .ok (.aload_n 0, 1) := by decide +kernel
theorem dX3_takeIn_29 : decode cX3_takeIn 29 = .ok (.iload_n 1, 1) := by decide +kernel
theorem dX3_takeIn_30 : decode cX3_takeIn 30 = .ok (.invokevirtual 61, 3) := by decide +kernel
theorem dX3_takeIn_33 : decode cX3_takeIn 33 = .ok (.istore_n 2, 1) := by decide +kernel
theorem dX3_takeIn_34 : decode cX3_takeIn 34 = .ok (.iload_n 2, 1) := by decide +kernel
theorem dX3_takeIn_35 : decode cX3_takeIn 35 = .ok (.iconst (-1), 1) := by decide +kernel
theorem dX3_takeIn_36 : decode cX3_takeIn 36 = .ok (.if_icmp .eq 20, 3) := by decide +kernel
theorem dX3_takeIn_39 : decode cX3_takeIn 39 = .ok (.aload_n 0, 1) := by decide +kernel
theorem dX3_takeIn_40 : decode cX3_takeIn 40 = .ok (.getfield 21, 3) := by decide +kernel
theorem dX3_takeIn_43 : decode cX3_takeIn 43 = .ok (.getfield 52, 3) := by decide +kernel
theorem dX3_takeIn_46 : decode cX3_takeIn 46 = .ok (.iload_n 1, 1) := by decide +kernel
theorem dX3_takeIn_47 : decode cX3_takeIn 47 = .ok (.iload_n 2, 1) := by decide +kernel
theorem dX3_takeIn_48 : decode cX3_takeIn 48 = .ok (.iastore, 1) := by decide +kernel
theorem dX3_takeIn_49 : decode cX3_takeIn 49 = .ok (.aload_n 0, 1) := by decide +kernel
theorem dX3_takeIn_50 : decode cX3_takeIn 50 = .ok (.iconst (-1), 1) := by decide +kernel
theorem dX3_takeIn_51 : decode cX3_takeIn 51 = .ok (.putfield 25, 3) := by decide +kernel
theorem dX3_takeIn_54 : decode cX3_takeIn 54 = .ok (.iload_n 2, 1) := by decide +kernel
theorem dX3_takeIn_55 : decode cX3_takeIn 55 = .ok (.ireturn, 1) := by decide +kernel
theorem dX3_takeIn_56 : decode cX3_takeIn 56 = .ok (.iconst 0, 1) := by decide +kernel
theorem dX3_takeIn_57 : decode cX3_takeIn 57 = .ok (.istore_n 3, 1) := by decide +kernel
theorem dX3_takeIn_58 : decode cX3_takeIn 58 = .ok (.iload_n 3, 1) := by decide +kernel
theorem dX3_takeIn_59 : decode cX3_takeIn 59 = .ok (.aload_n 0, 1) := by decide +kernel
theorem dX3_takeIn_60 : decode cX3_takeIn 60 = .ok (.getfield 21, 3) := by decide +kernel
theorem dX3_takeIn_63 : decode cX3_takeIn 63 = .ok (.getfield 65, 3) := by decide +kernel
theorem dX3_takeIn_66 : decode cX3_takeIn 66 = .ok (.if_icmp .ge 44, 3) := by decide +kernel
theorem dX3_takeIn_69 : decode cX3_takeIn 69 = .ok (.aload_n 0, 1) := by decide +kernel
theorem dX3_takeIn_70 : decode cX3_takeIn 70 = .ok (.getfield 21, 3) := by decide +kernel
theorem dX3_takeIn_73 : decode cX3_takeIn 73 = .ok (.iload_n 3, 1) := by decide +kernel
theorem dX3_takeIn_74 : decode cX3_takeIn 74 = .ok (.invokevirtual 45, 3) := by decide +kernel
theorem dX3_takeIn_77 : decode cX3_takeIn 77 = .ok (.ifCond .eq 27, 3) := by decide +kernel
theorem dX3_takeIn_80 : decode cX3_takeIn 80 = .ok (.aload_n 0, 1) := by decide +kernel
theorem dX3_takeIn_81 : decode cX3_takeIn 81 = .ok (.iload_n 3, 1) := by decide +kernel
theorem dX3_takeIn_82 : decode cX3_takeIn 82 = .ok (.iload_n 1, 1) := by decide +kernel
theorem dX3_takeIn_83 : decode cX3_takeIn 83 = .ok (.invokevirtual 68, 3) := by decide +kernel
theorem dX3_takeIn_86 : decode cX3_takeIn 86 = .ok (.ifCond .eq 18, 3) := by decide +kernel
theorem dX3_takeIn_89 : decode cX3_takeIn 89 = .ok (.aload_n 0, 1) := by decide +kernel
theorem dX3_takeIn_90 : decode cX3_takeIn 90 = .ok (.iload_n 3, 1) := by decide +kernel
theorem dX3_takeIn_91 : decode cX3_takeIn 91 = .ok (.putfield 25, 3) := by decide +kernel
theorem dX3_takeIn_94 : decode cX3_takeIn 94 = .ok (.aload_n 0, 1) := by decide +kernel
theorem dX3_takeIn_95 : decode cX3_takeIn 95 = .ok (.getfield 21, 3) := by decide +kernel
theorem dX3_takeIn_98 : decode cX3_takeIn 98 = .ok (.getfield 52, 3) := by decide +kernel
theorem dX3_takeIn_101 : decode cX3_takeIn 101 = .ok (.iload_n 1, 1) := by decide +kernel
theorem dX3_takeIn_102 : decode cX3_takeIn 102 = .ok (.iaload, 1) := by decide +kernel
theorem dX3_takeIn_103 : decode cX3_takeIn 103 = .ok (.ireturn, 1) := by decide +kernel
theorem dX3_takeIn_104 : decode cX3_takeIn 104 = .ok (.iinc 3 1, 3) := by decide +kernel
theorem dX3_takeIn_107 : decode cX3_takeIn 107 = .ok (.goto (-49), 3) := by decide +kernel
theorem dX3_takeIn_110 : decode cX3_takeIn 110 = .ok (.iconst (-1), 1) := by decide +kernel
theorem dX3_takeIn_111 : decode cX3_takeIn 111 = .ok (.ireturn, 1) := by decide +kernel
theorem dX3_dearestHut_0 : decode cX3_dearestHut 0 = .ok (.iconst (-1), 1) := by decide +kernel
theorem dX3_dearestHut_1 : decode cX3_dearestHut 1 = .ok (.istore_n 2, 1) := by decide +kernel
theorem dX3_dearestHut_2 : decode cX3_dearestHut 2 = .ok (.iconst 0, 1) := by decide +kernel
theorem dX3_dearestHut_3 : decode cX3_dearestHut 3 = .ok (.istore_n 3, 1) := by decide +kernel
theorem dX3_dearestHut_4 : decode cX3_dearestHut 4 = .ok (.iconst 0, 1) := by decide +kernel
theorem dX3_dearestHut_5 : decode cX3_dearestHut 5 = .ok (.istore 4, 2) := by decide +kernel
theorem dX3_dearestHut_7 : decode cX3_dearestHut 7 = .ok (.iload 4, 2) := by decide +kernel
theorem dX3_dearestHut_9 : decode cX3_dearestHut 9 = .ok (.aload_n 0, 1) := by decide +kernel
theorem dX3_dearestHut_10 : decode cX3_dearestHut 10 = .ok (.getfield 12, 3) := by decide +kernel
theorem dX3_dearestHut_13 : decode cX3_dearestHut 13 = .ok (.getfield 71, 3) := by decide +kernel
theorem dX3_dearestHut_16 : decode cX3_dearestHut 16 = .ok (.if_icmp .ge 45, 3) := by decide +kernel
theorem dX3_dearestHut_19 : decode cX3_dearestHut 19 = .ok (.aload_n 0, 1) := by decide +kernel
theorem dX3_dearestHut_20 : decode cX3_dearestHut 20 = .ok (.iload_n 1, 1) := by decide +kernel
theorem dX3_dearestHut_21 : decode cX3_dearestHut 21 = .ok (.iload 4, 2) := by decide +kernel
theorem dX3_dearestHut_23 : decode cX3_dearestHut 23 = .ok (.invokevirtual 72, 3) := by decide +kernel
theorem dX3_dearestHut_26 : decode cX3_dearestHut 26 = .ok (.ifCond .eq 29, 3) := by decide +kernel
theorem dX3_dearestHut_29 : decode cX3_dearestHut 29 = .ok (.aload_n 0, 1) := by decide +kernel
theorem dX3_dearestHut_30 : decode cX3_dearestHut 30 = .ok (.iload_n 1, 1) := by decide +kernel
theorem dX3_dearestHut_31 : decode cX3_dearestHut 31 = .ok (.iload 4, 2) := by decide +kernel
theorem dX3_dearestHut_33 : decode cX3_dearestHut 33 = .ok (.invokevirtual 75, 3) := by decide +kernel
theorem dX3_dearestHut_36 : decode cX3_dearestHut 36 = .ok (.istore 5, 2) := by decide +kernel
theorem dX3_dearestHut_38 : decode cX3_dearestHut 38 = .ok (.iload_n 2, 1) := by decide +kernel
theorem dX3_dearestHut_39 : decode cX3_dearestHut 39 = .ok (.iconst (-1), 1) := by decide +kernel
theorem dX3_dearestHut_40 : decode cX3_dearestHut 40 = .ok (.if_icmp .eq 9, 3) := by decide +kernel
theorem dX3_dearestHut_43 : decode cX3_dearestHut 43 = .ok (.iload 5, 2) := by decide +kernel
theorem dX3_dearestHut_45 : decode cX3_dearestHut 45 = .ok (.iload_n 3, 1) := by decide +kernel
theorem dX3_dearestHut_46 : decode cX3_dearestHut 46 = .ok (.if_icmp .ge 9, 3) := by decide +kernel
theorem dX3_dearestHut_49 : decode cX3_dearestHut 49 = .ok (.iload 4, 2) := by decide +kernel
theorem dX3_dearestHut_51 : decode cX3_dearestHut 51 = .ok (.istore_n 2, 1) := by decide +kernel
theorem dX3_dearestHut_52 : decode cX3_dearestHut 52 = .ok (.iload 5, 2) := by decide +kernel
theorem dX3_dearestHut_54 : decode cX3_dearestHut 54 = .ok (.istore_n 3, 1) := by decide +kernel
theorem dX3_dearestHut_55 : decode cX3_dearestHut 55 = .ok (.iinc 4 1, 3) := by decide +kernel
theorem dX3_dearestHut_58 : decode cX3_dearestHut 58 = .ok (.goto (-51), 3) := by decide +kernel
theorem dX3_dearestHut_61 : decode cX3_dearestHut 61 = .ok (.iload_n 2, 1) := by decide +kernel
theorem dX3_dearestHut_62 : decode cX3_dearestHut 62 = .ok (.ireturn, 1) := by decide +kernel
theorem dX3_mayHave_0 : decode cX3_mayHave 0 = .ok (.aload_n 0, 1) := by decide +kernel
theorem dX3_mayHave_1 : decode cX3_mayHave 1 = .ok (.getfield 12, 3) := by decide +kernel
theorem dX3_mayHave_4 : decode cX3_mayHave 4 = .ok (.getfield 79, 3) := by decide +kernel
theorem dX3_mayHave_7 : decode cX3_mayHave 7 = .ok (.iload_n 2, 1) := by decide +kernel
theorem dX3_mayHave_8 : decode cX3_mayHave 8 = .ok (.iaload, 1) := by decide +kernel
theorem dX3_mayHave_9 : decode cX3_mayHave 9 = .ok (.aload_n 0, 1) := by decide +kernel
theorem dX3_mayHave_10 : decode cX3_mayHave 10 = .ok (.getfield 21, 3) := by decide +kernel
theorem dX3_mayHave_13 : decode cX3_mayHave 13 = .ok (.getfield 82, 3) := by decide +kernel
theorem dX3_mayHave_16 : decode cX3_mayHave 16 = .ok (.iload_n 1, 1) := by decide +kernel
theorem dX3_mayHave_17 : decode cX3_mayHave 17 = .ok (.iaload, 1) := by decide +kernel
theorem dX3_mayHave_18 : decode cX3_mayHave 18 = .ok (.if_icmp .ge 5, 3) := by decide +kernel
theorem dX3_mayHave_21 : decode cX3_mayHave 21 = .ok (.iconst 0, 1) := by decide +kernel
theorem dX3_mayHave_22 : decode cX3_mayHave 22 = .ok (.ireturn, 1) := by decide +kernel
theorem dX3_mayHave_23 : decode cX3_mayHave 23 = .ok (.iconst 0, 1) := by decide +kernel
theorem dX3_mayHave_24 : decode cX3_mayHave 24 = .ok (.istore_n 3, 1) := by decide +kernel
theorem dX3_mayHave_25 : decode cX3_mayHave 25 = .ok (.iload_n 3, 1) := by decide +kernel
theorem dX3_mayHave_26 : decode cX3_mayHave 26 = .ok (.aload_n 0, 1) := by decide +kernel
theorem dX3_mayHave_27 : decode cX3_mayHave 27 = .ok (.getfield 21, 3) := by decide +kernel
theorem dX3_mayHave_30 : decode cX3_mayHave 30 = .ok (.getfield 65, 3) := by decide +kernel
theorem dX3_mayHave_33 : decode cX3_mayHave 33 = .ok (.if_icmp .ge 71, 3) := by decide +kernel
theorem dX3_mayHave_36 : decode cX3_mayHave 36 = .ok (.iload_n 3, 1) := by decide +kernel
theorem dX3_mayHave_37 : decode cX3_mayHave 37 = .ok (.iload_n 1, 1) := by decide +kernel
theorem dX3_mayHave_38 : decode cX3_mayHave 38 = .ok (.if_icmp .eq 60, 3) := by decide +kernel
theorem dX3_mayHave_41 : decode cX3_mayHave 41 = .ok (.aload_n 0, 1) := by decide +kernel
theorem dX3_mayHave_42 : decode cX3_mayHave 42 = .ok (.iload_n 3, 1) := by decide +kernel
theorem dX3_mayHave_43 : decode cX3_mayHave 43 = .ok (.aload_n 0, 1) := by decide +kernel
theorem dX3_mayHave_44 : decode cX3_mayHave 44 = .ok (.getfield 12, 3) := by decide +kernel
theorem dX3_mayHave_47 : decode cX3_mayHave 47 = .ok (.getfield 48, 3) := by decide +kernel
theorem dX3_mayHave_50 : decode cX3_mayHave 50 = .ok (.iload_n 2, 1) := by decide +kernel
theorem dX3_mayHave_51 : decode cX3_mayHave 51 = .ok (.iaload, 1) := by decide +kernel
theorem dX3_mayHave_52 : decode cX3_mayHave 52 = .ok (.invokevirtual 55, 3) := by decide +kernel
theorem dX3_mayHave_55 : decode cX3_mayHave 55 = .ok (.ifCond .eq 43, 3) := by decide +kernel
theorem dX3_mayHave_58 : decode cX3_mayHave 58 = .ok (.aload_n 0, 1) := by decide +kernel
theorem dX3_mayHave_59 : decode cX3_mayHave 59 = .ok (.getfield 21, 3) := by decide +kernel
theorem dX3_mayHave_62 : decode cX3_mayHave 62 = .ok (.iload_n 1, 1) := by decide +kernel
theorem dX3_mayHave_63 : decode cX3_mayHave 63 = .ok (.iload_n 3, 1) := by decide +kernel
theorem dX3_mayHave_64 : decode cX3_mayHave 64 = .ok (.invokevirtual 58, 3) := by decide +kernel
theorem dX3_mayHave_67 : decode cX3_mayHave 67 = .ok (.ifCond .eq 31, 3) := by decide +kernel
theorem dX3_mayHave_70 : decode cX3_mayHave 70 = .ok (.aload_n 0, 1) := by decide +kernel
theorem dX3_mayHave_71 : decode cX3_mayHave 71 = .ok (.getfield 21, 3) := by decide +kernel
theorem dX3_mayHave_74 : decode cX3_mayHave 74 = .ok (.getfield 52, 3) := by decide +kernel
theorem dX3_mayHave_77 : decode cX3_mayHave 77 = .ok (.iload_n 3, 1) := by decide +kernel
theorem dX3_mayHave_78 : decode cX3_mayHave 78 = .ok (.iaload, 1) := by decide +kernel
theorem dX3_mayHave_79 : decode cX3_mayHave 79 = .ok (.iload_n 2, 1) := by decide +kernel
theorem dX3_mayHave_80 : decode cX3_mayHave 80 = .ok (.if_icmp .eq 16, 3) := by decide +kernel
theorem dX3_mayHave_83 : decode cX3_mayHave 83 = .ok (.aload_n 0, 1) := by decide +kernel
theorem dX3_mayHave_84 : decode cX3_mayHave 84 = .ok (.getfield 21, 3) := by decide +kernel
theorem dX3_mayHave_87 : decode cX3_mayHave 87 = .ok (.iload_n 1, 1) := by decide +kernel
theorem dX3_mayHave_88 : decode cX3_mayHave 88 = .ok (.iload_n 3, 1) := by decide +kernel
theorem dX3_mayHave_89 : decode cX3_mayHave 89 = .ok (.iconst 1, 1) := by decide +kernel
theorem dX3_mayHave_90 : decode cX3_mayHave 90 = .ok (.invokevirtual 85, 3) := by decide +kernel
theorem dX3_mayHave_93 : decode cX3_mayHave 93 = .ok (.ifCond .eq 5, 3) := by decide +kernel
theorem dX3_mayHave_96 : decode cX3_mayHave 96 = .ok (.iconst 0, 1) := by decide +kernel
theorem dX3_mayHave_97 : decode cX3_mayHave 97 = .ok (.ireturn, 1) := by decide +kernel
theorem dX3_mayHave_98 : decode cX3_mayHave 98 = .ok (.iinc 3 1, 3) := by decide +kernel
theorem dX3_mayHave_101 : decode cX3_mayHave 101 = .ok (.goto (-76), 3) := by decide +kernel
theorem dX3_mayHave_104 : decode cX3_mayHave 104 = .ok (.iconst 1, 1) := by decide +kernel
theorem dX3_mayHave_105 : decode cX3_mayHave 105 = .ok (.ireturn, 1) := by decide +kernel
theorem dX3_cost_0 : decode cX3_cost 0 = .ok (.aload_n 0, 1) := by decide +kernel
theorem dX3_cost_1 : decode cX3_cost 1 = .ok (.getfield 12, 3) := by decide +kernel
theorem dX3_cost_4 : decode cX3_cost 4 = .ok (.getfield 79, 3) := by decide +kernel
theorem dX3_cost_7 : decode cX3_cost 7 = .ok (.iload_n 2, 1) := by decide +kernel
theorem dX3_cost_8 : decode cX3_cost 8 = .ok (.iaload, 1) := by decide +kernel
theorem dX3_cost_9 : decode cX3_cost 9 = .ok (.aload_n 0, 1) := by decide +kernel
theorem dX3_cost_10 : decode cX3_cost 10 = .ok (.getfield 21, 3) := by decide +kernel
theorem dX3_cost_13 : decode cX3_cost 13 = .ok (.getfield 82, 3) := by decide +kernel
theorem dX3_cost_16 : decode cX3_cost 16 = .ok (.iload_n 1, 1) := by decide +kernel
theorem dX3_cost_17 : decode cX3_cost 17 = .ok (.iaload, 1) := by decide +kernel
theorem dX3_cost_18 : decode cX3_cost 18 = .ok (.isub, 1) := by decide +kernel
theorem dX3_cost_19 : decode cX3_cost 19 = .ok (.istore_n 3, 1) := by decide +kernel
theorem dX3_cost_20 : decode cX3_cost 20 = .ok (.aload_n 0, 1) := by decide +kernel
theorem dX3_cost_21 : decode cX3_cost 21 = .ok (.iload_n 1, 1) := by decide +kernel
theorem dX3_cost_22 : decode cX3_cost 22 = .ok (.aload_n 0, 1) := by decide +kernel
theorem dX3_cost_23 : decode cX3_cost 23 = .ok (.getfield 12, 3) := by decide +kernel
theorem dX3_cost_26 : decode cX3_cost 26 = .ok (.getfield 48, 3) := by decide +kernel
theorem dX3_cost_29 : decode cX3_cost 29 = .ok (.iload_n 2, 1) := by decide +kernel
theorem dX3_cost_30 : decode cX3_cost 30 = .ok (.iaload, 1) := by decide +kernel
theorem dX3_cost_31 : decode cX3_cost 31 = .ok (.invokevirtual 88, 3) := by decide +kernel
theorem dX3_cost_34 : decode cX3_cost 34 = .ok (.ifCond .eq 7, 3) := by decide +kernel
theorem dX3_cost_37 : decode cX3_cost 37 = .ok (.iload_n 3, 1) := by decide +kernel
theorem dX3_cost_38 : decode cX3_cost 38 = .ok (.goto 7, 3) := by decide +kernel
theorem dX3_cost_41 : decode cX3_cost 41 = .ok (.iload_n 3, 1) := by decide +kernel
theorem dX3_cost_42 : decode cX3_cost 42 = .ok (.bipush 8, 2) := by decide +kernel
theorem dX3_cost_44 : decode cX3_cost 44 = .ok (.iadd, 1) := by decide +kernel
theorem dX3_cost_45 : decode cX3_cost 45 = .ok (.ireturn, 1) := by decide +kernel
theorem dX3_isNextTo_0 : decode cX3_isNextTo 0 = .ok (.iconst 0, 1) := by decide +kernel
theorem dX3_isNextTo_1 : decode cX3_isNextTo 1 = .ok (.istore_n 3, 1) := by decide +kernel
theorem dX3_isNextTo_2 : decode cX3_isNextTo 2 = .ok (.iload_n 3, 1) := by decide +kernel
theorem dX3_isNextTo_3 : decode cX3_isNextTo 3 = .ok (.aload_n 0, 1) := by decide +kernel
theorem dX3_isNextTo_4 : decode cX3_isNextTo 4 = .ok (.getfield 21, 3) := by decide +kernel
theorem dX3_isNextTo_7 : decode cX3_isNextTo 7 = .ok (.getfield 65, 3) := by decide +kernel
theorem dX3_isNextTo_10 : decode cX3_isNextTo 10 = .ok (.if_icmp .ge 45, 3) := by decide +kernel
theorem dX3_isNextTo_13 : decode cX3_isNextTo 13 = .ok (.aload_n 0, 1) := by decide +kernel
theorem dX3_isNextTo_14 : decode cX3_isNextTo 14 = .ok (.getfield 21, 3) := by decide +kernel
theorem dX3_isNextTo_17 : decode cX3_isNextTo 17 = .ok (.iload_n 1, 1) := by decide +kernel
theorem dX3_isNextTo_18 : decode cX3_isNextTo 18 = .ok (.iload_n 3, 1) := by decide +kernel
theorem dX3_isNextTo_19 : decode cX3_isNextTo 19 = .ok (.iconst 0, 1) := by decide +kernel
theorem dX3_isNextTo_20 : decode cX3_isNextTo 20 = .ok (.invokevirtual 85, 3) := by decide +kernel
theorem dX3_isNextTo_23 : decode cX3_isNextTo 23 = .ok (.ifCond .eq 26, 3) := by decide +kernel
theorem dX3_isNextTo_26 : decode cX3_isNextTo 26 = .ok (.aload_n 0, 1) := by decide +kernel
theorem dX3_isNextTo_27 : decode cX3_isNextTo 27 = .ok (.iload_n 3, 1) := by decide +kernel
theorem dX3_isNextTo_28 : decode cX3_isNextTo 28 = .ok (.iload_n 2, 1) := by decide +kernel
theorem dX3_isNextTo_29 : decode cX3_isNextTo 29 = .ok (.invokevirtual 55, 3) := by decide +kernel
theorem dX3_isNextTo_32 : decode cX3_isNextTo 32 = .ok (.ifCond .eq 17, 3) := by decide +kernel
theorem dX3_isNextTo_35 : decode cX3_isNextTo 35 = .ok (.aload_n 0, 1) := by decide +kernel
theorem dX3_isNextTo_36 : decode cX3_isNextTo 36 = .ok (.getfield 21, 3) := by decide +kernel
theorem dX3_isNextTo_39 : decode cX3_isNextTo 39 = .ok (.iload_n 1, 1) := by decide +kernel
theorem dX3_isNextTo_40 : decode cX3_isNextTo 40 = .ok (.iload_n 3, 1) := by decide +kernel
theorem dX3_isNextTo_41 : decode cX3_isNextTo 41 = .ok (.invokevirtual 58, 3) := by decide +kernel
theorem dX3_isNextTo_44 : decode cX3_isNextTo 44 = .ok (.ifCond .eq 5, 3) := by decide +kernel
theorem dX3_isNextTo_47 : decode cX3_isNextTo 47 = .ok (.iconst 1, 1) := by decide +kernel
theorem dX3_isNextTo_48 : decode cX3_isNextTo 48 = .ok (.ireturn, 1) := by decide +kernel
theorem dX3_isNextTo_49 : decode cX3_isNextTo 49 = .ok (.iinc 3 1, 3) := by decide +kernel
theorem dX3_isNextTo_52 : decode cX3_isNextTo 52 = .ok (.goto (-50), 3) := by decide +kernel
theorem dX3_isNextTo_55 : decode cX3_isNextTo 55 = .ok (.iconst 0, 1) := by decide +kernel
theorem dX3_isNextTo_56 : decode cX3_isNextTo 56 = .ok (.ireturn, 1) := by decide +kernel
theorem dX3_makesRoom_0 : decode cX3_makesRoom 0 = .ok (.aload_n 0, 1) := by decide +kernel
theorem dX3_makesRoom_1 : decode cX3_makesRoom 1 = .ok (.getfield 21, 3) := by decide +kernel
theorem dX3_makesRoom_4 : decode cX3_makesRoom 4 = .ok (.getfield 52, 3) := by decide +kernel
theorem dX3_makesRoom_7 : decode cX3_makesRoom 7 = .ok (.iload_n 1, 1) := by decide +kernel
theorem dX3_makesRoom_8 : decode cX3_makesRoom 8 = .ok (.iaload, 1) := by decide +kernel
theorem dX3_makesRoom_9 : decode cX3_makesRoom 9 = .ok (.istore_n 3, 1) := by decide +kernel
theorem dX3_makesRoom_10 : decode cX3_makesRoom 10 = .ok (.aload_n 0, 1) := by decide +kernel
theorem dX3_makesRoom_11 : decode cX3_makesRoom 11 = .ok (.getfield 21, 3) := by decide +kernel
theorem dX3_makesRoom_14 : decode cX3_makesRoom 14 = .ok (.getfield 52, 3) := by decide +kernel
theorem dX3_makesRoom_17 : decode cX3_makesRoom 17 = .ok (.iload_n 1, 1) := by decide +kernel
theorem dX3_makesRoom_18 : decode cX3_makesRoom 18 = .ok (.iconst (-1), 1) := by decide +kernel
theorem dX3_makesRoom_19 : decode cX3_makesRoom 19 = .ok (.iastore, 1) := by decide +kernel
theorem dX3_makesRoom_20 : decode cX3_makesRoom 20 = .ok (.aload_n 0, 1) := by decide +kernel
theorem dX3_makesRoom_21 : decode cX3_makesRoom 21 = .ok (.iload_n 2, 1) := by decide +kernel
theorem dX3_makesRoom_22 : decode cX3_makesRoom 22 = .ok (.iload_n 3, 1) := by decide +kernel
theorem dX3_makesRoom_23 : decode cX3_makesRoom 23 = .ok (.invokevirtual 72, 3) := by decide +kernel
theorem dX3_makesRoom_26 : decode cX3_makesRoom 26 = .ok (.ifCond .eq 49, 3) := by decide +kernel
theorem dX3_makesRoom_29 : decode cX3_makesRoom 29 = .ok (.aload_n 0, 1) := by decide +kernel
theorem dX3_makesRoom_30 : decode cX3_makesRoom 30 = .ok (.getfield 21, 3) := by decide +kernel
theorem dX3_makesRoom_33 : decode cX3_makesRoom 33 = .ok (.getfield 52, 3) := by decide +kernel
theorem dX3_makesRoom_36 : decode cX3_makesRoom 36 = .ok (.iload_n 2, 1) := by decide +kernel
theorem dX3_makesRoom_37 : decode cX3_makesRoom 37 = .ok (.iload_n 3, 1) := by decide +kernel
theorem dX3_makesRoom_38 : decode cX3_makesRoom 38 = .ok (.iastore, 1) := by decide +kernel
theorem dX3_makesRoom_39 : decode cX3_makesRoom 39 = .ok (.aload_n 0, 1) := by decide +kernel
theorem dX3_makesRoom_40 : decode cX3_makesRoom 40 = .ok (.iload_n 1, 1) := by decide +kernel
theorem dX3_makesRoom_41 : decode cX3_makesRoom 41 = .ok (.invokevirtual 61, 3) := by decide +kernel
theorem dX3_makesRoom_44 : decode cX3_makesRoom 44 = .ok (.istore 4, 2) := by decide +kernel
theorem dX3_makesRoom_46 : decode cX3_makesRoom 46 = .ok (.iload 4, 2) := by decide +kernel
theorem dX3_makesRoom_48 : decode cX3_makesRoom 48 = .ok (.iconst (-1), 1) := by decide +kernel
theorem dX3_makesRoom_49 : decode cX3_makesRoom 49 = .ok (.if_icmp .eq 16, 3) := by decide +kernel
theorem dX3_makesRoom_52 : decode cX3_makesRoom 52 = .ok (.aload_n 0, 1) := by decide +kernel
theorem dX3_makesRoom_53 : decode cX3_makesRoom 53 = .ok (.getfield 21, 3) := by decide +kernel
theorem dX3_makesRoom_56 : decode cX3_makesRoom 56 = .ok (.getfield 52, 3) := by decide +kernel
theorem dX3_makesRoom_59 : decode cX3_makesRoom 59 = .ok (.iload_n 1, 1) := by decide +kernel
theorem dX3_makesRoom_60 : decode cX3_makesRoom 60 = .ok (.iload 4, 2) := by decide +kernel
theorem dX3_makesRoom_62 : decode cX3_makesRoom 62 = .ok (.iastore, 1) := by decide +kernel
theorem dX3_makesRoom_63 : decode cX3_makesRoom 63 = .ok (.iconst 1, 1) := by decide +kernel
theorem dX3_makesRoom_64 : decode cX3_makesRoom 64 = .ok (.ireturn, 1) := by decide +kernel
theorem dX3_makesRoom_65 : decode cX3_makesRoom 65 = .ok (.aload_n 0, 1) := by decide +kernel
theorem dX3_makesRoom_66 : decode cX3_makesRoom 66 = .ok (.getfield 21, 3) := by decide +kernel
theorem dX3_makesRoom_69 : decode cX3_makesRoom 69 = .ok (.getfield 52, 3) := by decide +kernel
theorem dX3_makesRoom_72 : decode cX3_makesRoom 72 = .ok (.iload_n 2, 1) := by decide +kernel
theorem dX3_makesRoom_73 : decode cX3_makesRoom 73 = .ok (.iconst (-1), 1) := by decide +kernel
theorem dX3_makesRoom_74 : decode cX3_makesRoom 74 = .ok (.iastore, 1) := by decide +kernel
theorem dX3_makesRoom_75 : decode cX3_makesRoom 75 = .ok (.aload_n 0, 1) := by decide +kernel
theorem dX3_makesRoom_76 : decode cX3_makesRoom 76 = .ok (.getfield 21, 3) := by decide +kernel
theorem dX3_makesRoom_79 : decode cX3_makesRoom 79 = .ok (.getfield 52, 3) := by decide +kernel
theorem dX3_makesRoom_82 : decode cX3_makesRoom 82 = .ok (.iload_n 1, 1) := by decide +kernel
theorem dX3_makesRoom_83 : decode cX3_makesRoom 83 = .ok (.iload_n 3, 1) := by decide +kernel
theorem dX3_makesRoom_84 : decode cX3_makesRoom 84 = .ok (.iastore, 1) := by decide +kernel
theorem dX3_makesRoom_85 : decode cX3_makesRoom 85 = .ok (.iconst 0, 1) := by decide +kernel
theorem dX3_makesRoom_86 : decode cX3_makesRoom 86 = .ok (.ireturn, 1) := by decide +kernel
theorem dX3_guest_0 : decode cX3_guest 0 = .ok (.aload_n 0, 1) := by decide +kernel
theorem dX3_guest_1 : decode cX3_guest 1 = .ok (.getfield 12, 3) := by decide +kernel
theorem dX3_guest_4 : decode cX3_guest 4 = .ok (.iload_n 1, 1) := by decide +kernel
theorem dX3_guest_5 : decode cX3_guest 5 = .ok (.invokevirtual 91, 3) := by decide +kernel
theorem dX3_guest_8 : decode cX3_guest 8 = .ok (.ifCond .eq 19, 3) := by decide +kernel
theorem dX3_guest_11 : decode cX3_guest 11 = .ok (.iload_n 2, 1) := by decide +kernel
theorem dX3_guest_12 : decode cX3_guest 12 = .ok (.invokestatic 92, 3) := by decide +kernel
theorem dX3_guest_15 : decode cX3_guest 15 = .ok (.ifCond .eq 12, 3) := by decide +kernel
theorem dX3_guest_18 : decode cX3_guest 18 = .ok (.aload_n 0, 1) := by decide +kernel
theorem dX3_guest_19 : decode cX3_guest 19 = .ok (.iload_n 1, 1) := by decide +kernel
theorem dX3_guest_20 : decode cX3_guest 20 = .ok (.iload_n 2, 1) := by decide +kernel
theorem dX3_guest_21 : decode cX3_guest 21 = .ok (.invokevirtual 95, 3) := by decide +kernel
theorem dX3_guest_24 : decode cX3_guest 24 = .ok (.goto 5, 3) := by decide +kernel
theorem dX3_guest_27 : decode cX3_guest 27 = .ok (.bipush (-2), 2) := by decide +kernel
theorem dX3_guest_29 : decode cX3_guest 29 = .ok (.ireturn, 1) := by decide +kernel
theorem dX3_whoIsIn_0 : decode cX3_whoIsIn 0 = .ok (.iconst 0, 1) := by decide +kernel
theorem dX3_whoIsIn_1 : decode cX3_whoIsIn 1 = .ok (.istore_n 3, 1) := by decide +kernel
theorem dX3_whoIsIn_2 : decode cX3_whoIsIn 2 = .ok (.iload_n 3, 1) := by decide +kernel
theorem dX3_whoIsIn_3 : decode cX3_whoIsIn 3 = .ok (.aload_n 0, 1) := by decide +kernel
theorem dX3_whoIsIn_4 : decode cX3_whoIsIn 4 = .ok (.getfield 21, 3) := by decide +kernel
theorem dX3_whoIsIn_7 : decode cX3_whoIsIn 7 = .ok (.getfield 65, 3) := by decide +kernel
theorem dX3_whoIsIn_10 : decode cX3_whoIsIn 10 = .ok (.if_icmp .ge 36, 3) := by decide +kernel
theorem dX3_whoIsIn_13 : decode cX3_whoIsIn 13 = .ok (.aload_n 0, 1) := by decide +kernel
theorem dX3_whoIsIn_14 : decode cX3_whoIsIn 14 = .ok (.getfield 21, 3) := by decide +kernel
theorem dX3_whoIsIn_17 : decode cX3_whoIsIn 17 = .ok (.getfield 52, 3) := by decide +kernel
theorem dX3_whoIsIn_20 : decode cX3_whoIsIn 20 = .ok (.iload_n 3, 1) := by decide +kernel
theorem dX3_whoIsIn_21 : decode cX3_whoIsIn 21 = .ok (.iaload, 1) := by decide +kernel
theorem dX3_whoIsIn_22 : decode cX3_whoIsIn 22 = .ok (.iload_n 1, 1) := by decide +kernel
theorem dX3_whoIsIn_23 : decode cX3_whoIsIn 23 = .ok (.if_icmp .ne 17, 3) := by decide +kernel
theorem dX3_whoIsIn_26 : decode cX3_whoIsIn 26 = .ok (.aload_n 0, 1) := by decide +kernel
theorem dX3_whoIsIn_27 : decode cX3_whoIsIn 27 = .ok (.getfield 21, 3) := by decide +kernel
theorem dX3_whoIsIn_30 : decode cX3_whoIsIn 30 = .ok (.iload_n 3, 1) := by decide +kernel
theorem dX3_whoIsIn_31 : decode cX3_whoIsIn 31 = .ok (.iload_n 2, 1) := by decide +kernel
theorem dX3_whoIsIn_32 : decode cX3_whoIsIn 32 = .ok (.invokevirtual 98, 3) := by decide +kernel
theorem dX3_whoIsIn_35 : decode cX3_whoIsIn 35 = .ok (.ifCond .eq 5, 3) := by decide +kernel
theorem dX3_whoIsIn_38 : decode cX3_whoIsIn 38 = .ok (.iload_n 3, 1) := by decide +kernel
theorem dX3_whoIsIn_39 : decode cX3_whoIsIn 39 = .ok (.ireturn, 1) := by decide +kernel
theorem dX3_whoIsIn_40 : decode cX3_whoIsIn 40 = .ok (.iinc 3 1, 3) := by decide +kernel
theorem dX3_whoIsIn_43 : decode cX3_whoIsIn 43 = .ok (.goto (-41), 3) := by decide +kernel
theorem dX3_whoIsIn_46 : decode cX3_whoIsIn 46 = .ok (.iconst (-1), 1) := by decide +kernel
theorem dX3_whoIsIn_47 : decode cX3_whoIsIn 47 = .ok (.ireturn, 1) := by decide +kernel
theorem dX3_emptyBeds_0 : decode cX3_emptyBeds 0 = .ok (.iload_n 1, 1) := by decide +kernel
theorem dX3_emptyBeds_1 : decode cX3_emptyBeds 1 = .ok (.invokestatic 92, 3) := by decide +kernel
theorem dX3_emptyBeds_4 : decode cX3_emptyBeds 4 = .ok (.ifCond .ne 6, 3) := by decide +kernel
theorem dX3_emptyBeds_7 : decode cX3_emptyBeds 7 = .ok (.bipush (-2), 2) := by decide +kernel
theorem dX3_emptyBeds_9 : decode cX3_emptyBeds 9 = .ok (.ireturn, 1) := by decide +kernel
theorem dX3_emptyBeds_10 : decode cX3_emptyBeds 10 = .ok (.iconst 0, 1) := by decide +kernel
theorem dX3_emptyBeds_11 : decode cX3_emptyBeds 11 = .ok (.istore_n 2, 1) := by decide +kernel
theorem dX3_emptyBeds_12 : decode cX3_emptyBeds 12 = .ok (.iconst 0, 1) := by decide +kernel
theorem dX3_emptyBeds_13 : decode cX3_emptyBeds 13 = .ok (.istore_n 3, 1) := by decide +kernel
theorem dX3_emptyBeds_14 : decode cX3_emptyBeds 14 = .ok (.iload_n 3, 1) := by decide +kernel
theorem dX3_emptyBeds_15 : decode cX3_emptyBeds 15 = .ok (.aload_n 0, 1) := by decide +kernel
theorem dX3_emptyBeds_16 : decode cX3_emptyBeds 16 = .ok (.getfield 12, 3) := by decide +kernel
theorem dX3_emptyBeds_19 : decode cX3_emptyBeds 19 = .ok (.getfield 71, 3) := by decide +kernel
theorem dX3_emptyBeds_22 : decode cX3_emptyBeds 22 = .ok (.if_icmp .ge 31, 3) := by decide +kernel
theorem dX3_emptyBeds_25 : decode cX3_emptyBeds 25 = .ok (.aload_n 0, 1) := by decide +kernel
theorem dX3_emptyBeds_26 : decode cX3_emptyBeds 26 = .ok (.iload_n 3, 1) := by decide +kernel
theorem dX3_emptyBeds_27 : decode cX3_emptyBeds 27 = .ok (.iload_n 1, 1) := by decide +kernel
theorem dX3_emptyBeds_28 : decode cX3_emptyBeds 28 = .ok (.invokevirtual 95, 3) := by decide +kernel
theorem dX3_emptyBeds_31 : decode cX3_emptyBeds 31 = .ok (.iconst (-1), 1) := by decide +kernel
theorem dX3_emptyBeds_32 : decode cX3_emptyBeds 32 = .ok (.if_icmp .ne 15, 3) := by decide +kernel
theorem dX3_emptyBeds_35 : decode cX3_emptyBeds 35 = .ok (.iload_n 2, 1) := by decide +kernel
theorem dX3_emptyBeds_36 : decode cX3_emptyBeds 36 = .ok (.aload_n 0, 1) := by decide +kernel
theorem dX3_emptyBeds_37 : decode cX3_emptyBeds 37 = .ok (.getfield 12, 3) := by decide +kernel
theorem dX3_emptyBeds_40 : decode cX3_emptyBeds 40 = .ok (.getfield 79, 3) := by decide +kernel
theorem dX3_emptyBeds_43 : decode cX3_emptyBeds 43 = .ok (.iload_n 3, 1) := by decide +kernel
theorem dX3_emptyBeds_44 : decode cX3_emptyBeds 44 = .ok (.iaload, 1) := by decide +kernel
theorem dX3_emptyBeds_45 : decode cX3_emptyBeds 45 = .ok (.iadd, 1) := by decide +kernel
theorem dX3_emptyBeds_46 : decode cX3_emptyBeds 46 = .ok (.istore_n 2, 1) := by decide +kernel
theorem dX3_emptyBeds_47 : decode cX3_emptyBeds 47 = .ok (.iinc 3 1, 3) := by decide +kernel
theorem dX3_emptyBeds_50 : decode cX3_emptyBeds 50 = .ok (.goto (-36), 3) := by decide +kernel
theorem dX3_emptyBeds_53 : decode cX3_emptyBeds 53 = .ok (.iload_n 2, 1) := by decide +kernel
theorem dX3_emptyBeds_54 : decode cX3_emptyBeds 54 = .ok (.ireturn, 1) := by decide +kernel
theorem dX4_init_0 : decode cX4_init 0 = .ok (.aload_n 0, 1) := by decide +kernel
theorem dX4_init_1 : decode cX4_init 1 = .ok (.invokespecial 3, 3) := by decide +kernel
theorem dX4_init_4 : decode cX4_init 4 = .ok (.aload_n 0, 1) := by decide +kernel
theorem dX4_init_5 : decode cX4_init 5 = .ok (.bipush 24, 2) := by decide +kernel
theorem dX4_init_7 : decode cX4_init 7 = .ok (.newarray .int, 2) := by decide +kernel
theorem dX4_init_9 : decode cX4_init 9 = .ok (.putfield 11, 3) := by decide +kernel
theorem dX4_init_12 : decode cX4_init 12 = .ok (.aload_n 0, 1) := by decide +kernel
theorem dX4_init_13 : decode cX4_init 13 = .ok (.bipush 24, 2) := by decide +kernel
theorem dX4_init_15 : decode cX4_init 15 = .ok (.newarray .int, 2) := by decide +kernel
theorem dX4_init_17 : decode cX4_init 17 = .ok (.putfield 15, 3) := by decide +kernel
theorem dX4_init_20 : decode cX4_init 20 = .ok (.aload_n 0, 1) := by decide +kernel
theorem dX4_init_21 : decode cX4_init 21 = .ok (.bipush 24, 2) := by decide +kernel
theorem dX4_init_23 : decode cX4_init 23 = .ok (.newarray .int, 2) := by decide +kernel
theorem dX4_init_25 : decode cX4_init 25 = .ok (.putfield 18, 3) := by decide +kernel
theorem dX4_init_28 : decode cX4_init 28 = .ok (.aload_n 0, 1) := by decide +kernel
theorem dX4_init_29 : decode cX4_init 29 = .ok (.bipush 24, 2) := by decide +kernel
theorem dX4_init_31 : decode cX4_init 31 = .ok (.newarray .int, 2) := by decide +kernel
theorem dX4_init_33 : decode cX4_init 33 = .ok (.putfield 21, 3) := by decide +kernel
theorem dX4_init_36 : decode cX4_init 36 = .ok (.aload_n 0, 1) := by decide +kernel
theorem dX4_init_37 : decode cX4_init 37 = .ok (.bipush 24, 2) := by decide +kernel
theorem dX4_init_39 : decode cX4_init 39 = .ok (.newarray .int, 2) := by decide +kernel
theorem dX4_init_41 : decode cX4_init 41 = .ok (.putfield 24, 3) := by decide +kernel
theorem dX4_init_44 : decode cX4_init 44 = .ok (.aload_n 0, 1) := by decide +kernel
theorem dX4_init_45 : decode cX4_init 45 = .ok (.bipush 24, 2) := by decide +kernel
theorem dX4_init_47 : decode cX4_init 47 = .ok (.newarray .int, 2) := by decide +kernel
theorem dX4_init_49 : decode cX4_init 49 = .ok (.putfield 27, 3) := by decide +kernel
theorem dX4_init_52 : decode cX4_init 52 = .ok (.aload_n 0, 1) := by decide +kernel
theorem dX4_init_53 : decode cX4_init 53 = .ok (.sipush 576, 3) := by decide +kernel
theorem dX4_init_56 : decode cX4_init 56 = .ok (.newarray .int, 2) := by decide +kernel
theorem dX4_init_58 : decode cX4_init 58 = .ok (.putfield 30, 3) := by decide +kernel
theorem dX4_init_61 : decode cX4_init 61 = .ok (.aload_n 0, 1) := by decide +kernel
theorem dX4_init_62 : decode cX4_init 62 = .ok (.iconst 0, 1) := by decide +kernel
theorem dX4_init_63 : decode cX4_init 63 = .ok (.putfield 33, 3) := by decide +kernel
theorem dX4_init_66 : decode cX4_init 66 = .ok (.aload_n 0, 1) := by decide +kernel
theorem dX4_init_67 : decode cX4_init 67 = .ok (.getfield 27, 3) := by decide +kernel
theorem dX4_init_70 : decode cX4_init 70 = .ok (.iconst (-1), 1) := by decide +kernel
theorem dX4_init_71 : decode cX4_init 71 = .ok (.invokestatic 37, 3) := by decide +kernel
theorem dX4_init_74 : decode cX4_init 74 = .ok (.aload_n 0, 1) := by decide +kernel
theorem dX4_init_75 : decode cX4_init 75 = .ok (.getfield 30, 3) := by decide +kernel
theorem dX4_init_78 : decode cX4_init 78 = .ok (.iconst 2, 1) := by decide +kernel
theorem dX4_init_79 : decode cX4_init 79 = .ok (.invokestatic 37, 3) := by decide +kernel
theorem dX4_init_82 : decode cX4_init 82 = .ok (.return_, 1) := by decide +kernel
theorem dX4_has_0 : decode cX4_has 0 = .ok (.iload_n 1, 1) := by decide +kernel
theorem dX4_has_1 : decode cX4_has 1 = .ok (.iconst 0, 1) := by decide +kernel
theorem dX4_has_2 : decode cX4_has 2 = .ok (.aload_n 0, 1) := by decide +kernel
theorem dX4_has_3 : decode cX4_has 3 = .ok (.getfield 33, 3) := by decide +kernel
theorem dX4_has_6 : decode cX4_has 6 = .ok (.iconst 1, 1) := by decide +kernel
theorem dX4_has_7 : decode cX4_has 7 = .ok (.isub, 1) := by decide +kernel
theorem dX4_has_8 : decode cX4_has 8 = .ok (.invokestatic 43, 3) := by decide +kernel
theorem dX4_has_11 : decode cX4_has 11 = .ok (.ireturn, 1) := by decide +kernel
theorem dX4_add_0 : decode cX4_add 0 = .ok (.iload_n 1, 1) := by decide +kernel
theorem dX4_add_1 : decode cX4_add 1 = .ok (.iconst 1, 1) := by decide +kernel
theorem dX4_add_2 : decode cX4_add 2 = .ok (.bipush 8, 2) := by decide +kernel
theorem dX4_add_4 : decode cX4_add 4 = .ok (.invokestatic 43, 3) := by decide +kernel
theorem dX4_add_7 : decode cX4_add 7 = .ok (.ifCond .eq 44, 3) := by decide +kernel
theorem dX4_add_10 : decode cX4_add 10 = .ok (.iload_n 2, 1) := by decide +kernel
theorem dX4_add_11 : decode cX4_add 11 = .ok (.iconst 0, 1) := by decide +kernel
theorem dX4_add_12 : decode cX4_add 12 = .ok (.iload_n 1, 1) := by decide +kernel
theorem dX4_add_13 : decode cX4_add 13 = .ok (.invokestatic 43, 3) := by decide +kernel
theorem dX4_add_16 : decode cX4_add 16 = .ok (.ifCond .eq 35, 3) := by decide +kernel
theorem dX4_add_19 : decode cX4_add 19 = .ok (.iload_n 3, 1) := by decide +kernel
theorem dX4_add_20 : decode cX4_add 20 = .ok (.invokestatic 47, 3) := by decide +kernel
theorem dX4_add_23 : decode cX4_add 23 = .ok (.ifCond .eq 28, 3) := by decide +kernel
theorem dX4_add_26 : decode cX4_add 26 = .ok (.iload 4, 2) := by decide +kernel
theorem dX4_add_28 : decode cX4_add 28 = .ok (.invokestatic 47, 3) := by decide +kernel
theorem dX4_add_31 : decode cX4_add 31 = .ok (.ifCond .eq 20, 3) := by decide +kernel
theorem dX4_add_34 : decode cX4_add 34 = .ok (.iload_n 3, 1) := by decide +kernel
theorem dX4_add_35 : decode cX4_add 35 = .ok (.iload 4, 2) := by decide +kernel
theorem dX4_add_37 : decode cX4_add 37 = .ok (.if_icmp .gt 14, 3) := by decide +kernel
theorem dX4_add_40 : decode cX4_add 40 = .ok (.iload 5, 2) := by decide +kernel
theorem dX4_add_42 : decode cX4_add 42 = .ok (.iconst (-1), 1) := by decide +kernel
theorem dX4_add_43 : decode cX4_add 43 = .ok (.bipush 9, 2) := by decide +kernel
theorem dX4_add_45 : decode cX4_add 45 = .ok (.invokestatic 43, 3) := by decide +kernel
theorem dX4_add_48 : decode cX4_add 48 = .ok (.ifCond .ne 6, 3) := by decide +kernel
theorem dX4_add_51 : decode cX4_add 51 = .ok (.bipush (-2), 2) := by decide +kernel
theorem dX4_add_53 : decode cX4_add 53 = .ok (.ireturn, 1) := by decide +kernel
theorem dX4_add_54 : decode cX4_add 54 = .ok (.aload_n 0, 1) := by decide +kernel
theorem dX4_add_55 : decode cX4_add 55 = .ok (.getfield 33, 3) := by decide +kernel
theorem dX4_add_58 : decode cX4_add 58 = .ok (.bipush 24, 2) := by decide +kernel
theorem dX4_add_60 : decode cX4_add 60 = .ok (.if_icmp .lt 6, 3) := by decide +kernel
theorem dX4_add_63 : decode cX4_add 63 = .ok (.bipush (-4), 2) := by decide +kernel
theorem dX4_add_65 : decode cX4_add 65 = .ok (.ireturn, 1) := by decide +kernel
theorem dX4_add_66 : decode cX4_add 66 = .ok (.aload_n 0, 1) := by decide +kernel
theorem dX4_add_67 : decode cX4_add 67 = .ok (.getfield 11, 3) := by decide +kernel
theorem dX4_add_70 : decode cX4_add 70 = .ok (.aload_n 0, 1) := by decide +kernel
theorem dX4_add_71 : decode cX4_add 71 = .ok (.getfield 33, 3) := by decide +kernel
theorem dX4_add_74 : decode cX4_add 74 = .ok (.iload_n 1, 1) := by decide +kernel
theorem dX4_add_75 : decode cX4_add 75 = .ok (.iastore, 1) := by decide +kernel
theorem dX4_add_76 : decode cX4_add 76 = .ok (.aload_n 0, 1) := by decide +kernel
theorem dX4_add_77 : decode cX4_add 77 = .ok (.getfield 15, 3) := by decide +kernel
theorem dX4_add_80 : decode cX4_add 80 = .ok (.aload_n 0, 1) := by decide +kernel
theorem dX4_add_81 : decode cX4_add 81 = .ok (.getfield 33, 3) := by decide +kernel
theorem dX4_add_84 : decode cX4_add 84 = .ok (.iload_n 2, 1) := by decide +kernel
theorem dX4_add_85 : decode cX4_add 85 = .ok (.iastore, 1) := by decide +kernel
theorem dX4_add_86 : decode cX4_add 86 = .ok (.aload_n 0, 1) := by decide +kernel
theorem dX4_add_87 : decode cX4_add 87 = .ok (.getfield 18, 3) := by decide +kernel
theorem dX4_add_90 : decode cX4_add 90 = .ok (.aload_n 0, 1) := by decide +kernel
theorem dX4_add_91 : decode cX4_add 91 = .ok (.getfield 33, 3) := by decide +kernel
theorem dX4_add_94 : decode cX4_add 94 = .ok (.iload_n 3, 1) := by decide +kernel
theorem dX4_add_95 : decode cX4_add 95 = .ok (.iastore, 1) := by decide +kernel
theorem dX4_add_96 : decode cX4_add 96 = .ok (.aload_n 0, 1) := by decide +kernel
theorem dX4_add_97 : decode cX4_add 97 = .ok (.getfield 21, 3) := by decide +kernel
theorem dX4_add_100 : decode cX4_add 100 = .ok (.aload_n 0, 1) := by decide +kernel
theorem dX4_add_101 : decode cX4_add 101 = .ok (.getfield 33, 3) := by decide +kernel
theorem dX4_add_104 : decode cX4_add 104 = .ok (.iload 4, 2) := by decide +kernel
theorem dX4_add_106 : decode cX4_add 106 = .ok (.iastore, 1) := by decide +kernel
theorem dX4_add_107 : decode cX4_add 107 = .ok (.aload_n 0, 1) := by decide +kernel
theorem dX4_add_108 : decode cX4_add 108 = .ok (.getfield 24, 3) := by decide +kernel
theorem dX4_add_111 : decode cX4_add 111 = .ok (.aload_n 0, 1) := by decide +kernel
theorem dX4_add_112 : decode cX4_add 112 = .ok (.getfield 33, 3) := by decide +kernel
theorem dX4_add_115 : decode cX4_add 115 = .ok (.iload 5, 2) := by decide +kernel
theorem dX4_add_117 : decode cX4_add 117 = .ok (.iastore, 1) := by decide +kernel
theorem dX4_add_118 : decode cX4_add 118 = .ok (.aload_n 0, 1) := by decide +kernel
theorem dX4_add_119 : decode cX4_add 119 = .ok (.dup, 1) := by decide +kernel
theorem dX4_add_120 : decode cX4_add 120 = .ok (.getfield 33, 3) := by decide +kernel
theorem dX4_add_123 : decode cX4_add 123 = .ok (.iconst 1, 1) := by decide +kernel
theorem dX4_add_124 : decode cX4_add 124 = .ok (.iadd, 1) := by decide +kernel
theorem dX4_add_125 : decode cX4_add 125 = .ok (.putfield 33, 3) := by decide +kernel
theorem dX4_add_128 : decode cX4_add 128 = .ok (.aload_n 0, 1) := by decide +kernel
theorem dX4_add_129 : decode cX4_add 129 = .ok (.getfield 33, 3) := by decide +kernel
theorem dX4_add_132 : decode cX4_add 132 = .ok (.iconst 1, 1) := by decide +kernel
theorem dX4_add_133 : decode cX4_add 133 = .ok (.isub, 1) := by decide +kernel
theorem dX4_add_134 : decode cX4_add 134 = .ok (.ireturn, 1) := by decide +kernel
theorem dX4_isLodged_0 : decode cX4_isLodged 0 = .ok (.aload_n 0, 1) := by decide +kernel
theorem dX4_isLodged_1 : decode cX4_isLodged 1 = .ok (.getfield 27, 3) := by decide +kernel
theorem dX4_isLodged_4 : decode cX4_isLodged 4 = .ok (.iload_n 1, 1) := by decide +kernel
theorem dX4_isLodged_5 : decode cX4_isLodged 5 = .ok (.iaload, 1) := by decide +kernel
theorem dX4_isLodged_6 : decode cX4_isLodged 6 = .ok (.iconst (-1), 1) := by decide +kernel
theorem dX4_isLodged_7 : decode cX4_isLodged 7 = .ok (.if_icmp .eq 7, 3) := by decide +kernel
theorem dX4_isLodged_10 : decode cX4_isLodged 10 = .ok (.iconst 1, 1) := by decide +kernel
theorem dX4_isLodged_11 : decode cX4_isLodged 11 = .ok (.goto 4, 3) := by decide +kernel
theorem dX4_isLodged_14 : decode cX4_isLodged 14 = .ok (.iconst 0, 1) := by decide +kernel
theorem dX4_isLodged_15 : decode cX4_isLodged 15 = .ok (.ireturn, 1) := by decide +kernel
theorem dX4_isThere_0 : decode cX4_isThere 0 = .ok (.aload_n 0, 1) := by decide +kernel
theorem dX4_isThere_1 : decode cX4_isThere 1 = .ok (.iload_n 1, 1) := by decide +kernel
theorem dX4_isThere_2 : decode cX4_isThere 2 = .ok (.invokevirtual 51, 3) := by decide +kernel
theorem dX4_isThere_5 : decode cX4_isThere 5 = .ok (.ifCond .eq 26, 3) := by decide +kernel
theorem dX4_isThere_8 : decode cX4_isThere 8 = .ok (.iload_n 2, 1) := by decide +kernel
theorem dX4_isThere_9 : decode cX4_isThere 9 = .ok (.aload_n 0, 1) := by decide +kernel
theorem dX4_isThere_10 : decode cX4_isThere 10 = .ok (.getfield 18, 3) := by decide +kernel
theorem dX4_isThere_13 : decode cX4_isThere 13 = .ok (.iload_n 1, 1) := by decide +kernel
theorem dX4_isThere_14 : decode cX4_isThere 14 = .ok (.iaload, 1) := by decide +kernel
theorem dX4_isThere_15 : decode cX4_isThere 15 = .ok (.aload_n 0, 1) := by decide +kernel
theorem dX4_isThere_16 : decode cX4_isThere 16 = .ok (.getfield 21, 3) := by decide +kernel
theorem dX4_isThere_19 : decode cX4_isThere 19 = .ok (.iload_n 1, 1) := by decide +kernel
theorem dX4_isThere_20 : decode cX4_isThere 20 = .ok (.iaload, 1) := by decide +kernel
theorem dX4_isThere_21 : decode cX4_isThere 21 = .ok (.invokestatic 43, 3) := by decide +kernel
theorem dX4_isThere_24 : decode cX4_isThere 24 = .ok (.ifCond .eq 7, 3) := by decide +kernel
theorem dX4_isThere_27 : decode cX4_isThere 27 = .ok (.iconst 1, 1) := by decide +kernel
theorem dX4_isThere_28 : decode cX4_isThere 28 = .ok (.goto 4, 3) := by decide +kernel
theorem dX4_isThere_31 : decode cX4_isThere 31 = .ok (.iconst 0, 1) := by decide +kernel
theorem dX4_isThere_32 : decode cX4_isThere 32 = .ok (.ireturn, 1) := by decide +kernel
theorem dX4_shareWeek_0 : decode cX4_shareWeek 0 = .ok (.aload_n 0, 1) := by decide +kernel
theorem dX4_shareWeek_1 : decode cX4_shareWeek 1 = .ok (.getfield 18, 3) := by decide +kernel
theorem dX4_shareWeek_4 : decode cX4_shareWeek 4 = .ok (.iload_n 1, 1) := by decide +kernel
theorem dX4_shareWeek_5 : decode cX4_shareWeek 5 = .ok (.iaload, 1) := by decide +kernel
theorem dX4_shareWeek_6 : decode cX4_shareWeek 6 = .ok (.aload_n 0, 1) := by decide +kernel
theorem dX4_shareWeek_7 : decode cX4_shareWeek 7 = .ok (.getfield 21, 3) := by decide +kernel
theorem dX4_shareWeek_10 : decode cX4_shareWeek 10 = .ok (.iload_n 2, 1) := by decide +kernel
theorem dX4_shareWeek_11 : decode cX4_shareWeek 11 = .ok (.iaload, 1) := by decide +kernel
theorem dX4_shareWeek_12 : decode cX4_shareWeek 12 = .ok (.if_icmp .gt 22, 3) := by decide +kernel
theorem dX4_shareWeek_15 : decode cX4_shareWeek 15 = .ok (.aload_n 0, 1) := by decide +kernel
theorem dX4_shareWeek_16 : decode cX4_shareWeek 16 = .ok (.getfield 18, 3) := by decide +kernel
theorem dX4_shareWeek_19 : decode cX4_shareWeek 19 = .ok (.iload_n 2, 1) := by decide +kernel
theorem dX4_shareWeek_20 : decode cX4_shareWeek 20 = .ok (.iaload, 1) := by decide +kernel
theorem dX4_shareWeek_21 : decode cX4_shareWeek 21 = .ok (.aload_n 0, 1) := by decide +kernel
theorem dX4_shareWeek_22 : decode cX4_shareWeek 22 = .ok (.getfield 21, 3) := by decide +kernel
theorem dX4_shareWeek_25 : decode cX4_shareWeek 25 = .ok (.iload_n 1, 1) := by decide +kernel
theorem dX4_shareWeek_26 : decode cX4_shareWeek 26 = .ok (.iaload, 1) := by decide +kernel
theorem dX4_shareWeek_27 : decode cX4_shareWeek 27 = .ok (.if_icmp .gt 7, 3) := by decide +kernel
theorem dX4_shareWeek_30 : decode cX4_shareWeek 30 = .ok (.iconst 1, 1) := by decide +kernel
theorem dX4_shareWeek_31 : decode cX4_shareWeek 31 = .ok (.goto 4, 3) := by decide +kernel
theorem dX4_shareWeek_34 : decode cX4_shareWeek 34 = .ok (.iconst 0, 1) := by decide +kernel
theorem dX4_shareWeek_35 : decode cX4_shareWeek 35 = .ok (.ireturn, 1) := by decide +kernel
theorem dX4_areTold_0 : decode cX4_areTold 0 = .ok (.aload_n 0, 1) := by decide +kernel
theorem dX4_areTold_1 : decode cX4_areTold 1 = .ok (.getfield 30, 3) := by decide +kernel
theorem dX4_areTold_4 : decode cX4_areTold 4 = .ok (.iload_n 1, 1) := by decide +kernel
theorem dX4_areTold_5 : decode cX4_areTold 5 = .ok (.bipush 24, 2) := by decide +kernel
theorem dX4_areTold_7 : decode cX4_areTold 7 = .ok (.imul, 1) := by decide +kernel
theorem dX4_areTold_8 : decode cX4_areTold 8 = .ok (.iload_n 2, 1) := by decide +kernel
theorem dX4_areTold_9 : decode cX4_areTold 9 = .ok (.iadd, 1) := by decide +kernel
theorem dX4_areTold_10 : decode cX4_areTold 10 = .ok (.iaload, 1) := by decide +kernel
theorem dX4_areTold_11 : decode cX4_areTold 11 = .ok (.iload_n 3, 1) := by decide +kernel
theorem dX4_areTold_12 : decode cX4_areTold 12 = .ok (.if_icmp .ne 7, 3) := by decide +kernel
theorem dX4_areTold_15 : decode cX4_areTold 15 = .ok (.iconst 1, 1) := by decide +kernel
theorem dX4_areTold_16 : decode cX4_areTold 16 = .ok (.goto 4, 3) := by decide +kernel
theorem dX4_areTold_19 : decode cX4_areTold 19 = .ok (.iconst 0, 1) := by decide +kernel
theorem dX4_areTold_20 : decode cX4_areTold 20 = .ok (.ireturn, 1) := by decide +kernel
theorem dX4_setTold_0 : decode cX4_setTold 0 = .ok (.aload_n 0, 1) := by decide +kernel
theorem dX4_setTold_1 : decode cX4_setTold 1 = .ok (.getfield 30, 3) := by decide +kernel
theorem dX4_setTold_4 : decode cX4_setTold 4 = .ok (.iload_n 1, 1) := by decide +kernel
theorem dX4_setTold_5 : decode cX4_setTold 5 = .ok (.bipush 24, 2) := by decide +kernel
theorem dX4_setTold_7 : decode cX4_setTold 7 = .ok (.imul, 1) := by decide +kernel
theorem dX4_setTold_8 : decode cX4_setTold 8 = .ok (.iload_n 2, 1) := by decide +kernel
theorem dX4_setTold_9 : decode cX4_setTold 9 = .ok (.iadd, 1) := by decide +kernel
theorem dX4_setTold_10 : decode cX4_setTold 10 = .ok (.iaload, 1) := by decide +kernel
theorem dX4_setTold_11 : decode cX4_setTold 11 = .ok (.istore 4, 2) := by decide +kernel
theorem dX4_setTold_13 : decode cX4_setTold 13 = .ok (.aload_n 0, 1) := by decide +kernel
theorem dX4_setTold_14 : decode cX4_setTold 14 = .ok (.getfield 30, 3) := by decide +kernel
theorem dX4_setTold_17 : decode cX4_setTold 17 = .ok (.iload_n 1, 1) := by decide +kernel
theorem dX4_setTold_18 : decode cX4_setTold 18 = .ok (.bipush 24, 2) := by decide +kernel
theorem dX4_setTold_20 : decode cX4_setTold 20 = .ok (.imul, 1) := by decide +kernel
theorem dX4_setTold_21 : decode cX4_setTold 21 = .ok (.iload_n 2, 1) := by decide +kernel
theorem dX4_setTold_22 : decode cX4_setTold 22 = .ok (.iadd, 1) := by decide +kernel
theorem dX4_setTold_23 : decode cX4_setTold 23 = .ok (.iload_n 3, 1) := by decide +kernel
theorem dX4_setTold_24 : decode cX4_setTold 24 = .ok (.iastore, 1) := by decide +kernel
theorem dX4_setTold_25 : decode cX4_setTold 25 = .ok (.aload_n 0, 1) := by decide +kernel
theorem dX4_setTold_26 : decode cX4_setTold 26 = .ok (.getfield 30, 3) := by decide +kernel
theorem dX4_setTold_29 : decode cX4_setTold 29 = .ok (.iload_n 2, 1) := by decide +kernel
theorem dX4_setTold_30 : decode cX4_setTold 30 = .ok (.bipush 24, 2) := by decide +kernel
theorem dX4_setTold_32 : decode cX4_setTold 32 = .ok (.imul, 1) := by decide +kernel
theorem dX4_setTold_33 : decode cX4_setTold 33 = .ok (.iload_n 1, 1) := by decide +kernel
theorem dX4_setTold_34 : decode cX4_setTold 34 = .ok (.iadd, 1) := by decide +kernel
theorem dX4_setTold_35 : decode cX4_setTold 35 = .ok (.iload_n 3, 1) := by decide +kernel
theorem dX4_setTold_36 : decode cX4_setTold 36 = .ok (.iastore, 1) := by decide +kernel
theorem dX4_setTold_37 : decode cX4_setTold 37 = .ok (.iload 4, 2) := by decide +kernel
theorem dX4_setTold_39 : decode cX4_setTold 39 = .ok (.ireturn, 1) := by decide +kernel
theorem dX4_giveUpHut_0 : decode cX4_giveUpHut 0 = .ok (.aload_n 0, 1) := by decide +kernel
theorem dX4_giveUpHut_1 : decode cX4_giveUpHut 1 = .ok (.iload_n 1, 1) := by decide +kernel
theorem dX4_giveUpHut_2 : decode cX4_giveUpHut 2 = .ok (.invokevirtual 54, 3) := by decide +kernel
theorem dX4_giveUpHut_5 : decode cX4_giveUpHut 5 = .ok (.ifCond .ne 6, 3) := by decide +kernel
theorem dX4_giveUpHut_8 : decode cX4_giveUpHut 8 = .ok (.bipush (-2), 2) := by decide +kernel
theorem dX4_giveUpHut_10 : decode cX4_giveUpHut 10 = .ok (.ireturn, 1) := by decide +kernel
theorem dX4_giveUpHut_11 : decode cX4_giveUpHut 11 = .ok (.aload_n 0, 1) := by decide +kernel
theorem dX4_giveUpHut_12 : decode cX4_giveUpHut 12 = .ok (.iload_n 1, 1) := by decide +kernel
theorem dX4_giveUpHut_13 : decode cX4_giveUpHut 13 = .ok (.invokevirtual 51, 3) := by decide +kernel
theorem dX4_giveUpHut_16 : decode cX4_giveUpHut 16 = .ok (.ifCond .ne 6, 3) := by decide +kernel
theorem dX4_giveUpHut_19 : decode cX4_giveUpHut 19 = .ok (.bipush (-3), 2) := by decide +kernel
theorem dX4_giveUpHut_21 : decode cX4_giveUpHut 21 = .ok (.ireturn, 1) := by decide +kernel
theorem dX4_giveUpHut_22 : decode cX4_giveUpHut 22 = .ok (.aload_n 0, 1) := by decide +kernel
theorem dX4_giveUpHut_23 : decode cX4_giveUpHut 23 = .ok (.getfield 27, 3) := by decide +kernel
theorem dX4_giveUpHut_26 : decode cX4_giveUpHut 26 = .ok (.iload_n 1, 1) := by decide +kernel
theorem dX4_giveUpHut_27 : decode cX4_giveUpHut 27 = .ok (.iaload, 1) := by decide +kernel
theorem dX4_giveUpHut_28 : decode cX4_giveUpHut 28 = .ok (.istore_n 2, 1) := by decide +kernel
theorem dX4_giveUpHut_29 : decode cX4_giveUpHut 29 = .ok (.aload_n 0, 1) := by decide +kernel
theorem dX4_giveUpHut_30 : decode cX4_giveUpHut 30 = .ok (.getfield 27, 3) := by decide +kernel
theorem dX4_giveUpHut_33 : decode cX4_giveUpHut 33 = .ok (.iload_n 1, 1) := by decide +kernel
theorem dX4_giveUpHut_34 : decode cX4_giveUpHut 34 = .ok (.iconst (-1), 1) := by decide +kernel
theorem dX4_giveUpHut_35 : decode cX4_giveUpHut 35 = .ok (.iastore, 1) := by decide +kernel
theorem dX4_giveUpHut_36 : decode cX4_giveUpHut 36 = .ok (.iload_n 2, 1) := by decide +kernel
theorem dX4_giveUpHut_37 : decode cX4_giveUpHut 37 = .ok (.ireturn, 1) := by decide +kernel
theorem dX4_fact_0 : decode cX4_fact 0 = .ok (.aload_n 0, 1) := by decide +kernel
theorem dX4_fact_1 : decode cX4_fact 1 = .ok (.iload_n 1, 1) := by decide +kernel
theorem dX4_fact_2 : decode cX4_fact 2 = .ok (.invokevirtual 54, 3) := by decide +kernel
theorem dX4_fact_5 : decode cX4_fact 5 = .ok (.ifCond .ne 6, 3) := by decide +kernel
theorem dX4_fact_8 : decode cX4_fact 8 = .ok (.bipush (-2), 2) := by decide +kernel
theorem dX4_fact_10 : decode cX4_fact 10 = .ok (.ireturn, 1) := by decide +kernel
theorem dX4_fact_11 : decode cX4_fact 11 = .ok (.iload_n 2, 1) := by decide +kernel
theorem dX4_fact_12 : decode cX4_fact 12 = .ok (.tableswitch 82 0 5 #[40, 47, 54, 61, 68, 75], 40) := by decide +kernel
theorem dX4_fact_52 : decode cX4_fact 52 = .ok (.aload_n 0, 1) := by decide +kernel
theorem dX4_fact_53 : decode cX4_fact 53 = .ok (.getfield 11, 3) := by decide +kernel
theorem dX4_fact_56 : decode cX4_fact 56 = .ok (.iload_n 1, 1) := by decide +kernel
theorem dX4_fact_57 : decode cX4_fact 57 = .ok (.iaload, 1) := by decide +kernel
theorem dX4_fact_58 : decode cX4_fact 58 = .ok (.ireturn, 1) := by decide +kernel
theorem dX4_fact_59 : decode cX4_fact 59 = .ok (.aload_n 0, 1) := by decide +kernel
theorem dX4_fact_60 : decode cX4_fact 60 = .ok (.getfield 15, 3) := by decide +kernel
theorem dX4_fact_63 : decode cX4_fact 63 = .ok (.iload_n 1, 1) := by decide +kernel
theorem dX4_fact_64 : decode cX4_fact 64 = .ok (.iaload, 1) := by decide +kernel
theorem dX4_fact_65 : decode cX4_fact 65 = .ok (.ireturn, 1) := by decide +kernel
theorem dX4_fact_66 : decode cX4_fact 66 = .ok (.aload_n 0, 1) := by decide +kernel
theorem dX4_fact_67 : decode cX4_fact 67 = .ok (.getfield 18, 3) := by decide +kernel
theorem dX4_fact_70 : decode cX4_fact 70 = .ok (.iload_n 1, 1) := by decide +kernel
theorem dX4_fact_71 : decode cX4_fact 71 = .ok (.iaload, 1) := by decide +kernel
theorem dX4_fact_72 : decode cX4_fact 72 = .ok (.ireturn, 1) := by decide +kernel
theorem dX4_fact_73 : decode cX4_fact 73 = .ok (.aload_n 0, 1) := by decide +kernel
theorem dX4_fact_74 : decode cX4_fact 74 = .ok (.getfield 21, 3) := by decide +kernel
theorem dX4_fact_77 : decode cX4_fact 77 = .ok (.iload_n 1, 1) := by decide +kernel
theorem dX4_fact_78 : decode cX4_fact 78 = .ok (.iaload, 1) := by decide +kernel
theorem dX4_fact_79 : decode cX4_fact 79 = .ok (.ireturn, 1) := by decide +kernel
theorem dX4_fact_80 : decode cX4_fact 80 = .ok (.aload_n 0, 1) := by decide +kernel
theorem dX4_fact_81 : decode cX4_fact 81 = .ok (.getfield 24, 3) := by decide +kernel
theorem dX4_fact_84 : decode cX4_fact 84 = .ok (.iload_n 1, 1) := by decide +kernel
theorem dX4_fact_85 : decode cX4_fact 85 = .ok (.iaload, 1) := by decide +kernel
theorem dX4_fact_86 : decode cX4_fact 86 = .ok (.ireturn, 1) := by decide +kernel
theorem dX4_fact_87 : decode cX4_fact 87 = .ok (.aload_n 0, 1) := by decide +kernel
theorem dX4_fact_88 : decode cX4_fact 88 = .ok (.getfield 27, 3) := by decide +kernel
theorem dX4_fact_91 : decode cX4_fact 91 = .ok (.iload_n 1, 1) := by decide +kernel
theorem dX4_fact_92 : decode cX4_fact 92 = .ok (.iaload, 1) := by decide +kernel
theorem dX4_fact_93 : decode cX4_fact 93 = .ok (.ireturn, 1) := by decide +kernel
theorem dX4_fact_94 : decode cX4_fact 94 = .ok (.bipush (-2), 2) := by decide +kernel
theorem dX4_fact_96 : decode cX4_fact 96 = .ok (.ireturn, 1) := by decide +kernel
theorem dX4_lodgedCount_0 : decode cX4_lodgedCount 0 = .ok (.iconst 0, 1) := by decide +kernel
theorem dX4_lodgedCount_1 : decode cX4_lodgedCount 1 = .ok (.istore_n 1, 1) := by decide +kernel
theorem dX4_lodgedCount_2 : decode cX4_lodgedCount 2 = .ok (.iconst 0, 1) := by decide +kernel
theorem dX4_lodgedCount_3 : decode cX4_lodgedCount 3 = .ok (.istore_n 2, 1) := by decide +kernel
theorem dX4_lodgedCount_4 : decode cX4_lodgedCount 4 = .ok (.iload_n 2, 1) := by decide +kernel
theorem dX4_lodgedCount_5 : decode cX4_lodgedCount 5 = .ok (.aload_n 0, 1) := by decide +kernel
theorem dX4_lodgedCount_6 : decode cX4_lodgedCount 6 = .ok (.getfield 33, 3) := by decide +kernel
theorem dX4_lodgedCount_9 : decode cX4_lodgedCount 9 = .ok (.if_icmp .ge 20, 3) := by decide +kernel
theorem dX4_lodgedCount_12 : decode cX4_lodgedCount 12 = .ok (.aload_n 0, 1) := by decide +kernel
theorem dX4_lodgedCount_13 : decode cX4_lodgedCount 13 = .ok (.iload_n 2, 1) := by decide +kernel
theorem dX4_lodgedCount_14 : decode cX4_lodgedCount 14 = .ok (.invokevirtual 51, 3) := by decide +kernel
theorem dX4_lodgedCount_17 : decode cX4_lodgedCount 17 = .ok (.ifCond .eq 6, 3) := by decide +kernel
theorem dX4_lodgedCount_20 : decode cX4_lodgedCount 20 = .ok (.iinc 1 1, 3) := by decide +kernel
theorem dX4_lodgedCount_23 : decode cX4_lodgedCount 23 = .ok (.iinc 2 1, 3) := by decide +kernel
theorem dX4_lodgedCount_26 : decode cX4_lodgedCount 26 = .ok (.goto (-22), 3) := by decide +kernel
theorem dX4_lodgedCount_29 : decode cX4_lodgedCount 29 = .ok (.iload_n 1, 1) := by decide +kernel
theorem dX4_lodgedCount_30 : decode cX4_lodgedCount 30 = .ok (.ireturn, 1) := by decide +kernel
