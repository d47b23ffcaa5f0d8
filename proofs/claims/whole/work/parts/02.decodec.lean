theorem dX9_init_0 : decode cX9_init 0 = .ok (.aload_n 0, 1) := by decide +kernel
theorem dX9_init_1 : decode cX9_init 1 = .ok (.invokespecial 1, 3) := by decide +kernel
theorem dX9_init_4 : decode cX9_init 4 = .ok (.aload_n 0, 1) := by decide +kernel
theorem dX9_init_5 : decode cX9_init 5 = .ok (.new 7, 3) := by decide +kernel
theorem dX9_init_8 : decode cX9_init 8 = .ok (.dup, 1) := by decide +kernel
theorem dX9_init_9 : decode cX9_init 9 = .ok (.invokespecial 9, 3) := by decide +kernel
theorem dX9_init_12 : decode cX9_init 12 = .ok (.putfield 10, 3) := by decide +kernel
theorem dX9_init_15 : decode cX9_init 15 = .ok (.aload_n 0, 1) := by decide +kernel
theorem dX9_init_16 : decode cX9_init 16 = .ok (.new 16, 3) := by decide +kernel
theorem dX9_init_19 : decode cX9_init 19 = .ok (.dup, 1) := by decide +kernel
theorem dX9_init_20 : decode cX9_init 20 = .ok (.invokespecial 18, 3) := by decide +kernel
theorem dX9_init_23 : decode cX9_init 23 = .ok (.putfield 19, 3) := by decide +kernel
theorem dX9_init_26 : decode cX9_init 26 = .ok (.aload_n 0, 1) := by decide +kernel
theorem dX9_init_27 : decode cX9_init 27 = .ok (.new 23, 3) := by decide +kernel
theorem dX9_init_30 : decode cX9_init 30 = .ok (.dup, 1) := by decide +kernel
theorem dX9_init_31 : decode cX9_init 31 = .ok (.invokespecial 25, 3) := by decide +kernel
theorem dX9_init_34 : decode cX9_init 34 = .ok (.putfield 26, 3) := by decide +kernel
theorem dX9_init_37 : decode cX9_init 37 = .ok (.aload_n 0, 1) := by decide +kernel
theorem dX9_init_38 : decode cX9_init 38 = .ok (.new 30, 3) := by decide +kernel
theorem dX9_init_41 : decode cX9_init 41 = .ok (.dup, 1) := by decide +kernel
theorem dX9_init_42 : decode cX9_init 42 = .ok (.invokespecial 32, 3) := by decide +kernel
theorem dX9_init_45 : decode cX9_init 45 = .ok (.putfield 33, 3) := by decide +kernel
theorem dX9_init_48 : decode cX9_init 48 = .ok (.aload_n 0, 1) := by decide +kernel
theorem dX9_init_49 : decode cX9_init 49 = .ok (.new 37, 3) := by decide +kernel
theorem dX9_init_52 : decode cX9_init 52 = .ok (.dup, 1) := by decide +kernel
theorem dX9_init_53 : decode cX9_init 53 = .ok (.invokespecial 39, 3) := by decide +kernel
theorem dX9_init_56 : decode cX9_init 56 = .ok (.putfield 40, 3) := by decide +kernel
theorem dX9_init_59 : decode cX9_init 59 = .ok (.aload_n 0, 1) := by decide +kernel
theorem dX9_init_60 : decode cX9_init 60 = .ok (.new 44, 3) := by decide +kernel
theorem dX9_init_63 : decode cX9_init 63 = .ok (.dup, 1) := by decide +kernel
theorem dX9_init_64 : decode cX9_init 64 = .ok (.invokespecial 46, 3) := by decide +kernel
theorem dX9_init_67 : decode cX9_init 67 = .ok (.putfield 47, 3) := by decide +kernel
theorem dX9_init_70 : decode cX9_init 70 = .ok (.aload_n 0, 1) := by decide +kernel
theorem dX9_init_71 : decode cX9_init 71 = .ok (.new 51, 3) := by decide +kernel
theorem dX9_init_74 : decode cX9_init 74 = .ok (.dup, 1) := by decide +kernel
theorem dX9_init_75 : decode cX9_init 75 = .ok (.invokespecial 53, 3) := by decide +kernel
theorem dX9_init_78 : decode cX9_init 78 = .ok (.putfield 54, 3) := by decide +kernel
theorem dX9_init_81 : decode cX9_init 81 = .ok (.return_, 1) := by decide +kernel
theorem dX9_hut_0 : decode cX9_hut 0 = .ok (.aload_n 0, 1) := by decide +kernel
theorem dX9_hut_1 : decode cX9_hut 1 = .ok (.getfield 10, 3) := by decide +kernel
theorem dX9_hut_4 : decode cX9_hut 4 = .ok (.getfield 58, 3) := by decide +kernel
theorem dX9_hut_7 : decode cX9_hut 7 = .ok (.iload_n 1, 1) := by decide +kernel
theorem dX9_hut_8 : decode cX9_hut 8 = .ok (.iload_n 2, 1) := by decide +kernel
theorem dX9_hut_9 : decode cX9_hut 9 = .ok (.invokevirtual 62, 3) := by decide +kernel
theorem dX9_hut_12 : decode cX9_hut 12 = .ok (.ireturn, 1) := by decide +kernel
theorem dX9_party_0 : decode cX9_party 0 = .ok (.aload_n 0, 1) := by decide +kernel
theorem dX9_party_1 : decode cX9_party 1 = .ok (.getfield 10, 3) := by decide +kernel
theorem dX9_party_4 : decode cX9_party 4 = .ok (.getfield 68, 3) := by decide +kernel
theorem dX9_party_7 : decode cX9_party 7 = .ok (.iload_n 1, 1) := by decide +kernel
theorem dX9_party_8 : decode cX9_party 8 = .ok (.iload_n 2, 1) := by decide +kernel
theorem dX9_party_9 : decode cX9_party 9 = .ok (.iload_n 3, 1) := by decide +kernel
theorem dX9_party_10 : decode cX9_party 10 = .ok (.iload 4, 2) := by decide +kernel
theorem dX9_party_12 : decode cX9_party 12 = .ok (.iload 5, 2) := by decide +kernel
theorem dX9_party_14 : decode cX9_party 14 = .ok (.invokevirtual 72, 3) := by decide +kernel
theorem dX9_party_17 : decode cX9_party 17 = .ok (.ireturn, 1) := by decide +kernel
theorem dX9_tell_0 : decode cX9_tell 0 = .ok (.aload_n 0, 1) := by decide +kernel
theorem dX9_tell_1 : decode cX9_tell 1 = .ok (.getfield 10, 3) := by decide +kernel
theorem dX9_tell_4 : decode cX9_tell 4 = .ok (.iload_n 1, 1) := by decide +kernel
theorem dX9_tell_5 : decode cX9_tell 5 = .ok (.iload_n 2, 1) := by decide +kernel
theorem dX9_tell_6 : decode cX9_tell 6 = .ok (.iload_n 3, 1) := by decide +kernel
theorem dX9_tell_7 : decode cX9_tell 7 = .ok (.invokevirtual 77, 3) := by decide +kernel
theorem dX9_tell_10 : decode cX9_tell 10 = .ok (.ireturn, 1) := by decide +kernel
theorem dX9_lodge_0 : decode cX9_lodge 0 = .ok (.aload_n 0, 1) := by decide +kernel
theorem dX9_lodge_1 : decode cX9_lodge 1 = .ok (.getfield 10, 3) := by decide +kernel
theorem dX9_lodge_4 : decode cX9_lodge 4 = .ok (.iload_n 1, 1) := by decide +kernel
theorem dX9_lodge_5 : decode cX9_lodge 5 = .ok (.invokevirtual 81, 3) := by decide +kernel
theorem dX9_lodge_8 : decode cX9_lodge 8 = .ok (.ireturn, 1) := by decide +kernel
theorem dX9_moved_0 : decode cX9_moved 0 = .ok (.aload_n 0, 1) := by decide +kernel
theorem dX9_moved_1 : decode cX9_moved 1 = .ok (.getfield 10, 3) := by decide +kernel
theorem dX9_moved_4 : decode cX9_moved 4 = .ok (.getfield 85, 3) := by decide +kernel
theorem dX9_moved_7 : decode cX9_moved 7 = .ok (.ireturn, 1) := by decide +kernel
theorem dX9_leave_0 : decode cX9_leave 0 = .ok (.aload_n 0, 1) := by decide +kernel
theorem dX9_leave_1 : decode cX9_leave 1 = .ok (.getfield 10, 3) := by decide +kernel
theorem dX9_leave_4 : decode cX9_leave 4 = .ok (.getfield 68, 3) := by decide +kernel
theorem dX9_leave_7 : decode cX9_leave 7 = .ok (.iload_n 1, 1) := by decide +kernel
theorem dX9_leave_8 : decode cX9_leave 8 = .ok (.invokevirtual 89, 3) := by decide +kernel
theorem dX9_leave_11 : decode cX9_leave 11 = .ok (.ireturn, 1) := by decide +kernel
theorem dX9_about_0 : decode cX9_about 0 = .ok (.aload_n 0, 1) := by decide +kernel
theorem dX9_about_1 : decode cX9_about 1 = .ok (.getfield 10, 3) := by decide +kernel
theorem dX9_about_4 : decode cX9_about 4 = .ok (.getfield 68, 3) := by decide +kernel
theorem dX9_about_7 : decode cX9_about 7 = .ok (.iload_n 1, 1) := by decide +kernel
theorem dX9_about_8 : decode cX9_about 8 = .ok (.iload_n 2, 1) := by decide +kernel
theorem dX9_about_9 : decode cX9_about 9 = .ok (.invokevirtual 92, 3) := by decide +kernel
theorem dX9_about_12 : decode cX9_about 12 = .ok (.ireturn, 1) := by decide +kernel
theorem dX9_in_0 : decode cX9_in 0 = .ok (.aload_n 0, 1) := by decide +kernel
theorem dX9_in_1 : decode cX9_in 1 = .ok (.getfield 10, 3) := by decide +kernel
theorem dX9_in_4 : decode cX9_in 4 = .ok (.iload_n 1, 1) := by decide +kernel
theorem dX9_in_5 : decode cX9_in 5 = .ok (.iload_n 2, 1) := by decide +kernel
theorem dX9_in_6 : decode cX9_in 6 = .ok (.invokevirtual 95, 3) := by decide +kernel
theorem dX9_in_9 : decode cX9_in 9 = .ok (.ireturn, 1) := by decide +kernel
theorem dX9_empty_0 : decode cX9_empty 0 = .ok (.aload_n 0, 1) := by decide +kernel
theorem dX9_empty_1 : decode cX9_empty 1 = .ok (.getfield 10, 3) := by decide +kernel
theorem dX9_empty_4 : decode cX9_empty 4 = .ok (.iload_n 1, 1) := by decide +kernel
theorem dX9_empty_5 : decode cX9_empty 5 = .ok (.invokevirtual 98, 3) := by decide +kernel
theorem dX9_empty_8 : decode cX9_empty 8 = .ok (.ireturn, 1) := by decide +kernel
theorem dX9_seats_0 : decode cX9_seats 0 = .ok (.aload_n 0, 1) := by decide +kernel
theorem dX9_seats_1 : decode cX9_seats 1 = .ok (.getfield 19, 3) := by decide +kernel
theorem dX9_seats_4 : decode cX9_seats 4 = .ok (.iload_n 1, 1) := by decide +kernel
theorem dX9_seats_5 : decode cX9_seats 5 = .ok (.iload_n 2, 1) := by decide +kernel
theorem dX9_seats_6 : decode cX9_seats 6 = .ok (.invokevirtual 101, 3) := by decide +kernel
theorem dX9_seats_9 : decode cX9_seats 9 = .ok (.ireturn, 1) := by decide +kernel
theorem dX9_apart_0 : decode cX9_apart 0 = .ok (.iload_n 1, 1) := by decide +kernel
theorem dX9_apart_1 : decode cX9_apart 1 = .ok (.invokestatic 104, 3) := by decide +kernel
theorem dX9_apart_4 : decode cX9_apart 4 = .ok (.ifCond .ne 6, 3) := by decide +kernel
theorem dX9_apart_7 : decode cX9_apart 7 = .ok (.bipush (-2), 2) := by decide +kernel
theorem dX9_apart_9 : decode cX9_apart 9 = .ok (.ireturn, 1) := by decide +kernel
theorem dX9_apart_10 : decode cX9_apart 10 = .ok (.aload_n 0, 1) := by decide +kernel
theorem dX9_apart_11 : decode cX9_apart 11 = .ok (.getfield 19, 3) := by decide +kernel
theorem dX9_apart_14 : decode cX9_apart 14 = .ok (.aload_n 0, 1) := by decide +kernel
theorem dX9_apart_15 : decode cX9_apart 15 = .ok (.getfield 10, 3) := by decide +kernel
theorem dX9_apart_18 : decode cX9_apart 18 = .ok (.getfield 68, 3) := by decide +kernel
theorem dX9_apart_21 : decode cX9_apart 21 = .ok (.iload_n 1, 1) := by decide +kernel
theorem dX9_apart_22 : decode cX9_apart 22 = .ok (.invokevirtual 108, 3) := by decide +kernel
theorem dX9_apart_25 : decode cX9_apart 25 = .ok (.aload_n 0, 1) := by decide +kernel
theorem dX9_apart_26 : decode cX9_apart 26 = .ok (.getfield 19, 3) := by decide +kernel
theorem dX9_apart_29 : decode cX9_apart 29 = .ok (.getfield 112, 3) := by decide +kernel
theorem dX9_apart_32 : decode cX9_apart 32 = .ok (.ireturn, 1) := by decide +kernel
theorem dX9_sits_0 : decode cX9_sits 0 = .ok (.aload_n 0, 1) := by decide +kernel
theorem dX9_sits_1 : decode cX9_sits 1 = .ok (.getfield 10, 3) := by decide +kernel
theorem dX9_sits_4 : decode cX9_sits 4 = .ok (.getfield 68, 3) := by decide +kernel
theorem dX9_sits_7 : decode cX9_sits 7 = .ok (.iload_n 1, 1) := by decide +kernel
theorem dX9_sits_8 : decode cX9_sits 8 = .ok (.invokevirtual 115, 3) := by decide +kernel
theorem dX9_sits_11 : decode cX9_sits 11 = .ok (.ifCond .eq 10, 3) := by decide +kernel
theorem dX9_sits_14 : decode cX9_sits 14 = .ok (.iload_n 2, 1) := by decide +kernel
theorem dX9_sits_15 : decode cX9_sits 15 = .ok (.invokestatic 104, 3) := by decide +kernel
theorem dX9_sits_18 : decode cX9_sits 18 = .ok (.ifCond .ne 6, 3) := by decide +kernel
theorem dX9_sits_21 : decode cX9_sits 21 = .ok (.bipush (-2), 2) := by decide +kernel
theorem dX9_sits_23 : decode cX9_sits 23 = .ok (.ireturn, 1) := by decide +kernel
theorem dX9_sits_24 : decode cX9_sits 24 = .ok (.aload_n 0, 1) := by decide +kernel
theorem dX9_sits_25 : decode cX9_sits 25 = .ok (.getfield 19, 3) := by decide +kernel
theorem dX9_sits_28 : decode cX9_sits 28 = .ok (.aload_n 0, 1) := by decide +kernel
theorem dX9_sits_29 : decode cX9_sits 29 = .ok (.getfield 10, 3) := by decide +kernel
theorem dX9_sits_32 : decode cX9_sits 32 = .ok (.getfield 68, 3) := by decide +kernel
theorem dX9_sits_35 : decode cX9_sits 35 = .ok (.iload_n 2, 1) := by decide +kernel
theorem dX9_sits_36 : decode cX9_sits 36 = .ok (.invokevirtual 108, 3) := by decide +kernel
theorem dX9_sits_39 : decode cX9_sits 39 = .ok (.aload_n 0, 1) := by decide +kernel
theorem dX9_sits_40 : decode cX9_sits 40 = .ok (.getfield 19, 3) := by decide +kernel
theorem dX9_sits_43 : decode cX9_sits 43 = .ok (.iload_n 1, 1) := by decide +kernel
theorem dX9_sits_44 : decode cX9_sits 44 = .ok (.invokevirtual 118, 3) := by decide +kernel
theorem dX9_sits_47 : decode cX9_sits 47 = .ok (.ireturn, 1) := by decide +kernel
theorem dX9_more_0 : decode cX9_more 0 = .ok (.aload_n 0, 1) := by decide +kernel
theorem dX9_more_1 : decode cX9_more 1 = .ok (.getfield 26, 3) := by decide +kernel
theorem dX9_more_4 : decode cX9_more 4 = .ok (.iload_n 1, 1) := by decide +kernel
theorem dX9_more_5 : decode cX9_more 5 = .ok (.invokevirtual 121, 3) := by decide +kernel
theorem dX9_more_8 : decode cX9_more 8 = .ok (.ireturn, 1) := by decide +kernel
theorem dX9_foretell_0 : decode cX9_foretell 0 = .ok (.iload_n 1, 1) := by decide +kernel
theorem dX9_foretell_1 : decode cX9_foretell 1 = .ok (.invokestatic 104, 3) := by decide +kernel
theorem dX9_foretell_4 : decode cX9_foretell 4 = .ok (.ifCond .eq 12, 3) := by decide +kernel
theorem dX9_foretell_7 : decode cX9_foretell 7 = .ok (.iload_n 2, 1) := by decide +kernel
theorem dX9_foretell_8 : decode cX9_foretell 8 = .ok (.iconst 0, 1) := by decide +kernel
theorem dX9_foretell_9 : decode cX9_foretell 9 = .ok (.iconst 1, 1) := by decide +kernel
theorem dX9_foretell_10 : decode cX9_foretell 10 = .ok (.invokestatic 124, 3) := by decide +kernel
theorem dX9_foretell_13 : decode cX9_foretell 13 = .ok (.ifCond .ne 6, 3) := by decide +kernel
theorem dX9_foretell_16 : decode cX9_foretell 16 = .ok (.bipush (-2), 2) := by decide +kernel
theorem dX9_foretell_18 : decode cX9_foretell 18 = .ok (.ireturn, 1) := by decide +kernel
theorem dX9_foretell_19 : decode cX9_foretell 19 = .ok (.aload_n 0, 1) := by decide +kernel
theorem dX9_foretell_20 : decode cX9_foretell 20 = .ok (.getfield 19, 3) := by decide +kernel
theorem dX9_foretell_23 : decode cX9_foretell 23 = .ok (.aload_n 0, 1) := by decide +kernel
theorem dX9_foretell_24 : decode cX9_foretell 24 = .ok (.getfield 10, 3) := by decide +kernel
theorem dX9_foretell_27 : decode cX9_foretell 27 = .ok (.getfield 68, 3) := by decide +kernel
theorem dX9_foretell_30 : decode cX9_foretell 30 = .ok (.iload_n 1, 1) := by decide +kernel
theorem dX9_foretell_31 : decode cX9_foretell 31 = .ok (.invokevirtual 108, 3) := by decide +kernel
theorem dX9_foretell_34 : decode cX9_foretell 34 = .ok (.aload_n 0, 1) := by decide +kernel
theorem dX9_foretell_35 : decode cX9_foretell 35 = .ok (.getfield 19, 3) := by decide +kernel
theorem dX9_foretell_38 : decode cX9_foretell 38 = .ok (.aload_n 0, 1) := by decide +kernel
theorem dX9_foretell_39 : decode cX9_foretell 39 = .ok (.getfield 10, 3) := by decide +kernel
theorem dX9_foretell_42 : decode cX9_foretell 42 = .ok (.getfield 68, 3) := by decide +kernel
theorem dX9_foretell_45 : decode cX9_foretell 45 = .ok (.iload_n 2, 1) := by decide +kernel
theorem dX9_foretell_46 : decode cX9_foretell 46 = .ok (.invokevirtual 128, 3) := by decide +kernel
theorem dX9_foretell_49 : decode cX9_foretell 49 = .ok (.ireturn, 1) := by decide +kernel
theorem dX9_cook_0 : decode cX9_cook 0 = .ok (.iload_n 3, 1) := by decide +kernel
theorem dX9_cook_1 : decode cX9_cook 1 = .ok (.iconst 0, 1) := by decide +kernel
theorem dX9_cook_2 : decode cX9_cook 2 = .ok (.sipush 500, 3) := by decide +kernel
theorem dX9_cook_5 : decode cX9_cook 5 = .ok (.invokestatic 124, 3) := by decide +kernel
theorem dX9_cook_8 : decode cX9_cook 8 = .ok (.ifCond .ne 6, 3) := by decide +kernel
theorem dX9_cook_11 : decode cX9_cook 11 = .ok (.bipush (-2), 2) := by decide +kernel
theorem dX9_cook_13 : decode cX9_cook 13 = .ok (.ireturn, 1) := by decide +kernel
theorem dX9_cook_14 : decode cX9_cook 14 = .ok (.aload_n 0, 1) := by decide +kernel
theorem dX9_cook_15 : decode cX9_cook 15 = .ok (.iload_n 1, 1) := by decide +kernel
theorem dX9_cook_16 : decode cX9_cook 16 = .ok (.iload_n 2, 1) := by decide +kernel
theorem dX9_cook_17 : decode cX9_cook 17 = .ok (.invokevirtual 132, 3) := by decide +kernel
theorem dX9_cook_20 : decode cX9_cook 20 = .ok (.istore 4, 2) := by decide +kernel
theorem dX9_cook_22 : decode cX9_cook 22 = .ok (.iload 4, 2) := by decide +kernel
theorem dX9_cook_24 : decode cX9_cook 24 = .ok (.bipush (-2), 2) := by decide +kernel
theorem dX9_cook_26 : decode cX9_cook 26 = .ok (.if_icmp .ne 6, 3) := by decide +kernel
theorem dX9_cook_29 : decode cX9_cook 29 = .ok (.bipush (-2), 2) := by decide +kernel
theorem dX9_cook_31 : decode cX9_cook 31 = .ok (.ireturn, 1) := by decide +kernel
theorem dX9_cook_32 : decode cX9_cook 32 = .ok (.iload 4, 2) := by decide +kernel
theorem dX9_cook_34 : decode cX9_cook 34 = .ok (.iconst (-1), 1) := by decide +kernel
theorem dX9_cook_35 : decode cX9_cook 35 = .ok (.if_icmp .ne 8, 3) := by decide +kernel
theorem dX9_cook_38 : decode cX9_cook 38 = .ok (.bipush (-3), 2) := by decide +kernel
theorem dX9_cook_40 : decode cX9_cook 40 = .ok (.goto 15, 3) := by decide +kernel
theorem dX9_cook_43 : decode cX9_cook 43 = .ok (.aload_n 0, 1) := by decide +kernel
theorem dX9_cook_44 : decode cX9_cook 44 = .ok (.getfield 26, 3) := by decide +kernel
theorem dX9_cook_47 : decode cX9_cook 47 = .ok (.iload_n 1, 1) := by decide +kernel
theorem dX9_cook_48 : decode cX9_cook 48 = .ok (.iload_n 2, 1) := by decide +kernel
theorem dX9_cook_49 : decode cX9_cook 49 = .ok (.iload 4, 2) := by decide +kernel
theorem dX9_cook_51 : decode cX9_cook 51 = .ok (.iload_n 3, 1) := by decide +kernel
theorem dX9_cook_52 : decode cX9_cook 52 = .ok (.invokevirtual 135, 3) := by decide +kernel
theorem dX9_cook_55 : decode cX9_cook 55 = .ok (.ireturn, 1) := by decide +kernel
theorem dX9_line_0 : decode cX9_line 0 = .ok (.aload_n 0, 1) := by decide +kernel
theorem dX9_line_1 : decode cX9_line 1 = .ok (.getfield 26, 3) := by decide +kernel
theorem dX9_line_4 : decode cX9_line 4 = .ok (.iload_n 1, 1) := by decide +kernel
theorem dX9_line_5 : decode cX9_line 5 = .ok (.iload_n 2, 1) := by decide +kernel
theorem dX9_line_6 : decode cX9_line 6 = .ok (.invokevirtual 139, 3) := by decide +kernel
theorem dX9_line_9 : decode cX9_line 9 = .ok (.ireturn, 1) := by decide +kernel
theorem dX9_hall_0 : decode cX9_hall 0 = .ok (.aload_n 0, 1) := by decide +kernel
theorem dX9_hall_1 : decode cX9_hall 1 = .ok (.getfield 33, 3) := by decide +kernel
theorem dX9_hall_4 : decode cX9_hall 4 = .ok (.iload_n 1, 1) := by decide +kernel
theorem dX9_hall_5 : decode cX9_hall 5 = .ok (.iload_n 2, 1) := by decide +kernel
theorem dX9_hall_6 : decode cX9_hall 6 = .ok (.invokevirtual 142, 3) := by decide +kernel
theorem dX9_hall_9 : decode cX9_hall 9 = .ok (.ireturn, 1) := by decide +kernel
theorem dX9_show_0 : decode cX9_show 0 = .ok (.aload_n 0, 1) := by decide +kernel
theorem dX9_show_1 : decode cX9_show 1 = .ok (.getfield 33, 3) := by decide +kernel
theorem dX9_show_4 : decode cX9_show 4 = .ok (.iload_n 1, 1) := by decide +kernel
theorem dX9_show_5 : decode cX9_show 5 = .ok (.iload_n 2, 1) := by decide +kernel
theorem dX9_show_6 : decode cX9_show 6 = .ok (.iload_n 3, 1) := by decide +kernel
theorem dX9_show_7 : decode cX9_show 7 = .ok (.invokevirtual 145, 3) := by decide +kernel
theorem dX9_show_10 : decode cX9_show 10 = .ok (.ireturn, 1) := by decide +kernel
theorem dX9_wish_0 : decode cX9_wish 0 = .ok (.aload_n 0, 1) := by decide +kernel
theorem dX9_wish_1 : decode cX9_wish 1 = .ok (.getfield 10, 3) := by decide +kernel
theorem dX9_wish_4 : decode cX9_wish 4 = .ok (.getfield 68, 3) := by decide +kernel
theorem dX9_wish_7 : decode cX9_wish 7 = .ok (.iload_n 1, 1) := by decide +kernel
theorem dX9_wish_8 : decode cX9_wish 8 = .ok (.invokevirtual 115, 3) := by decide +kernel
theorem dX9_wish_11 : decode cX9_wish 11 = .ok (.ifCond .eq 15, 3) := by decide +kernel
theorem dX9_wish_14 : decode cX9_wish 14 = .ok (.aload_n 0, 1) := by decide +kernel
theorem dX9_wish_15 : decode cX9_wish 15 = .ok (.getfield 33, 3) := by decide +kernel
theorem dX9_wish_18 : decode cX9_wish 18 = .ok (.iload_n 1, 1) := by decide +kernel
theorem dX9_wish_19 : decode cX9_wish 19 = .ok (.iload_n 2, 1) := by decide +kernel
theorem dX9_wish_20 : decode cX9_wish 20 = .ok (.invokevirtual 147, 3) := by decide +kernel
theorem dX9_wish_23 : decode cX9_wish 23 = .ok (.goto 5, 3) := by decide +kernel
theorem dX9_wish_26 : decode cX9_wish 26 = .ok (.bipush (-2), 2) := by decide +kernel
theorem dX9_wish_28 : decode cX9_wish 28 = .ok (.ireturn, 1) := by decide +kernel
theorem dX9_wet_0 : decode cX9_wet 0 = .ok (.iload_n 1, 1) := by decide +kernel
theorem dX9_wet_1 : decode cX9_wet 1 = .ok (.invokestatic 150, 3) := by decide +kernel
theorem dX9_wet_4 : decode cX9_wet 4 = .ok (.ifCond .ne 6, 3) := by decide +kernel
theorem dX9_wet_7 : decode cX9_wet 7 = .ok (.bipush (-2), 2) := by decide +kernel
theorem dX9_wet_9 : decode cX9_wet 9 = .ok (.ireturn, 1) := by decide +kernel
theorem dX9_wet_10 : decode cX9_wet 10 = .ok (.aload_n 0, 1) := by decide +kernel
theorem dX9_wet_11 : decode cX9_wet 11 = .ok (.getfield 54, 3) := by decide +kernel
theorem dX9_wet_14 : decode cX9_wet 14 = .ok (.iload_n 1, 1) := by decide +kernel
theorem dX9_wet_15 : decode cX9_wet 15 = .ok (.invokevirtual 153, 3) := by decide +kernel
theorem dX9_wet_18 : decode cX9_wet 18 = .ok (.ifCond .eq 7, 3) := by decide +kernel
theorem dX9_wet_21 : decode cX9_wet 21 = .ok (.iconst 1, 1) := by decide +kernel
theorem dX9_wet_22 : decode cX9_wet 22 = .ok (.goto 4, 3) := by decide +kernel
theorem dX9_wet_25 : decode cX9_wet 25 = .ok (.iconst 0, 1) := by decide +kernel
theorem dX9_wet_26 : decode cX9_wet 26 = .ok (.ireturn, 1) := by decide +kernel
theorem dX9_where_0 : decode cX9_where 0 = .ok (.aload_n 0, 1) := by decide +kernel
theorem dX9_where_1 : decode cX9_where 1 = .ok (.getfield 33, 3) := by decide +kernel
theorem dX9_where_4 : decode cX9_where 4 = .ok (.iload_n 1, 1) := by decide +kernel
theorem dX9_where_5 : decode cX9_where 5 = .ok (.invokevirtual 156, 3) := by decide +kernel
theorem dX9_where_8 : decode cX9_where 8 = .ok (.ifCond .eq 30, 3) := by decide +kernel
theorem dX9_where_11 : decode cX9_where 11 = .ok (.aload_n 0, 1) := by decide +kernel
theorem dX9_where_12 : decode cX9_where 12 = .ok (.getfield 33, 3) := by decide +kernel
theorem dX9_where_15 : decode cX9_where 15 = .ok (.iload_n 1, 1) := by decide +kernel
theorem dX9_where_16 : decode cX9_where 16 = .ok (.aload_n 0, 1) := by decide +kernel
theorem dX9_where_17 : decode cX9_where 17 = .ok (.getfield 54, 3) := by decide +kernel
theorem dX9_where_20 : decode cX9_where 20 = .ok (.aload_n 0, 1) := by decide +kernel
theorem dX9_where_21 : decode cX9_where 21 = .ok (.getfield 33, 3) := by decide +kernel
theorem dX9_where_24 : decode cX9_where 24 = .ok (.getfield 157, 3) := by decide +kernel
theorem dX9_where_27 : decode cX9_where 27 = .ok (.iload_n 1, 1) := by decide +kernel
theorem dX9_where_28 : decode cX9_where 28 = .ok (.iaload, 1) := by decide +kernel
theorem dX9_where_29 : decode cX9_where 29 = .ok (.invokevirtual 153, 3) := by decide +kernel
theorem dX9_where_32 : decode cX9_where 32 = .ok (.invokevirtual 161, 3) := by decide +kernel
theorem dX9_where_35 : decode cX9_where 35 = .ok (.goto 5, 3) := by decide +kernel
theorem dX9_where_38 : decode cX9_where 38 = .ok (.bipush (-2), 2) := by decide +kernel
theorem dX9_where_40 : decode cX9_where 40 = .ok (.ireturn, 1) := by decide +kernel
theorem dX9_goes_0 : decode cX9_goes 0 = .ok (.aload_n 0, 1) := by decide +kernel
theorem dX9_goes_1 : decode cX9_goes 1 = .ok (.getfield 10, 3) := by decide +kernel
theorem dX9_goes_4 : decode cX9_goes 4 = .ok (.getfield 68, 3) := by decide +kernel
theorem dX9_goes_7 : decode cX9_goes 7 = .ok (.iload_n 1, 1) := by decide +kernel
theorem dX9_goes_8 : decode cX9_goes 8 = .ok (.invokevirtual 115, 3) := by decide +kernel
theorem dX9_goes_11 : decode cX9_goes 11 = .ok (.ifCond .eq 17, 3) := by decide +kernel
theorem dX9_goes_14 : decode cX9_goes 14 = .ok (.iload_n 2, 1) := by decide +kernel
theorem dX9_goes_15 : decode cX9_goes 15 = .ok (.invokestatic 104, 3) := by decide +kernel
theorem dX9_goes_18 : decode cX9_goes 18 = .ok (.ifCond .eq 10, 3) := by decide +kernel
theorem dX9_goes_21 : decode cX9_goes 21 = .ok (.iload_n 3, 1) := by decide +kernel
theorem dX9_goes_22 : decode cX9_goes 22 = .ok (.invokestatic 150, 3) := by decide +kernel
theorem dX9_goes_25 : decode cX9_goes 25 = .ok (.ifCond .ne 6, 3) := by decide +kernel
theorem dX9_goes_28 : decode cX9_goes 28 = .ok (.bipush (-2), 2) := by decide +kernel
theorem dX9_goes_30 : decode cX9_goes 30 = .ok (.ireturn, 1) := by decide +kernel
theorem dX9_goes_31 : decode cX9_goes 31 = .ok (.aload_n 0, 1) := by decide +kernel
theorem dX9_goes_32 : decode cX9_goes 32 = .ok (.getfield 33, 3) := by decide +kernel
theorem dX9_goes_35 : decode cX9_goes 35 = .ok (.aload_n 0, 1) := by decide +kernel
theorem dX9_goes_36 : decode cX9_goes 36 = .ok (.getfield 10, 3) := by decide +kernel
theorem dX9_goes_39 : decode cX9_goes 39 = .ok (.getfield 68, 3) := by decide +kernel
theorem dX9_goes_42 : decode cX9_goes 42 = .ok (.iload_n 2, 1) := by decide +kernel
theorem dX9_goes_43 : decode cX9_goes 43 = .ok (.iload_n 3, 1) := by decide +kernel
theorem dX9_goes_44 : decode cX9_goes 44 = .ok (.aload_n 0, 1) := by decide +kernel
theorem dX9_goes_45 : decode cX9_goes 45 = .ok (.getfield 54, 3) := by decide +kernel
theorem dX9_goes_48 : decode cX9_goes 48 = .ok (.iload_n 3, 1) := by decide +kernel
theorem dX9_goes_49 : decode cX9_goes 49 = .ok (.invokevirtual 153, 3) := by decide +kernel
theorem dX9_goes_52 : decode cX9_goes 52 = .ok (.invokevirtual 165, 3) := by decide +kernel
theorem dX9_goes_55 : decode cX9_goes 55 = .ok (.aload_n 0, 1) := by decide +kernel
theorem dX9_goes_56 : decode cX9_goes 56 = .ok (.getfield 33, 3) := by decide +kernel
theorem dX9_goes_59 : decode cX9_goes 59 = .ok (.getfield 169, 3) := by decide +kernel
theorem dX9_goes_62 : decode cX9_goes 62 = .ok (.iload_n 1, 1) := by decide +kernel
theorem dX9_goes_63 : decode cX9_goes 63 = .ok (.iaload, 1) := by decide +kernel
theorem dX9_goes_64 : decode cX9_goes 64 = .ok (.ireturn, 1) := by decide +kernel
theorem dX9_turned_0 : decode cX9_turned 0 = .ok (.aload_n 0, 1) := by decide +kernel
theorem dX9_turned_1 : decode cX9_turned 1 = .ok (.getfield 10, 3) := by decide +kernel
theorem dX9_turned_4 : decode cX9_turned 4 = .ok (.getfield 68, 3) := by decide +kernel
theorem dX9_turned_7 : decode cX9_turned 7 = .ok (.iload_n 1, 1) := by decide +kernel
theorem dX9_turned_8 : decode cX9_turned 8 = .ok (.invokevirtual 115, 3) := by decide +kernel
theorem dX9_turned_11 : decode cX9_turned 11 = .ok (.ifCond .eq 17, 3) := by decide +kernel
theorem dX9_turned_14 : decode cX9_turned 14 = .ok (.iload_n 2, 1) := by decide +kernel
theorem dX9_turned_15 : decode cX9_turned 15 = .ok (.invokestatic 104, 3) := by decide +kernel
theorem dX9_turned_18 : decode cX9_turned 18 = .ok (.ifCond .eq 10, 3) := by decide +kernel
theorem dX9_turned_21 : decode cX9_turned 21 = .ok (.iload_n 3, 1) := by decide +kernel
theorem dX9_turned_22 : decode cX9_turned 22 = .ok (.invokestatic 150, 3) := by decide +kernel
theorem dX9_turned_25 : decode cX9_turned 25 = .ok (.ifCond .ne 6, 3) := by decide +kernel
theorem dX9_turned_28 : decode cX9_turned 28 = .ok (.bipush (-2), 2) := by decide +kernel
theorem dX9_turned_30 : decode cX9_turned 30 = .ok (.ireturn, 1) := by decide +kernel
theorem dX9_turned_31 : decode cX9_turned 31 = .ok (.aload_n 0, 1) := by decide +kernel
theorem dX9_turned_32 : decode cX9_turned 32 = .ok (.getfield 33, 3) := by decide +kernel
theorem dX9_turned_35 : decode cX9_turned 35 = .ok (.aload_n 0, 1) := by decide +kernel
theorem dX9_turned_36 : decode cX9_turned 36 = .ok (.getfield 10, 3) := by decide +kernel
theorem dX9_turned_39 : decode cX9_turned 39 = .ok (.getfield 68, 3) := by decide +kernel
theorem dX9_turned_42 : decode cX9_turned 42 = .ok (.iload_n 2, 1) := by decide +kernel
theorem dX9_turned_43 : decode cX9_turned 43 = .ok (.iload_n 3, 1) := by decide +kernel
theorem dX9_turned_44 : decode cX9_turned 44 = .ok (.aload_n 0, 1) := by decide +kernel
theorem dX9_turned_45 : decode cX9_turned 45 = .ok (.getfield 54, 3) := by decide +kernel
theorem dX9_turned_48 : decode cX9_turned 48 = .ok (.iload_n 3, 1) := by decide +kernel
theorem dX9_turned_49 : decode cX9_turned 49 = .ok (.invokevirtual 153, 3) := by decide +kernel
theorem dX9_turned_52 : decode cX9_turned 52 = .ok (.invokevirtual 165, 3) := by decide +kernel
theorem dX9_turned_55 : decode cX9_turned 55 = .ok (.aload_n 0, 1) := by decide +kernel
theorem dX9_turned_56 : decode cX9_turned 56 = .ok (.getfield 33, 3) := by decide +kernel
theorem dX9_turned_59 : decode cX9_turned 59 = .ok (.getfield 172, 3) := by decide +kernel
theorem dX9_turned_62 : decode cX9_turned 62 = .ok (.iload_n 1, 1) := by decide +kernel
theorem dX9_turned_63 : decode cX9_turned 63 = .ok (.iaload, 1) := by decide +kernel
theorem dX9_turned_64 : decode cX9_turned 64 = .ok (.ireturn, 1) := by decide +kernel
theorem dX9_crowd_0 : decode cX9_crowd 0 = .ok (.aload_n 0, 1) := by decide +kernel
theorem dX9_crowd_1 : decode cX9_crowd 1 = .ok (.getfield 33, 3) := by decide +kernel
theorem dX9_crowd_4 : decode cX9_crowd 4 = .ok (.iload_n 1, 1) := by decide +kernel
theorem dX9_crowd_5 : decode cX9_crowd 5 = .ok (.invokevirtual 156, 3) := by decide +kernel
theorem dX9_crowd_8 : decode cX9_crowd 8 = .ok (.ifCond .eq 10, 3) := by decide +kernel
theorem dX9_crowd_11 : decode cX9_crowd 11 = .ok (.iload_n 2, 1) := by decide +kernel
theorem dX9_crowd_12 : decode cX9_crowd 12 = .ok (.invokestatic 104, 3) := by decide +kernel
theorem dX9_crowd_15 : decode cX9_crowd 15 = .ok (.ifCond .ne 6, 3) := by decide +kernel
theorem dX9_crowd_18 : decode cX9_crowd 18 = .ok (.bipush (-2), 2) := by decide +kernel
theorem dX9_crowd_20 : decode cX9_crowd 20 = .ok (.ireturn, 1) := by decide +kernel
theorem dX9_crowd_21 : decode cX9_crowd 21 = .ok (.aload_n 0, 1) := by decide +kernel
theorem dX9_crowd_22 : decode cX9_crowd 22 = .ok (.getfield 33, 3) := by decide +kernel
theorem dX9_crowd_25 : decode cX9_crowd 25 = .ok (.getfield 157, 3) := by decide +kernel
theorem dX9_crowd_28 : decode cX9_crowd 28 = .ok (.iload_n 1, 1) := by decide +kernel
theorem dX9_crowd_29 : decode cX9_crowd 29 = .ok (.iaload, 1) := by decide +kernel
theorem dX9_crowd_30 : decode cX9_crowd 30 = .ok (.istore_n 3, 1) := by decide +kernel
theorem dX9_crowd_31 : decode cX9_crowd 31 = .ok (.aload_n 0, 1) := by decide +kernel
theorem dX9_crowd_32 : decode cX9_crowd 32 = .ok (.getfield 33, 3) := by decide +kernel
theorem dX9_crowd_35 : decode cX9_crowd 35 = .ok (.aload_n 0, 1) := by decide +kernel
theorem dX9_crowd_36 : decode cX9_crowd 36 = .ok (.getfield 10, 3) := by decide +kernel
theorem dX9_crowd_39 : decode cX9_crowd 39 = .ok (.getfield 68, 3) := by decide +kernel
theorem dX9_crowd_42 : decode cX9_crowd 42 = .ok (.iload_n 2, 1) := by decide +kernel
theorem dX9_crowd_43 : decode cX9_crowd 43 = .ok (.iload_n 3, 1) := by decide +kernel
theorem dX9_crowd_44 : decode cX9_crowd 44 = .ok (.aload_n 0, 1) := by decide +kernel
theorem dX9_crowd_45 : decode cX9_crowd 45 = .ok (.getfield 54, 3) := by decide +kernel
theorem dX9_crowd_48 : decode cX9_crowd 48 = .ok (.iload_n 3, 1) := by decide +kernel
theorem dX9_crowd_49 : decode cX9_crowd 49 = .ok (.invokevirtual 153, 3) := by decide +kernel
theorem dX9_crowd_52 : decode cX9_crowd 52 = .ok (.invokevirtual 165, 3) := by decide +kernel
theorem dX9_crowd_55 : decode cX9_crowd 55 = .ok (.aload_n 0, 1) := by decide +kernel
theorem dX9_crowd_56 : decode cX9_crowd 56 = .ok (.getfield 33, 3) := by decide +kernel
theorem dX9_crowd_59 : decode cX9_crowd 59 = .ok (.iload_n 1, 1) := by decide +kernel
theorem dX9_crowd_60 : decode cX9_crowd 60 = .ok (.aload_n 0, 1) := by decide +kernel
theorem dX9_crowd_61 : decode cX9_crowd 61 = .ok (.getfield 10, 3) := by decide +kernel
theorem dX9_crowd_64 : decode cX9_crowd 64 = .ok (.getfield 68, 3) := by decide +kernel
theorem dX9_crowd_67 : decode cX9_crowd 67 = .ok (.invokevirtual 175, 3) := by decide +kernel
theorem dX9_crowd_70 : decode cX9_crowd 70 = .ok (.ireturn, 1) := by decide +kernel
theorem dX9_group_0 : decode cX9_group 0 = .ok (.aload_n 0, 1) := by decide +kernel
theorem dX9_group_1 : decode cX9_group 1 = .ok (.getfield 40, 3) := by decide +kernel
theorem dX9_group_4 : decode cX9_group 4 = .ok (.iload_n 1, 1) := by decide +kernel
theorem dX9_group_5 : decode cX9_group 5 = .ok (.iload_n 2, 1) := by decide +kernel
theorem dX9_group_6 : decode cX9_group 6 = .ok (.iload_n 3, 1) := by decide +kernel
theorem dX9_group_7 : decode cX9_group 7 = .ok (.iload 4, 2) := by decide +kernel
theorem dX9_group_9 : decode cX9_group 9 = .ok (.invokevirtual 179, 3) := by decide +kernel
theorem dX9_group_12 : decode cX9_group 12 = .ok (.ireturn, 1) := by decide +kernel
theorem dX9_child_0 : decode cX9_child 0 = .ok (.aload_n 0, 1) := by decide +kernel
theorem dX9_child_1 : decode cX9_child 1 = .ok (.getfield 10, 3) := by decide +kernel
theorem dX9_child_4 : decode cX9_child 4 = .ok (.getfield 68, 3) := by decide +kernel
theorem dX9_child_7 : decode cX9_child 7 = .ok (.iload_n 1, 1) := by decide +kernel
theorem dX9_child_8 : decode cX9_child 8 = .ok (.invokevirtual 115, 3) := by decide +kernel
theorem dX9_child_11 : decode cX9_child 11 = .ok (.ifCond .ne 6, 3) := by decide +kernel
theorem dX9_child_14 : decode cX9_child 14 = .ok (.bipush (-2), 2) := by decide +kernel
theorem dX9_child_16 : decode cX9_child 16 = .ok (.ireturn, 1) := by decide +kernel
theorem dX9_child_17 : decode cX9_child 17 = .ok (.aload_n 0, 1) := by decide +kernel
theorem dX9_child_18 : decode cX9_child 18 = .ok (.getfield 40, 3) := by decide +kernel
theorem dX9_child_21 : decode cX9_child 21 = .ok (.iload_n 1, 1) := by decide +kernel
theorem dX9_child_22 : decode cX9_child 22 = .ok (.iload_n 2, 1) := by decide +kernel
theorem dX9_child_23 : decode cX9_child 23 = .ok (.aload_n 0, 1) := by decide +kernel
theorem dX9_child_24 : decode cX9_child 24 = .ok (.getfield 10, 3) := by decide +kernel
theorem dX9_child_27 : decode cX9_child 27 = .ok (.getfield 68, 3) := by decide +kernel
theorem dX9_child_30 : decode cX9_child 30 = .ok (.getfield 182, 3) := by decide +kernel
theorem dX9_child_33 : decode cX9_child 33 = .ok (.iload_n 1, 1) := by decide +kernel
theorem dX9_child_34 : decode cX9_child 34 = .ok (.iaload, 1) := by decide +kernel
theorem dX9_child_35 : decode cX9_child 35 = .ok (.invokevirtual 185, 3) := by decide +kernel
theorem dX9_child_38 : decode cX9_child 38 = .ok (.ireturn, 1) := by decide +kernel
theorem dX9_hand_0 : decode cX9_hand 0 = .ok (.aload_n 0, 1) := by decide +kernel
theorem dX9_hand_1 : decode cX9_hand 1 = .ok (.getfield 40, 3) := by decide +kernel
theorem dX9_hand_4 : decode cX9_hand 4 = .ok (.iload_n 1, 1) := by decide +kernel
theorem dX9_hand_5 : decode cX9_hand 5 = .ok (.invokevirtual 188, 3) := by decide +kernel
theorem dX9_hand_8 : decode cX9_hand 8 = .ok (.ireturn, 1) := by decide +kernel
theorem dX9_fetch_0 : decode cX9_fetch 0 = .ok (.aload_n 0, 1) := by decide +kernel
theorem dX9_fetch_1 : decode cX9_fetch 1 = .ok (.getfield 10, 3) := by decide +kernel
theorem dX9_fetch_4 : decode cX9_fetch 4 = .ok (.getfield 68, 3) := by decide +kernel
theorem dX9_fetch_7 : decode cX9_fetch 7 = .ok (.iload_n 2, 1) := by decide +kernel
theorem dX9_fetch_8 : decode cX9_fetch 8 = .ok (.invokevirtual 115, 3) := by decide +kernel
theorem dX9_fetch_11 : decode cX9_fetch 11 = .ok (.ifCond .eq 15, 3) := by decide +kernel
theorem dX9_fetch_14 : decode cX9_fetch 14 = .ok (.aload_n 0, 1) := by decide +kernel
theorem dX9_fetch_15 : decode cX9_fetch 15 = .ok (.getfield 40, 3) := by decide +kernel
theorem dX9_fetch_18 : decode cX9_fetch 18 = .ok (.iload_n 1, 1) := by decide +kernel
theorem dX9_fetch_19 : decode cX9_fetch 19 = .ok (.iload_n 2, 1) := by decide +kernel
theorem dX9_fetch_20 : decode cX9_fetch 20 = .ok (.invokevirtual 191, 3) := by decide +kernel
theorem dX9_fetch_23 : decode cX9_fetch 23 = .ok (.goto 5, 3) := by decide +kernel
theorem dX9_fetch_26 : decode cX9_fetch 26 = .ok (.bipush (-2), 2) := by decide +kernel
theorem dX9_fetch_28 : decode cX9_fetch 28 = .ok (.ireturn, 1) := by decide +kernel
theorem dX9_with_0 : decode cX9_with 0 = .ok (.aload_n 0, 1) := by decide +kernel
theorem dX9_with_1 : decode cX9_with 1 = .ok (.getfield 40, 3) := by decide +kernel
theorem dX9_with_4 : decode cX9_with 4 = .ok (.iload_n 1, 1) := by decide +kernel
theorem dX9_with_5 : decode cX9_with 5 = .ok (.invokevirtual 194, 3) := by decide +kernel
theorem dX9_with_8 : decode cX9_with 8 = .ok (.ifCond .eq 15, 3) := by decide +kernel
theorem dX9_with_11 : decode cX9_with 11 = .ok (.aload_n 0, 1) := by decide +kernel
theorem dX9_with_12 : decode cX9_with 12 = .ok (.getfield 40, 3) := by decide +kernel
theorem dX9_with_15 : decode cX9_with 15 = .ok (.getfield 197, 3) := by decide +kernel
theorem dX9_with_18 : decode cX9_with 18 = .ok (.iload_n 1, 1) := by decide +kernel
theorem dX9_with_19 : decode cX9_with 19 = .ok (.iaload, 1) := by decide +kernel
theorem dX9_with_20 : decode cX9_with 20 = .ok (.goto 5, 3) := by decide +kernel
theorem dX9_with_23 : decode cX9_with 23 = .ok (.bipush (-2), 2) := by decide +kernel
theorem dX9_with_25 : decode cX9_with 25 = .ok (.ireturn, 1) := by decide +kernel
theorem dX9_list_0 : decode cX9_list 0 = .ok (.aload_n 0, 1) := by decide +kernel
theorem dX9_list_1 : decode cX9_list 1 = .ok (.getfield 47, 3) := by decide +kernel
theorem dX9_list_4 : decode cX9_list 4 = .ok (.iload_n 1, 1) := by decide +kernel
theorem dX9_list_5 : decode cX9_list 5 = .ok (.iload_n 2, 1) := by decide +kernel
theorem dX9_list_6 : decode cX9_list 6 = .ok (.iload_n 3, 1) := by decide +kernel
theorem dX9_list_7 : decode cX9_list 7 = .ok (.invokevirtual 200, 3) := by decide +kernel
theorem dX9_list_10 : decode cX9_list 10 = .ok (.ireturn, 1) := by decide +kernel
theorem dX9_pays_0 : decode cX9_pays 0 = .ok (.aload_n 0, 1) := by decide +kernel
theorem dX9_pays_1 : decode cX9_pays 1 = .ok (.getfield 47, 3) := by decide +kernel
theorem dX9_pays_4 : decode cX9_pays 4 = .ok (.iload_n 1, 1) := by decide +kernel
theorem dX9_pays_5 : decode cX9_pays 5 = .ok (.iload_n 2, 1) := by decide +kernel
theorem dX9_pays_6 : decode cX9_pays 6 = .ok (.invokevirtual 201, 3) := by decide +kernel
theorem dX9_pays_9 : decode cX9_pays 9 = .ok (.ireturn, 1) := by decide +kernel
theorem dX9_sheet_0 : decode cX9_sheet 0 = .ok (.aload_n 0, 1) := by decide +kernel
theorem dX9_sheet_1 : decode cX9_sheet 1 = .ok (.getfield 54, 3) := by decide +kernel
theorem dX9_sheet_4 : decode cX9_sheet 4 = .ok (.iload_n 1, 1) := by decide +kernel
theorem dX9_sheet_5 : decode cX9_sheet 5 = .ok (.iload_n 2, 1) := by decide +kernel
theorem dX9_sheet_6 : decode cX9_sheet 6 = .ok (.iload_n 3, 1) := by decide +kernel
theorem dX9_sheet_7 : decode cX9_sheet 7 = .ok (.invokevirtual 204, 3) := by decide +kernel
theorem dX9_sheet_10 : decode cX9_sheet 10 = .ok (.ireturn, 1) := by decide +kernel
theorem dX9_lose_0 : decode cX9_lose 0 = .ok (.aload_n 0, 1) := by decide +kernel
theorem dX9_lose_1 : decode cX9_lose 1 = .ok (.getfield 54, 3) := by decide +kernel
theorem dX9_lose_4 : decode cX9_lose 4 = .ok (.iload_n 1, 1) := by decide +kernel
theorem dX9_lose_5 : decode cX9_lose 5 = .ok (.invokevirtual 207, 3) := by decide +kernel
theorem dX9_lose_8 : decode cX9_lose 8 = .ok (.ireturn, 1) := by decide +kernel
theorem dX9_put_0 : decode cX9_put 0 = .ok (.aload_n 0, 1) := by decide +kernel
theorem dX9_put_1 : decode cX9_put 1 = .ok (.getfield 54, 3) := by decide +kernel
theorem dX9_put_4 : decode cX9_put 4 = .ok (.iload_n 1, 1) := by decide +kernel
theorem dX9_put_5 : decode cX9_put 5 = .ok (.iload_n 2, 1) := by decide +kernel
theorem dX9_put_6 : decode cX9_put 6 = .ok (.iload_n 3, 1) := by decide +kernel
theorem dX9_put_7 : decode cX9_put 7 = .ok (.iload 4, 2) := by decide +kernel
theorem dX9_put_9 : decode cX9_put 9 = .ok (.invokevirtual 210, 3) := by decide +kernel
theorem dX9_put_12 : decode cX9_put 12 = .ok (.ireturn, 1) := by decide +kernel
theorem dX9_get_0 : decode cX9_get 0 = .ok (.aload_n 0, 1) := by decide +kernel
theorem dX9_get_1 : decode cX9_get 1 = .ok (.getfield 54, 3) := by decide +kernel
theorem dX9_get_4 : decode cX9_get 4 = .ok (.iload_n 1, 1) := by decide +kernel
theorem dX9_get_5 : decode cX9_get 5 = .ok (.iload_n 2, 1) := by decide +kernel
theorem dX9_get_6 : decode cX9_get 6 = .ok (.iload_n 3, 1) := by decide +kernel
theorem dX9_get_7 : decode cX9_get 7 = .ok (.invokevirtual 213, 3) := by decide +kernel
theorem dX9_get_10 : decode cX9_get 10 = .ok (.ireturn, 1) := by decide +kernel
theorem dX9_copy_0 : decode cX9_copy 0 = .ok (.aload_n 0, 1) := by decide +kernel
theorem dX9_copy_1 : decode cX9_copy 1 = .ok (.getfield 54, 3) := by decide +kernel
theorem dX9_copy_4 : decode cX9_copy 4 = .ok (.iload_n 1, 1) := by decide +kernel
theorem dX9_copy_5 : decode cX9_copy 5 = .ok (.iload_n 2, 1) := by decide +kernel
theorem dX9_copy_6 : decode cX9_copy 6 = .ok (.iload_n 3, 1) := by decide +kernel
theorem dX9_copy_7 : decode cX9_copy 7 = .ok (.iload 4, 2) := by decide +kernel
theorem dX9_copy_9 : decode cX9_copy 9 = .ok (.iload 5, 2) := by decide +kernel
theorem dX9_copy_11 : decode cX9_copy 11 = .ok (.invokevirtual 216, 3) := by decide +kernel
theorem dX9_copy_14 : decode cX9_copy 14 = .ok (.ireturn, 1) := by decide +kernel
theorem dX9_count_0 : decode cX9_count 0 = .ok (.iload_n 1, 1) := by decide +kernel
theorem dX9_count_1 : decode cX9_count 1 = .ok (.tableswitch 120 0 7 #[47, 58, 69, 80, 88, 96, 104, 112], 47) := by decide +kernel
theorem dX9_count_48 : decode cX9_count 48 = .ok (.aload_n 0, 1) := by decide +kernel
theorem dX9_count_49 : decode cX9_count 49 = .ok (.getfield 10, 3) := by decide +kernel
theorem dX9_count_52 : decode cX9_count 52 = .ok (.getfield 58, 3) := by decide +kernel
theorem dX9_count_55 : decode cX9_count 55 = .ok (.getfield 219, 3) := by decide +kernel
theorem dX9_count_58 : decode cX9_count 58 = .ok (.ireturn, 1) := by decide +kernel
theorem dX9_count_59 : decode cX9_count 59 = .ok (.aload_n 0, 1) := by decide +kernel
theorem dX9_count_60 : decode cX9_count 60 = .ok (.getfield 10, 3) := by decide +kernel
theorem dX9_count_63 : decode cX9_count 63 = .ok (.getfield 68, 3) := by decide +kernel
theorem dX9_count_66 : decode cX9_count 66 = .ok (.getfield 222, 3) := by decide +kernel
theorem dX9_count_69 : decode cX9_count 69 = .ok (.ireturn, 1) := by decide +kernel
theorem dX9_count_70 : decode cX9_count 70 = .ok (.aload_n 0, 1) := by decide +kernel
theorem dX9_count_71 : decode cX9_count 71 = .ok (.getfield 10, 3) := by decide +kernel
theorem dX9_count_74 : decode cX9_count 74 = .ok (.getfield 68, 3) := by decide +kernel
theorem dX9_count_77 : decode cX9_count 77 = .ok (.invokevirtual 223, 3) := by decide +kernel
theorem dX9_count_80 : decode cX9_count 80 = .ok (.ireturn, 1) := by decide +kernel
theorem dX9_count_81 : decode cX9_count 81 = .ok (.aload_n 0, 1) := by decide +kernel
theorem dX9_count_82 : decode cX9_count 82 = .ok (.getfield 33, 3) := by decide +kernel
theorem dX9_count_85 : decode cX9_count 85 = .ok (.getfield 227, 3) := by decide +kernel
theorem dX9_count_88 : decode cX9_count 88 = .ok (.ireturn, 1) := by decide +kernel
theorem dX9_count_89 : decode cX9_count 89 = .ok (.aload_n 0, 1) := by decide +kernel
theorem dX9_count_90 : decode cX9_count 90 = .ok (.getfield 40, 3) := by decide +kernel
theorem dX9_count_93 : decode cX9_count 93 = .ok (.getfield 228, 3) := by decide +kernel
theorem dX9_count_96 : decode cX9_count 96 = .ok (.ireturn, 1) := by decide +kernel
theorem dX9_count_97 : decode cX9_count 97 = .ok (.aload_n 0, 1) := by decide +kernel
theorem dX9_count_98 : decode cX9_count 98 = .ok (.getfield 26, 3) := by decide +kernel
theorem dX9_count_101 : decode cX9_count 101 = .ok (.getfield 231, 3) := by decide +kernel
theorem dX9_count_104 : decode cX9_count 104 = .ok (.ireturn, 1) := by decide +kernel
theorem dX9_count_105 : decode cX9_count 105 = .ok (.aload_n 0, 1) := by decide +kernel
theorem dX9_count_106 : decode cX9_count 106 = .ok (.getfield 47, 3) := by decide +kernel
theorem dX9_count_109 : decode cX9_count 109 = .ok (.getfield 234, 3) := by decide +kernel
theorem dX9_count_112 : decode cX9_count 112 = .ok (.ireturn, 1) := by decide +kernel
theorem dX9_count_113 : decode cX9_count 113 = .ok (.aload_n 0, 1) := by decide +kernel
theorem dX9_count_114 : decode cX9_count 114 = .ok (.getfield 54, 3) := by decide +kernel
theorem dX9_count_117 : decode cX9_count 117 = .ok (.getfield 235, 3) := by decide +kernel
theorem dX9_count_120 : decode cX9_count 120 = .ok (.ireturn, 1) := by decide +kernel
theorem dX9_count_121 : decode cX9_count 121 = .ok (.bipush (-2), 2) := by decide +kernel
theorem dX9_count_123 : decode cX9_count 123 = .ok (.ireturn, 1) := by decide +kernel
theorem dX9_digest_0 : decode cX9_digest 0 = .ok (.ldc2_w 238, 3) := by decide +kernel
theorem dX9_digest_3 : decode cX9_digest 3 = .ok (.lstore_n 1, 1) := by decide +kernel
theorem dX9_digest_4 : decode cX9_digest 4 = .ok (.iconst 0, 1) := by decide +kernel
theorem dX9_digest_5 : decode cX9_digest 5 = .ok (.istore_n 3, 1) := by decide +kernel
theorem dX9_digest_6 : decode cX9_digest 6 = .ok (.iload_n 3, 1) := by decide +kernel
theorem dX9_digest_7 : decode cX9_digest 7 = .ok (.bipush 6, 2) := by decide +kernel
theorem dX9_digest_9 : decode cX9_digest 9 = .ok (.if_icmp .gt 22, 3) := by decide +kernel
theorem dX9_digest_12 : decode cX9_digest 12 = .ok (.ldc2_w 240, 3) := by decide +kernel
theorem dX9_digest_15 : decode cX9_digest 15 = .ok (.lload_n 1, 1) := by decide +kernel
theorem dX9_digest_16 : decode cX9_digest 16 = .ok (.lmul, 1) := by decide +kernel
theorem dX9_digest_17 : decode cX9_digest 17 = .ok (.aload_n 0, 1) := by decide +kernel
theorem dX9_digest_18 : decode cX9_digest 18 = .ok (.iload_n 3, 1) := by decide +kernel
theorem dX9_digest_19 : decode cX9_digest 19 = .ok (.invokevirtual 242, 3) := by decide +kernel
theorem dX9_digest_22 : decode cX9_digest 22 = .ok (.i2l, 1) := by decide +kernel
theorem dX9_digest_23 : decode cX9_digest 23 = .ok (.ladd, 1) := by decide +kernel
theorem dX9_digest_24 : decode cX9_digest 24 = .ok (.lstore_n 1, 1) := by decide +kernel
theorem dX9_digest_25 : decode cX9_digest 25 = .ok (.iinc 3 1, 3) := by decide +kernel
theorem dX9_digest_28 : decode cX9_digest 28 = .ok (.goto (-22), 3) := by decide +kernel
theorem dX9_digest_31 : decode cX9_digest 31 = .ok (.iconst 0, 1) := by decide +kernel
theorem dX9_digest_32 : decode cX9_digest 32 = .ok (.istore_n 3, 1) := by decide +kernel
theorem dX9_digest_33 : decode cX9_digest 33 = .ok (.iload_n 3, 1) := by decide +kernel
theorem dX9_digest_34 : decode cX9_digest 34 = .ok (.aload_n 0, 1) := by decide +kernel
theorem dX9_digest_35 : decode cX9_digest 35 = .ok (.getfield 10, 3) := by decide +kernel
theorem dX9_digest_38 : decode cX9_digest 38 = .ok (.getfield 68, 3) := by decide +kernel
theorem dX9_digest_41 : decode cX9_digest 41 = .ok (.getfield 222, 3) := by decide +kernel
theorem dX9_digest_44 : decode cX9_digest 44 = .ok (.if_icmp .ge 29, 3) := by decide +kernel
theorem dX9_digest_47 : decode cX9_digest 47 = .ok (.ldc2_w 240, 3) := by decide +kernel
theorem dX9_digest_50 : decode cX9_digest 50 = .ok (.lload_n 1, 1) := by decide +kernel
theorem dX9_digest_51 : decode cX9_digest 51 = .ok (.lmul, 1) := by decide +kernel
theorem dX9_digest_52 : decode cX9_digest 52 = .ok (.aload_n 0, 1) := by decide +kernel
theorem dX9_digest_53 : decode cX9_digest 53 = .ok (.getfield 10, 3) := by decide +kernel
theorem dX9_digest_56 : decode cX9_digest 56 = .ok (.getfield 68, 3) := by decide +kernel
theorem dX9_digest_59 : decode cX9_digest 59 = .ok (.getfield 244, 3) := by decide +kernel
theorem dX9_digest_62 : decode cX9_digest 62 = .ok (.iload_n 3, 1) := by decide +kernel
theorem dX9_digest_63 : decode cX9_digest 63 = .ok (.iaload, 1) := by decide +kernel
theorem dX9_digest_64 : decode cX9_digest 64 = .ok (.i2l, 1) := by decide +kernel
theorem dX9_digest_65 : decode cX9_digest 65 = .ok (.ladd, 1) := by decide +kernel
theorem dX9_digest_66 : decode cX9_digest 66 = .ok (.lstore_n 1, 1) := by decide +kernel
theorem dX9_digest_67 : decode cX9_digest 67 = .ok (.iinc 3 1, 3) := by decide +kernel
theorem dX9_digest_70 : decode cX9_digest 70 = .ok (.goto (-37), 3) := by decide +kernel
theorem dX9_digest_73 : decode cX9_digest 73 = .ok (.iconst 0, 1) := by decide +kernel
theorem dX9_digest_74 : decode cX9_digest 74 = .ok (.istore_n 3, 1) := by decide +kernel
theorem dX9_digest_75 : decode cX9_digest 75 = .ok (.iload_n 3, 1) := by decide +kernel
theorem dX9_digest_76 : decode cX9_digest 76 = .ok (.bipush 10, 2) := by decide +kernel
theorem dX9_digest_78 : decode cX9_digest 78 = .ok (.if_icmp .ge 22, 3) := by decide +kernel
theorem dX9_digest_81 : decode cX9_digest 81 = .ok (.ldc2_w 240, 3) := by decide +kernel
theorem dX9_digest_84 : decode cX9_digest 84 = .ok (.lload_n 1, 1) := by decide +kernel
theorem dX9_digest_85 : decode cX9_digest 85 = .ok (.lmul, 1) := by decide +kernel
theorem dX9_digest_86 : decode cX9_digest 86 = .ok (.aload_n 0, 1) := by decide +kernel
theorem dX9_digest_87 : decode cX9_digest 87 = .ok (.iload_n 3, 1) := by decide +kernel
theorem dX9_digest_88 : decode cX9_digest 88 = .ok (.invokevirtual 247, 3) := by decide +kernel
theorem dX9_digest_91 : decode cX9_digest 91 = .ok (.i2l, 1) := by decide +kernel
theorem dX9_digest_92 : decode cX9_digest 92 = .ok (.ladd, 1) := by decide +kernel
theorem dX9_digest_93 : decode cX9_digest 93 = .ok (.lstore_n 1, 1) := by decide +kernel
theorem dX9_digest_94 : decode cX9_digest 94 = .ok (.iinc 3 1, 3) := by decide +kernel
theorem dX9_digest_97 : decode cX9_digest 97 = .ok (.goto (-22), 3) := by decide +kernel
theorem dX9_digest_100 : decode cX9_digest 100 = .ok (.iconst 0, 1) := by decide +kernel
theorem dX9_digest_101 : decode cX9_digest 101 = .ok (.istore_n 3, 1) := by decide +kernel
theorem dX9_digest_102 : decode cX9_digest 102 = .ok (.iload_n 3, 1) := by decide +kernel
theorem dX9_digest_103 : decode cX9_digest 103 = .ok (.aload_n 0, 1) := by decide +kernel
theorem dX9_digest_104 : decode cX9_digest 104 = .ok (.getfield 33, 3) := by decide +kernel
theorem dX9_digest_107 : decode cX9_digest 107 = .ok (.getfield 227, 3) := by decide +kernel
theorem dX9_digest_110 : decode cX9_digest 110 = .ok (.if_icmp .ge 22, 3) := by decide +kernel
theorem dX9_digest_113 : decode cX9_digest 113 = .ok (.ldc2_w 240, 3) := by decide +kernel
theorem dX9_digest_116 : decode cX9_digest 116 = .ok (.lload_n 1, 1) := by decide +kernel
theorem dX9_digest_117 : decode cX9_digest 117 = .ok (.lmul, 1) := by decide +kernel
theorem dX9_digest_118 : decode cX9_digest 118 = .ok (.aload_n 0, 1) := by decide +kernel
theorem dX9_digest_119 : decode cX9_digest 119 = .ok (.iload_n 3, 1) := by decide +kernel
theorem dX9_digest_120 : decode cX9_digest 120 = .ok (.invokevirtual 250, 3) := by decide +kernel
theorem dX9_digest_123 : decode cX9_digest 123 = .ok (.i2l, 1) := by decide +kernel
theorem dX9_digest_124 : decode cX9_digest 124 = .ok (.ladd, 1) := by decide +kernel
theorem dX9_digest_125 : decode cX9_digest 125 = .ok (.lstore_n 1, 1) := by decide +kernel
theorem dX9_digest_126 : decode cX9_digest 126 = .ok (.iinc 3 1, 3) := by decide +kernel
theorem dX9_digest_129 : decode cX9_digest 129 = .ok (.goto (-27), 3) := by decide +kernel
theorem dX9_digest_132 : decode cX9_digest 132 = .ok (.iconst 0, 1) := by decide +kernel
theorem dX9_digest_133 : decode cX9_digest 133 = .ok (.istore_n 3, 1) := by decide +kernel
theorem dX9_digest_134 : decode cX9_digest 134 = .ok (.iload_n 3, 1) := by decide +kernel
theorem dX9_digest_135 : decode cX9_digest 135 = .ok (.aload_n 0, 1) := by decide +kernel
theorem dX9_digest_136 : decode cX9_digest 136 = .ok (.getfield 40, 3) := by decide +kernel
theorem dX9_digest_139 : decode cX9_digest 139 = .ok (.getfield 228, 3) := by decide +kernel
theorem dX9_digest_142 : decode cX9_digest 142 = .ok (.if_icmp .ge 26, 3) := by decide +kernel
theorem dX9_digest_145 : decode cX9_digest 145 = .ok (.ldc2_w 240, 3) := by decide +kernel
theorem dX9_digest_148 : decode cX9_digest 148 = .ok (.lload_n 1, 1) := by decide +kernel
theorem dX9_digest_149 : decode cX9_digest 149 = .ok (.lmul, 1) := by decide +kernel
theorem dX9_digest_150 : decode cX9_digest 150 = .ok (.aload_n 0, 1) := by decide +kernel
theorem dX9_digest_151 : decode cX9_digest 151 = .ok (.getfield 40, 3) := by decide +kernel
theorem dX9_digest_154 : decode cX9_digest 154 = .ok (.getfield 197, 3) := by decide +kernel
theorem dX9_digest_157 : decode cX9_digest 157 = .ok (.iload_n 3, 1) := by decide +kernel
theorem dX9_digest_158 : decode cX9_digest 158 = .ok (.iaload, 1) := by decide +kernel
theorem dX9_digest_159 : decode cX9_digest 159 = .ok (.i2l, 1) := by decide +kernel
theorem dX9_digest_160 : decode cX9_digest 160 = .ok (.ladd, 1) := by decide +kernel
theorem dX9_digest_161 : decode cX9_digest 161 = .ok (.lstore_n 1, 1) := by decide +kernel
theorem dX9_digest_162 : decode cX9_digest 162 = .ok (.iinc 3 1, 3) := by decide +kernel
theorem dX9_digest_165 : decode cX9_digest 165 = .ok (.goto (-31), 3) := by decide +kernel
theorem dX9_digest_168 : decode cX9_digest 168 = .ok (.lload_n 1, 1) := by decide +kernel
theorem dX9_digest_169 : decode cX9_digest 169 = .ok (.lreturn, 1) := by decide +kernel
theorem dX9_within_0 : decode cX9_within 0 = .ok (.iload_n 0, 1) := by decide +kernel
theorem dX9_within_1 : decode cX9_within 1 = .ok (.iload_n 1, 1) := by decide +kernel
theorem dX9_within_2 : decode cX9_within 2 = .ok (.if_icmp .lt 12, 3) := by decide +kernel
theorem dX9_within_5 : decode cX9_within 5 = .ok (.iload_n 0, 1) := by decide +kernel
theorem dX9_within_6 : decode cX9_within 6 = .ok (.iload_n 2, 1) := by decide +kernel
theorem dX9_within_7 : decode cX9_within 7 = .ok (.if_icmp .gt 7, 3) := by decide +kernel
theorem dX9_within_10 : decode cX9_within 10 = .ok (.iconst 1, 1) := by decide +kernel
theorem dX9_within_11 : decode cX9_within 11 = .ok (.goto 4, 3) := by decide +kernel
theorem dX9_within_14 : decode cX9_within 14 = .ok (.iconst 0, 1) := by decide +kernel
theorem dX9_within_15 : decode cX9_within 15 = .ok (.ireturn, 1) := by decide +kernel
theorem dX9_isWeek_0 : decode cX9_isWeek 0 = .ok (.iload_n 0, 1) := by decide +kernel
theorem dX9_isWeek_1 : decode cX9_isWeek 1 = .ok (.iconst 0, 1) := by decide +kernel
theorem dX9_isWeek_2 : decode cX9_isWeek 2 = .ok (.bipush 9, 2) := by decide +kernel
theorem dX9_isWeek_4 : decode cX9_isWeek 4 = .ok (.invokestatic 124, 3) := by decide +kernel
theorem dX9_isWeek_7 : decode cX9_isWeek 7 = .ok (.ireturn, 1) := by decide +kernel
theorem dX9_isHour_0 : decode cX9_isHour 0 = .ok (.iload_n 0, 1) := by decide +kernel
theorem dX9_isHour_1 : decode cX9_isHour 1 = .ok (.iconst 0, 1) := by decide +kernel
theorem dX9_isHour_2 : decode cX9_isHour 2 = .ok (.bipush 39, 2) := by decide +kernel
theorem dX9_isHour_4 : decode cX9_isHour 4 = .ok (.invokestatic 124, 3) := by decide +kernel
theorem dX9_isHour_7 : decode cX9_isHour 7 = .ok (.ireturn, 1) := by decide +kernel
