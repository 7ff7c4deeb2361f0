theorem dX6_init_0 : decode cX6_init 0 = .ok (.aload_n 0, 1) := by decide +kernel
theorem dX6_init_1 : decode cX6_init 1 = .ok (.invokespecial 3, 3) := by decide +kernel
theorem dX6_init_4 : decode cX6_init 4 = .ok (.aload_n 0, 1) := by decide +kernel
theorem dX6_init_5 : decode cX6_init 5 = .ok (.new 9, 3) := by decide +kernel
theorem dX6_init_8 : decode cX6_init 8 = .ok (.dup, 1) := by decide +kernel
theorem dX6_init_9 : decode cX6_init 9 = .ok (.invokespecial 11, 3) := by decide +kernel
theorem dX6_init_12 : decode cX6_init 12 = .ok (.putfield 12, 3) := by decide +kernel
theorem dX6_init_15 : decode cX6_init 15 = .ok (.aload_n 0, 1) := by decide +kernel
theorem dX6_init_16 : decode cX6_init 16 = .ok (.iconst 2, 1) := by decide +kernel
theorem dX6_init_17 : decode cX6_init 17 = .ok (.anewarray 9, 3) := by decide +kernel
theorem dX6_init_20 : decode cX6_init 20 = .ok (.putfield 16, 3) := by decide +kernel
theorem dX6_init_23 : decode cX6_init 23 = .ok (.iconst 0, 1) := by decide +kernel
theorem dX6_init_24 : decode cX6_init 24 = .ok (.istore_n 1, 1) := by decide +kernel
theorem dX6_init_25 : decode cX6_init 25 = .ok (.iload_n 1, 1) := by decide +kernel
theorem dX6_init_26 : decode cX6_init 26 = .ok (.iconst 2, 1) := by decide +kernel
theorem dX6_init_27 : decode cX6_init 27 = .ok (.if_icmp .ge 22, 3) := by decide +kernel
theorem dX6_init_30 : decode cX6_init 30 = .ok (.aload_n 0, 1) := by decide +kernel
theorem dX6_init_31 : decode cX6_init 31 = .ok (.getfield 16, 3) := by decide +kernel
theorem dX6_init_34 : decode cX6_init 34 = .ok (.iload_n 1, 1) := by decide +kernel
theorem dX6_init_35 : decode cX6_init 35 = .ok (.new 9, 3) := by decide +kernel
theorem dX6_init_38 : decode cX6_init 38 = .ok (.dup, 1) := by decide +kernel
theorem dX6_init_39 : decode cX6_init 39 = .ok (.invokespecial 11, 3) := by decide +kernel
theorem dX6_init_42 : decode cX6_init 42 = .ok (.aastore, 1) := by decide +kernel
theorem dX6_init_43 : decode cX6_init 43 = .ok (.iinc 1 1, 3) := by decide +kernel
theorem dX6_init_46 : decode cX6_init 46 = .ok (.goto (-21), 3) := by decide +kernel
theorem dX6_init_49 : decode cX6_init 49 = .ok (.aload_n 0, 1) := by decide +kernel
theorem dX6_init_50 : decode cX6_init 50 = .ok (.new 20, 3) := by decide +kernel
theorem dX6_init_53 : decode cX6_init 53 = .ok (.dup, 1) := by decide +kernel
theorem dX6_init_54 : decode cX6_init 54 = .ok (.invokespecial 22, 3) := by decide +kernel
theorem dX6_init_57 : decode cX6_init 57 = .ok (.putfield 23, 3) := by decide +kernel
theorem dX6_init_60 : decode cX6_init 60 = .ok (.aload_n 0, 1) := by decide +kernel
theorem dX6_init_61 : decode cX6_init 61 = .ok (.new 27, 3) := by decide +kernel
theorem dX6_init_64 : decode cX6_init 64 = .ok (.dup, 1) := by decide +kernel
theorem dX6_init_65 : decode cX6_init 65 = .ok (.invokespecial 29, 3) := by decide +kernel
theorem dX6_init_68 : decode cX6_init 68 = .ok (.putfield 30, 3) := by decide +kernel
theorem dX6_init_71 : decode cX6_init 71 = .ok (.aload_n 0, 1) := by decide +kernel
theorem dX6_init_72 : decode cX6_init 72 = .ok (.new 34, 3) := by decide +kernel
theorem dX6_init_75 : decode cX6_init 75 = .ok (.dup, 1) := by decide +kernel
theorem dX6_init_76 : decode cX6_init 76 = .ok (.invokespecial 36, 3) := by decide +kernel
theorem dX6_init_79 : decode cX6_init 79 = .ok (.putfield 37, 3) := by decide +kernel
theorem dX6_init_82 : decode cX6_init 82 = .ok (.aload_n 0, 1) := by decide +kernel
theorem dX6_init_83 : decode cX6_init 83 = .ok (.bipush 64, 2) := by decide +kernel
theorem dX6_init_85 : decode cX6_init 85 = .ok (.newarray .int, 2) := by decide +kernel
theorem dX6_init_87 : decode cX6_init 87 = .ok (.putfield 41, 3) := by decide +kernel
theorem dX6_init_90 : decode cX6_init 90 = .ok (.aload_n 0, 1) := by decide +kernel
theorem dX6_init_91 : decode cX6_init 91 = .ok (.bipush 7, 2) := by decide +kernel
theorem dX6_init_93 : decode cX6_init 93 = .ok (.newarray .long, 2) := by decide +kernel
theorem dX6_init_95 : decode cX6_init 95 = .ok (.putfield 45, 3) := by decide +kernel
theorem dX6_init_98 : decode cX6_init 98 = .ok (.return_, 1) := by decide +kernel
theorem dX6_dive_0 : decode cX6_dive 0 = .ok (.iload_n 1, 1) := by decide +kernel
theorem dX6_dive_1 : decode cX6_dive 1 = .ok (.iconst 0, 1) := by decide +kernel
theorem dX6_dive_2 : decode cX6_dive 2 = .ok (.bipush 6, 2) := by decide +kernel
theorem dX6_dive_4 : decode cX6_dive 4 = .ok (.invokestatic 49, 3) := by decide +kernel
theorem dX6_dive_7 : decode cX6_dive 7 = .ok (.ifCond .ne 5, 3) := by decide +kernel
theorem dX6_dive_10 : decode cX6_dive 10 = .ok (.iconst (-1), 1) := by decide +kernel
theorem dX6_dive_11 : decode cX6_dive 11 = .ok (.ireturn, 1) := by decide +kernel
theorem dX6_dive_12 : decode cX6_dive 12 = .ok (.iload_n 2, 1) := by decide +kernel
theorem dX6_dive_13 : decode cX6_dive 13 = .ok (.iconst 0, 1) := by decide +kernel
theorem dX6_dive_14 : decode cX6_dive 14 = .ok (.bipush 9, 2) := by decide +kernel
theorem dX6_dive_16 : decode cX6_dive 16 = .ok (.invokestatic 49, 3) := by decide +kernel
theorem dX6_dive_19 : decode cX6_dive 19 = .ok (.ifCond .eq 13, 3) := by decide +kernel
theorem dX6_dive_22 : decode cX6_dive 22 = .ok (.iload_n 3, 1) := by decide +kernel
theorem dX6_dive_23 : decode cX6_dive 23 = .ok (.iconst 0, 1) := by decide +kernel
theorem dX6_dive_24 : decode cX6_dive 24 = .ok (.bipush 99, 2) := by decide +kernel
theorem dX6_dive_26 : decode cX6_dive 26 = .ok (.invokestatic 49, 3) := by decide +kernel
theorem dX6_dive_29 : decode cX6_dive 29 = .ok (.ifCond .ne 6, 3) := by decide +kernel
theorem dX6_dive_32 : decode cX6_dive 32 = .ok (.bipush (-2), 2) := by decide +kernel
theorem dX6_dive_34 : decode cX6_dive 34 = .ok (.ireturn, 1) := by decide +kernel
theorem dX6_dive_35 : decode cX6_dive 35 = .ok (.aload_n 0, 1) := by decide +kernel
theorem dX6_dive_36 : decode cX6_dive 36 = .ok (.getfield 12, 3) := by decide +kernel
theorem dX6_dive_39 : decode cX6_dive 39 = .ok (.getfield 53, 3) := by decide +kernel
theorem dX6_dive_42 : decode cX6_dive 42 = .ok (.iload_n 1, 1) := by decide +kernel
theorem dX6_dive_43 : decode cX6_dive 43 = .ok (.iload_n 2, 1) := by decide +kernel
theorem dX6_dive_44 : decode cX6_dive 44 = .ok (.iload_n 3, 1) := by decide +kernel
theorem dX6_dive_45 : decode cX6_dive 45 = .ok (.invokevirtual 56, 3) := by decide +kernel
theorem dX6_dive_48 : decode cX6_dive 48 = .ok (.aload_n 0, 1) := by decide +kernel
theorem dX6_dive_49 : decode cX6_dive 49 = .ok (.getfield 12, 3) := by decide +kernel
theorem dX6_dive_52 : decode cX6_dive 52 = .ok (.getfield 53, 3) := by decide +kernel
theorem dX6_dive_55 : decode cX6_dive 55 = .ok (.getfield 60, 3) := by decide +kernel
theorem dX6_dive_58 : decode cX6_dive 58 = .ok (.invokestatic 64, 3) := by decide +kernel
theorem dX6_dive_61 : decode cX6_dive 61 = .ok (.ireturn, 1) := by decide +kernel
theorem dX6_leave_0 : decode cX6_leave 0 = .ok (.aload_n 0, 1) := by decide +kernel
theorem dX6_leave_1 : decode cX6_leave 1 = .ok (.getfield 12, 3) := by decide +kernel
theorem dX6_leave_4 : decode cX6_leave 4 = .ok (.getfield 53, 3) := by decide +kernel
theorem dX6_leave_7 : decode cX6_leave 7 = .ok (.iload_n 1, 1) := by decide +kernel
theorem dX6_leave_8 : decode cX6_leave 8 = .ok (.invokevirtual 70, 3) := by decide +kernel
theorem dX6_leave_11 : decode cX6_leave 11 = .ok (.ifCond .ne 5, 3) := by decide +kernel
theorem dX6_leave_14 : decode cX6_leave 14 = .ok (.iconst (-1), 1) := by decide +kernel
theorem dX6_leave_15 : decode cX6_leave 15 = .ok (.ireturn, 1) := by decide +kernel
theorem dX6_leave_16 : decode cX6_leave 16 = .ok (.aload_n 0, 1) := by decide +kernel
theorem dX6_leave_17 : decode cX6_leave 17 = .ok (.getfield 12, 3) := by decide +kernel
theorem dX6_leave_20 : decode cX6_leave 20 = .ok (.getfield 53, 3) := by decide +kernel
theorem dX6_leave_23 : decode cX6_leave 23 = .ok (.iload_n 1, 1) := by decide +kernel
theorem dX6_leave_24 : decode cX6_leave 24 = .ok (.invokevirtual 74, 3) := by decide +kernel
theorem dX6_leave_27 : decode cX6_leave 27 = .ok (.aload_n 0, 1) := by decide +kernel
theorem dX6_leave_28 : decode cX6_leave 28 = .ok (.getfield 12, 3) := by decide +kernel
theorem dX6_leave_31 : decode cX6_leave 31 = .ok (.getfield 53, 3) := by decide +kernel
theorem dX6_leave_34 : decode cX6_leave 34 = .ok (.getfield 78, 3) := by decide +kernel
theorem dX6_leave_37 : decode cX6_leave 37 = .ok (.invokestatic 64, 3) := by decide +kernel
theorem dX6_leave_40 : decode cX6_leave 40 = .ok (.ireturn, 1) := by decide +kernel
theorem dX6_set_0 : decode cX6_set 0 = .ok (.iload_n 1, 1) := by decide +kernel
theorem dX6_set_1 : decode cX6_set 1 = .ok (.ifCond .ne 37, 3) := by decide +kernel
theorem dX6_set_4 : decode cX6_set 4 = .ok (.iload_n 2, 1) := by decide +kernel
theorem dX6_set_5 : decode cX6_set 5 = .ok (.iconst 1, 1) := by decide +kernel
theorem dX6_set_6 : decode cX6_set 6 = .ok (.bipush 40, 2) := by decide +kernel
theorem dX6_set_8 : decode cX6_set 8 = .ok (.invokestatic 49, 3) := by decide +kernel
theorem dX6_set_11 : decode cX6_set 11 = .ok (.ifCond .eq 27, 3) := by decide +kernel
theorem dX6_set_14 : decode cX6_set 14 = .ok (.aload_n 0, 1) := by decide +kernel
theorem dX6_set_15 : decode cX6_set 15 = .ok (.getfield 12, 3) := by decide +kernel
theorem dX6_set_18 : decode cX6_set 18 = .ok (.getfield 53, 3) := by decide +kernel
theorem dX6_set_21 : decode cX6_set 21 = .ok (.getfield 81, 3) := by decide +kernel
theorem dX6_set_24 : decode cX6_set 24 = .ok (.istore_n 3, 1) := by decide +kernel
theorem dX6_set_25 : decode cX6_set 25 = .ok (.aload_n 0, 1) := by decide +kernel
theorem dX6_set_26 : decode cX6_set 26 = .ok (.getfield 12, 3) := by decide +kernel
theorem dX6_set_29 : decode cX6_set 29 = .ok (.getfield 53, 3) := by decide +kernel
theorem dX6_set_32 : decode cX6_set 32 = .ok (.iload_n 2, 1) := by decide +kernel
theorem dX6_set_33 : decode cX6_set 33 = .ok (.putfield 81, 3) := by decide +kernel
theorem dX6_set_36 : decode cX6_set 36 = .ok (.iload_n 3, 1) := by decide +kernel
theorem dX6_set_37 : decode cX6_set 37 = .ok (.ireturn, 1) := by decide +kernel
theorem dX6_set_38 : decode cX6_set 38 = .ok (.iload_n 1, 1) := by decide +kernel
theorem dX6_set_39 : decode cX6_set 39 = .ok (.iconst 1, 1) := by decide +kernel
theorem dX6_set_40 : decode cX6_set 40 = .ok (.if_icmp .ne 37, 3) := by decide +kernel
theorem dX6_set_43 : decode cX6_set 43 = .ok (.iload_n 2, 1) := by decide +kernel
theorem dX6_set_44 : decode cX6_set 44 = .ok (.iconst 0, 1) := by decide +kernel
theorem dX6_set_45 : decode cX6_set 45 = .ok (.bipush 9, 2) := by decide +kernel
theorem dX6_set_47 : decode cX6_set 47 = .ok (.invokestatic 49, 3) := by decide +kernel
theorem dX6_set_50 : decode cX6_set 50 = .ok (.ifCond .eq 27, 3) := by decide +kernel
theorem dX6_set_53 : decode cX6_set 53 = .ok (.aload_n 0, 1) := by decide +kernel
theorem dX6_set_54 : decode cX6_set 54 = .ok (.getfield 12, 3) := by decide +kernel
theorem dX6_set_57 : decode cX6_set 57 = .ok (.getfield 53, 3) := by decide +kernel
theorem dX6_set_60 : decode cX6_set 60 = .ok (.getfield 84, 3) := by decide +kernel
theorem dX6_set_63 : decode cX6_set 63 = .ok (.istore_n 3, 1) := by decide +kernel
theorem dX6_set_64 : decode cX6_set 64 = .ok (.aload_n 0, 1) := by decide +kernel
theorem dX6_set_65 : decode cX6_set 65 = .ok (.getfield 12, 3) := by decide +kernel
theorem dX6_set_68 : decode cX6_set 68 = .ok (.getfield 53, 3) := by decide +kernel
theorem dX6_set_71 : decode cX6_set 71 = .ok (.iload_n 2, 1) := by decide +kernel
theorem dX6_set_72 : decode cX6_set 72 = .ok (.putfield 84, 3) := by decide +kernel
theorem dX6_set_75 : decode cX6_set 75 = .ok (.iload_n 3, 1) := by decide +kernel
theorem dX6_set_76 : decode cX6_set 76 = .ok (.ireturn, 1) := by decide +kernel
theorem dX6_set_77 : decode cX6_set 77 = .ok (.bipush (-2), 2) := by decide +kernel
theorem dX6_set_79 : decode cX6_set 79 = .ok (.ireturn, 1) := by decide +kernel
theorem dX6_close_0 : decode cX6_close 0 = .ok (.aload_n 0, 1) := by decide +kernel
theorem dX6_close_1 : decode cX6_close 1 = .ok (.getfield 12, 3) := by decide +kernel
theorem dX6_close_4 : decode cX6_close 4 = .ok (.getfield 53, 3) := by decide +kernel
theorem dX6_close_7 : decode cX6_close 7 = .ok (.getfield 87, 3) := by decide +kernel
theorem dX6_close_10 : decode cX6_close 10 = .ok (.getfield 91, 3) := by decide +kernel
theorem dX6_close_13 : decode cX6_close 13 = .ok (.istore_n 1, 1) := by decide +kernel
theorem dX6_close_14 : decode cX6_close 14 = .ok (.aload_n 0, 1) := by decide +kernel
theorem dX6_close_15 : decode cX6_close 15 = .ok (.getfield 12, 3) := by decide +kernel
theorem dX6_close_18 : decode cX6_close 18 = .ok (.getfield 53, 3) := by decide +kernel
theorem dX6_close_21 : decode cX6_close 21 = .ok (.getfield 87, 3) := by decide +kernel
theorem dX6_close_24 : decode cX6_close 24 = .ok (.invokevirtual 96, 3) := by decide +kernel
theorem dX6_close_27 : decode cX6_close 27 = .ok (.aload_n 0, 1) := by decide +kernel
theorem dX6_close_28 : decode cX6_close 28 = .ok (.getfield 12, 3) := by decide +kernel
theorem dX6_close_31 : decode cX6_close 31 = .ok (.getfield 53, 3) := by decide +kernel
theorem dX6_close_34 : decode cX6_close 34 = .ok (.iconst 0, 1) := by decide +kernel
theorem dX6_close_35 : decode cX6_close 35 = .ok (.putfield 99, 3) := by decide +kernel
theorem dX6_close_38 : decode cX6_close 38 = .ok (.iload_n 1, 1) := by decide +kernel
theorem dX6_close_39 : decode cX6_close 39 = .ok (.ireturn, 1) := by decide +kernel
theorem dX6_say_0 : decode cX6_say 0 = .ok (.iload_n 1, 1) := by decide +kernel
theorem dX6_say_1 : decode cX6_say 1 = .ok (.bipush 33, 2) := by decide +kernel
theorem dX6_say_3 : decode cX6_say 3 = .ok (.bipush 126, 2) := by decide +kernel
theorem dX6_say_5 : decode cX6_say 5 = .ok (.invokestatic 49, 3) := by decide +kernel
theorem dX6_say_8 : decode cX6_say 8 = .ok (.ifCond .ne 6, 3) := by decide +kernel
theorem dX6_say_11 : decode cX6_say 11 = .ok (.bipush (-2), 2) := by decide +kernel
theorem dX6_say_13 : decode cX6_say 13 = .ok (.ireturn, 1) := by decide +kernel
theorem dX6_say_14 : decode cX6_say 14 = .ok (.aload_n 0, 1) := by decide +kernel
theorem dX6_say_15 : decode cX6_say 15 = .ok (.getfield 30, 3) := by decide +kernel
theorem dX6_say_18 : decode cX6_say 18 = .ok (.getfield 102, 3) := by decide +kernel
theorem dX6_say_21 : decode cX6_say 21 = .ok (.bipush 60, 2) := by decide +kernel
theorem dX6_say_23 : decode cX6_say 23 = .ok (.if_icmp .lt 6, 3) := by decide +kernel
theorem dX6_say_26 : decode cX6_say 26 = .ok (.bipush (-4), 2) := by decide +kernel
theorem dX6_say_28 : decode cX6_say 28 = .ok (.ireturn, 1) := by decide +kernel
theorem dX6_say_29 : decode cX6_say 29 = .ok (.aload_n 0, 1) := by decide +kernel
theorem dX6_say_30 : decode cX6_say 30 = .ok (.getfield 30, 3) := by decide +kernel
theorem dX6_say_33 : decode cX6_say 33 = .ok (.iload_n 1, 1) := by decide +kernel
theorem dX6_say_34 : decode cX6_say 34 = .ok (.invokevirtual 105, 3) := by decide +kernel
theorem dX6_say_37 : decode cX6_say 37 = .ok (.aload_n 0, 1) := by decide +kernel
theorem dX6_say_38 : decode cX6_say 38 = .ok (.getfield 30, 3) := by decide +kernel
theorem dX6_say_41 : decode cX6_say 41 = .ok (.getfield 102, 3) := by decide +kernel
theorem dX6_say_44 : decode cX6_say 44 = .ok (.ireturn, 1) := by decide +kernel
theorem dX6_wipe_0 : decode cX6_wipe 0 = .ok (.aload_n 0, 1) := by decide +kernel
theorem dX6_wipe_1 : decode cX6_wipe 1 = .ok (.getfield 30, 3) := by decide +kernel
theorem dX6_wipe_4 : decode cX6_wipe 4 = .ok (.getfield 102, 3) := by decide +kernel
theorem dX6_wipe_7 : decode cX6_wipe 7 = .ok (.istore_n 1, 1) := by decide +kernel
theorem dX6_wipe_8 : decode cX6_wipe 8 = .ok (.aload_n 0, 1) := by decide +kernel
theorem dX6_wipe_9 : decode cX6_wipe 9 = .ok (.getfield 30, 3) := by decide +kernel
theorem dX6_wipe_12 : decode cX6_wipe 12 = .ok (.iconst 0, 1) := by decide +kernel
theorem dX6_wipe_13 : decode cX6_wipe 13 = .ok (.putfield 102, 3) := by decide +kernel
theorem dX6_wipe_16 : decode cX6_wipe 16 = .ok (.iload_n 1, 1) := by decide +kernel
theorem dX6_wipe_17 : decode cX6_wipe 17 = .ok (.ireturn, 1) := by decide +kernel
theorem dX6_fault_0 : decode cX6_fault 0 = .ok (.aload_n 0, 1) := by decide +kernel
theorem dX6_fault_1 : decode cX6_fault 1 = .ok (.getfield 30, 3) := by decide +kernel
theorem dX6_fault_4 : decode cX6_fault 4 = .ok (.invokevirtual 108, 3) := by decide +kernel
theorem dX6_fault_7 : decode cX6_fault 7 = .ok (.ireturn, 1) := by decide +kernel
theorem dX6_judge_0 : decode cX6_judge 0 = .ok (.iload_n 1, 1) := by decide +kernel
theorem dX6_judge_1 : decode cX6_judge 1 = .ok (.iconst 0, 1) := by decide +kernel
theorem dX6_judge_2 : decode cX6_judge 2 = .ok (.iconst 1, 1) := by decide +kernel
theorem dX6_judge_3 : decode cX6_judge 3 = .ok (.invokestatic 49, 3) := by decide +kernel
theorem dX6_judge_6 : decode cX6_judge 6 = .ok (.ifCond .ne 6, 3) := by decide +kernel
theorem dX6_judge_9 : decode cX6_judge 9 = .ok (.bipush (-2), 2) := by decide +kernel
theorem dX6_judge_11 : decode cX6_judge 11 = .ok (.ireturn, 1) := by decide +kernel
theorem dX6_judge_12 : decode cX6_judge 12 = .ok (.aload_n 0, 1) := by decide +kernel
theorem dX6_judge_13 : decode cX6_judge 13 = .ok (.getfield 30, 3) := by decide +kernel
theorem dX6_judge_16 : decode cX6_judge 16 = .ok (.invokevirtual 108, 3) := by decide +kernel
theorem dX6_judge_19 : decode cX6_judge 19 = .ok (.bipush (-6), 2) := by decide +kernel
theorem dX6_judge_21 : decode cX6_judge 21 = .ok (.if_icmp .eq 6, 3) := by decide +kernel
theorem dX6_judge_24 : decode cX6_judge 24 = .ok (.bipush (-5), 2) := by decide +kernel
theorem dX6_judge_26 : decode cX6_judge 26 = .ok (.ireturn, 1) := by decide +kernel
theorem dX6_judge_27 : decode cX6_judge 27 = .ok (.aload_n 0, 1) := by decide +kernel
theorem dX6_judge_28 : decode cX6_judge 28 = .ok (.invokevirtual 112, 3) := by decide +kernel
theorem dX6_judge_31 : decode cX6_judge 31 = .ok (.ifCond .eq 6, 3) := by decide +kernel
theorem dX6_judge_34 : decode cX6_judge 34 = .ok (.bipush (-6), 2) := by decide +kernel
theorem dX6_judge_36 : decode cX6_judge 36 = .ok (.ireturn, 1) := by decide +kernel
theorem dX6_judge_37 : decode cX6_judge 37 = .ok (.iload_n 1, 1) := by decide +kernel
theorem dX6_judge_38 : decode cX6_judge 38 = .ok (.ifCond .ne 13, 3) := by decide +kernel
theorem dX6_judge_41 : decode cX6_judge 41 = .ok (.aload_n 0, 1) := by decide +kernel
theorem dX6_judge_42 : decode cX6_judge 42 = .ok (.getfield 37, 3) := by decide +kernel
theorem dX6_judge_45 : decode cX6_judge 45 = .ok (.getfield 116, 3) := by decide +kernel
theorem dX6_judge_48 : decode cX6_judge 48 = .ok (.goto 10, 3) := by decide +kernel
theorem dX6_judge_51 : decode cX6_judge 51 = .ok (.aload_n 0, 1) := by decide +kernel
theorem dX6_judge_52 : decode cX6_judge 52 = .ok (.getfield 37, 3) := by decide +kernel
theorem dX6_judge_55 : decode cX6_judge 55 = .ok (.getfield 119, 3) := by decide +kernel
theorem dX6_judge_58 : decode cX6_judge 58 = .ok (.ireturn, 1) := by decide +kernel
theorem dX6_done_0 : decode cX6_done 0 = .ok (.aload_n 0, 1) := by decide +kernel
theorem dX6_done_1 : decode cX6_done 1 = .ok (.invokevirtual 112, 3) := by decide +kernel
theorem dX6_done_4 : decode cX6_done 4 = .ok (.ifCond .ne 6, 3) := by decide +kernel
theorem dX6_done_7 : decode cX6_done 7 = .ok (.bipush (-5), 2) := by decide +kernel
theorem dX6_done_9 : decode cX6_done 9 = .ok (.ireturn, 1) := by decide +kernel
theorem dX6_done_10 : decode cX6_done 10 = .ok (.aload_n 0, 1) := by decide +kernel
theorem dX6_done_11 : decode cX6_done 11 = .ok (.getfield 12, 3) := by decide +kernel
theorem dX6_done_14 : decode cX6_done 14 = .ok (.getfield 53, 3) := by decide +kernel
theorem dX6_done_17 : decode cX6_done 17 = .ok (.aload_n 0, 1) := by decide +kernel
theorem dX6_done_18 : decode cX6_done 18 = .ok (.getfield 23, 3) := by decide +kernel
theorem dX6_done_21 : decode cX6_done 21 = .ok (.invokevirtual 122, 3) := by decide +kernel
theorem dX6_done_24 : decode cX6_done 24 = .ok (.aload_n 0, 1) := by decide +kernel
theorem dX6_done_25 : decode cX6_done 25 = .ok (.getfield 30, 3) := by decide +kernel
theorem dX6_done_28 : decode cX6_done 28 = .ok (.iconst 0, 1) := by decide +kernel
theorem dX6_done_29 : decode cX6_done 29 = .ok (.putfield 102, 3) := by decide +kernel
theorem dX6_done_32 : decode cX6_done 32 = .ok (.aload_n 0, 1) := by decide +kernel
theorem dX6_done_33 : decode cX6_done 33 = .ok (.getfield 37, 3) := by decide +kernel
theorem dX6_done_36 : decode cX6_done 36 = .ok (.getfield 116, 3) := by decide +kernel
theorem dX6_done_39 : decode cX6_done 39 = .ok (.ireturn, 1) := by decide +kernel
theorem dX6_behind_0 : decode cX6_behind 0 = .ok (.aload_n 0, 1) := by decide +kernel
theorem dX6_behind_1 : decode cX6_behind 1 = .ok (.getfield 12, 3) := by decide +kernel
theorem dX6_behind_4 : decode cX6_behind 4 = .ok (.getfield 53, 3) := by decide +kernel
theorem dX6_behind_7 : decode cX6_behind 7 = .ok (.iload_n 1, 1) := by decide +kernel
theorem dX6_behind_8 : decode cX6_behind 8 = .ok (.invokevirtual 70, 3) := by decide +kernel
theorem dX6_behind_11 : decode cX6_behind 11 = .ok (.ifCond .ne 5, 3) := by decide +kernel
theorem dX6_behind_14 : decode cX6_behind 14 = .ok (.iconst (-1), 1) := by decide +kernel
theorem dX6_behind_15 : decode cX6_behind 15 = .ok (.ireturn, 1) := by decide +kernel
theorem dX6_behind_16 : decode cX6_behind 16 = .ok (.iload_n 2, 1) := by decide +kernel
theorem dX6_behind_17 : decode cX6_behind 17 = .ok (.iconst 0, 1) := by decide +kernel
theorem dX6_behind_18 : decode cX6_behind 18 = .ok (.iconst 1, 1) := by decide +kernel
theorem dX6_behind_19 : decode cX6_behind 19 = .ok (.invokestatic 49, 3) := by decide +kernel
theorem dX6_behind_22 : decode cX6_behind 22 = .ok (.ifCond .ne 6, 3) := by decide +kernel
theorem dX6_behind_25 : decode cX6_behind 25 = .ok (.bipush (-2), 2) := by decide +kernel
theorem dX6_behind_27 : decode cX6_behind 27 = .ok (.ireturn, 1) := by decide +kernel
theorem dX6_behind_28 : decode cX6_behind 28 = .ok (.aload_n 0, 1) := by decide +kernel
theorem dX6_behind_29 : decode cX6_behind 29 = .ok (.invokevirtual 112, 3) := by decide +kernel
theorem dX6_behind_32 : decode cX6_behind 32 = .ok (.ifCond .ne 6, 3) := by decide +kernel
theorem dX6_behind_35 : decode cX6_behind 35 = .ok (.bipush (-5), 2) := by decide +kernel
theorem dX6_behind_37 : decode cX6_behind 37 = .ok (.ireturn, 1) := by decide +kernel
theorem dX6_behind_38 : decode cX6_behind 38 = .ok (.iload_n 2, 1) := by decide +kernel
theorem dX6_behind_39 : decode cX6_behind 39 = .ok (.ifCond .ne 12, 3) := by decide +kernel
theorem dX6_behind_42 : decode cX6_behind 42 = .ok (.aload_n 0, 1) := by decide +kernel
theorem dX6_behind_43 : decode cX6_behind 43 = .ok (.getfield 23, 3) := by decide +kernel
theorem dX6_behind_46 : decode cX6_behind 46 = .ok (.iload_n 1, 1) := by decide +kernel
theorem dX6_behind_47 : decode cX6_behind 47 = .ok (.invokevirtual 126, 3) := by decide +kernel
theorem dX6_behind_50 : decode cX6_behind 50 = .ok (.ireturn, 1) := by decide +kernel
theorem dX6_behind_51 : decode cX6_behind 51 = .ok (.aload_n 0, 1) := by decide +kernel
theorem dX6_behind_52 : decode cX6_behind 52 = .ok (.getfield 23, 3) := by decide +kernel
theorem dX6_behind_55 : decode cX6_behind 55 = .ok (.iload_n 1, 1) := by decide +kernel
theorem dX6_behind_56 : decode cX6_behind 56 = .ok (.invokevirtual 129, 3) := by decide +kernel
theorem dX6_behind_59 : decode cX6_behind 59 = .ok (.ifCond .eq 7, 3) := by decide +kernel
theorem dX6_behind_62 : decode cX6_behind 62 = .ok (.iconst 1, 1) := by decide +kernel
theorem dX6_behind_63 : decode cX6_behind 63 = .ok (.goto 4, 3) := by decide +kernel
theorem dX6_behind_66 : decode cX6_behind 66 = .ok (.iconst 0, 1) := by decide +kernel
theorem dX6_behind_67 : decode cX6_behind 67 = .ok (.ireturn, 1) := by decide +kernel
theorem dX6_then_0 : decode cX6_then 0 = .ok (.iload_n 1, 1) := by decide +kernel
theorem dX6_then_1 : decode cX6_then 1 = .ok (.iconst 0, 1) := by decide +kernel
theorem dX6_then_2 : decode cX6_then 2 = .ok (.iconst 3, 1) := by decide +kernel
theorem dX6_then_3 : decode cX6_then 3 = .ok (.invokestatic 49, 3) := by decide +kernel
theorem dX6_then_6 : decode cX6_then 6 = .ok (.ifCond .ne 6, 3) := by decide +kernel
theorem dX6_then_9 : decode cX6_then 9 = .ok (.bipush (-2), 2) := by decide +kernel
theorem dX6_then_11 : decode cX6_then 11 = .ok (.ireturn, 1) := by decide +kernel
theorem dX6_then_12 : decode cX6_then 12 = .ok (.aload_n 0, 1) := by decide +kernel
theorem dX6_then_13 : decode cX6_then 13 = .ok (.invokevirtual 112, 3) := by decide +kernel
theorem dX6_then_16 : decode cX6_then 16 = .ok (.ifCond .ne 6, 3) := by decide +kernel
theorem dX6_then_19 : decode cX6_then 19 = .ok (.bipush (-5), 2) := by decide +kernel
theorem dX6_then_21 : decode cX6_then 21 = .ok (.ireturn, 1) := by decide +kernel
theorem dX6_then_22 : decode cX6_then 22 = .ok (.iload_n 1, 1) := by decide +kernel
theorem dX6_then_23 : decode cX6_then 23 = .ok (.tableswitch 49 0 2 #[25, 33, 41], 25) := by decide +kernel
theorem dX6_then_48 : decode cX6_then 48 = .ok (.aload_n 0, 1) := by decide +kernel
theorem dX6_then_49 : decode cX6_then 49 = .ok (.getfield 23, 3) := by decide +kernel
theorem dX6_then_52 : decode cX6_then 52 = .ok (.getfield 60, 3) := by decide +kernel
theorem dX6_then_55 : decode cX6_then 55 = .ok (.ireturn, 1) := by decide +kernel
theorem dX6_then_56 : decode cX6_then 56 = .ok (.aload_n 0, 1) := by decide +kernel
theorem dX6_then_57 : decode cX6_then 57 = .ok (.getfield 23, 3) := by decide +kernel
theorem dX6_then_60 : decode cX6_then 60 = .ok (.getfield 99, 3) := by decide +kernel
theorem dX6_then_63 : decode cX6_then 63 = .ok (.ireturn, 1) := by decide +kernel
theorem dX6_then_64 : decode cX6_then 64 = .ok (.aload_n 0, 1) := by decide +kernel
theorem dX6_then_65 : decode cX6_then 65 = .ok (.getfield 23, 3) := by decide +kernel
theorem dX6_then_68 : decode cX6_then 68 = .ok (.getfield 84, 3) := by decide +kernel
theorem dX6_then_71 : decode cX6_then 71 = .ok (.ireturn, 1) := by decide +kernel
theorem dX6_then_72 : decode cX6_then 72 = .ok (.aload_n 0, 1) := by decide +kernel
theorem dX6_then_73 : decode cX6_then 73 = .ok (.getfield 23, 3) := by decide +kernel
theorem dX6_then_76 : decode cX6_then 76 = .ok (.getfield 87, 3) := by decide +kernel
theorem dX6_then_79 : decode cX6_then 79 = .ok (.getfield 91, 3) := by decide +kernel
theorem dX6_then_82 : decode cX6_then 82 = .ok (.ireturn, 1) := by decide +kernel
theorem dX6_word_0 : decode cX6_word 0 = .ok (.iload_n 2, 1) := by decide +kernel
theorem dX6_word_1 : decode cX6_word 1 = .ok (.iconst 0, 1) := by decide +kernel
theorem dX6_word_2 : decode cX6_word 2 = .ok (.iconst 2, 1) := by decide +kernel
theorem dX6_word_3 : decode cX6_word 3 = .ok (.invokestatic 49, 3) := by decide +kernel
theorem dX6_word_6 : decode cX6_word 6 = .ok (.ifCond .ne 6, 3) := by decide +kernel
theorem dX6_word_9 : decode cX6_word 9 = .ok (.bipush (-2), 2) := by decide +kernel
theorem dX6_word_11 : decode cX6_word 11 = .ok (.ireturn, 1) := by decide +kernel
theorem dX6_word_12 : decode cX6_word 12 = .ok (.aload_n 0, 1) := by decide +kernel
theorem dX6_word_13 : decode cX6_word 13 = .ok (.getfield 12, 3) := by decide +kernel
theorem dX6_word_16 : decode cX6_word 16 = .ok (.getfield 53, 3) := by decide +kernel
theorem dX6_word_19 : decode cX6_word 19 = .ok (.getfield 87, 3) := by decide +kernel
theorem dX6_word_22 : decode cX6_word 22 = .ok (.astore_n 3, 1) := by decide +kernel
theorem dX6_word_23 : decode cX6_word 23 = .ok (.iload_n 1, 1) := by decide +kernel
theorem dX6_word_24 : decode cX6_word 24 = .ok (.iconst (-1), 1) := by decide +kernel
theorem dX6_word_25 : decode cX6_word 25 = .ok (.if_icmp .ne 8, 3) := by decide +kernel
theorem dX6_word_28 : decode cX6_word 28 = .ok (.aload_n 3, 1) := by decide +kernel
theorem dX6_word_29 : decode cX6_word 29 = .ok (.getfield 132, 3) := by decide +kernel
theorem dX6_word_32 : decode cX6_word 32 = .ok (.ireturn, 1) := by decide +kernel
theorem dX6_word_33 : decode cX6_word 33 = .ok (.iload_n 1, 1) := by decide +kernel
theorem dX6_word_34 : decode cX6_word 34 = .ok (.iconst 0, 1) := by decide +kernel
theorem dX6_word_35 : decode cX6_word 35 = .ok (.aload_n 3, 1) := by decide +kernel
theorem dX6_word_36 : decode cX6_word 36 = .ok (.getfield 132, 3) := by decide +kernel
theorem dX6_word_39 : decode cX6_word 39 = .ok (.iconst 1, 1) := by decide +kernel
theorem dX6_word_40 : decode cX6_word 40 = .ok (.isub, 1) := by decide +kernel
theorem dX6_word_41 : decode cX6_word 41 = .ok (.invokestatic 49, 3) := by decide +kernel
theorem dX6_word_44 : decode cX6_word 44 = .ok (.ifCond .ne 5, 3) := by decide +kernel
theorem dX6_word_47 : decode cX6_word 47 = .ok (.iconst (-1), 1) := by decide +kernel
theorem dX6_word_48 : decode cX6_word 48 = .ok (.ireturn, 1) := by decide +kernel
theorem dX6_word_49 : decode cX6_word 49 = .ok (.iload_n 2, 1) := by decide +kernel
theorem dX6_word_50 : decode cX6_word 50 = .ok (.lookupswitch 38 #[(0, 26), (1, 32)], 26) := by decide +kernel
theorem dX6_word_76 : decode cX6_word 76 = .ok (.aload_n 3, 1) := by decide +kernel
theorem dX6_word_77 : decode cX6_word 77 = .ok (.iload_n 1, 1) := by decide +kernel
theorem dX6_word_78 : decode cX6_word 78 = .ok (.invokevirtual 135, 3) := by decide +kernel
theorem dX6_word_81 : decode cX6_word 81 = .ok (.ireturn, 1) := by decide +kernel
theorem dX6_word_82 : decode cX6_word 82 = .ok (.aload_n 3, 1) := by decide +kernel
theorem dX6_word_83 : decode cX6_word 83 = .ok (.iload_n 1, 1) := by decide +kernel
theorem dX6_word_84 : decode cX6_word 84 = .ok (.invokevirtual 138, 3) := by decide +kernel
theorem dX6_word_87 : decode cX6_word 87 = .ok (.ireturn, 1) := by decide +kernel
theorem dX6_word_88 : decode cX6_word 88 = .ok (.aload_n 3, 1) := by decide +kernel
theorem dX6_word_89 : decode cX6_word 89 = .ok (.iload_n 1, 1) := by decide +kernel
theorem dX6_word_90 : decode cX6_word 90 = .ok (.invokevirtual 141, 3) := by decide +kernel
theorem dX6_word_93 : decode cX6_word 93 = .ok (.ireturn, 1) := by decide +kernel
theorem dX6_votes_0 : decode cX6_votes 0 = .ok (.iload_n 1, 1) := by decide +kernel
theorem dX6_votes_1 : decode cX6_votes 1 = .ok (.iconst 0, 1) := by decide +kernel
theorem dX6_votes_2 : decode cX6_votes 2 = .ok (.sipush 999, 3) := by decide +kernel
theorem dX6_votes_5 : decode cX6_votes 5 = .ok (.invokestatic 49, 3) := by decide +kernel
theorem dX6_votes_8 : decode cX6_votes 8 = .ok (.ifCond .eq 23, 3) := by decide +kernel
theorem dX6_votes_11 : decode cX6_votes 11 = .ok (.iload_n 2, 1) := by decide +kernel
theorem dX6_votes_12 : decode cX6_votes 12 = .ok (.iconst 0, 1) := by decide +kernel
theorem dX6_votes_13 : decode cX6_votes 13 = .ok (.sipush 999, 3) := by decide +kernel
theorem dX6_votes_16 : decode cX6_votes 16 = .ok (.invokestatic 49, 3) := by decide +kernel
theorem dX6_votes_19 : decode cX6_votes 19 = .ok (.ifCond .eq 12, 3) := by decide +kernel
theorem dX6_votes_22 : decode cX6_votes 22 = .ok (.iload_n 3, 1) := by decide +kernel
theorem dX6_votes_23 : decode cX6_votes 23 = .ok (.iconst 0, 1) := by decide +kernel
theorem dX6_votes_24 : decode cX6_votes 24 = .ok (.iconst 1, 1) := by decide +kernel
theorem dX6_votes_25 : decode cX6_votes 25 = .ok (.invokestatic 49, 3) := by decide +kernel
theorem dX6_votes_28 : decode cX6_votes 28 = .ok (.ifCond .ne 6, 3) := by decide +kernel
theorem dX6_votes_31 : decode cX6_votes 31 = .ok (.bipush (-2), 2) := by decide +kernel
theorem dX6_votes_33 : decode cX6_votes 33 = .ok (.ireturn, 1) := by decide +kernel
theorem dX6_votes_34 : decode cX6_votes 34 = .ok (.aload_n 0, 1) := by decide +kernel
theorem dX6_votes_35 : decode cX6_votes 35 = .ok (.getfield 12, 3) := by decide +kernel
theorem dX6_votes_38 : decode cX6_votes 38 = .ok (.getfield 53, 3) := by decide +kernel
theorem dX6_votes_41 : decode cX6_votes 41 = .ok (.getfield 87, 3) := by decide +kernel
theorem dX6_votes_44 : decode cX6_votes 44 = .ok (.iload_n 1, 1) := by decide +kernel
theorem dX6_votes_45 : decode cX6_votes 45 = .ok (.iload_n 2, 1) := by decide +kernel
theorem dX6_votes_46 : decode cX6_votes 46 = .ok (.iload_n 3, 1) := by decide +kernel
theorem dX6_votes_47 : decode cX6_votes 47 = .ok (.ifCond .ne 7, 3) := by decide +kernel
theorem dX6_votes_50 : decode cX6_votes 50 = .ok (.iconst 1, 1) := by decide +kernel
theorem dX6_votes_51 : decode cX6_votes 51 = .ok (.goto 4, 3) := by decide +kernel
theorem dX6_votes_54 : decode cX6_votes 54 = .ok (.iconst 0, 1) := by decide +kernel
theorem dX6_votes_55 : decode cX6_votes 55 = .ok (.invokevirtual 144, 3) := by decide +kernel
theorem dX6_votes_58 : decode cX6_votes 58 = .ok (.ireturn, 1) := by decide +kernel
theorem dX6_falls_0 : decode cX6_falls 0 = .ok (.aload_n 0, 1) := by decide +kernel
theorem dX6_falls_1 : decode cX6_falls 1 = .ok (.getfield 12, 3) := by decide +kernel
theorem dX6_falls_4 : decode cX6_falls 4 = .ok (.getfield 53, 3) := by decide +kernel
theorem dX6_falls_7 : decode cX6_falls 7 = .ok (.astore_n 1, 1) := by decide +kernel
theorem dX6_falls_8 : decode cX6_falls 8 = .ok (.iconst 0, 1) := by decide +kernel
theorem dX6_falls_9 : decode cX6_falls 9 = .ok (.istore_n 2, 1) := by decide +kernel
theorem dX6_falls_10 : decode cX6_falls 10 = .ok (.iconst 0, 1) := by decide +kernel
theorem dX6_falls_11 : decode cX6_falls 11 = .ok (.istore_n 3, 1) := by decide +kernel
theorem dX6_falls_12 : decode cX6_falls 12 = .ok (.iload_n 3, 1) := by decide +kernel
theorem dX6_falls_13 : decode cX6_falls 13 = .ok (.bipush 7, 2) := by decide +kernel
theorem dX6_falls_15 : decode cX6_falls 15 = .ok (.if_icmp .ge 29, 3) := by decide +kernel
theorem dX6_falls_18 : decode cX6_falls 18 = .ok (.aload_n 1, 1) := by decide +kernel
theorem dX6_falls_19 : decode cX6_falls 19 = .ok (.iload_n 3, 1) := by decide +kernel
theorem dX6_falls_20 : decode cX6_falls 20 = .ok (.invokevirtual 129, 3) := by decide +kernel
theorem dX6_falls_23 : decode cX6_falls 23 = .ok (.ifCond .eq 15, 3) := by decide +kernel
theorem dX6_falls_26 : decode cX6_falls 26 = .ok (.iload_n 2, 1) := by decide +kernel
theorem dX6_falls_27 : decode cX6_falls 27 = .ok (.aload_n 1, 1) := by decide +kernel
theorem dX6_falls_28 : decode cX6_falls 28 = .ok (.iload_n 3, 1) := by decide +kernel
theorem dX6_falls_29 : decode cX6_falls 29 = .ok (.invokevirtual 126, 3) := by decide +kernel
theorem dX6_falls_32 : decode cX6_falls 32 = .ok (.iconst 1, 1) := by decide +kernel
theorem dX6_falls_33 : decode cX6_falls 33 = .ok (.iadd, 1) := by decide +kernel
theorem dX6_falls_34 : decode cX6_falls 34 = .ok (.invokestatic 148, 3) := by decide +kernel
theorem dX6_falls_37 : decode cX6_falls 37 = .ok (.istore_n 2, 1) := by decide +kernel
theorem dX6_falls_38 : decode cX6_falls 38 = .ok (.iinc 3 1, 3) := by decide +kernel
theorem dX6_falls_41 : decode cX6_falls 41 = .ok (.goto (-29), 3) := by decide +kernel
theorem dX6_falls_44 : decode cX6_falls 44 = .ok (.iload_n 2, 1) := by decide +kernel
theorem dX6_falls_45 : decode cX6_falls 45 = .ok (.ireturn, 1) := by decide +kernel
theorem dX6_speak_0 : decode cX6_speak 0 = .ok (.aload_n 0, 1) := by decide +kernel
theorem dX6_speak_1 : decode cX6_speak 1 = .ok (.getfield 12, 3) := by decide +kernel
theorem dX6_speak_4 : decode cX6_speak 4 = .ok (.getfield 53, 3) := by decide +kernel
theorem dX6_speak_7 : decode cX6_speak 7 = .ok (.astore 5, 2) := by decide +kernel
theorem dX6_speak_9 : decode cX6_speak 9 = .ok (.aload 5, 2) := by decide +kernel
theorem dX6_speak_11 : decode cX6_speak 11 = .ok (.iload_n 1, 1) := by decide +kernel
theorem dX6_speak_12 : decode cX6_speak 12 = .ok (.invokevirtual 129, 3) := by decide +kernel
theorem dX6_speak_15 : decode cX6_speak 15 = .ok (.ifCond .ne 5, 3) := by decide +kernel
theorem dX6_speak_18 : decode cX6_speak 18 = .ok (.iconst (-1), 1) := by decide +kernel
theorem dX6_speak_19 : decode cX6_speak 19 = .ok (.ireturn, 1) := by decide +kernel
theorem dX6_speak_20 : decode cX6_speak 20 = .ok (.iload_n 2, 1) := by decide +kernel
theorem dX6_speak_21 : decode cX6_speak 21 = .ok (.iconst 0, 1) := by decide +kernel
theorem dX6_speak_22 : decode cX6_speak 22 = .ok (.bipush 9, 2) := by decide +kernel
theorem dX6_speak_24 : decode cX6_speak 24 = .ok (.invokestatic 49, 3) := by decide +kernel
theorem dX6_speak_27 : decode cX6_speak 27 = .ok (.ifCond .eq 24, 3) := by decide +kernel
theorem dX6_speak_30 : decode cX6_speak 30 = .ok (.iload_n 3, 1) := by decide +kernel
theorem dX6_speak_31 : decode cX6_speak 31 = .ok (.iconst 0, 1) := by decide +kernel
theorem dX6_speak_32 : decode cX6_speak 32 = .ok (.sipush 999, 3) := by decide +kernel
theorem dX6_speak_35 : decode cX6_speak 35 = .ok (.invokestatic 49, 3) := by decide +kernel
theorem dX6_speak_38 : decode cX6_speak 38 = .ok (.ifCond .eq 13, 3) := by decide +kernel
theorem dX6_speak_41 : decode cX6_speak 41 = .ok (.iload 4, 2) := by decide +kernel
theorem dX6_speak_43 : decode cX6_speak 43 = .ok (.iconst 0, 1) := by decide +kernel
theorem dX6_speak_44 : decode cX6_speak 44 = .ok (.iconst 2, 1) := by decide +kernel
theorem dX6_speak_45 : decode cX6_speak 45 = .ok (.invokestatic 49, 3) := by decide +kernel
theorem dX6_speak_48 : decode cX6_speak 48 = .ok (.ifCond .ne 6, 3) := by decide +kernel
theorem dX6_speak_51 : decode cX6_speak 51 = .ok (.bipush (-2), 2) := by decide +kernel
theorem dX6_speak_53 : decode cX6_speak 53 = .ok (.ireturn, 1) := by decide +kernel
theorem dX6_speak_54 : decode cX6_speak 54 = .ok (.iconst 0, 1) := by decide +kernel
theorem dX6_speak_55 : decode cX6_speak 55 = .ok (.istore 6, 2) := by decide +kernel
theorem dX6_speak_57 : decode cX6_speak 57 = .ok (.bipush (-6), 2) := by decide +kernel
theorem dX6_speak_59 : decode cX6_speak 59 = .ok (.istore 7, 2) := by decide +kernel
theorem dX6_speak_61 : decode cX6_speak 61 = .ok (.bipush (-6), 2) := by decide +kernel
theorem dX6_speak_63 : decode cX6_speak 63 = .ok (.istore 8, 2) := by decide +kernel
theorem dX6_speak_65 : decode cX6_speak 65 = .ok (.bipush 9, 2) := by decide +kernel
theorem dX6_speak_67 : decode cX6_speak 67 = .ok (.istore 9, 2) := by decide +kernel
theorem dX6_speak_69 : decode cX6_speak 69 = .ok (.iload 9, 2) := by decide +kernel
theorem dX6_speak_71 : decode cX6_speak 71 = .ok (.iconst 1, 1) := by decide +kernel
theorem dX6_speak_72 : decode cX6_speak 72 = .ok (.if_icmp .lt 68, 3) := by decide +kernel
theorem dX6_speak_75 : decode cX6_speak 75 = .ok (.iload_n 3, 1) := by decide +kernel
theorem dX6_speak_76 : decode cX6_speak 76 = .ok (.aload 5, 2) := by decide +kernel
theorem dX6_speak_78 : decode cX6_speak 78 = .ok (.getfield 99, 3) := by decide +kernel
theorem dX6_speak_81 : decode cX6_speak 81 = .ok (.isub, 1) := by decide +kernel
theorem dX6_speak_82 : decode cX6_speak 82 = .ok (.aload 5, 2) := by decide +kernel
theorem dX6_speak_84 : decode cX6_speak 84 = .ok (.iload 9, 2) := by decide +kernel
theorem dX6_speak_86 : decode cX6_speak 86 = .ok (.invokevirtual 154, 3) := by decide +kernel
theorem dX6_speak_89 : decode cX6_speak 89 = .ok (.isub, 1) := by decide +kernel
theorem dX6_speak_90 : decode cX6_speak 90 = .ok (.istore 10, 2) := by decide +kernel
theorem dX6_speak_92 : decode cX6_speak 92 = .ok (.iload 10, 2) := by decide +kernel
theorem dX6_speak_94 : decode cX6_speak 94 = .ok (.ifCond .lt 40, 3) := by decide +kernel
theorem dX6_speak_97 : decode cX6_speak 97 = .ok (.aload 5, 2) := by decide +kernel
theorem dX6_speak_99 : decode cX6_speak 99 = .ok (.iload_n 1, 1) := by decide +kernel
theorem dX6_speak_100 : decode cX6_speak 100 = .ok (.invokevirtual 126, 3) := by decide +kernel
theorem dX6_speak_103 : decode cX6_speak 103 = .ok (.iload 10, 2) := by decide +kernel
theorem dX6_speak_105 : decode cX6_speak 105 = .ok (.isub, 1) := by decide +kernel
theorem dX6_speak_106 : decode cX6_speak 106 = .ok (.iload 9, 2) := by decide +kernel
theorem dX6_speak_108 : decode cX6_speak 108 = .ok (.if_icmp .lt 26, 3) := by decide +kernel
theorem dX6_speak_111 : decode cX6_speak 111 = .ok (.aload 5, 2) := by decide +kernel
theorem dX6_speak_113 : decode cX6_speak 113 = .ok (.iload_n 1, 1) := by decide +kernel
theorem dX6_speak_114 : decode cX6_speak 114 = .ok (.iload 9, 2) := by decide +kernel
theorem dX6_speak_116 : decode cX6_speak 116 = .ok (.invokevirtual 157, 3) := by decide +kernel
theorem dX6_speak_119 : decode cX6_speak 119 = .ok (.iload_n 2, 1) := by decide +kernel
theorem dX6_speak_120 : decode cX6_speak 120 = .ok (.if_icmp .ne 14, 3) := by decide +kernel
theorem dX6_speak_123 : decode cX6_speak 123 = .ok (.iinc 6 1, 3) := by decide +kernel
theorem dX6_speak_126 : decode cX6_speak 126 = .ok (.iload 9, 2) := by decide +kernel
theorem dX6_speak_128 : decode cX6_speak 128 = .ok (.istore 7, 2) := by decide +kernel
theorem dX6_speak_130 : decode cX6_speak 130 = .ok (.iload 10, 2) := by decide +kernel
theorem dX6_speak_132 : decode cX6_speak 132 = .ok (.istore 8, 2) := by decide +kernel
theorem dX6_speak_134 : decode cX6_speak 134 = .ok (.iinc 9 (-1), 3) := by decide +kernel
theorem dX6_speak_137 : decode cX6_speak 137 = .ok (.goto (-68), 3) := by decide +kernel
theorem dX6_speak_140 : decode cX6_speak 140 = .ok (.iload 4, 2) := by decide +kernel
theorem dX6_speak_142 : decode cX6_speak 142 = .ok (.lookupswitch 32 #[(0, 26), (1, 29)], 26) := by decide +kernel
theorem dX6_speak_168 : decode cX6_speak 168 = .ok (.iload 6, 2) := by decide +kernel
theorem dX6_speak_170 : decode cX6_speak 170 = .ok (.ireturn, 1) := by decide +kernel
theorem dX6_speak_171 : decode cX6_speak 171 = .ok (.iload 7, 2) := by decide +kernel
theorem dX6_speak_173 : decode cX6_speak 173 = .ok (.ireturn, 1) := by decide +kernel
theorem dX6_speak_174 : decode cX6_speak 174 = .ok (.iload 8, 2) := by decide +kernel
theorem dX6_speak_176 : decode cX6_speak 176 = .ok (.ireturn, 1) := by decide +kernel
theorem dX6_laws_0 : decode cX6_laws 0 = .ok (.iload_n 1, 1) := by decide +kernel
theorem dX6_laws_1 : decode cX6_laws 1 = .ok (.iconst 0, 1) := by decide +kernel
theorem dX6_laws_2 : decode cX6_laws 2 = .ok (.ldc 160, 2) := by decide +kernel
theorem dX6_laws_4 : decode cX6_laws 4 = .ok (.invokestatic 49, 3) := by decide +kernel
theorem dX6_laws_7 : decode cX6_laws 7 = .ok (.ifCond .eq 13, 3) := by decide +kernel
theorem dX6_laws_10 : decode cX6_laws 10 = .ok (.iload_n 2, 1) := by decide +kernel
theorem dX6_laws_11 : decode cX6_laws 11 = .ok (.iconst 0, 1) := by decide +kernel
theorem dX6_laws_12 : decode cX6_laws 12 = .ok (.ldc 160, 2) := by decide +kernel
theorem dX6_laws_14 : decode cX6_laws 14 = .ok (.invokestatic 49, 3) := by decide +kernel
theorem dX6_laws_17 : decode cX6_laws 17 = .ok (.ifCond .ne 6, 3) := by decide +kernel
theorem dX6_laws_20 : decode cX6_laws 20 = .ok (.bipush (-2), 2) := by decide +kernel
theorem dX6_laws_22 : decode cX6_laws 22 = .ok (.ireturn, 1) := by decide +kernel
theorem dX6_laws_23 : decode cX6_laws 23 = .ok (.iload_n 3, 1) := by decide +kernel
theorem dX6_laws_24 : decode cX6_laws 24 = .ok (.iconst 0, 1) := by decide +kernel
theorem dX6_laws_25 : decode cX6_laws 25 = .ok (.bipush 54, 2) := by decide +kernel
theorem dX6_laws_27 : decode cX6_laws 27 = .ok (.invokestatic 49, 3) := by decide +kernel
theorem dX6_laws_30 : decode cX6_laws 30 = .ok (.ifCond .eq 13, 3) := by decide +kernel
theorem dX6_laws_33 : decode cX6_laws 33 = .ok (.iload 4, 2) := by decide +kernel
theorem dX6_laws_35 : decode cX6_laws 35 = .ok (.iconst 0, 1) := by decide +kernel
theorem dX6_laws_36 : decode cX6_laws 36 = .ok (.iconst 2, 1) := by decide +kernel
theorem dX6_laws_37 : decode cX6_laws 37 = .ok (.invokestatic 49, 3) := by decide +kernel
theorem dX6_laws_40 : decode cX6_laws 40 = .ok (.ifCond .ne 6, 3) := by decide +kernel
theorem dX6_laws_43 : decode cX6_laws 43 = .ok (.bipush (-2), 2) := by decide +kernel
theorem dX6_laws_45 : decode cX6_laws 45 = .ok (.ireturn, 1) := by decide +kernel
theorem dX6_laws_46 : decode cX6_laws 46 = .ok (.iload_n 1, 1) := by decide +kernel
theorem dX6_laws_47 : decode cX6_laws 47 = .ok (.invokestatic 161, 3) := by decide +kernel
theorem dX6_laws_50 : decode cX6_laws 50 = .ok (.istore 5, 2) := by decide +kernel
theorem dX6_laws_52 : decode cX6_laws 52 = .ok (.iconst 0, 1) := by decide +kernel
theorem dX6_laws_53 : decode cX6_laws 53 = .ok (.istore 6, 2) := by decide +kernel
theorem dX6_laws_55 : decode cX6_laws 55 = .ok (.iconst 0, 1) := by decide +kernel
theorem dX6_laws_56 : decode cX6_laws 56 = .ok (.istore 7, 2) := by decide +kernel
theorem dX6_laws_58 : decode cX6_laws 58 = .ok (.iconst 0, 1) := by decide +kernel
theorem dX6_laws_59 : decode cX6_laws 59 = .ok (.istore 8, 2) := by decide +kernel
theorem dX6_laws_61 : decode cX6_laws 61 = .ok (.iconst 0, 1) := by decide +kernel
theorem dX6_laws_62 : decode cX6_laws 62 = .ok (.istore 9, 2) := by decide +kernel
theorem dX6_laws_64 : decode cX6_laws 64 = .ok (.iload 9, 2) := by decide +kernel
theorem dX6_laws_66 : decode cX6_laws 66 = .ok (.bipush 64, 2) := by decide +kernel
theorem dX6_laws_68 : decode cX6_laws 68 = .ok (.if_icmp .ge 68, 3) := by decide +kernel
theorem dX6_laws_71 : decode cX6_laws 71 = .ok (.iload 9, 2) := by decide +kernel
theorem dX6_laws_73 : decode cX6_laws 73 = .ok (.iload 5, 2) := by decide +kernel
theorem dX6_laws_75 : decode cX6_laws 75 = .ok (.iconst (-1), 1) := by decide +kernel
theorem dX6_laws_76 : decode cX6_laws 76 = .ok (.ixor, 1) := by decide +kernel
theorem dX6_laws_77 : decode cX6_laws 77 = .ok (.iand, 1) := by decide +kernel
theorem dX6_laws_78 : decode cX6_laws 78 = .ok (.ifCond .eq 6, 3) := by decide +kernel
theorem dX6_laws_81 : decode cX6_laws 81 = .ok (.goto 49, 3) := by decide +kernel
theorem dX6_laws_84 : decode cX6_laws 84 = .ok (.iload_n 1, 1) := by decide +kernel
theorem dX6_laws_85 : decode cX6_laws 85 = .ok (.iload 9, 2) := by decide +kernel
theorem dX6_laws_87 : decode cX6_laws 87 = .ok (.invokestatic 164, 3) := by decide +kernel
theorem dX6_laws_90 : decode cX6_laws 90 = .ok (.istore 10, 2) := by decide +kernel
theorem dX6_laws_92 : decode cX6_laws 92 = .ok (.iload_n 2, 1) := by decide +kernel
theorem dX6_laws_93 : decode cX6_laws 93 = .ok (.iload 9, 2) := by decide +kernel
theorem dX6_laws_95 : decode cX6_laws 95 = .ok (.invokestatic 164, 3) := by decide +kernel
theorem dX6_laws_98 : decode cX6_laws 98 = .ok (.istore 11, 2) := by decide +kernel
theorem dX6_laws_100 : decode cX6_laws 100 = .ok (.iload 10, 2) := by decide +kernel
theorem dX6_laws_102 : decode cX6_laws 102 = .ok (.iload_n 3, 1) := by decide +kernel
theorem dX6_laws_103 : decode cX6_laws 103 = .ok (.if_icmp .ne 6, 3) := by decide +kernel
theorem dX6_laws_106 : decode cX6_laws 106 = .ok (.iinc 8 1, 3) := by decide +kernel
theorem dX6_laws_109 : decode cX6_laws 109 = .ok (.iload 10, 2) := by decide +kernel
theorem dX6_laws_111 : decode cX6_laws 111 = .ok (.iload_n 3, 1) := by decide +kernel
theorem dX6_laws_112 : decode cX6_laws 112 = .ok (.if_icmp .gt 18, 3) := by decide +kernel
theorem dX6_laws_115 : decode cX6_laws 115 = .ok (.iload 11, 2) := by decide +kernel
theorem dX6_laws_117 : decode cX6_laws 117 = .ok (.iload 6, 2) := by decide +kernel
theorem dX6_laws_119 : decode cX6_laws 119 = .ok (.if_icmp .le 11, 3) := by decide +kernel
theorem dX6_laws_122 : decode cX6_laws 122 = .ok (.iload 11, 2) := by decide +kernel
theorem dX6_laws_124 : decode cX6_laws 124 = .ok (.istore 6, 2) := by decide +kernel
theorem dX6_laws_126 : decode cX6_laws 126 = .ok (.iload 9, 2) := by decide +kernel
theorem dX6_laws_128 : decode cX6_laws 128 = .ok (.istore 7, 2) := by decide +kernel
theorem dX6_laws_130 : decode cX6_laws 130 = .ok (.iinc 9 1, 3) := by decide +kernel
theorem dX6_laws_133 : decode cX6_laws 133 = .ok (.goto (-69), 3) := by decide +kernel
theorem dX6_laws_136 : decode cX6_laws 136 = .ok (.iload 4, 2) := by decide +kernel
theorem dX6_laws_138 : decode cX6_laws 138 = .ok (.lookupswitch 32 #[(0, 26), (1, 29)], 26) := by decide +kernel
theorem dX6_laws_164 : decode cX6_laws 164 = .ok (.iload 6, 2) := by decide +kernel
theorem dX6_laws_166 : decode cX6_laws 166 = .ok (.ireturn, 1) := by decide +kernel
theorem dX6_laws_167 : decode cX6_laws 167 = .ok (.iload 7, 2) := by decide +kernel
theorem dX6_laws_169 : decode cX6_laws 169 = .ok (.ireturn, 1) := by decide +kernel
theorem dX6_laws_170 : decode cX6_laws 170 = .ok (.iload 8, 2) := by decide +kernel
theorem dX6_laws_172 : decode cX6_laws 172 = .ok (.ireturn, 1) := by decide +kernel
theorem dX6_power_0 : decode cX6_power 0 = .ok (.aload_n 0, 1) := by decide +kernel
theorem dX6_power_1 : decode cX6_power 1 = .ok (.getfield 12, 3) := by decide +kernel
theorem dX6_power_4 : decode cX6_power 4 = .ok (.getfield 53, 3) := by decide +kernel
theorem dX6_power_7 : decode cX6_power 7 = .ok (.astore_n 2, 1) := by decide +kernel
theorem dX6_power_8 : decode cX6_power 8 = .ok (.aload_n 2, 1) := by decide +kernel
theorem dX6_power_9 : decode cX6_power 9 = .ok (.iload_n 1, 1) := by decide +kernel
theorem dX6_power_10 : decode cX6_power 10 = .ok (.invokevirtual 129, 3) := by decide +kernel
theorem dX6_power_13 : decode cX6_power 13 = .ok (.ifCond .ne 5, 3) := by decide +kernel
theorem dX6_power_16 : decode cX6_power 16 = .ok (.iconst (-1), 1) := by decide +kernel
theorem dX6_power_17 : decode cX6_power 17 = .ok (.ireturn, 1) := by decide +kernel
theorem dX6_power_18 : decode cX6_power 18 = .ok (.iconst 1, 1) := by decide +kernel
theorem dX6_power_19 : decode cX6_power 19 = .ok (.iload_n 1, 1) := by decide +kernel
theorem dX6_power_20 : decode cX6_power 20 = .ok (.ishl, 1) := by decide +kernel
theorem dX6_power_21 : decode cX6_power 21 = .ok (.istore_n 3, 1) := by decide +kernel
theorem dX6_power_22 : decode cX6_power 22 = .ok (.aload_n 2, 1) := by decide +kernel
theorem dX6_power_23 : decode cX6_power 23 = .ok (.getfield 60, 3) := by decide +kernel
theorem dX6_power_26 : decode cX6_power 26 = .ok (.iload_n 3, 1) := by decide +kernel
theorem dX6_power_27 : decode cX6_power 27 = .ok (.iconst (-1), 1) := by decide +kernel
theorem dX6_power_28 : decode cX6_power 28 = .ok (.ixor, 1) := by decide +kernel
theorem dX6_power_29 : decode cX6_power 29 = .ok (.iand, 1) := by decide +kernel
theorem dX6_power_30 : decode cX6_power 30 = .ok (.istore 4, 2) := by decide +kernel
theorem dX6_power_32 : decode cX6_power 32 = .ok (.iconst 0, 1) := by decide +kernel
theorem dX6_power_33 : decode cX6_power 33 = .ok (.istore 5, 2) := by decide +kernel
theorem dX6_power_35 : decode cX6_power 35 = .ok (.iconst 0, 1) := by decide +kernel
theorem dX6_power_36 : decode cX6_power 36 = .ok (.istore 6, 2) := by decide +kernel
theorem dX6_power_38 : decode cX6_power 38 = .ok (.iload 6, 2) := by decide +kernel
theorem dX6_power_40 : decode cX6_power 40 = .ok (.sipush 128, 3) := by decide +kernel
theorem dX6_power_43 : decode cX6_power 43 = .ok (.if_icmp .ge 42, 3) := by decide +kernel
theorem dX6_power_46 : decode cX6_power 46 = .ok (.iload 6, 2) := by decide +kernel
theorem dX6_power_48 : decode cX6_power 48 = .ok (.iload 4, 2) := by decide +kernel
theorem dX6_power_50 : decode cX6_power 50 = .ok (.iconst (-1), 1) := by decide +kernel
theorem dX6_power_51 : decode cX6_power 51 = .ok (.ixor, 1) := by decide +kernel
theorem dX6_power_52 : decode cX6_power 52 = .ok (.iand, 1) := by decide +kernel
theorem dX6_power_53 : decode cX6_power 53 = .ok (.ifCond .ne 26, 3) := by decide +kernel
theorem dX6_power_56 : decode cX6_power 56 = .ok (.aload_n 2, 1) := by decide +kernel
theorem dX6_power_57 : decode cX6_power 57 = .ok (.iload 6, 2) := by decide +kernel
theorem dX6_power_59 : decode cX6_power 59 = .ok (.invokevirtual 167, 3) := by decide +kernel
theorem dX6_power_62 : decode cX6_power 62 = .ok (.ifCond .ne 17, 3) := by decide +kernel
theorem dX6_power_65 : decode cX6_power 65 = .ok (.aload_n 2, 1) := by decide +kernel
theorem dX6_power_66 : decode cX6_power 66 = .ok (.iload 6, 2) := by decide +kernel
theorem dX6_power_68 : decode cX6_power 68 = .ok (.iload_n 3, 1) := by decide +kernel
theorem dX6_power_69 : decode cX6_power 69 = .ok (.ior, 1) := by decide +kernel
theorem dX6_power_70 : decode cX6_power 70 = .ok (.invokevirtual 167, 3) := by decide +kernel
theorem dX6_power_73 : decode cX6_power 73 = .ok (.ifCond .eq 6, 3) := by decide +kernel
theorem dX6_power_76 : decode cX6_power 76 = .ok (.iinc 5 1, 3) := by decide +kernel
theorem dX6_power_79 : decode cX6_power 79 = .ok (.iinc 6 1, 3) := by decide +kernel
theorem dX6_power_82 : decode cX6_power 82 = .ok (.goto (-44), 3) := by decide +kernel
theorem dX6_power_85 : decode cX6_power 85 = .ok (.iload 5, 2) := by decide +kernel
theorem dX6_power_87 : decode cX6_power 87 = .ok (.ireturn, 1) := by decide +kernel
theorem dX6_held_0 : decode cX6_held 0 = .ok (.aload_n 0, 1) := by decide +kernel
theorem dX6_held_1 : decode cX6_held 1 = .ok (.iload_n 1, 1) := by decide +kernel
theorem dX6_held_2 : decode cX6_held 2 = .ok (.invokevirtual 170, 3) := by decide +kernel
theorem dX6_held_5 : decode cX6_held 5 = .ok (.ifCond .ne 5, 3) := by decide +kernel
theorem dX6_held_8 : decode cX6_held 8 = .ok (.iconst (-1), 1) := by decide +kernel
theorem dX6_held_9 : decode cX6_held 9 = .ok (.ireturn, 1) := by decide +kernel
theorem dX6_held_10 : decode cX6_held 10 = .ok (.iload_n 2, 1) := by decide +kernel
theorem dX6_held_11 : decode cX6_held 11 = .ok (.iconst 0, 1) := by decide +kernel
theorem dX6_held_12 : decode cX6_held 12 = .ok (.iconst 1, 1) := by decide +kernel
theorem dX6_held_13 : decode cX6_held 13 = .ok (.invokestatic 49, 3) := by decide +kernel
theorem dX6_held_16 : decode cX6_held 16 = .ok (.ifCond .ne 6, 3) := by decide +kernel
theorem dX6_held_19 : decode cX6_held 19 = .ok (.bipush (-2), 2) := by decide +kernel
theorem dX6_held_21 : decode cX6_held 21 = .ok (.ireturn, 1) := by decide +kernel
theorem dX6_held_22 : decode cX6_held 22 = .ok (.iload_n 1, 1) := by decide +kernel
theorem dX6_held_23 : decode cX6_held 23 = .ok (.istore_n 3, 1) := by decide +kernel
theorem dX6_held_24 : decode cX6_held 24 = .ok (.iconst 0, 1) := by decide +kernel
theorem dX6_held_25 : decode cX6_held 25 = .ok (.istore 4, 2) := by decide +kernel
theorem dX6_held_27 : decode cX6_held 27 = .ok (.iload 4, 2) := by decide +kernel
theorem dX6_held_29 : decode cX6_held 29 = .ok (.sipush 128, 3) := by decide +kernel
theorem dX6_held_32 : decode cX6_held 32 = .ok (.if_icmp .ge 76, 3) := by decide +kernel
theorem dX6_held_35 : decode cX6_held 35 = .ok (.iload 4, 2) := by decide +kernel
theorem dX6_held_37 : decode cX6_held 37 = .ok (.iload_n 1, 1) := by decide +kernel
theorem dX6_held_38 : decode cX6_held 38 = .ok (.iconst (-1), 1) := by decide +kernel
theorem dX6_held_39 : decode cX6_held 39 = .ok (.ixor, 1) := by decide +kernel
theorem dX6_held_40 : decode cX6_held 40 = .ok (.iand, 1) := by decide +kernel
theorem dX6_held_41 : decode cX6_held 41 = .ok (.ifCond .ne 7, 3) := by decide +kernel
theorem dX6_held_44 : decode cX6_held 44 = .ok (.iconst 1, 1) := by decide +kernel
theorem dX6_held_45 : decode cX6_held 45 = .ok (.goto 4, 3) := by decide +kernel
theorem dX6_held_48 : decode cX6_held 48 = .ok (.iconst 0, 1) := by decide +kernel
theorem dX6_held_49 : decode cX6_held 49 = .ok (.istore 5, 2) := by decide +kernel
theorem dX6_held_51 : decode cX6_held 51 = .ok (.iload 4, 2) := by decide +kernel
theorem dX6_held_53 : decode cX6_held 53 = .ok (.invokestatic 64, 3) := by decide +kernel
theorem dX6_held_56 : decode cX6_held 56 = .ok (.iload_n 3, 1) := by decide +kernel
theorem dX6_held_57 : decode cX6_held 57 = .ok (.invokestatic 64, 3) := by decide +kernel
theorem dX6_held_60 : decode cX6_held 60 = .ok (.if_icmp .ge 7, 3) := by decide +kernel
theorem dX6_held_63 : decode cX6_held 63 = .ok (.iconst 1, 1) := by decide +kernel
theorem dX6_held_64 : decode cX6_held 64 = .ok (.goto 4, 3) := by decide +kernel
theorem dX6_held_67 : decode cX6_held 67 = .ok (.iconst 0, 1) := by decide +kernel
theorem dX6_held_68 : decode cX6_held 68 = .ok (.istore 6, 2) := by decide +kernel
theorem dX6_held_70 : decode cX6_held 70 = .ok (.iload 5, 2) := by decide +kernel
theorem dX6_held_72 : decode cX6_held 72 = .ok (.ifCond .eq 30, 3) := by decide +kernel
theorem dX6_held_75 : decode cX6_held 75 = .ok (.iload 6, 2) := by decide +kernel
theorem dX6_held_77 : decode cX6_held 77 = .ok (.ifCond .eq 25, 3) := by decide +kernel
theorem dX6_held_80 : decode cX6_held 80 = .ok (.aload_n 0, 1) := by decide +kernel
theorem dX6_held_81 : decode cX6_held 81 = .ok (.getfield 12, 3) := by decide +kernel
theorem dX6_held_84 : decode cX6_held 84 = .ok (.getfield 53, 3) := by decide +kernel
theorem dX6_held_87 : decode cX6_held 87 = .ok (.iload_n 1, 1) := by decide +kernel
theorem dX6_held_88 : decode cX6_held 88 = .ok (.iload 4, 2) := by decide +kernel
theorem dX6_held_90 : decode cX6_held 90 = .ok (.iconst (-1), 1) := by decide +kernel
theorem dX6_held_91 : decode cX6_held 91 = .ok (.ixor, 1) := by decide +kernel
theorem dX6_held_92 : decode cX6_held 92 = .ok (.iand, 1) := by decide +kernel
theorem dX6_held_93 : decode cX6_held 93 = .ok (.invokevirtual 167, 3) := by decide +kernel
theorem dX6_held_96 : decode cX6_held 96 = .ok (.ifCond .ne 6, 3) := by decide +kernel
theorem dX6_held_99 : decode cX6_held 99 = .ok (.iload 4, 2) := by decide +kernel
theorem dX6_held_101 : decode cX6_held 101 = .ok (.istore_n 3, 1) := by decide +kernel
theorem dX6_held_102 : decode cX6_held 102 = .ok (.iinc 4 1, 3) := by decide +kernel
theorem dX6_held_105 : decode cX6_held 105 = .ok (.goto (-78), 3) := by decide +kernel
theorem dX6_held_108 : decode cX6_held 108 = .ok (.iload_n 2, 1) := by decide +kernel
theorem dX6_held_109 : decode cX6_held 109 = .ok (.ifCond .ne 10, 3) := by decide +kernel
theorem dX6_held_112 : decode cX6_held 112 = .ok (.iload_n 3, 1) := by decide +kernel
theorem dX6_held_113 : decode cX6_held 113 = .ok (.invokestatic 64, 3) := by decide +kernel
theorem dX6_held_116 : decode cX6_held 116 = .ok (.goto 4, 3) := by decide +kernel
theorem dX6_held_119 : decode cX6_held 119 = .ok (.iload_n 3, 1) := by decide +kernel
theorem dX6_held_120 : decode cX6_held 120 = .ok (.ireturn, 1) := by decide +kernel
theorem dX6_hours_0 : decode cX6_hours 0 = .ok (.iload_n 1, 1) := by decide +kernel
theorem dX6_hours_1 : decode cX6_hours 1 = .ok (.iconst 0, 1) := by decide +kernel
theorem dX6_hours_2 : decode cX6_hours 2 = .ok (.iconst 5, 1) := by decide +kernel
theorem dX6_hours_3 : decode cX6_hours 3 = .ok (.invokestatic 49, 3) := by decide +kernel
theorem dX6_hours_6 : decode cX6_hours 6 = .ok (.ifCond .ne 5, 3) := by decide +kernel
theorem dX6_hours_9 : decode cX6_hours 9 = .ok (.iconst (-1), 1) := by decide +kernel
theorem dX6_hours_10 : decode cX6_hours 10 = .ok (.ireturn, 1) := by decide +kernel
theorem dX6_hours_11 : decode cX6_hours 11 = .ok (.iload_n 2, 1) := by decide +kernel
theorem dX6_hours_12 : decode cX6_hours 12 = .ok (.iconst 0, 1) := by decide +kernel
theorem dX6_hours_13 : decode cX6_hours 13 = .ok (.ldc 173, 2) := by decide +kernel
theorem dX6_hours_15 : decode cX6_hours 15 = .ok (.invokestatic 49, 3) := by decide +kernel
theorem dX6_hours_18 : decode cX6_hours 18 = .ok (.ifCond .ne 6, 3) := by decide +kernel
theorem dX6_hours_21 : decode cX6_hours 21 = .ok (.bipush (-2), 2) := by decide +kernel
theorem dX6_hours_23 : decode cX6_hours 23 = .ok (.ireturn, 1) := by decide +kernel
theorem dX6_hours_24 : decode cX6_hours 24 = .ok (.aload_n 0, 1) := by decide +kernel
theorem dX6_hours_25 : decode cX6_hours 25 = .ok (.getfield 12, 3) := by decide +kernel
theorem dX6_hours_28 : decode cX6_hours 28 = .ok (.getfield 174, 3) := by decide +kernel
theorem dX6_hours_31 : decode cX6_hours 31 = .ok (.iload_n 1, 1) := by decide +kernel
theorem dX6_hours_32 : decode cX6_hours 32 = .ok (.iaload, 1) := by decide +kernel
theorem dX6_hours_33 : decode cX6_hours 33 = .ok (.istore_n 3, 1) := by decide +kernel
theorem dX6_hours_34 : decode cX6_hours 34 = .ok (.aload_n 0, 1) := by decide +kernel
theorem dX6_hours_35 : decode cX6_hours 35 = .ok (.getfield 12, 3) := by decide +kernel
theorem dX6_hours_38 : decode cX6_hours 38 = .ok (.getfield 174, 3) := by decide +kernel
theorem dX6_hours_41 : decode cX6_hours 41 = .ok (.iload_n 1, 1) := by decide +kernel
theorem dX6_hours_42 : decode cX6_hours 42 = .ok (.iload_n 2, 1) := by decide +kernel
theorem dX6_hours_43 : decode cX6_hours 43 = .ok (.iastore, 1) := by decide +kernel
theorem dX6_hours_44 : decode cX6_hours 44 = .ok (.iload_n 3, 1) := by decide +kernel
theorem dX6_hours_45 : decode cX6_hours 45 = .ok (.ireturn, 1) := by decide +kernel
theorem dX6_orders_0 : decode cX6_orders 0 = .ok (.iload_n 1, 1) := by decide +kernel
theorem dX6_orders_1 : decode cX6_orders 1 = .ok (.iconst 1, 1) := by decide +kernel
theorem dX6_orders_2 : decode cX6_orders 2 = .ok (.bipush 6, 2) := by decide +kernel
theorem dX6_orders_4 : decode cX6_orders 4 = .ok (.invokestatic 49, 3) := by decide +kernel
theorem dX6_orders_7 : decode cX6_orders 7 = .ok (.ifCond .eq 13, 3) := by decide +kernel
theorem dX6_orders_10 : decode cX6_orders 10 = .ok (.iload_n 2, 1) := by decide +kernel
theorem dX6_orders_11 : decode cX6_orders 11 = .ok (.iconst 0, 1) := by decide +kernel
theorem dX6_orders_12 : decode cX6_orders 12 = .ok (.bipush 23, 2) := by decide +kernel
theorem dX6_orders_14 : decode cX6_orders 14 = .ok (.invokestatic 49, 3) := by decide +kernel
theorem dX6_orders_17 : decode cX6_orders 17 = .ok (.ifCond .ne 6, 3) := by decide +kernel
theorem dX6_orders_20 : decode cX6_orders 20 = .ok (.bipush (-2), 2) := by decide +kernel
theorem dX6_orders_22 : decode cX6_orders 22 = .ok (.ireturn, 1) := by decide +kernel
theorem dX6_orders_23 : decode cX6_orders 23 = .ok (.iconst 1, 1) := by decide +kernel
theorem dX6_orders_24 : decode cX6_orders 24 = .ok (.iload_n 1, 1) := by decide +kernel
theorem dX6_orders_25 : decode cX6_orders 25 = .ok (.ishl, 1) := by decide +kernel
theorem dX6_orders_26 : decode cX6_orders 26 = .ok (.istore_n 3, 1) := by decide +kernel
theorem dX6_orders_27 : decode cX6_orders 27 = .ok (.aload_n 0, 1) := by decide +kernel
theorem dX6_orders_28 : decode cX6_orders 28 = .ok (.getfield 41, 3) := by decide +kernel
theorem dX6_orders_31 : decode cX6_orders 31 = .ok (.iconst 0, 1) := by decide +kernel
theorem dX6_orders_32 : decode cX6_orders 32 = .ok (.iconst 1, 1) := by decide +kernel
theorem dX6_orders_33 : decode cX6_orders 33 = .ok (.iastore, 1) := by decide +kernel
theorem dX6_orders_34 : decode cX6_orders 34 = .ok (.iconst 1, 1) := by decide +kernel
theorem dX6_orders_35 : decode cX6_orders 35 = .ok (.istore 4, 2) := by decide +kernel
theorem dX6_orders_37 : decode cX6_orders 37 = .ok (.iload 4, 2) := by decide +kernel
theorem dX6_orders_39 : decode cX6_orders 39 = .ok (.iload_n 3, 1) := by decide +kernel
theorem dX6_orders_40 : decode cX6_orders 40 = .ok (.if_icmp .ge 30, 3) := by decide +kernel
theorem dX6_orders_43 : decode cX6_orders 43 = .ok (.iload 4, 2) := by decide +kernel
theorem dX6_orders_45 : decode cX6_orders 45 = .ok (.bipush 64, 2) := by decide +kernel
theorem dX6_orders_47 : decode cX6_orders 47 = .ok (.if_icmp .ge 23, 3) := by decide +kernel
theorem dX6_orders_50 : decode cX6_orders 50 = .ok (.aload_n 0, 1) := by decide +kernel
theorem dX6_orders_51 : decode cX6_orders 51 = .ok (.getfield 41, 3) := by decide +kernel
theorem dX6_orders_54 : decode cX6_orders 54 = .ok (.iload 4, 2) := by decide +kernel
theorem dX6_orders_56 : decode cX6_orders 56 = .ok (.aload_n 0, 1) := by decide +kernel
theorem dX6_orders_57 : decode cX6_orders 57 = .ok (.iload 4, 2) := by decide +kernel
theorem dX6_orders_59 : decode cX6_orders 59 = .ok (.iload_n 2, 1) := by decide +kernel
theorem dX6_orders_60 : decode cX6_orders 60 = .ok (.invokevirtual 177, 3) := by decide +kernel
theorem dX6_orders_63 : decode cX6_orders 63 = .ok (.iastore, 1) := by decide +kernel
theorem dX6_orders_64 : decode cX6_orders 64 = .ok (.iinc 4 1, 3) := by decide +kernel
theorem dX6_orders_67 : decode cX6_orders 67 = .ok (.goto (-30), 3) := by decide +kernel
theorem dX6_orders_70 : decode cX6_orders 70 = .ok (.iload_n 3, 1) := by decide +kernel
theorem dX6_orders_71 : decode cX6_orders 71 = .ok (.bipush 64, 2) := by decide +kernel
theorem dX6_orders_73 : decode cX6_orders 73 = .ok (.if_icmp .gt 14, 3) := by decide +kernel
theorem dX6_orders_76 : decode cX6_orders 76 = .ok (.aload_n 0, 1) := by decide +kernel
theorem dX6_orders_77 : decode cX6_orders 77 = .ok (.getfield 41, 3) := by decide +kernel
theorem dX6_orders_80 : decode cX6_orders 80 = .ok (.iload_n 3, 1) := by decide +kernel
theorem dX6_orders_81 : decode cX6_orders 81 = .ok (.iconst 1, 1) := by decide +kernel
theorem dX6_orders_82 : decode cX6_orders 82 = .ok (.isub, 1) := by decide +kernel
theorem dX6_orders_83 : decode cX6_orders 83 = .ok (.iaload, 1) := by decide +kernel
theorem dX6_orders_84 : decode cX6_orders 84 = .ok (.goto 4, 3) := by decide +kernel
theorem dX6_orders_87 : decode cX6_orders 87 = .ok (.iconst 0, 1) := by decide +kernel
theorem dX6_orders_88 : decode cX6_orders 88 = .ok (.ireturn, 1) := by decide +kernel
theorem dX6_seen_0 : decode cX6_seen 0 = .ok (.iload_n 1, 1) := by decide +kernel
theorem dX6_seen_1 : decode cX6_seen 1 = .ok (.iconst 1, 1) := by decide +kernel
theorem dX6_seen_2 : decode cX6_seen 2 = .ok (.bipush 9, 2) := by decide +kernel
theorem dX6_seen_4 : decode cX6_seen 4 = .ok (.invokestatic 49, 3) := by decide +kernel
theorem dX6_seen_7 : decode cX6_seen 7 = .ok (.ifCond .eq 24, 3) := by decide +kernel
theorem dX6_seen_10 : decode cX6_seen 10 = .ok (.iload_n 2, 1) := by decide +kernel
theorem dX6_seen_11 : decode cX6_seen 11 = .ok (.iconst 0, 1) := by decide +kernel
theorem dX6_seen_12 : decode cX6_seen 12 = .ok (.sipush 999, 3) := by decide +kernel
theorem dX6_seen_15 : decode cX6_seen 15 = .ok (.invokestatic 49, 3) := by decide +kernel
theorem dX6_seen_18 : decode cX6_seen 18 = .ok (.ifCond .eq 13, 3) := by decide +kernel
theorem dX6_seen_21 : decode cX6_seen 21 = .ok (.iload_n 3, 1) := by decide +kernel
theorem dX6_seen_22 : decode cX6_seen 22 = .ok (.iconst 0, 1) := by decide +kernel
theorem dX6_seen_23 : decode cX6_seen 23 = .ok (.bipush 9, 2) := by decide +kernel
theorem dX6_seen_25 : decode cX6_seen 25 = .ok (.invokestatic 49, 3) := by decide +kernel
theorem dX6_seen_28 : decode cX6_seen 28 = .ok (.ifCond .ne 6, 3) := by decide +kernel
theorem dX6_seen_31 : decode cX6_seen 31 = .ok (.bipush (-2), 2) := by decide +kernel
theorem dX6_seen_33 : decode cX6_seen 33 = .ok (.ireturn, 1) := by decide +kernel
theorem dX6_seen_34 : decode cX6_seen 34 = .ok (.aload_n 0, 1) := by decide +kernel
theorem dX6_seen_35 : decode cX6_seen 35 = .ok (.getfield 12, 3) := by decide +kernel
theorem dX6_seen_38 : decode cX6_seen 38 = .ok (.getfield 180, 3) := by decide +kernel
theorem dX6_seen_41 : decode cX6_seen 41 = .ok (.getfield 184, 3) := by decide +kernel
theorem dX6_seen_44 : decode cX6_seen 44 = .ok (.bipush 8, 2) := by decide +kernel
theorem dX6_seen_46 : decode cX6_seen 46 = .ok (.if_icmp .lt 6, 3) := by decide +kernel
theorem dX6_seen_49 : decode cX6_seen 49 = .ok (.bipush (-4), 2) := by decide +kernel
theorem dX6_seen_51 : decode cX6_seen 51 = .ok (.ireturn, 1) := by decide +kernel
theorem dX6_seen_52 : decode cX6_seen 52 = .ok (.aload_n 0, 1) := by decide +kernel
theorem dX6_seen_53 : decode cX6_seen 53 = .ok (.getfield 12, 3) := by decide +kernel
theorem dX6_seen_56 : decode cX6_seen 56 = .ok (.getfield 180, 3) := by decide +kernel
theorem dX6_seen_59 : decode cX6_seen 59 = .ok (.iload_n 1, 1) := by decide +kernel
theorem dX6_seen_60 : decode cX6_seen 60 = .ok (.iload_n 2, 1) := by decide +kernel
theorem dX6_seen_61 : decode cX6_seen 61 = .ok (.iload_n 3, 1) := by decide +kernel
theorem dX6_seen_62 : decode cX6_seen 62 = .ok (.invokevirtual 187, 3) := by decide +kernel
theorem dX6_seen_65 : decode cX6_seen 65 = .ok (.aload_n 0, 1) := by decide +kernel
theorem dX6_seen_66 : decode cX6_seen 66 = .ok (.getfield 12, 3) := by decide +kernel
theorem dX6_seen_69 : decode cX6_seen 69 = .ok (.getfield 180, 3) := by decide +kernel
theorem dX6_seen_72 : decode cX6_seen 72 = .ok (.getfield 184, 3) := by decide +kernel
theorem dX6_seen_75 : decode cX6_seen 75 = .ok (.ireturn, 1) := by decide +kernel
theorem dX6_forget_0 : decode cX6_forget 0 = .ok (.aload_n 0, 1) := by decide +kernel
theorem dX6_forget_1 : decode cX6_forget 1 = .ok (.getfield 12, 3) := by decide +kernel
theorem dX6_forget_4 : decode cX6_forget 4 = .ok (.getfield 180, 3) := by decide +kernel
theorem dX6_forget_7 : decode cX6_forget 7 = .ok (.getfield 184, 3) := by decide +kernel
theorem dX6_forget_10 : decode cX6_forget 10 = .ok (.istore_n 1, 1) := by decide +kernel
theorem dX6_forget_11 : decode cX6_forget 11 = .ok (.aload_n 0, 1) := by decide +kernel
theorem dX6_forget_12 : decode cX6_forget 12 = .ok (.getfield 12, 3) := by decide +kernel
theorem dX6_forget_15 : decode cX6_forget 15 = .ok (.getfield 180, 3) := by decide +kernel
theorem dX6_forget_18 : decode cX6_forget 18 = .ok (.iconst 0, 1) := by decide +kernel
theorem dX6_forget_19 : decode cX6_forget 19 = .ok (.putfield 184, 3) := by decide +kernel
theorem dX6_forget_22 : decode cX6_forget 22 = .ok (.iload_n 1, 1) := by decide +kernel
theorem dX6_forget_23 : decode cX6_forget 23 = .ok (.ireturn, 1) := by decide +kernel
theorem dX6_whose_0 : decode cX6_whose 0 = .ok (.iconst 0, 1) := by decide +kernel
theorem dX6_whose_1 : decode cX6_whose 1 = .ok (.istore_n 1, 1) := by decide +kernel
theorem dX6_whose_2 : decode cX6_whose 2 = .ok (.iconst 0, 1) := by decide +kernel
theorem dX6_whose_3 : decode cX6_whose 3 = .ok (.istore_n 2, 1) := by decide +kernel
theorem dX6_whose_4 : decode cX6_whose 4 = .ok (.iload_n 2, 1) := by decide +kernel
theorem dX6_whose_5 : decode cX6_whose 5 = .ok (.bipush 7, 2) := by decide +kernel
theorem dX6_whose_7 : decode cX6_whose 7 = .ok (.if_icmp .ge 50, 3) := by decide +kernel
theorem dX6_whose_10 : decode cX6_whose 10 = .ok (.aload_n 0, 1) := by decide +kernel
theorem dX6_whose_11 : decode cX6_whose 11 = .ok (.getfield 12, 3) := by decide +kernel
theorem dX6_whose_14 : decode cX6_whose 14 = .ok (.getfield 53, 3) := by decide +kernel
theorem dX6_whose_17 : decode cX6_whose 17 = .ok (.iload_n 2, 1) := by decide +kernel
theorem dX6_whose_18 : decode cX6_whose 18 = .ok (.invokevirtual 70, 3) := by decide +kernel
theorem dX6_whose_21 : decode cX6_whose 21 = .ok (.ifCond .eq 30, 3) := by decide +kernel
theorem dX6_whose_24 : decode cX6_whose 24 = .ok (.aload_n 0, 1) := by decide +kernel
theorem dX6_whose_25 : decode cX6_whose 25 = .ok (.getfield 12, 3) := by decide +kernel
theorem dX6_whose_28 : decode cX6_whose 28 = .ok (.getfield 180, 3) := by decide +kernel
theorem dX6_whose_31 : decode cX6_whose 31 = .ok (.iload_n 2, 1) := by decide +kernel
theorem dX6_whose_32 : decode cX6_whose 32 = .ok (.aload_n 0, 1) := by decide +kernel
theorem dX6_whose_33 : decode cX6_whose 33 = .ok (.getfield 12, 3) := by decide +kernel
theorem dX6_whose_36 : decode cX6_whose 36 = .ok (.getfield 53, 3) := by decide +kernel
theorem dX6_whose_39 : decode cX6_whose 39 = .ok (.invokevirtual 189, 3) := by decide +kernel
theorem dX6_whose_42 : decode cX6_whose 42 = .ok (.ifCond .eq 9, 3) := by decide +kernel
theorem dX6_whose_45 : decode cX6_whose 45 = .ok (.iload_n 1, 1) := by decide +kernel
theorem dX6_whose_46 : decode cX6_whose 46 = .ok (.iconst 1, 1) := by decide +kernel
theorem dX6_whose_47 : decode cX6_whose 47 = .ok (.iload_n 2, 1) := by decide +kernel
theorem dX6_whose_48 : decode cX6_whose 48 = .ok (.ishl, 1) := by decide +kernel
theorem dX6_whose_49 : decode cX6_whose 49 = .ok (.ior, 1) := by decide +kernel
theorem dX6_whose_50 : decode cX6_whose 50 = .ok (.istore_n 1, 1) := by decide +kernel
theorem dX6_whose_51 : decode cX6_whose 51 = .ok (.iinc 2 1, 3) := by decide +kernel
theorem dX6_whose_54 : decode cX6_whose 54 = .ok (.goto (-50), 3) := by decide +kernel
theorem dX6_whose_57 : decode cX6_whose 57 = .ok (.iload_n 1, 1) := by decide +kernel
theorem dX6_whose_58 : decode cX6_whose 58 = .ok (.ireturn, 1) := by decide +kernel
theorem dX6_alike_0 : decode cX6_alike 0 = .ok (.aload_n 0, 1) := by decide +kernel
theorem dX6_alike_1 : decode cX6_alike 1 = .ok (.invokevirtual 193, 3) := by decide +kernel
theorem dX6_alike_4 : decode cX6_alike 4 = .ok (.istore_n 2, 1) := by decide +kernel
theorem dX6_alike_5 : decode cX6_alike 5 = .ok (.iconst 0, 1) := by decide +kernel
theorem dX6_alike_6 : decode cX6_alike 6 = .ok (.istore_n 3, 1) := by decide +kernel
theorem dX6_alike_7 : decode cX6_alike 7 = .ok (.iconst 0, 1) := by decide +kernel
theorem dX6_alike_8 : decode cX6_alike 8 = .ok (.istore 4, 2) := by decide +kernel
theorem dX6_alike_10 : decode cX6_alike 10 = .ok (.iload 4, 2) := by decide +kernel
theorem dX6_alike_12 : decode cX6_alike 12 = .ok (.bipush 7, 2) := by decide +kernel
theorem dX6_alike_14 : decode cX6_alike 14 = .ok (.if_icmp .ge 95, 3) := by decide +kernel
theorem dX6_alike_17 : decode cX6_alike 17 = .ok (.iload 4, 2) := by decide +kernel
theorem dX6_alike_19 : decode cX6_alike 19 = .ok (.iconst 1, 1) := by decide +kernel
theorem dX6_alike_20 : decode cX6_alike 20 = .ok (.iadd, 1) := by decide +kernel
theorem dX6_alike_21 : decode cX6_alike 21 = .ok (.istore 5, 2) := by decide +kernel
theorem dX6_alike_23 : decode cX6_alike 23 = .ok (.iload 5, 2) := by decide +kernel
theorem dX6_alike_25 : decode cX6_alike 25 = .ok (.bipush 7, 2) := by decide +kernel
theorem dX6_alike_27 : decode cX6_alike 27 = .ok (.if_icmp .ge 76, 3) := by decide +kernel
theorem dX6_alike_30 : decode cX6_alike 30 = .ok (.iconst 1, 1) := by decide +kernel
theorem dX6_alike_31 : decode cX6_alike 31 = .ok (.iload 4, 2) := by decide +kernel
theorem dX6_alike_33 : decode cX6_alike 33 = .ok (.ishl, 1) := by decide +kernel
theorem dX6_alike_34 : decode cX6_alike 34 = .ok (.iconst 1, 1) := by decide +kernel
theorem dX6_alike_35 : decode cX6_alike 35 = .ok (.iload 5, 2) := by decide +kernel
theorem dX6_alike_37 : decode cX6_alike 37 = .ok (.ishl, 1) := by decide +kernel
theorem dX6_alike_38 : decode cX6_alike 38 = .ok (.ior, 1) := by decide +kernel
theorem dX6_alike_39 : decode cX6_alike 39 = .ok (.istore 6, 2) := by decide +kernel
theorem dX6_alike_41 : decode cX6_alike 41 = .ok (.iload 6, 2) := by decide +kernel
theorem dX6_alike_43 : decode cX6_alike 43 = .ok (.iload_n 2, 1) := by decide +kernel
theorem dX6_alike_44 : decode cX6_alike 44 = .ok (.iconst (-1), 1) := by decide +kernel
theorem dX6_alike_45 : decode cX6_alike 45 = .ok (.ixor, 1) := by decide +kernel
theorem dX6_alike_46 : decode cX6_alike 46 = .ok (.iand, 1) := by decide +kernel
theorem dX6_alike_47 : decode cX6_alike 47 = .ok (.ifCond .ne 50, 3) := by decide +kernel
theorem dX6_alike_50 : decode cX6_alike 50 = .ok (.aload_n 0, 1) := by decide +kernel
theorem dX6_alike_51 : decode cX6_alike 51 = .ok (.getfield 12, 3) := by decide +kernel
theorem dX6_alike_54 : decode cX6_alike 54 = .ok (.getfield 53, 3) := by decide +kernel
theorem dX6_alike_57 : decode cX6_alike 57 = .ok (.iload 4, 2) := by decide +kernel
theorem dX6_alike_59 : decode cX6_alike 59 = .ok (.invokevirtual 196, 3) := by decide +kernel
theorem dX6_alike_62 : decode cX6_alike 62 = .ok (.aload_n 0, 1) := by decide +kernel
theorem dX6_alike_63 : decode cX6_alike 63 = .ok (.getfield 12, 3) := by decide +kernel
theorem dX6_alike_66 : decode cX6_alike 66 = .ok (.getfield 53, 3) := by decide +kernel
theorem dX6_alike_69 : decode cX6_alike 69 = .ok (.iload 5, 2) := by decide +kernel
theorem dX6_alike_71 : decode cX6_alike 71 = .ok (.invokevirtual 196, 3) := by decide +kernel
theorem dX6_alike_74 : decode cX6_alike 74 = .ok (.if_icmp .eq 6, 3) := by decide +kernel
theorem dX6_alike_77 : decode cX6_alike 77 = .ok (.goto 20, 3) := by decide +kernel
theorem dX6_alike_80 : decode cX6_alike 80 = .ok (.iload_n 3, 1) := by decide +kernel
theorem dX6_alike_81 : decode cX6_alike 81 = .ok (.iload_n 1, 1) := by decide +kernel
theorem dX6_alike_82 : decode cX6_alike 82 = .ok (.if_icmp .ne 12, 3) := by decide +kernel
theorem dX6_alike_85 : decode cX6_alike 85 = .ok (.bipush 10, 2) := by decide +kernel
theorem dX6_alike_87 : decode cX6_alike 87 = .ok (.iload 4, 2) := by decide +kernel
theorem dX6_alike_89 : decode cX6_alike 89 = .ok (.imul, 1) := by decide +kernel
theorem dX6_alike_90 : decode cX6_alike 90 = .ok (.iload 5, 2) := by decide +kernel
theorem dX6_alike_92 : decode cX6_alike 92 = .ok (.iadd, 1) := by decide +kernel
theorem dX6_alike_93 : decode cX6_alike 93 = .ok (.ireturn, 1) := by decide +kernel
theorem dX6_alike_94 : decode cX6_alike 94 = .ok (.iinc 3 1, 3) := by decide +kernel
theorem dX6_alike_97 : decode cX6_alike 97 = .ok (.iinc 5 1, 3) := by decide +kernel
theorem dX6_alike_100 : decode cX6_alike 100 = .ok (.goto (-77), 3) := by decide +kernel
theorem dX6_alike_103 : decode cX6_alike 103 = .ok (.iinc 4 1, 3) := by decide +kernel
theorem dX6_alike_106 : decode cX6_alike 106 = .ok (.goto (-96), 3) := by decide +kernel
theorem dX6_alike_109 : decode cX6_alike 109 = .ok (.iload_n 1, 1) := by decide +kernel
theorem dX6_alike_110 : decode cX6_alike 110 = .ok (.iconst (-1), 1) := by decide +kernel
theorem dX6_alike_111 : decode cX6_alike 111 = .ok (.if_icmp .ne 7, 3) := by decide +kernel
theorem dX6_alike_114 : decode cX6_alike 114 = .ok (.iload_n 3, 1) := by decide +kernel
theorem dX6_alike_115 : decode cX6_alike 115 = .ok (.goto 5, 3) := by decide +kernel
theorem dX6_alike_118 : decode cX6_alike 118 = .ok (.bipush (-6), 2) := by decide +kernel
theorem dX6_alike_120 : decode cX6_alike 120 = .ok (.ireturn, 1) := by decide +kernel
theorem dX6_filibuster_0 : decode cX6_filibuster 0 = .ok (.aload_n 0, 1) := by decide +kernel
theorem dX6_filibuster_1 : decode cX6_filibuster 1 = .ok (.iload_n 1, 1) := by decide +kernel
theorem dX6_filibuster_2 : decode cX6_filibuster 2 = .ok (.invokevirtual 170, 3) := by decide +kernel
theorem dX6_filibuster_5 : decode cX6_filibuster 5 = .ok (.ifCond .ne 5, 3) := by decide +kernel
theorem dX6_filibuster_8 : decode cX6_filibuster 8 = .ok (.iconst (-1), 1) := by decide +kernel
theorem dX6_filibuster_9 : decode cX6_filibuster 9 = .ok (.ireturn, 1) := by decide +kernel
theorem dX6_filibuster_10 : decode cX6_filibuster 10 = .ok (.iload_n 2, 1) := by decide +kernel
theorem dX6_filibuster_11 : decode cX6_filibuster 11 = .ok (.iconst 1, 1) := by decide +kernel
theorem dX6_filibuster_12 : decode cX6_filibuster 12 = .ok (.bipush 9, 2) := by decide +kernel
theorem dX6_filibuster_14 : decode cX6_filibuster 14 = .ok (.invokestatic 49, 3) := by decide +kernel
theorem dX6_filibuster_17 : decode cX6_filibuster 17 = .ok (.ifCond .eq 12, 3) := by decide +kernel
theorem dX6_filibuster_20 : decode cX6_filibuster 20 = .ok (.iload_n 3, 1) := by decide +kernel
theorem dX6_filibuster_21 : decode cX6_filibuster 21 = .ok (.iconst 0, 1) := by decide +kernel
theorem dX6_filibuster_22 : decode cX6_filibuster 22 = .ok (.iconst 2, 1) := by decide +kernel
theorem dX6_filibuster_23 : decode cX6_filibuster 23 = .ok (.invokestatic 49, 3) := by decide +kernel
theorem dX6_filibuster_26 : decode cX6_filibuster 26 = .ok (.ifCond .ne 6, 3) := by decide +kernel
theorem dX6_filibuster_29 : decode cX6_filibuster 29 = .ok (.bipush (-2), 2) := by decide +kernel
theorem dX6_filibuster_31 : decode cX6_filibuster 31 = .ok (.ireturn, 1) := by decide +kernel
theorem dX6_filibuster_32 : decode cX6_filibuster 32 = .ok (.aload_n 0, 1) := by decide +kernel
theorem dX6_filibuster_33 : decode cX6_filibuster 33 = .ok (.iload_n 1, 1) := by decide +kernel
theorem dX6_filibuster_34 : decode cX6_filibuster 34 = .ok (.iload_n 2, 1) := by decide +kernel
theorem dX6_filibuster_35 : decode cX6_filibuster 35 = .ok (.invokevirtual 197, 3) := by decide +kernel
theorem dX6_filibuster_38 : decode cX6_filibuster 38 = .ok (.istore 4, 2) := by decide +kernel
theorem dX6_filibuster_40 : decode cX6_filibuster 40 = .ok (.iload_n 3, 1) := by decide +kernel
theorem dX6_filibuster_41 : decode cX6_filibuster 41 = .ok (.ifCond .ne 14, 3) := by decide +kernel
theorem dX6_filibuster_44 : decode cX6_filibuster 44 = .ok (.iload 4, 2) := by decide +kernel
theorem dX6_filibuster_46 : decode cX6_filibuster 46 = .ok (.ifCond .eq 7, 3) := by decide +kernel
theorem dX6_filibuster_49 : decode cX6_filibuster 49 = .ok (.iconst 0, 1) := by decide +kernel
theorem dX6_filibuster_50 : decode cX6_filibuster 50 = .ok (.goto 4, 3) := by decide +kernel
theorem dX6_filibuster_53 : decode cX6_filibuster 53 = .ok (.iconst 1, 1) := by decide +kernel
theorem dX6_filibuster_54 : decode cX6_filibuster 54 = .ok (.ireturn, 1) := by decide +kernel
theorem dX6_filibuster_55 : decode cX6_filibuster 55 = .ok (.iload 4, 2) := by decide +kernel
theorem dX6_filibuster_57 : decode cX6_filibuster 57 = .ok (.ifCond .ne 6, 3) := by decide +kernel
theorem dX6_filibuster_60 : decode cX6_filibuster 60 = .ok (.bipush (-6), 2) := by decide +kernel
theorem dX6_filibuster_62 : decode cX6_filibuster 62 = .ok (.ireturn, 1) := by decide +kernel
theorem dX6_filibuster_63 : decode cX6_filibuster 63 = .ok (.iconst 0, 1) := by decide +kernel
theorem dX6_filibuster_64 : decode cX6_filibuster 64 = .ok (.istore 5, 2) := by decide +kernel
theorem dX6_filibuster_66 : decode cX6_filibuster 66 = .ok (.iload 5, 2) := by decide +kernel
theorem dX6_filibuster_68 : decode cX6_filibuster 68 = .ok (.bipush 7, 2) := by decide +kernel
theorem dX6_filibuster_70 : decode cX6_filibuster 70 = .ok (.if_icmp .ge 55, 3) := by decide +kernel
theorem dX6_filibuster_73 : decode cX6_filibuster 73 = .ok (.iload_n 1, 1) := by decide +kernel
theorem dX6_filibuster_74 : decode cX6_filibuster 74 = .ok (.iload 5, 2) := by decide +kernel
theorem dX6_filibuster_76 : decode cX6_filibuster 76 = .ok (.ishr, 1) := by decide +kernel
theorem dX6_filibuster_77 : decode cX6_filibuster 77 = .ok (.iconst 1, 1) := by decide +kernel
theorem dX6_filibuster_78 : decode cX6_filibuster 78 = .ok (.iand, 1) := by decide +kernel
theorem dX6_filibuster_79 : decode cX6_filibuster 79 = .ok (.iconst 1, 1) := by decide +kernel
theorem dX6_filibuster_80 : decode cX6_filibuster 80 = .ok (.if_icmp .ne 15, 3) := by decide +kernel
theorem dX6_filibuster_83 : decode cX6_filibuster 83 = .ok (.aload_n 0, 1) := by decide +kernel
theorem dX6_filibuster_84 : decode cX6_filibuster 84 = .ok (.iload 5, 2) := by decide +kernel
theorem dX6_filibuster_86 : decode cX6_filibuster 86 = .ok (.iload_n 2, 1) := by decide +kernel
theorem dX6_filibuster_87 : decode cX6_filibuster 87 = .ok (.iload 4, 2) := by decide +kernel
theorem dX6_filibuster_89 : decode cX6_filibuster 89 = .ok (.invokevirtual 200, 3) := by decide +kernel
theorem dX6_filibuster_92 : decode cX6_filibuster 92 = .ok (.goto 5, 3) := by decide +kernel
theorem dX6_filibuster_95 : decode cX6_filibuster 95 = .ok (.bipush (-6), 2) := by decide +kernel
theorem dX6_filibuster_97 : decode cX6_filibuster 97 = .ok (.istore 6, 2) := by decide +kernel
theorem dX6_filibuster_99 : decode cX6_filibuster 99 = .ok (.iload 6, 2) := by decide +kernel
theorem dX6_filibuster_101 : decode cX6_filibuster 101 = .ok (.bipush (-6), 2) := by decide +kernel
theorem dX6_filibuster_103 : decode cX6_filibuster 103 = .ok (.if_icmp .eq 16, 3) := by decide +kernel
theorem dX6_filibuster_106 : decode cX6_filibuster 106 = .ok (.iload_n 3, 1) := by decide +kernel
theorem dX6_filibuster_107 : decode cX6_filibuster 107 = .ok (.iconst 1, 1) := by decide +kernel
theorem dX6_filibuster_108 : decode cX6_filibuster 108 = .ok (.if_icmp .ne 8, 3) := by decide +kernel
theorem dX6_filibuster_111 : decode cX6_filibuster 111 = .ok (.iload 5, 2) := by decide +kernel
theorem dX6_filibuster_113 : decode cX6_filibuster 113 = .ok (.goto 5, 3) := by decide +kernel
theorem dX6_filibuster_116 : decode cX6_filibuster 116 = .ok (.iload 6, 2) := by decide +kernel
theorem dX6_filibuster_118 : decode cX6_filibuster 118 = .ok (.ireturn, 1) := by decide +kernel
theorem dX6_filibuster_119 : decode cX6_filibuster 119 = .ok (.iinc 5 1, 3) := by decide +kernel
theorem dX6_filibuster_122 : decode cX6_filibuster 122 = .ok (.goto (-56), 3) := by decide +kernel
theorem dX6_filibuster_125 : decode cX6_filibuster 125 = .ok (.bipush (-6), 2) := by decide +kernel
theorem dX6_filibuster_127 : decode cX6_filibuster 127 = .ok (.ireturn, 1) := by decide +kernel
theorem dX6_breaks_0 : decode cX6_breaks 0 = .ok (.iload_n 1, 1) := by decide +kernel
theorem dX6_breaks_1 : decode cX6_breaks 1 = .ok (.iconst 1, 1) := by decide +kernel
theorem dX6_breaks_2 : decode cX6_breaks 2 = .ok (.bipush 9, 2) := by decide +kernel
theorem dX6_breaks_4 : decode cX6_breaks 4 = .ok (.invokestatic 49, 3) := by decide +kernel
theorem dX6_breaks_7 : decode cX6_breaks 7 = .ok (.ifCond .eq 23, 3) := by decide +kernel
theorem dX6_breaks_10 : decode cX6_breaks 10 = .ok (.iload_n 2, 1) := by decide +kernel
theorem dX6_breaks_11 : decode cX6_breaks 11 = .ok (.iconst 0, 1) := by decide +kernel
theorem dX6_breaks_12 : decode cX6_breaks 12 = .ok (.bipush 6, 2) := by decide +kernel
theorem dX6_breaks_14 : decode cX6_breaks 14 = .ok (.invokestatic 49, 3) := by decide +kernel
theorem dX6_breaks_17 : decode cX6_breaks 17 = .ok (.ifCond .eq 13, 3) := by decide +kernel
theorem dX6_breaks_20 : decode cX6_breaks 20 = .ok (.iload_n 3, 1) := by decide +kernel
theorem dX6_breaks_21 : decode cX6_breaks 21 = .ok (.iconst 0, 1) := by decide +kernel
theorem dX6_breaks_22 : decode cX6_breaks 22 = .ok (.bipush 10, 2) := by decide +kernel
theorem dX6_breaks_24 : decode cX6_breaks 24 = .ok (.invokestatic 49, 3) := by decide +kernel
theorem dX6_breaks_27 : decode cX6_breaks 27 = .ok (.ifCond .ne 7, 3) := by decide +kernel
theorem dX6_breaks_30 : decode cX6_breaks 30 = .ok (.ldc2_w 204, 3) := by decide +kernel
theorem dX6_breaks_33 : decode cX6_breaks 33 = .ok (.lreturn, 1) := by decide +kernel
theorem dX6_breaks_34 : decode cX6_breaks 34 = .ok (.iload 4, 2) := by decide +kernel
theorem dX6_breaks_36 : decode cX6_breaks 36 = .ok (.iconst 0, 1) := by decide +kernel
theorem dX6_breaks_37 : decode cX6_breaks 37 = .ok (.iconst 1, 1) := by decide +kernel
theorem dX6_breaks_38 : decode cX6_breaks 38 = .ok (.invokestatic 49, 3) := by decide +kernel
theorem dX6_breaks_41 : decode cX6_breaks 41 = .ok (.ifCond .eq 13, 3) := by decide +kernel
theorem dX6_breaks_44 : decode cX6_breaks 44 = .ok (.iload 5, 2) := by decide +kernel
theorem dX6_breaks_46 : decode cX6_breaks 46 = .ok (.iconst 0, 1) := by decide +kernel
theorem dX6_breaks_47 : decode cX6_breaks 47 = .ok (.iconst 1, 1) := by decide +kernel
theorem dX6_breaks_48 : decode cX6_breaks 48 = .ok (.invokestatic 49, 3) := by decide +kernel
theorem dX6_breaks_51 : decode cX6_breaks 51 = .ok (.ifCond .ne 7, 3) := by decide +kernel
theorem dX6_breaks_54 : decode cX6_breaks 54 = .ok (.ldc2_w 204, 3) := by decide +kernel
theorem dX6_breaks_57 : decode cX6_breaks 57 = .ok (.lreturn, 1) := by decide +kernel
theorem dX6_breaks_58 : decode cX6_breaks 58 = .ok (.aload_n 0, 1) := by decide +kernel
theorem dX6_breaks_59 : decode cX6_breaks 59 = .ok (.iload_n 2, 1) := by decide +kernel
theorem dX6_breaks_60 : decode cX6_breaks 60 = .ok (.iload_n 3, 1) := by decide +kernel
theorem dX6_breaks_61 : decode cX6_breaks 61 = .ok (.invokevirtual 206, 3) := by decide +kernel
theorem dX6_breaks_64 : decode cX6_breaks 64 = .ok (.lconst 0, 1) := by decide +kernel
theorem dX6_breaks_65 : decode cX6_breaks 65 = .ok (.lstore 6, 2) := by decide +kernel
theorem dX6_breaks_67 : decode cX6_breaks 67 = .ok (.lconst 1, 1) := by decide +kernel
theorem dX6_breaks_68 : decode cX6_breaks 68 = .ok (.lstore 8, 2) := by decide +kernel
theorem dX6_breaks_70 : decode cX6_breaks 70 = .ok (.iconst 0, 1) := by decide +kernel
theorem dX6_breaks_71 : decode cX6_breaks 71 = .ok (.istore 10, 2) := by decide +kernel
theorem dX6_breaks_73 : decode cX6_breaks 73 = .ok (.iload 10, 2) := by decide +kernel
theorem dX6_breaks_75 : decode cX6_breaks 75 = .ok (.iload_n 2, 1) := by decide +kernel
theorem dX6_breaks_76 : decode cX6_breaks 76 = .ok (.if_icmp .gt 82, 3) := by decide +kernel
theorem dX6_breaks_79 : decode cX6_breaks 79 = .ok (.iload 10, 2) := by decide +kernel
theorem dX6_breaks_81 : decode cX6_breaks 81 = .ok (.bipush 6, 2) := by decide +kernel
theorem dX6_breaks_83 : decode cX6_breaks 83 = .ok (.if_icmp .gt 75, 3) := by decide +kernel
theorem dX6_breaks_86 : decode cX6_breaks 86 = .ok (.iconst 1, 1) := by decide +kernel
theorem dX6_breaks_87 : decode cX6_breaks 87 = .ok (.iload 10, 2) := by decide +kernel
theorem dX6_breaks_89 : decode cX6_breaks 89 = .ok (.ishl, 1) := by decide +kernel
theorem dX6_breaks_90 : decode cX6_breaks 90 = .ok (.iload_n 1, 1) := by decide +kernel
theorem dX6_breaks_91 : decode cX6_breaks 91 = .ok (.invokestatic 210, 3) := by decide +kernel
theorem dX6_breaks_94 : decode cX6_breaks 94 = .ok (.istore 11, 2) := by decide +kernel
theorem dX6_breaks_96 : decode cX6_breaks 96 = .ok (.iload 4, 2) := by decide +kernel
theorem dX6_breaks_98 : decode cX6_breaks 98 = .ok (.ifCond .ne 8, 3) := by decide +kernel
theorem dX6_breaks_101 : decode cX6_breaks 101 = .ok (.iload 11, 2) := by decide +kernel
theorem dX6_breaks_103 : decode cX6_breaks 103 = .ok (.goto 14, 3) := by decide +kernel
theorem dX6_breaks_106 : decode cX6_breaks 106 = .ok (.iload 11, 2) := by decide +kernel
theorem dX6_breaks_108 : decode cX6_breaks 108 = .ok (.iload_n 1, 1) := by decide +kernel
theorem dX6_breaks_109 : decode cX6_breaks 109 = .ok (.if_icmp .ne 7, 3) := by decide +kernel
theorem dX6_breaks_112 : decode cX6_breaks 112 = .ok (.iconst 1, 1) := by decide +kernel
theorem dX6_breaks_113 : decode cX6_breaks 113 = .ok (.goto 4, 3) := by decide +kernel
theorem dX6_breaks_116 : decode cX6_breaks 116 = .ok (.iconst 0, 1) := by decide +kernel
theorem dX6_breaks_117 : decode cX6_breaks 117 = .ok (.istore 12, 2) := by decide +kernel
theorem dX6_breaks_119 : decode cX6_breaks 119 = .ok (.lload 6, 2) := by decide +kernel
theorem dX6_breaks_121 : decode cX6_breaks 121 = .ok (.aload_n 0, 1) := by decide +kernel
theorem dX6_breaks_122 : decode cX6_breaks 122 = .ok (.getfield 45, 3) := by decide +kernel
theorem dX6_breaks_125 : decode cX6_breaks 125 = .ok (.iload 10, 2) := by decide +kernel
theorem dX6_breaks_127 : decode cX6_breaks 127 = .ok (.laload, 1) := by decide +kernel
theorem dX6_breaks_128 : decode cX6_breaks 128 = .ok (.iload 12, 2) := by decide +kernel
theorem dX6_breaks_130 : decode cX6_breaks 130 = .ok (.i2l, 1) := by decide +kernel
theorem dX6_breaks_131 : decode cX6_breaks 131 = .ok (.lmul, 1) := by decide +kernel
theorem dX6_breaks_132 : decode cX6_breaks 132 = .ok (.ladd, 1) := by decide +kernel
theorem dX6_breaks_133 : decode cX6_breaks 133 = .ok (.lstore 6, 2) := by decide +kernel
theorem dX6_breaks_135 : decode cX6_breaks 135 = .ok (.lload 8, 2) := by decide +kernel
theorem dX6_breaks_137 : decode cX6_breaks 137 = .ok (.iload 10, 2) := by decide +kernel
theorem dX6_breaks_139 : decode cX6_breaks 139 = .ok (.ifCond .ne 7, 3) := by decide +kernel
theorem dX6_breaks_142 : decode cX6_breaks 142 = .ok (.lconst 1, 1) := by decide +kernel
theorem dX6_breaks_143 : decode cX6_breaks 143 = .ok (.goto 6, 3) := by decide +kernel
theorem dX6_breaks_146 : decode cX6_breaks 146 = .ok (.ldc2_w 213, 3) := by decide +kernel
theorem dX6_breaks_149 : decode cX6_breaks 149 = .ok (.lmul, 1) := by decide +kernel
theorem dX6_breaks_150 : decode cX6_breaks 150 = .ok (.lstore 8, 2) := by decide +kernel
theorem dX6_breaks_152 : decode cX6_breaks 152 = .ok (.iinc 10 1, 3) := by decide +kernel
theorem dX6_breaks_155 : decode cX6_breaks 155 = .ok (.goto (-82), 3) := by decide +kernel
theorem dX6_breaks_158 : decode cX6_breaks 158 = .ok (.lload 6, 2) := by decide +kernel
theorem dX6_breaks_160 : decode cX6_breaks 160 = .ok (.lload 8, 2) := by decide +kernel
theorem dX6_breaks_162 : decode cX6_breaks 162 = .ok (.iload 5, 2) := by decide +kernel
theorem dX6_breaks_164 : decode cX6_breaks 164 = .ok (.invokestatic 215, 3) := by decide +kernel
theorem dX6_breaks_167 : decode cX6_breaks 167 = .ok (.lreturn, 1) := by decide +kernel
theorem dX6_day_0 : decode cX6_day 0 = .ok (.iload_n 1, 1) := by decide +kernel
theorem dX6_day_1 : decode cX6_day 1 = .ok (.iconst 0, 1) := by decide +kernel
theorem dX6_day_2 : decode cX6_day 2 = .ok (.sipush 9999, 3) := by decide +kernel
theorem dX6_day_5 : decode cX6_day 5 = .ok (.invokestatic 49, 3) := by decide +kernel
theorem dX6_day_8 : decode cX6_day 8 = .ok (.ifCond .eq 22, 3) := by decide +kernel
theorem dX6_day_11 : decode cX6_day 11 = .ok (.iload_n 2, 1) := by decide +kernel
theorem dX6_day_12 : decode cX6_day 12 = .ok (.iconst 1, 1) := by decide +kernel
theorem dX6_day_13 : decode cX6_day 13 = .ok (.bipush 99, 2) := by decide +kernel
theorem dX6_day_15 : decode cX6_day 15 = .ok (.invokestatic 49, 3) := by decide +kernel
theorem dX6_day_18 : decode cX6_day 18 = .ok (.ifCond .eq 12, 3) := by decide +kernel
theorem dX6_day_21 : decode cX6_day 21 = .ok (.iload_n 3, 1) := by decide +kernel
theorem dX6_day_22 : decode cX6_day 22 = .ok (.iconst 0, 1) := by decide +kernel
theorem dX6_day_23 : decode cX6_day 23 = .ok (.iconst 2, 1) := by decide +kernel
theorem dX6_day_24 : decode cX6_day 24 = .ok (.invokestatic 49, 3) := by decide +kernel
theorem dX6_day_27 : decode cX6_day 27 = .ok (.ifCond .ne 6, 3) := by decide +kernel
theorem dX6_day_30 : decode cX6_day 30 = .ok (.bipush (-2), 2) := by decide +kernel
theorem dX6_day_32 : decode cX6_day 32 = .ok (.ireturn, 1) := by decide +kernel
theorem dX6_day_33 : decode cX6_day 33 = .ok (.aload_n 0, 1) := by decide +kernel
theorem dX6_day_34 : decode cX6_day 34 = .ok (.getfield 23, 3) := by decide +kernel
theorem dX6_day_37 : decode cX6_day 37 = .ok (.aload_n 0, 1) := by decide +kernel
theorem dX6_day_38 : decode cX6_day 38 = .ok (.getfield 12, 3) := by decide +kernel
theorem dX6_day_41 : decode cX6_day 41 = .ok (.getfield 53, 3) := by decide +kernel
theorem dX6_day_44 : decode cX6_day 44 = .ok (.invokevirtual 122, 3) := by decide +kernel
theorem dX6_day_47 : decode cX6_day 47 = .ok (.iload_n 1, 1) := by decide +kernel
theorem dX6_day_48 : decode cX6_day 48 = .ok (.istore 4, 2) := by decide +kernel
theorem dX6_day_50 : decode cX6_day 50 = .ok (.iconst 0, 1) := by decide +kernel
theorem dX6_day_51 : decode cX6_day 51 = .ok (.istore 5, 2) := by decide +kernel
theorem dX6_day_53 : decode cX6_day 53 = .ok (.iload 5, 2) := by decide +kernel
theorem dX6_day_55 : decode cX6_day 55 = .ok (.iload_n 2, 1) := by decide +kernel
theorem dX6_day_56 : decode cX6_day 56 = .ok (.if_icmp .ge 31, 3) := by decide +kernel
theorem dX6_day_59 : decode cX6_day 59 = .ok (.bipush 75, 2) := by decide +kernel
theorem dX6_day_61 : decode cX6_day 61 = .ok (.iload 4, 2) := by decide +kernel
theorem dX6_day_63 : decode cX6_day 63 = .ok (.imul, 1) := by decide +kernel
theorem dX6_day_64 : decode cX6_day 64 = .ok (.bipush 74, 2) := by decide +kernel
theorem dX6_day_66 : decode cX6_day 66 = .ok (.iadd, 1) := by decide +kernel
theorem dX6_day_67 : decode cX6_day 67 = .ok (.ldc 219, 2) := by decide +kernel
theorem dX6_day_69 : decode cX6_day 69 = .ok (.irem, 1) := by decide +kernel
theorem dX6_day_70 : decode cX6_day 70 = .ok (.istore 4, 2) := by decide +kernel
theorem dX6_day_72 : decode cX6_day 72 = .ok (.aload_n 0, 1) := by decide +kernel
theorem dX6_day_73 : decode cX6_day 73 = .ok (.getfield 23, 3) := by decide +kernel
theorem dX6_day_76 : decode cX6_day 76 = .ok (.iload 4, 2) := by decide +kernel
theorem dX6_day_78 : decode cX6_day 78 = .ok (.invokevirtual 220, 3) := by decide +kernel
theorem dX6_day_81 : decode cX6_day 81 = .ok (.iinc 5 1, 3) := by decide +kernel
theorem dX6_day_84 : decode cX6_day 84 = .ok (.goto (-31), 3) := by decide +kernel
theorem dX6_day_87 : decode cX6_day 87 = .ok (.iload_n 3, 1) := by decide +kernel
theorem dX6_day_88 : decode cX6_day 88 = .ok (.lookupswitch 54 #[(0, 28), (1, 39)], 28) := by decide +kernel
theorem dX6_day_116 : decode cX6_day 116 = .ok (.aload_n 0, 1) := by decide +kernel
theorem dX6_day_117 : decode cX6_day 117 = .ok (.getfield 23, 3) := by decide +kernel
theorem dX6_day_120 : decode cX6_day 120 = .ok (.getfield 87, 3) := by decide +kernel
theorem dX6_day_123 : decode cX6_day 123 = .ok (.getfield 91, 3) := by decide +kernel
theorem dX6_day_126 : decode cX6_day 126 = .ok (.ireturn, 1) := by decide +kernel
theorem dX6_day_127 : decode cX6_day 127 = .ok (.aload_n 0, 1) := by decide +kernel
theorem dX6_day_128 : decode cX6_day 128 = .ok (.getfield 23, 3) := by decide +kernel
theorem dX6_day_131 : decode cX6_day 131 = .ok (.aload_n 0, 1) := by decide +kernel
theorem dX6_day_132 : decode cX6_day 132 = .ok (.getfield 23, 3) := by decide +kernel
theorem dX6_day_135 : decode cX6_day 135 = .ok (.getfield 60, 3) := by decide +kernel
theorem dX6_day_138 : decode cX6_day 138 = .ok (.invokevirtual 223, 3) := by decide +kernel
theorem dX6_day_141 : decode cX6_day 141 = .ok (.ireturn, 1) := by decide +kernel
theorem dX6_day_142 : decode cX6_day 142 = .ok (.aload_n 0, 1) := by decide +kernel
theorem dX6_day_143 : decode cX6_day 143 = .ok (.getfield 23, 3) := by decide +kernel
theorem dX6_day_146 : decode cX6_day 146 = .ok (.getfield 60, 3) := by decide +kernel
theorem dX6_day_149 : decode cX6_day 149 = .ok (.invokestatic 64, 3) := by decide +kernel
theorem dX6_day_152 : decode cX6_day 152 = .ok (.ireturn, 1) := by decide +kernel
theorem dX6_image_0 : decode cX6_image 0 = .ok (.iload_n 1, 1) := by decide +kernel
theorem dX6_image_1 : decode cX6_image 1 = .ok (.iconst 0, 1) := by decide +kernel
theorem dX6_image_2 : decode cX6_image 2 = .ok (.iconst 1, 1) := by decide +kernel
theorem dX6_image_3 : decode cX6_image 3 = .ok (.invokestatic 49, 3) := by decide +kernel
theorem dX6_image_6 : decode cX6_image 6 = .ok (.ifCond .ne 6, 3) := by decide +kernel
theorem dX6_image_9 : decode cX6_image 9 = .ok (.bipush (-2), 2) := by decide +kernel
theorem dX6_image_11 : decode cX6_image 11 = .ok (.ireturn, 1) := by decide +kernel
theorem dX6_image_12 : decode cX6_image 12 = .ok (.aload_n 0, 1) := by decide +kernel
theorem dX6_image_13 : decode cX6_image 13 = .ok (.getfield 16, 3) := by decide +kernel
theorem dX6_image_16 : decode cX6_image 16 = .ok (.iload_n 1, 1) := by decide +kernel
theorem dX6_image_17 : decode cX6_image 17 = .ok (.aaload, 1) := by decide +kernel
theorem dX6_image_18 : decode cX6_image 18 = .ok (.aload_n 0, 1) := by decide +kernel
theorem dX6_image_19 : decode cX6_image 19 = .ok (.getfield 12, 3) := by decide +kernel
theorem dX6_image_22 : decode cX6_image 22 = .ok (.invokevirtual 226, 3) := by decide +kernel
theorem dX6_image_25 : decode cX6_image 25 = .ok (.aload_n 0, 1) := by decide +kernel
theorem dX6_image_26 : decode cX6_image 26 = .ok (.getfield 16, 3) := by decide +kernel
theorem dX6_image_29 : decode cX6_image 29 = .ok (.iload_n 1, 1) := by decide +kernel
theorem dX6_image_30 : decode cX6_image 30 = .ok (.aaload, 1) := by decide +kernel
theorem dX6_image_31 : decode cX6_image 31 = .ok (.iconst 1, 1) := by decide +kernel
theorem dX6_image_32 : decode cX6_image 32 = .ok (.putfield 229, 3) := by decide +kernel
theorem dX6_image_35 : decode cX6_image 35 = .ok (.iconst 1, 1) := by decide +kernel
theorem dX6_image_36 : decode cX6_image 36 = .ok (.ireturn, 1) := by decide +kernel
theorem dX6_restore_0 : decode cX6_restore 0 = .ok (.iload_n 1, 1) := by decide +kernel
theorem dX6_restore_1 : decode cX6_restore 1 = .ok (.iconst 0, 1) := by decide +kernel
theorem dX6_restore_2 : decode cX6_restore 2 = .ok (.iconst 1, 1) := by decide +kernel
theorem dX6_restore_3 : decode cX6_restore 3 = .ok (.invokestatic 49, 3) := by decide +kernel
theorem dX6_restore_6 : decode cX6_restore 6 = .ok (.ifCond .ne 6, 3) := by decide +kernel
theorem dX6_restore_9 : decode cX6_restore 9 = .ok (.bipush (-2), 2) := by decide +kernel
theorem dX6_restore_11 : decode cX6_restore 11 = .ok (.ireturn, 1) := by decide +kernel
theorem dX6_restore_12 : decode cX6_restore 12 = .ok (.aload_n 0, 1) := by decide +kernel
theorem dX6_restore_13 : decode cX6_restore 13 = .ok (.getfield 16, 3) := by decide +kernel
theorem dX6_restore_16 : decode cX6_restore 16 = .ok (.iload_n 1, 1) := by decide +kernel
theorem dX6_restore_17 : decode cX6_restore 17 = .ok (.aaload, 1) := by decide +kernel
theorem dX6_restore_18 : decode cX6_restore 18 = .ok (.getfield 229, 3) := by decide +kernel
theorem dX6_restore_21 : decode cX6_restore 21 = .ok (.ifCond .ne 6, 3) := by decide +kernel
theorem dX6_restore_24 : decode cX6_restore 24 = .ok (.bipush (-3), 2) := by decide +kernel
theorem dX6_restore_26 : decode cX6_restore 26 = .ok (.ireturn, 1) := by decide +kernel
theorem dX6_restore_27 : decode cX6_restore 27 = .ok (.aload_n 0, 1) := by decide +kernel
theorem dX6_restore_28 : decode cX6_restore 28 = .ok (.getfield 12, 3) := by decide +kernel
theorem dX6_restore_31 : decode cX6_restore 31 = .ok (.aload_n 0, 1) := by decide +kernel
theorem dX6_restore_32 : decode cX6_restore 32 = .ok (.getfield 16, 3) := by decide +kernel
theorem dX6_restore_35 : decode cX6_restore 35 = .ok (.iload_n 1, 1) := by decide +kernel
theorem dX6_restore_36 : decode cX6_restore 36 = .ok (.aaload, 1) := by decide +kernel
theorem dX6_restore_37 : decode cX6_restore 37 = .ok (.invokevirtual 226, 3) := by decide +kernel
theorem dX6_restore_40 : decode cX6_restore 40 = .ok (.iconst 1, 1) := by decide +kernel
theorem dX6_restore_41 : decode cX6_restore 41 = .ok (.ireturn, 1) := by decide +kernel
theorem dX6_told_0 : decode cX6_told 0 = .ok (.aload_n 0, 1) := by decide +kernel
theorem dX6_told_1 : decode cX6_told 1 = .ok (.getfield 12, 3) := by decide +kernel
theorem dX6_told_4 : decode cX6_told 4 = .ok (.getfield 53, 3) := by decide +kernel
theorem dX6_told_7 : decode cX6_told 7 = .ok (.astore_n 2, 1) := by decide +kernel
theorem dX6_told_8 : decode cX6_told 8 = .ok (.iload_n 1, 1) := by decide +kernel
theorem dX6_told_9 : decode cX6_told 9 = .ok (.tableswitch 99 0 7 #[47, 55, 60, 65, 70, 75, 80, 91], 47) := by decide +kernel
theorem dX6_told_56 : decode cX6_told 56 = .ok (.aload_n 0, 1) := by decide +kernel
theorem dX6_told_57 : decode cX6_told 57 = .ok (.getfield 30, 3) := by decide +kernel
theorem dX6_told_60 : decode cX6_told 60 = .ok (.getfield 102, 3) := by decide +kernel
theorem dX6_told_63 : decode cX6_told 63 = .ok (.ireturn, 1) := by decide +kernel
theorem dX6_told_64 : decode cX6_told 64 = .ok (.aload_n 2, 1) := by decide +kernel
theorem dX6_told_65 : decode cX6_told 65 = .ok (.getfield 78, 3) := by decide +kernel
theorem dX6_told_68 : decode cX6_told 68 = .ok (.ireturn, 1) := by decide +kernel
theorem dX6_told_69 : decode cX6_told 69 = .ok (.aload_n 2, 1) := by decide +kernel
theorem dX6_told_70 : decode cX6_told 70 = .ok (.getfield 60, 3) := by decide +kernel
theorem dX6_told_73 : decode cX6_told 73 = .ok (.ireturn, 1) := by decide +kernel
theorem dX6_told_74 : decode cX6_told 74 = .ok (.aload_n 2, 1) := by decide +kernel
theorem dX6_told_75 : decode cX6_told 75 = .ok (.getfield 99, 3) := by decide +kernel
theorem dX6_told_78 : decode cX6_told 78 = .ok (.ireturn, 1) := by decide +kernel
theorem dX6_told_79 : decode cX6_told 79 = .ok (.aload_n 2, 1) := by decide +kernel
theorem dX6_told_80 : decode cX6_told 80 = .ok (.getfield 81, 3) := by decide +kernel
theorem dX6_told_83 : decode cX6_told 83 = .ok (.ireturn, 1) := by decide +kernel
theorem dX6_told_84 : decode cX6_told 84 = .ok (.aload_n 2, 1) := by decide +kernel
theorem dX6_told_85 : decode cX6_told 85 = .ok (.getfield 84, 3) := by decide +kernel
theorem dX6_told_88 : decode cX6_told 88 = .ok (.ireturn, 1) := by decide +kernel
theorem dX6_told_89 : decode cX6_told 89 = .ok (.aload_n 0, 1) := by decide +kernel
theorem dX6_told_90 : decode cX6_told 90 = .ok (.getfield 12, 3) := by decide +kernel
theorem dX6_told_93 : decode cX6_told 93 = .ok (.getfield 180, 3) := by decide +kernel
theorem dX6_told_96 : decode cX6_told 96 = .ok (.getfield 184, 3) := by decide +kernel
theorem dX6_told_99 : decode cX6_told 99 = .ok (.ireturn, 1) := by decide +kernel
theorem dX6_told_100 : decode cX6_told 100 = .ok (.aload_n 2, 1) := by decide +kernel
theorem dX6_told_101 : decode cX6_told 101 = .ok (.getfield 87, 3) := by decide +kernel
theorem dX6_told_104 : decode cX6_told 104 = .ok (.getfield 91, 3) := by decide +kernel
theorem dX6_told_107 : decode cX6_told 107 = .ok (.ireturn, 1) := by decide +kernel
theorem dX6_told_108 : decode cX6_told 108 = .ok (.aload_n 0, 1) := by decide +kernel
theorem dX6_told_109 : decode cX6_told 109 = .ok (.iload_n 1, 1) := by decide +kernel
theorem dX6_told_110 : decode cX6_told 110 = .ok (.invokevirtual 233, 3) := by decide +kernel
theorem dX6_told_113 : decode cX6_told 113 = .ok (.ireturn, 1) := by decide +kernel
theorem dX6_within_0 : decode cX6_within 0 = .ok (.iload_n 0, 1) := by decide +kernel
theorem dX6_within_1 : decode cX6_within 1 = .ok (.iload_n 1, 1) := by decide +kernel
theorem dX6_within_2 : decode cX6_within 2 = .ok (.if_icmp .lt 12, 3) := by decide +kernel
theorem dX6_within_5 : decode cX6_within 5 = .ok (.iload_n 0, 1) := by decide +kernel
theorem dX6_within_6 : decode cX6_within 6 = .ok (.iload_n 2, 1) := by decide +kernel
theorem dX6_within_7 : decode cX6_within 7 = .ok (.if_icmp .gt 7, 3) := by decide +kernel
theorem dX6_within_10 : decode cX6_within 10 = .ok (.iconst 1, 1) := by decide +kernel
theorem dX6_within_11 : decode cX6_within 11 = .ok (.goto 4, 3) := by decide +kernel
theorem dX6_within_14 : decode cX6_within 14 = .ok (.iconst 0, 1) := by decide +kernel
theorem dX6_within_15 : decode cX6_within 15 = .ok (.ireturn, 1) := by decide +kernel
theorem dX6_toldOfOne_0 : decode cX6_toldOfOne 0 = .ok (.iload_n 1, 1) := by decide +kernel
theorem dX6_toldOfOne_1 : decode cX6_toldOfOne 1 = .ok (.bipush 10, 2) := by decide +kernel
theorem dX6_toldOfOne_3 : decode cX6_toldOfOne 3 = .ok (.bipush 16, 2) := by decide +kernel
theorem dX6_toldOfOne_5 : decode cX6_toldOfOne 5 = .ok (.invokestatic 49, 3) := by decide +kernel
theorem dX6_toldOfOne_8 : decode cX6_toldOfOne 8 = .ok (.ifCond .eq 35, 3) := by decide +kernel
theorem dX6_toldOfOne_11 : decode cX6_toldOfOne 11 = .ok (.aload_n 0, 1) := by decide +kernel
theorem dX6_toldOfOne_12 : decode cX6_toldOfOne 12 = .ok (.getfield 12, 3) := by decide +kernel
theorem dX6_toldOfOne_15 : decode cX6_toldOfOne 15 = .ok (.getfield 53, 3) := by decide +kernel
theorem dX6_toldOfOne_18 : decode cX6_toldOfOne 18 = .ok (.iload_n 1, 1) := by decide +kernel
theorem dX6_toldOfOne_19 : decode cX6_toldOfOne 19 = .ok (.bipush 10, 2) := by decide +kernel
theorem dX6_toldOfOne_21 : decode cX6_toldOfOne 21 = .ok (.isub, 1) := by decide +kernel
theorem dX6_toldOfOne_22 : decode cX6_toldOfOne 22 = .ok (.invokevirtual 70, 3) := by decide +kernel
theorem dX6_toldOfOne_25 : decode cX6_toldOfOne 25 = .ok (.ifCond .eq 18, 3) := by decide +kernel
theorem dX6_toldOfOne_28 : decode cX6_toldOfOne 28 = .ok (.aload_n 0, 1) := by decide +kernel
theorem dX6_toldOfOne_29 : decode cX6_toldOfOne 29 = .ok (.getfield 12, 3) := by decide +kernel
theorem dX6_toldOfOne_32 : decode cX6_toldOfOne 32 = .ok (.getfield 53, 3) := by decide +kernel
theorem dX6_toldOfOne_35 : decode cX6_toldOfOne 35 = .ok (.iload_n 1, 1) := by decide +kernel
theorem dX6_toldOfOne_36 : decode cX6_toldOfOne 36 = .ok (.bipush 10, 2) := by decide +kernel
theorem dX6_toldOfOne_38 : decode cX6_toldOfOne 38 = .ok (.isub, 1) := by decide +kernel
theorem dX6_toldOfOne_39 : decode cX6_toldOfOne 39 = .ok (.invokevirtual 196, 3) := by decide +kernel
theorem dX6_toldOfOne_42 : decode cX6_toldOfOne 42 = .ok (.ireturn, 1) := by decide +kernel
theorem dX6_toldOfOne_43 : decode cX6_toldOfOne 43 = .ok (.iload_n 1, 1) := by decide +kernel
theorem dX6_toldOfOne_44 : decode cX6_toldOfOne 44 = .ok (.bipush 20, 2) := by decide +kernel
theorem dX6_toldOfOne_46 : decode cX6_toldOfOne 46 = .ok (.bipush 26, 2) := by decide +kernel
theorem dX6_toldOfOne_48 : decode cX6_toldOfOne 48 = .ok (.invokestatic 49, 3) := by decide +kernel
theorem dX6_toldOfOne_51 : decode cX6_toldOfOne 51 = .ok (.ifCond .eq 35, 3) := by decide +kernel
theorem dX6_toldOfOne_54 : decode cX6_toldOfOne 54 = .ok (.aload_n 0, 1) := by decide +kernel
theorem dX6_toldOfOne_55 : decode cX6_toldOfOne 55 = .ok (.getfield 12, 3) := by decide +kernel
theorem dX6_toldOfOne_58 : decode cX6_toldOfOne 58 = .ok (.getfield 53, 3) := by decide +kernel
theorem dX6_toldOfOne_61 : decode cX6_toldOfOne 61 = .ok (.iload_n 1, 1) := by decide +kernel
theorem dX6_toldOfOne_62 : decode cX6_toldOfOne 62 = .ok (.bipush 20, 2) := by decide +kernel
theorem dX6_toldOfOne_64 : decode cX6_toldOfOne 64 = .ok (.isub, 1) := by decide +kernel
theorem dX6_toldOfOne_65 : decode cX6_toldOfOne 65 = .ok (.invokevirtual 70, 3) := by decide +kernel
theorem dX6_toldOfOne_68 : decode cX6_toldOfOne 68 = .ok (.ifCond .eq 18, 3) := by decide +kernel
theorem dX6_toldOfOne_71 : decode cX6_toldOfOne 71 = .ok (.aload_n 0, 1) := by decide +kernel
theorem dX6_toldOfOne_72 : decode cX6_toldOfOne 72 = .ok (.getfield 12, 3) := by decide +kernel
theorem dX6_toldOfOne_75 : decode cX6_toldOfOne 75 = .ok (.getfield 53, 3) := by decide +kernel
theorem dX6_toldOfOne_78 : decode cX6_toldOfOne 78 = .ok (.iload_n 1, 1) := by decide +kernel
theorem dX6_toldOfOne_79 : decode cX6_toldOfOne 79 = .ok (.bipush 20, 2) := by decide +kernel
theorem dX6_toldOfOne_81 : decode cX6_toldOfOne 81 = .ok (.isub, 1) := by decide +kernel
theorem dX6_toldOfOne_82 : decode cX6_toldOfOne 82 = .ok (.invokevirtual 126, 3) := by decide +kernel
theorem dX6_toldOfOne_85 : decode cX6_toldOfOne 85 = .ok (.ireturn, 1) := by decide +kernel
theorem dX6_toldOfOne_86 : decode cX6_toldOfOne 86 = .ok (.iload_n 1, 1) := by decide +kernel
theorem dX6_toldOfOne_87 : decode cX6_toldOfOne 87 = .ok (.bipush 30, 2) := by decide +kernel
theorem dX6_toldOfOne_89 : decode cX6_toldOfOne 89 = .ok (.bipush 35, 2) := by decide +kernel
theorem dX6_toldOfOne_91 : decode cX6_toldOfOne 91 = .ok (.invokestatic 49, 3) := by decide +kernel
theorem dX6_toldOfOne_94 : decode cX6_toldOfOne 94 = .ok (.ifCond .eq 16, 3) := by decide +kernel
theorem dX6_toldOfOne_97 : decode cX6_toldOfOne 97 = .ok (.aload_n 0, 1) := by decide +kernel
theorem dX6_toldOfOne_98 : decode cX6_toldOfOne 98 = .ok (.getfield 12, 3) := by decide +kernel
theorem dX6_toldOfOne_101 : decode cX6_toldOfOne 101 = .ok (.getfield 174, 3) := by decide +kernel
theorem dX6_toldOfOne_104 : decode cX6_toldOfOne 104 = .ok (.iload_n 1, 1) := by decide +kernel
theorem dX6_toldOfOne_105 : decode cX6_toldOfOne 105 = .ok (.bipush 30, 2) := by decide +kernel
theorem dX6_toldOfOne_107 : decode cX6_toldOfOne 107 = .ok (.isub, 1) := by decide +kernel
theorem dX6_toldOfOne_108 : decode cX6_toldOfOne 108 = .ok (.iaload, 1) := by decide +kernel
theorem dX6_toldOfOne_109 : decode cX6_toldOfOne 109 = .ok (.ireturn, 1) := by decide +kernel
theorem dX6_toldOfOne_110 : decode cX6_toldOfOne 110 = .ok (.bipush (-2), 2) := by decide +kernel
theorem dX6_toldOfOne_112 : decode cX6_toldOfOne 112 = .ok (.ireturn, 1) := by decide +kernel
theorem dX6_tryPad_0 : decode cX6_tryPad 0 = .ok (.aload_n 0, 1) := by decide +kernel
theorem dX6_tryPad_1 : decode cX6_tryPad 1 = .ok (.getfield 30, 3) := by decide +kernel
theorem dX6_tryPad_4 : decode cX6_tryPad 4 = .ok (.invokevirtual 108, 3) := by decide +kernel
theorem dX6_tryPad_7 : decode cX6_tryPad 7 = .ok (.bipush (-6), 2) := by decide +kernel
theorem dX6_tryPad_9 : decode cX6_tryPad 9 = .ok (.if_icmp .eq 5, 3) := by decide +kernel
theorem dX6_tryPad_12 : decode cX6_tryPad 12 = .ok (.iconst 0, 1) := by decide +kernel
theorem dX6_tryPad_13 : decode cX6_tryPad 13 = .ok (.ireturn, 1) := by decide +kernel
theorem dX6_tryPad_14 : decode cX6_tryPad 14 = .ok (.aload_n 0, 1) := by decide +kernel
theorem dX6_tryPad_15 : decode cX6_tryPad 15 = .ok (.getfield 23, 3) := by decide +kernel
theorem dX6_tryPad_18 : decode cX6_tryPad 18 = .ok (.aload_n 0, 1) := by decide +kernel
theorem dX6_tryPad_19 : decode cX6_tryPad 19 = .ok (.getfield 12, 3) := by decide +kernel
theorem dX6_tryPad_22 : decode cX6_tryPad 22 = .ok (.getfield 53, 3) := by decide +kernel
theorem dX6_tryPad_25 : decode cX6_tryPad 25 = .ok (.invokevirtual 122, 3) := by decide +kernel
theorem dX6_tryPad_28 : decode cX6_tryPad 28 = .ok (.aload_n 0, 1) := by decide +kernel
theorem dX6_tryPad_29 : decode cX6_tryPad 29 = .ok (.getfield 37, 3) := by decide +kernel
theorem dX6_tryPad_32 : decode cX6_tryPad 32 = .ok (.aload_n 0, 1) := by decide +kernel
theorem dX6_tryPad_33 : decode cX6_tryPad 33 = .ok (.getfield 30, 3) := by decide +kernel
theorem dX6_tryPad_36 : decode cX6_tryPad 36 = .ok (.aload_n 0, 1) := by decide +kernel
theorem dX6_tryPad_37 : decode cX6_tryPad 37 = .ok (.getfield 23, 3) := by decide +kernel
theorem dX6_tryPad_40 : decode cX6_tryPad 40 = .ok (.invokevirtual 236, 3) := by decide +kernel
theorem dX6_tryPad_43 : decode cX6_tryPad 43 = .ok (.aload_n 0, 1) := by decide +kernel
theorem dX6_tryPad_44 : decode cX6_tryPad 44 = .ok (.getfield 37, 3) := by decide +kernel
theorem dX6_tryPad_47 : decode cX6_tryPad 47 = .ok (.getfield 119, 3) := by decide +kernel
theorem dX6_tryPad_50 : decode cX6_tryPad 50 = .ok (.ifCond .ne 7, 3) := by decide +kernel
theorem dX6_tryPad_53 : decode cX6_tryPad 53 = .ok (.iconst 1, 1) := by decide +kernel
theorem dX6_tryPad_54 : decode cX6_tryPad 54 = .ok (.goto 4, 3) := by decide +kernel
theorem dX6_tryPad_57 : decode cX6_tryPad 57 = .ok (.iconst 0, 1) := by decide +kernel
theorem dX6_tryPad_58 : decode cX6_tryPad 58 = .ok (.ireturn, 1) := by decide +kernel
theorem dX6_areBelow_0 : decode cX6_areBelow 0 = .ok (.iload_n 1, 1) := by decide +kernel
theorem dX6_areBelow_1 : decode cX6_areBelow 1 = .ok (.iconst 0, 1) := by decide +kernel
theorem dX6_areBelow_2 : decode cX6_areBelow 2 = .ok (.bipush 127, 2) := by decide +kernel
theorem dX6_areBelow_4 : decode cX6_areBelow 4 = .ok (.invokestatic 49, 3) := by decide +kernel
theorem dX6_areBelow_7 : decode cX6_areBelow 7 = .ok (.ifCond .eq 24, 3) := by decide +kernel
theorem dX6_areBelow_10 : decode cX6_areBelow 10 = .ok (.iload_n 1, 1) := by decide +kernel
theorem dX6_areBelow_11 : decode cX6_areBelow 11 = .ok (.aload_n 0, 1) := by decide +kernel
theorem dX6_areBelow_12 : decode cX6_areBelow 12 = .ok (.getfield 12, 3) := by decide +kernel
theorem dX6_areBelow_15 : decode cX6_areBelow 15 = .ok (.getfield 53, 3) := by decide +kernel
theorem dX6_areBelow_18 : decode cX6_areBelow 18 = .ok (.getfield 60, 3) := by decide +kernel
theorem dX6_areBelow_21 : decode cX6_areBelow 21 = .ok (.iconst (-1), 1) := by decide +kernel
theorem dX6_areBelow_22 : decode cX6_areBelow 22 = .ok (.ixor, 1) := by decide +kernel
theorem dX6_areBelow_23 : decode cX6_areBelow 23 = .ok (.iand, 1) := by decide +kernel
theorem dX6_areBelow_24 : decode cX6_areBelow 24 = .ok (.ifCond .ne 7, 3) := by decide +kernel
theorem dX6_areBelow_27 : decode cX6_areBelow 27 = .ok (.iconst 1, 1) := by decide +kernel
theorem dX6_areBelow_28 : decode cX6_areBelow 28 = .ok (.goto 4, 3) := by decide +kernel
theorem dX6_areBelow_31 : decode cX6_areBelow 31 = .ok (.iconst 0, 1) := by decide +kernel
theorem dX6_areBelow_32 : decode cX6_areBelow 32 = .ok (.ireturn, 1) := by decide +kernel
theorem dX6_existingLaws_0 : decode cX6_existingLaws 0 = .ok (.iconst 0, 1) := by decide +kernel
theorem dX6_existingLaws_1 : decode cX6_existingLaws 1 = .ok (.istore_n 1, 1) := by decide +kernel
theorem dX6_existingLaws_2 : decode cX6_existingLaws 2 = .ok (.iconst 0, 1) := by decide +kernel
theorem dX6_existingLaws_3 : decode cX6_existingLaws 3 = .ok (.istore_n 2, 1) := by decide +kernel
theorem dX6_existingLaws_4 : decode cX6_existingLaws 4 = .ok (.iload_n 2, 1) := by decide +kernel
theorem dX6_existingLaws_5 : decode cX6_existingLaws 5 = .ok (.bipush 6, 2) := by decide +kernel
theorem dX6_existingLaws_7 : decode cX6_existingLaws 7 = .ok (.if_icmp .ge 25, 3) := by decide +kernel
theorem dX6_existingLaws_10 : decode cX6_existingLaws 10 = .ok (.iload_n 0, 1) := by decide +kernel
theorem dX6_existingLaws_11 : decode cX6_existingLaws 11 = .ok (.iconst 1, 1) := by decide +kernel
theorem dX6_existingLaws_12 : decode cX6_existingLaws 12 = .ok (.iload_n 2, 1) := by decide +kernel
theorem dX6_existingLaws_13 : decode cX6_existingLaws 13 = .ok (.ishl, 1) := by decide +kernel
theorem dX6_existingLaws_14 : decode cX6_existingLaws 14 = .ok (.invokestatic 164, 3) := by decide +kernel
theorem dX6_existingLaws_17 : decode cX6_existingLaws 17 = .ok (.ifCond .le 9, 3) := by decide +kernel
theorem dX6_existingLaws_20 : decode cX6_existingLaws 20 = .ok (.iload_n 1, 1) := by decide +kernel
theorem dX6_existingLaws_21 : decode cX6_existingLaws 21 = .ok (.iconst 1, 1) := by decide +kernel
theorem dX6_existingLaws_22 : decode cX6_existingLaws 22 = .ok (.iload_n 2, 1) := by decide +kernel
theorem dX6_existingLaws_23 : decode cX6_existingLaws 23 = .ok (.ishl, 1) := by decide +kernel
theorem dX6_existingLaws_24 : decode cX6_existingLaws 24 = .ok (.ior, 1) := by decide +kernel
theorem dX6_existingLaws_25 : decode cX6_existingLaws 25 = .ok (.istore_n 1, 1) := by decide +kernel
theorem dX6_existingLaws_26 : decode cX6_existingLaws 26 = .ok (.iinc 2 1, 3) := by decide +kernel
theorem dX6_existingLaws_29 : decode cX6_existingLaws 29 = .ok (.goto (-25), 3) := by decide +kernel
theorem dX6_existingLaws_32 : decode cX6_existingLaws 32 = .ok (.iload_n 1, 1) := by decide +kernel
theorem dX6_existingLaws_33 : decode cX6_existingLaws 33 = .ok (.ireturn, 1) := by decide +kernel
theorem dX6_digitSum_0 : decode cX6_digitSum 0 = .ok (.iconst 0, 1) := by decide +kernel
theorem dX6_digitSum_1 : decode cX6_digitSum 1 = .ok (.istore_n 2, 1) := by decide +kernel
theorem dX6_digitSum_2 : decode cX6_digitSum 2 = .ok (.iload_n 0, 1) := by decide +kernel
theorem dX6_digitSum_3 : decode cX6_digitSum 3 = .ok (.istore_n 3, 1) := by decide +kernel
theorem dX6_digitSum_4 : decode cX6_digitSum 4 = .ok (.iconst 0, 1) := by decide +kernel
theorem dX6_digitSum_5 : decode cX6_digitSum 5 = .ok (.istore 4, 2) := by decide +kernel
theorem dX6_digitSum_7 : decode cX6_digitSum 7 = .ok (.iload 4, 2) := by decide +kernel
theorem dX6_digitSum_9 : decode cX6_digitSum 9 = .ok (.bipush 6, 2) := by decide +kernel
theorem dX6_digitSum_11 : decode cX6_digitSum 11 = .ok (.if_icmp .ge 31, 3) := by decide +kernel
theorem dX6_digitSum_14 : decode cX6_digitSum 14 = .ok (.iload_n 1, 1) := by decide +kernel
theorem dX6_digitSum_15 : decode cX6_digitSum 15 = .ok (.iload 4, 2) := by decide +kernel
theorem dX6_digitSum_17 : decode cX6_digitSum 17 = .ok (.ishr, 1) := by decide +kernel
theorem dX6_digitSum_18 : decode cX6_digitSum 18 = .ok (.iconst 1, 1) := by decide +kernel
theorem dX6_digitSum_19 : decode cX6_digitSum 19 = .ok (.iand, 1) := by decide +kernel
theorem dX6_digitSum_20 : decode cX6_digitSum 20 = .ok (.iconst 1, 1) := by decide +kernel
theorem dX6_digitSum_21 : decode cX6_digitSum 21 = .ok (.if_icmp .ne 10, 3) := by decide +kernel
theorem dX6_digitSum_24 : decode cX6_digitSum 24 = .ok (.iload_n 2, 1) := by decide +kernel
theorem dX6_digitSum_25 : decode cX6_digitSum 25 = .ok (.iload_n 3, 1) := by decide +kernel
theorem dX6_digitSum_26 : decode cX6_digitSum 26 = .ok (.bipush 10, 2) := by decide +kernel
theorem dX6_digitSum_28 : decode cX6_digitSum 28 = .ok (.irem, 1) := by decide +kernel
theorem dX6_digitSum_29 : decode cX6_digitSum 29 = .ok (.iadd, 1) := by decide +kernel
theorem dX6_digitSum_30 : decode cX6_digitSum 30 = .ok (.istore_n 2, 1) := by decide +kernel
theorem dX6_digitSum_31 : decode cX6_digitSum 31 = .ok (.iload_n 3, 1) := by decide +kernel
theorem dX6_digitSum_32 : decode cX6_digitSum 32 = .ok (.bipush 10, 2) := by decide +kernel
theorem dX6_digitSum_34 : decode cX6_digitSum 34 = .ok (.idiv, 1) := by decide +kernel
theorem dX6_digitSum_35 : decode cX6_digitSum 35 = .ok (.istore_n 3, 1) := by decide +kernel
theorem dX6_digitSum_36 : decode cX6_digitSum 36 = .ok (.iinc 4 1, 3) := by decide +kernel
theorem dX6_digitSum_39 : decode cX6_digitSum 39 = .ok (.goto (-32), 3) := by decide +kernel
theorem dX6_digitSum_42 : decode cX6_digitSum 42 = .ok (.iload_n 2, 1) := by decide +kernel
theorem dX6_digitSum_43 : decode cX6_digitSum 43 = .ok (.ireturn, 1) := by decide +kernel
theorem dX6_waysToPass_0 : decode cX6_waysToPass 0 = .ok (.iload_n 2, 1) := by decide +kernel
theorem dX6_waysToPass_1 : decode cX6_waysToPass 1 = .ok (.iload_n 1, 1) := by decide +kernel
theorem dX6_waysToPass_2 : decode cX6_waysToPass 2 = .ok (.invokestatic 64, 3) := by decide +kernel
theorem dX6_waysToPass_5 : decode cX6_waysToPass 5 = .ok (.iadd, 1) := by decide +kernel
theorem dX6_waysToPass_6 : decode cX6_waysToPass 6 = .ok (.iconst 1, 1) := by decide +kernel
theorem dX6_waysToPass_7 : decode cX6_waysToPass 7 = .ok (.isub, 1) := by decide +kernel
theorem dX6_waysToPass_8 : decode cX6_waysToPass 8 = .ok (.bipush 24, 2) := by decide +kernel
theorem dX6_waysToPass_10 : decode cX6_waysToPass 10 = .ok (.irem, 1) := by decide +kernel
theorem dX6_waysToPass_11 : decode cX6_waysToPass 11 = .ok (.istore_n 3, 1) := by decide +kernel
theorem dX6_waysToPass_12 : decode cX6_waysToPass 12 = .ok (.iconst 0, 1) := by decide +kernel
theorem dX6_waysToPass_13 : decode cX6_waysToPass 13 = .ok (.istore 4, 2) := by decide +kernel
theorem dX6_waysToPass_15 : decode cX6_waysToPass 15 = .ok (.iconst 0, 1) := by decide +kernel
theorem dX6_waysToPass_16 : decode cX6_waysToPass 16 = .ok (.istore 5, 2) := by decide +kernel
theorem dX6_waysToPass_18 : decode cX6_waysToPass 18 = .ok (.iload 5, 2) := by decide +kernel
theorem dX6_waysToPass_20 : decode cX6_waysToPass 20 = .ok (.bipush 6, 2) := by decide +kernel
theorem dX6_waysToPass_22 : decode cX6_waysToPass 22 = .ok (.if_icmp .ge 79, 3) := by decide +kernel
theorem dX6_waysToPass_25 : decode cX6_waysToPass 25 = .ok (.iload_n 1, 1) := by decide +kernel
theorem dX6_waysToPass_26 : decode cX6_waysToPass 26 = .ok (.iconst 1, 1) := by decide +kernel
theorem dX6_waysToPass_27 : decode cX6_waysToPass 27 = .ok (.iload 5, 2) := by decide +kernel
theorem dX6_waysToPass_29 : decode cX6_waysToPass 29 = .ok (.ishl, 1) := by decide +kernel
theorem dX6_waysToPass_30 : decode cX6_waysToPass 30 = .ok (.iconst (-1), 1) := by decide +kernel
theorem dX6_waysToPass_31 : decode cX6_waysToPass 31 = .ok (.ixor, 1) := by decide +kernel
theorem dX6_waysToPass_32 : decode cX6_waysToPass 32 = .ok (.iand, 1) := by decide +kernel
theorem dX6_waysToPass_33 : decode cX6_waysToPass 33 = .ok (.istore 6, 2) := by decide +kernel
theorem dX6_waysToPass_35 : decode cX6_waysToPass 35 = .ok (.iload 6, 2) := by decide +kernel
theorem dX6_waysToPass_37 : decode cX6_waysToPass 37 = .ok (.iload_n 1, 1) := by decide +kernel
theorem dX6_waysToPass_38 : decode cX6_waysToPass 38 = .ok (.if_icmp .eq 25, 3) := by decide +kernel
theorem dX6_waysToPass_41 : decode cX6_waysToPass 41 = .ok (.aload_n 0, 1) := by decide +kernel
theorem dX6_waysToPass_42 : decode cX6_waysToPass 42 = .ok (.getfield 12, 3) := by decide +kernel
theorem dX6_waysToPass_45 : decode cX6_waysToPass 45 = .ok (.getfield 174, 3) := by decide +kernel
theorem dX6_waysToPass_48 : decode cX6_waysToPass 48 = .ok (.iload 5, 2) := by decide +kernel
theorem dX6_waysToPass_50 : decode cX6_waysToPass 50 = .ok (.iaload, 1) := by decide +kernel
theorem dX6_waysToPass_51 : decode cX6_waysToPass 51 = .ok (.iload_n 3, 1) := by decide +kernel
theorem dX6_waysToPass_52 : decode cX6_waysToPass 52 = .ok (.ishr, 1) := by decide +kernel
theorem dX6_waysToPass_53 : decode cX6_waysToPass 53 = .ok (.iconst 1, 1) := by decide +kernel
theorem dX6_waysToPass_54 : decode cX6_waysToPass 54 = .ok (.iand, 1) := by decide +kernel
theorem dX6_waysToPass_55 : decode cX6_waysToPass 55 = .ok (.iconst 1, 1) := by decide +kernel
theorem dX6_waysToPass_56 : decode cX6_waysToPass 56 = .ok (.if_icmp .ne 7, 3) := by decide +kernel
theorem dX6_waysToPass_59 : decode cX6_waysToPass 59 = .ok (.iconst 1, 1) := by decide +kernel
theorem dX6_waysToPass_60 : decode cX6_waysToPass 60 = .ok (.goto 4, 3) := by decide +kernel
theorem dX6_waysToPass_63 : decode cX6_waysToPass 63 = .ok (.iconst 0, 1) := by decide +kernel
theorem dX6_waysToPass_64 : decode cX6_waysToPass 64 = .ok (.istore 7, 2) := by decide +kernel
theorem dX6_waysToPass_66 : decode cX6_waysToPass 66 = .ok (.iload 7, 2) := by decide +kernel
theorem dX6_waysToPass_68 : decode cX6_waysToPass 68 = .ok (.ifCond .eq 27, 3) := by decide +kernel
theorem dX6_waysToPass_71 : decode cX6_waysToPass 71 = .ok (.iload 6, 2) := by decide +kernel
theorem dX6_waysToPass_73 : decode cX6_waysToPass 73 = .ok (.ifCond .lt 22, 3) := by decide +kernel
theorem dX6_waysToPass_76 : decode cX6_waysToPass 76 = .ok (.iload 6, 2) := by decide +kernel
theorem dX6_waysToPass_78 : decode cX6_waysToPass 78 = .ok (.bipush 64, 2) := by decide +kernel
theorem dX6_waysToPass_80 : decode cX6_waysToPass 80 = .ok (.if_icmp .ge 15, 3) := by decide +kernel
theorem dX6_waysToPass_83 : decode cX6_waysToPass 83 = .ok (.iload 4, 2) := by decide +kernel
theorem dX6_waysToPass_85 : decode cX6_waysToPass 85 = .ok (.aload_n 0, 1) := by decide +kernel
theorem dX6_waysToPass_86 : decode cX6_waysToPass 86 = .ok (.getfield 41, 3) := by decide +kernel
theorem dX6_waysToPass_89 : decode cX6_waysToPass 89 = .ok (.iload 6, 2) := by decide +kernel
theorem dX6_waysToPass_91 : decode cX6_waysToPass 91 = .ok (.iaload, 1) := by decide +kernel
theorem dX6_waysToPass_92 : decode cX6_waysToPass 92 = .ok (.iadd, 1) := by decide +kernel
theorem dX6_waysToPass_93 : decode cX6_waysToPass 93 = .ok (.istore 4, 2) := by decide +kernel
theorem dX6_waysToPass_95 : decode cX6_waysToPass 95 = .ok (.iinc 5 1, 3) := by decide +kernel
theorem dX6_waysToPass_98 : decode cX6_waysToPass 98 = .ok (.goto (-80), 3) := by decide +kernel
theorem dX6_waysToPass_101 : decode cX6_waysToPass 101 = .ok (.iload 4, 2) := by decide +kernel
theorem dX6_waysToPass_103 : decode cX6_waysToPass 103 = .ok (.ireturn, 1) := by decide +kernel
theorem dX6_heapWorth_0 : decode cX6_heapWorth 0 = .ok (.iload_n 1, 1) := by decide +kernel
theorem dX6_heapWorth_1 : decode cX6_heapWorth 1 = .ok (.iconst 1, 1) := by decide +kernel
theorem dX6_heapWorth_2 : decode cX6_heapWorth 2 = .ok (.if_icmp .ge 7, 3) := by decide +kernel
theorem dX6_heapWorth_5 : decode cX6_heapWorth 5 = .ok (.iconst 0, 1) := by decide +kernel
theorem dX6_heapWorth_6 : decode cX6_heapWorth 6 = .ok (.goto 8, 3) := by decide +kernel
theorem dX6_heapWorth_9 : decode cX6_heapWorth 9 = .ok (.iload_n 0, 1) := by decide +kernel
theorem dX6_heapWorth_10 : decode cX6_heapWorth 10 = .ok (.iload_n 1, 1) := by decide +kernel
theorem dX6_heapWorth_11 : decode cX6_heapWorth 11 = .ok (.iconst 1, 1) := by decide +kernel
theorem dX6_heapWorth_12 : decode cX6_heapWorth 12 = .ok (.iadd, 1) := by decide +kernel
theorem dX6_heapWorth_13 : decode cX6_heapWorth 13 = .ok (.irem, 1) := by decide +kernel
theorem dX6_heapWorth_14 : decode cX6_heapWorth 14 = .ok (.ireturn, 1) := by decide +kernel
theorem dX6_nimSum_0 : decode cX6_nimSum 0 = .ok (.iconst 0, 1) := by decide +kernel
theorem dX6_nimSum_1 : decode cX6_nimSum 1 = .ok (.istore_n 3, 1) := by decide +kernel
theorem dX6_nimSum_2 : decode cX6_nimSum 2 = .ok (.iconst 0, 1) := by decide +kernel
theorem dX6_nimSum_3 : decode cX6_nimSum 3 = .ok (.istore 4, 2) := by decide +kernel
theorem dX6_nimSum_5 : decode cX6_nimSum 5 = .ok (.iload 4, 2) := by decide +kernel
theorem dX6_nimSum_7 : decode cX6_nimSum 7 = .ok (.bipush 7, 2) := by decide +kernel
theorem dX6_nimSum_9 : decode cX6_nimSum 9 = .ok (.if_icmp .ge 38, 3) := by decide +kernel
theorem dX6_nimSum_12 : decode cX6_nimSum 12 = .ok (.iload_n 1, 1) := by decide +kernel
theorem dX6_nimSum_13 : decode cX6_nimSum 13 = .ok (.iload 4, 2) := by decide +kernel
theorem dX6_nimSum_15 : decode cX6_nimSum 15 = .ok (.ishr, 1) := by decide +kernel
theorem dX6_nimSum_16 : decode cX6_nimSum 16 = .ok (.iconst 1, 1) := by decide +kernel
theorem dX6_nimSum_17 : decode cX6_nimSum 17 = .ok (.iand, 1) := by decide +kernel
theorem dX6_nimSum_18 : decode cX6_nimSum 18 = .ok (.iconst 1, 1) := by decide +kernel
theorem dX6_nimSum_19 : decode cX6_nimSum 19 = .ok (.if_icmp .ne 22, 3) := by decide +kernel
theorem dX6_nimSum_22 : decode cX6_nimSum 22 = .ok (.iload_n 3, 1) := by decide +kernel
theorem dX6_nimSum_23 : decode cX6_nimSum 23 = .ok (.aload_n 0, 1) := by decide +kernel
theorem dX6_nimSum_24 : decode cX6_nimSum 24 = .ok (.getfield 12, 3) := by decide +kernel
theorem dX6_nimSum_27 : decode cX6_nimSum 27 = .ok (.getfield 53, 3) := by decide +kernel
theorem dX6_nimSum_30 : decode cX6_nimSum 30 = .ok (.iload 4, 2) := by decide +kernel
theorem dX6_nimSum_32 : decode cX6_nimSum 32 = .ok (.invokevirtual 126, 3) := by decide +kernel
theorem dX6_nimSum_35 : decode cX6_nimSum 35 = .ok (.iload_n 2, 1) := by decide +kernel
theorem dX6_nimSum_36 : decode cX6_nimSum 36 = .ok (.invokestatic 240, 3) := by decide +kernel
theorem dX6_nimSum_39 : decode cX6_nimSum 39 = .ok (.ixor, 1) := by decide +kernel
theorem dX6_nimSum_40 : decode cX6_nimSum 40 = .ok (.istore_n 3, 1) := by decide +kernel
theorem dX6_nimSum_41 : decode cX6_nimSum 41 = .ok (.iinc 4 1, 3) := by decide +kernel
theorem dX6_nimSum_44 : decode cX6_nimSum 44 = .ok (.goto (-39), 3) := by decide +kernel
theorem dX6_nimSum_47 : decode cX6_nimSum 47 = .ok (.iload_n 3, 1) := by decide +kernel
theorem dX6_nimSum_48 : decode cX6_nimSum 48 = .ok (.ireturn, 1) := by decide +kernel
theorem dX6_winningSpend_0 : decode cX6_winningSpend 0 = .ok (.aload_n 0, 1) := by decide +kernel
theorem dX6_winningSpend_1 : decode cX6_winningSpend 1 = .ok (.getfield 12, 3) := by decide +kernel
theorem dX6_winningSpend_4 : decode cX6_winningSpend 4 = .ok (.getfield 53, 3) := by decide +kernel
theorem dX6_winningSpend_7 : decode cX6_winningSpend 7 = .ok (.iload_n 1, 1) := by decide +kernel
theorem dX6_winningSpend_8 : decode cX6_winningSpend 8 = .ok (.invokevirtual 126, 3) := by decide +kernel
theorem dX6_winningSpend_11 : decode cX6_winningSpend 11 = .ok (.istore 4, 2) := by decide +kernel
theorem dX6_winningSpend_13 : decode cX6_winningSpend 13 = .ok (.iload 4, 2) := by decide +kernel
theorem dX6_winningSpend_15 : decode cX6_winningSpend 15 = .ok (.iload_n 2, 1) := by decide +kernel
theorem dX6_winningSpend_16 : decode cX6_winningSpend 16 = .ok (.invokestatic 240, 3) := by decide +kernel
theorem dX6_winningSpend_19 : decode cX6_winningSpend 19 = .ok (.iload_n 3, 1) := by decide +kernel
theorem dX6_winningSpend_20 : decode cX6_winningSpend 20 = .ok (.ixor, 1) := by decide +kernel
theorem dX6_winningSpend_21 : decode cX6_winningSpend 21 = .ok (.istore 5, 2) := by decide +kernel
theorem dX6_winningSpend_23 : decode cX6_winningSpend 23 = .ok (.iconst 1, 1) := by decide +kernel
theorem dX6_winningSpend_24 : decode cX6_winningSpend 24 = .ok (.istore 6, 2) := by decide +kernel
theorem dX6_winningSpend_26 : decode cX6_winningSpend 26 = .ok (.iload 6, 2) := by decide +kernel
theorem dX6_winningSpend_28 : decode cX6_winningSpend 28 = .ok (.iload_n 2, 1) := by decide +kernel
theorem dX6_winningSpend_29 : decode cX6_winningSpend 29 = .ok (.if_icmp .gt 33, 3) := by decide +kernel
theorem dX6_winningSpend_32 : decode cX6_winningSpend 32 = .ok (.iload 6, 2) := by decide +kernel
theorem dX6_winningSpend_34 : decode cX6_winningSpend 34 = .ok (.iload 4, 2) := by decide +kernel
theorem dX6_winningSpend_36 : decode cX6_winningSpend 36 = .ok (.if_icmp .gt 26, 3) := by decide +kernel
theorem dX6_winningSpend_39 : decode cX6_winningSpend 39 = .ok (.iload 4, 2) := by decide +kernel
theorem dX6_winningSpend_41 : decode cX6_winningSpend 41 = .ok (.iload 6, 2) := by decide +kernel
theorem dX6_winningSpend_43 : decode cX6_winningSpend 43 = .ok (.isub, 1) := by decide +kernel
theorem dX6_winningSpend_44 : decode cX6_winningSpend 44 = .ok (.iload_n 2, 1) := by decide +kernel
theorem dX6_winningSpend_45 : decode cX6_winningSpend 45 = .ok (.invokestatic 240, 3) := by decide +kernel
theorem dX6_winningSpend_48 : decode cX6_winningSpend 48 = .ok (.iload 5, 2) := by decide +kernel
theorem dX6_winningSpend_50 : decode cX6_winningSpend 50 = .ok (.if_icmp .ne 6, 3) := by decide +kernel
theorem dX6_winningSpend_53 : decode cX6_winningSpend 53 = .ok (.iload 6, 2) := by decide +kernel
theorem dX6_winningSpend_55 : decode cX6_winningSpend 55 = .ok (.ireturn, 1) := by decide +kernel
theorem dX6_winningSpend_56 : decode cX6_winningSpend 56 = .ok (.iinc 6 1, 3) := by decide +kernel
theorem dX6_winningSpend_59 : decode cX6_winningSpend 59 = .ok (.goto (-33), 3) := by decide +kernel
theorem dX6_winningSpend_62 : decode cX6_winningSpend 62 = .ok (.bipush (-6), 2) := by decide +kernel
theorem dX6_winningSpend_64 : decode cX6_winningSpend 64 = .ok (.ireturn, 1) := by decide +kernel
theorem dX6_countBreaks_0 : decode cX6_countBreaks 0 = .ok (.iconst 0, 1) := by decide +kernel
theorem dX6_countBreaks_1 : decode cX6_countBreaks 1 = .ok (.istore_n 3, 1) := by decide +kernel
theorem dX6_countBreaks_2 : decode cX6_countBreaks 2 = .ok (.iload_n 3, 1) := by decide +kernel
theorem dX6_countBreaks_3 : decode cX6_countBreaks 3 = .ok (.bipush 6, 2) := by decide +kernel
theorem dX6_countBreaks_5 : decode cX6_countBreaks 5 = .ok (.if_icmp .gt 24, 3) := by decide +kernel
theorem dX6_countBreaks_8 : decode cX6_countBreaks 8 = .ok (.aload_n 0, 1) := by decide +kernel
theorem dX6_countBreaks_9 : decode cX6_countBreaks 9 = .ok (.getfield 45, 3) := by decide +kernel
theorem dX6_countBreaks_12 : decode cX6_countBreaks 12 = .ok (.iload_n 3, 1) := by decide +kernel
theorem dX6_countBreaks_13 : decode cX6_countBreaks 13 = .ok (.iload_n 3, 1) := by decide +kernel
theorem dX6_countBreaks_14 : decode cX6_countBreaks 14 = .ok (.ifCond .ne 7, 3) := by decide +kernel
theorem dX6_countBreaks_17 : decode cX6_countBreaks 17 = .ok (.lconst 1, 1) := by decide +kernel
theorem dX6_countBreaks_18 : decode cX6_countBreaks 18 = .ok (.goto 4, 3) := by decide +kernel
theorem dX6_countBreaks_21 : decode cX6_countBreaks 21 = .ok (.lconst 0, 1) := by decide +kernel
theorem dX6_countBreaks_22 : decode cX6_countBreaks 22 = .ok (.lastore, 1) := by decide +kernel
theorem dX6_countBreaks_23 : decode cX6_countBreaks 23 = .ok (.iinc 3 1, 3) := by decide +kernel
theorem dX6_countBreaks_26 : decode cX6_countBreaks 26 = .ok (.goto (-24), 3) := by decide +kernel
theorem dX6_countBreaks_29 : decode cX6_countBreaks 29 = .ok (.iconst 0, 1) := by decide +kernel
theorem dX6_countBreaks_30 : decode cX6_countBreaks 30 = .ok (.istore_n 3, 1) := by decide +kernel
theorem dX6_countBreaks_31 : decode cX6_countBreaks 31 = .ok (.iload_n 3, 1) := by decide +kernel
theorem dX6_countBreaks_32 : decode cX6_countBreaks 32 = .ok (.iload_n 1, 1) := by decide +kernel
theorem dX6_countBreaks_33 : decode cX6_countBreaks 33 = .ok (.if_icmp .ge 70, 3) := by decide +kernel
theorem dX6_countBreaks_36 : decode cX6_countBreaks 36 = .ok (.bipush 6, 2) := by decide +kernel
theorem dX6_countBreaks_38 : decode cX6_countBreaks 38 = .ok (.istore 4, 2) := by decide +kernel
theorem dX6_countBreaks_40 : decode cX6_countBreaks 40 = .ok (.iload 4, 2) := by decide +kernel
theorem dX6_countBreaks_42 : decode cX6_countBreaks 42 = .ok (.ifCond .lt 55, 3) := by decide +kernel
theorem dX6_countBreaks_45 : decode cX6_countBreaks 45 = .ok (.iload 4, 2) := by decide +kernel
theorem dX6_countBreaks_47 : decode cX6_countBreaks 47 = .ok (.ifCond .le 15, 3) := by decide +kernel
theorem dX6_countBreaks_50 : decode cX6_countBreaks 50 = .ok (.aload_n 0, 1) := by decide +kernel
theorem dX6_countBreaks_51 : decode cX6_countBreaks 51 = .ok (.getfield 45, 3) := by decide +kernel
theorem dX6_countBreaks_54 : decode cX6_countBreaks 54 = .ok (.iload 4, 2) := by decide +kernel
theorem dX6_countBreaks_56 : decode cX6_countBreaks 56 = .ok (.iconst 1, 1) := by decide +kernel
theorem dX6_countBreaks_57 : decode cX6_countBreaks 57 = .ok (.isub, 1) := by decide +kernel
theorem dX6_countBreaks_58 : decode cX6_countBreaks 58 = .ok (.laload, 1) := by decide +kernel
theorem dX6_countBreaks_59 : decode cX6_countBreaks 59 = .ok (.goto 4, 3) := by decide +kernel
theorem dX6_countBreaks_62 : decode cX6_countBreaks 62 = .ok (.lconst 0, 1) := by decide +kernel
theorem dX6_countBreaks_63 : decode cX6_countBreaks 63 = .ok (.lstore 5, 2) := by decide +kernel
theorem dX6_countBreaks_65 : decode cX6_countBreaks 65 = .ok (.aload_n 0, 1) := by decide +kernel
theorem dX6_countBreaks_66 : decode cX6_countBreaks 66 = .ok (.getfield 45, 3) := by decide +kernel
theorem dX6_countBreaks_69 : decode cX6_countBreaks 69 = .ok (.iload 4, 2) := by decide +kernel
theorem dX6_countBreaks_71 : decode cX6_countBreaks 71 = .ok (.aload_n 0, 1) := by decide +kernel
theorem dX6_countBreaks_72 : decode cX6_countBreaks 72 = .ok (.getfield 45, 3) := by decide +kernel
theorem dX6_countBreaks_75 : decode cX6_countBreaks 75 = .ok (.iload 4, 2) := by decide +kernel
theorem dX6_countBreaks_77 : decode cX6_countBreaks 77 = .ok (.laload, 1) := by decide +kernel
theorem dX6_countBreaks_78 : decode cX6_countBreaks 78 = .ok (.bipush 10, 2) := by decide +kernel
theorem dX6_countBreaks_80 : decode cX6_countBreaks 80 = .ok (.iload_n 2, 1) := by decide +kernel
theorem dX6_countBreaks_81 : decode cX6_countBreaks 81 = .ok (.isub, 1) := by decide +kernel
theorem dX6_countBreaks_82 : decode cX6_countBreaks 82 = .ok (.i2l, 1) := by decide +kernel
theorem dX6_countBreaks_83 : decode cX6_countBreaks 83 = .ok (.lmul, 1) := by decide +kernel
theorem dX6_countBreaks_84 : decode cX6_countBreaks 84 = .ok (.lload 5, 2) := by decide +kernel
theorem dX6_countBreaks_86 : decode cX6_countBreaks 86 = .ok (.iload_n 2, 1) := by decide +kernel
theorem dX6_countBreaks_87 : decode cX6_countBreaks 87 = .ok (.i2l, 1) := by decide +kernel
theorem dX6_countBreaks_88 : decode cX6_countBreaks 88 = .ok (.lmul, 1) := by decide +kernel
theorem dX6_countBreaks_89 : decode cX6_countBreaks 89 = .ok (.ladd, 1) := by decide +kernel
theorem dX6_countBreaks_90 : decode cX6_countBreaks 90 = .ok (.lastore, 1) := by decide +kernel
theorem dX6_countBreaks_91 : decode cX6_countBreaks 91 = .ok (.iinc 4 (-1), 3) := by decide +kernel
theorem dX6_countBreaks_94 : decode cX6_countBreaks 94 = .ok (.goto (-54), 3) := by decide +kernel
theorem dX6_countBreaks_97 : decode cX6_countBreaks 97 = .ok (.iinc 3 1, 3) := by decide +kernel
theorem dX6_countBreaks_100 : decode cX6_countBreaks 100 = .ok (.goto (-69), 3) := by decide +kernel
theorem dX6_countBreaks_103 : decode cX6_countBreaks 103 = .ok (.return_, 1) := by decide +kernel
theorem dX6_lowestTerms_0 : decode cX6_lowestTerms 0 = .ok (.lload_n 0, 1) := by decide +kernel
theorem dX6_lowestTerms_1 : decode cX6_lowestTerms 1 = .ok (.lstore 5, 2) := by decide +kernel
theorem dX6_lowestTerms_3 : decode cX6_lowestTerms 3 = .ok (.lload_n 2, 1) := by decide +kernel
theorem dX6_lowestTerms_4 : decode cX6_lowestTerms 4 = .ok (.lstore 7, 2) := by decide +kernel
theorem dX6_lowestTerms_6 : decode cX6_lowestTerms 6 = .ok (.iconst 0, 1) := by decide +kernel
theorem dX6_lowestTerms_7 : decode cX6_lowestTerms 7 = .ok (.istore 9, 2) := by decide +kernel
theorem dX6_lowestTerms_9 : decode cX6_lowestTerms 9 = .ok (.iload 9, 2) := by decide +kernel
theorem dX6_lowestTerms_11 : decode cX6_lowestTerms 11 = .ok (.bipush 6, 2) := by decide +kernel
theorem dX6_lowestTerms_13 : decode cX6_lowestTerms 13 = .ok (.if_icmp .ge 85, 3) := by decide +kernel
theorem dX6_lowestTerms_16 : decode cX6_lowestTerms 16 = .ok (.lload 5, 2) := by decide +kernel
theorem dX6_lowestTerms_18 : decode cX6_lowestTerms 18 = .ok (.ldc2_w 243, 3) := by decide +kernel
theorem dX6_lowestTerms_21 : decode cX6_lowestTerms 21 = .ok (.lrem, 1) := by decide +kernel
theorem dX6_lowestTerms_22 : decode cX6_lowestTerms 22 = .ok (.lconst 0, 1) := by decide +kernel
theorem dX6_lowestTerms_23 : decode cX6_lowestTerms 23 = .ok (.lcmp, 1) := by decide +kernel
theorem dX6_lowestTerms_24 : decode cX6_lowestTerms 24 = .ok (.ifCond .ne 30, 3) := by decide +kernel
theorem dX6_lowestTerms_27 : decode cX6_lowestTerms 27 = .ok (.lload 7, 2) := by decide +kernel
theorem dX6_lowestTerms_29 : decode cX6_lowestTerms 29 = .ok (.ldc2_w 243, 3) := by decide +kernel
theorem dX6_lowestTerms_32 : decode cX6_lowestTerms 32 = .ok (.lrem, 1) := by decide +kernel
theorem dX6_lowestTerms_33 : decode cX6_lowestTerms 33 = .ok (.lconst 0, 1) := by decide +kernel
theorem dX6_lowestTerms_34 : decode cX6_lowestTerms 34 = .ok (.lcmp, 1) := by decide +kernel
theorem dX6_lowestTerms_35 : decode cX6_lowestTerms 35 = .ok (.ifCond .ne 19, 3) := by decide +kernel
theorem dX6_lowestTerms_38 : decode cX6_lowestTerms 38 = .ok (.lload 5, 2) := by decide +kernel
theorem dX6_lowestTerms_40 : decode cX6_lowestTerms 40 = .ok (.ldc2_w 243, 3) := by decide +kernel
theorem dX6_lowestTerms_43 : decode cX6_lowestTerms 43 = .ok (.ldiv, 1) := by decide +kernel
theorem dX6_lowestTerms_44 : decode cX6_lowestTerms 44 = .ok (.lstore 5, 2) := by decide +kernel
theorem dX6_lowestTerms_46 : decode cX6_lowestTerms 46 = .ok (.lload 7, 2) := by decide +kernel
theorem dX6_lowestTerms_48 : decode cX6_lowestTerms 48 = .ok (.ldc2_w 243, 3) := by decide +kernel
theorem dX6_lowestTerms_51 : decode cX6_lowestTerms 51 = .ok (.ldiv, 1) := by decide +kernel
theorem dX6_lowestTerms_52 : decode cX6_lowestTerms 52 = .ok (.lstore 7, 2) := by decide +kernel
theorem dX6_lowestTerms_54 : decode cX6_lowestTerms 54 = .ok (.lload 5, 2) := by decide +kernel
theorem dX6_lowestTerms_56 : decode cX6_lowestTerms 56 = .ok (.ldc2_w 245, 3) := by decide +kernel
theorem dX6_lowestTerms_59 : decode cX6_lowestTerms 59 = .ok (.lrem, 1) := by decide +kernel
theorem dX6_lowestTerms_60 : decode cX6_lowestTerms 60 = .ok (.lconst 0, 1) := by decide +kernel
theorem dX6_lowestTerms_61 : decode cX6_lowestTerms 61 = .ok (.lcmp, 1) := by decide +kernel
theorem dX6_lowestTerms_62 : decode cX6_lowestTerms 62 = .ok (.ifCond .ne 30, 3) := by decide +kernel
theorem dX6_lowestTerms_65 : decode cX6_lowestTerms 65 = .ok (.lload 7, 2) := by decide +kernel
theorem dX6_lowestTerms_67 : decode cX6_lowestTerms 67 = .ok (.ldc2_w 245, 3) := by decide +kernel
theorem dX6_lowestTerms_70 : decode cX6_lowestTerms 70 = .ok (.lrem, 1) := by decide +kernel
theorem dX6_lowestTerms_71 : decode cX6_lowestTerms 71 = .ok (.lconst 0, 1) := by decide +kernel
theorem dX6_lowestTerms_72 : decode cX6_lowestTerms 72 = .ok (.lcmp, 1) := by decide +kernel
theorem dX6_lowestTerms_73 : decode cX6_lowestTerms 73 = .ok (.ifCond .ne 19, 3) := by decide +kernel
theorem dX6_lowestTerms_76 : decode cX6_lowestTerms 76 = .ok (.lload 5, 2) := by decide +kernel
theorem dX6_lowestTerms_78 : decode cX6_lowestTerms 78 = .ok (.ldc2_w 245, 3) := by decide +kernel
theorem dX6_lowestTerms_81 : decode cX6_lowestTerms 81 = .ok (.ldiv, 1) := by decide +kernel
theorem dX6_lowestTerms_82 : decode cX6_lowestTerms 82 = .ok (.lstore 5, 2) := by decide +kernel
theorem dX6_lowestTerms_84 : decode cX6_lowestTerms 84 = .ok (.lload 7, 2) := by decide +kernel
theorem dX6_lowestTerms_86 : decode cX6_lowestTerms 86 = .ok (.ldc2_w 245, 3) := by decide +kernel
theorem dX6_lowestTerms_89 : decode cX6_lowestTerms 89 = .ok (.ldiv, 1) := by decide +kernel
theorem dX6_lowestTerms_90 : decode cX6_lowestTerms 90 = .ok (.lstore 7, 2) := by decide +kernel
theorem dX6_lowestTerms_92 : decode cX6_lowestTerms 92 = .ok (.iinc 9 1, 3) := by decide +kernel
theorem dX6_lowestTerms_95 : decode cX6_lowestTerms 95 = .ok (.goto (-86), 3) := by decide +kernel
theorem dX6_lowestTerms_98 : decode cX6_lowestTerms 98 = .ok (.iload 4, 2) := by decide +kernel
theorem dX6_lowestTerms_100 : decode cX6_lowestTerms 100 = .ok (.ifCond .ne 8, 3) := by decide +kernel
theorem dX6_lowestTerms_103 : decode cX6_lowestTerms 103 = .ok (.lload 5, 2) := by decide +kernel
theorem dX6_lowestTerms_105 : decode cX6_lowestTerms 105 = .ok (.goto 5, 3) := by decide +kernel
theorem dX6_lowestTerms_108 : decode cX6_lowestTerms 108 = .ok (.lload 7, 2) := by decide +kernel
theorem dX6_lowestTerms_110 : decode cX6_lowestTerms 110 = .ok (.lreturn, 1) := by decide +kernel
