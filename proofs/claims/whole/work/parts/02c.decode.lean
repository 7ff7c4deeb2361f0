theorem dX7_init_0 : decode cX7_init 0 = .ok (.aload_n 0, 1) := by decide +kernel
theorem dX7_init_1 : decode cX7_init 1 = .ok (.invokespecial 1, 3) := by decide +kernel
theorem dX7_init_4 : decode cX7_init 4 = .ok (.aload_n 0, 1) := by decide +kernel
theorem dX7_init_5 : decode cX7_init 5 = .ok (.bipush 7, 2) := by decide +kernel
theorem dX7_init_7 : decode cX7_init 7 = .ok (.newarray .int, 2) := by decide +kernel
theorem dX7_init_9 : decode cX7_init 9 = .ok (.putfield 7, 3) := by decide +kernel
theorem dX7_init_12 : decode cX7_init 12 = .ok (.aload_n 0, 1) := by decide +kernel
theorem dX7_init_13 : decode cX7_init 13 = .ok (.bipush 12, 2) := by decide +kernel
theorem dX7_init_15 : decode cX7_init 15 = .ok (.putfield 13, 3) := by decide +kernel
theorem dX7_init_18 : decode cX7_init 18 = .ok (.aload_n 0, 1) := by decide +kernel
theorem dX7_init_19 : decode cX7_init 19 = .ok (.bipush 6, 2) := by decide +kernel
theorem dX7_init_21 : decode cX7_init 21 = .ok (.newarray .int, 2) := by decide +kernel
theorem dX7_init_23 : decode cX7_init 23 = .ok (.putfield 17, 3) := by decide +kernel
theorem dX7_init_26 : decode cX7_init 26 = .ok (.aload_n 0, 1) := by decide +kernel
theorem dX7_init_27 : decode cX7_init 27 = .ok (.bipush 24, 2) := by decide +kernel
theorem dX7_init_29 : decode cX7_init 29 = .ok (.newarray .int, 2) := by decide +kernel
theorem dX7_init_31 : decode cX7_init 31 = .ok (.putfield 20, 3) := by decide +kernel
theorem dX7_init_34 : decode cX7_init 34 = .ok (.aload_n 0, 1) := by decide +kernel
theorem dX7_init_35 : decode cX7_init 35 = .ok (.bipush 107, 2) := by decide +kernel
theorem dX7_init_37 : decode cX7_init 37 = .ok (.newarray .int, 2) := by decide +kernel
theorem dX7_init_39 : decode cX7_init 39 = .ok (.putfield 23, 3) := by decide +kernel
theorem dX7_init_42 : decode cX7_init 42 = .ok (.aload_n 0, 1) := by decide +kernel
theorem dX7_init_43 : decode cX7_init 43 = .ok (.bipush 107, 2) := by decide +kernel
theorem dX7_init_45 : decode cX7_init 45 = .ok (.newarray .int, 2) := by decide +kernel
theorem dX7_init_47 : decode cX7_init 47 = .ok (.putfield 26, 3) := by decide +kernel
theorem dX7_init_50 : decode cX7_init 50 = .ok (.aload_n 0, 1) := by decide +kernel
theorem dX7_init_51 : decode cX7_init 51 = .ok (.bipush 60, 2) := by decide +kernel
theorem dX7_init_53 : decode cX7_init 53 = .ok (.newarray .int, 2) := by decide +kernel
theorem dX7_init_55 : decode cX7_init 55 = .ok (.putfield 29, 3) := by decide +kernel
theorem dX7_init_58 : decode cX7_init 58 = .ok (.aload_n 0, 1) := by decide +kernel
theorem dX7_init_59 : decode cX7_init 59 = .ok (.bipush 64, 2) := by decide +kernel
theorem dX7_init_61 : decode cX7_init 61 = .ok (.newarray .int, 2) := by decide +kernel
theorem dX7_init_63 : decode cX7_init 63 = .ok (.putfield 32, 3) := by decide +kernel
theorem dX7_init_66 : decode cX7_init 66 = .ok (.aload_n 0, 1) := by decide +kernel
theorem dX7_init_67 : decode cX7_init 67 = .ok (.bipush 10, 2) := by decide +kernel
theorem dX7_init_69 : decode cX7_init 69 = .ok (.newarray .int, 2) := by decide +kernel
theorem dX7_init_71 : decode cX7_init 71 = .ok (.putfield 35, 3) := by decide +kernel
theorem dX7_init_74 : decode cX7_init 74 = .ok (.aload_n 0, 1) := by decide +kernel
theorem dX7_init_75 : decode cX7_init 75 = .ok (.bipush 10, 2) := by decide +kernel
theorem dX7_init_77 : decode cX7_init 77 = .ok (.newarray .int, 2) := by decide +kernel
theorem dX7_init_79 : decode cX7_init 79 = .ok (.putfield 38, 3) := by decide +kernel
theorem dX7_init_82 : decode cX7_init 82 = .ok (.aload_n 0, 1) := by decide +kernel
theorem dX7_init_83 : decode cX7_init 83 = .ok (.sipush 300, 3) := by decide +kernel
theorem dX7_init_86 : decode cX7_init 86 = .ok (.newarray .int, 2) := by decide +kernel
theorem dX7_init_88 : decode cX7_init 88 = .ok (.putfield 41, 3) := by decide +kernel
theorem dX7_init_91 : decode cX7_init 91 = .ok (.aload_n 0, 1) := by decide +kernel
theorem dX7_init_92 : decode cX7_init 92 = .ok (.iconst 2, 1) := by decide +kernel
theorem dX7_init_93 : decode cX7_init 93 = .ok (.newarray .boolean, 2) := by decide +kernel
theorem dX7_init_95 : decode cX7_init 95 = .ok (.putfield 44, 3) := by decide +kernel
theorem dX7_init_98 : decode cX7_init 98 = .ok (.iconst 0, 1) := by decide +kernel
theorem dX7_init_99 : decode cX7_init 99 = .ok (.istore_n 1, 1) := by decide +kernel
theorem dX7_init_100 : decode cX7_init 100 = .ok (.iload_n 1, 1) := by decide +kernel
theorem dX7_init_101 : decode cX7_init 101 = .ok (.bipush 6, 2) := by decide +kernel
theorem dX7_init_103 : decode cX7_init 103 = .ok (.if_icmp .ge 17, 3) := by decide +kernel
theorem dX7_init_106 : decode cX7_init 106 = .ok (.aload_n 0, 1) := by decide +kernel
theorem dX7_init_107 : decode cX7_init 107 = .ok (.getfield 17, 3) := by decide +kernel
theorem dX7_init_110 : decode cX7_init 110 = .ok (.iload_n 1, 1) := by decide +kernel
theorem dX7_init_111 : decode cX7_init 111 = .ok (.ldc 48, 2) := by decide +kernel
theorem dX7_init_113 : decode cX7_init 113 = .ok (.iastore, 1) := by decide +kernel
theorem dX7_init_114 : decode cX7_init 114 = .ok (.iinc 1 1, 3) := by decide +kernel
theorem dX7_init_117 : decode cX7_init 117 = .ok (.goto (-17), 3) := by decide +kernel
theorem dX7_init_120 : decode cX7_init 120 = .ok (.return_, 1) := by decide +kernel
theorem dX7_in_0 : decode cX7_in 0 = .ok (.iload_n 0, 1) := by decide +kernel
theorem dX7_in_1 : decode cX7_in 1 = .ok (.iload_n 1, 1) := by decide +kernel
theorem dX7_in_2 : decode cX7_in 2 = .ok (.if_icmp .lt 12, 3) := by decide +kernel
theorem dX7_in_5 : decode cX7_in 5 = .ok (.iload_n 0, 1) := by decide +kernel
theorem dX7_in_6 : decode cX7_in 6 = .ok (.iload_n 2, 1) := by decide +kernel
theorem dX7_in_7 : decode cX7_in 7 = .ok (.if_icmp .gt 7, 3) := by decide +kernel
theorem dX7_in_10 : decode cX7_in 10 = .ok (.iconst 1, 1) := by decide +kernel
theorem dX7_in_11 : decode cX7_in 11 = .ok (.goto 4, 3) := by decide +kernel
theorem dX7_in_14 : decode cX7_in 14 = .ok (.iconst 0, 1) := by decide +kernel
theorem dX7_in_15 : decode cX7_in 15 = .ok (.ireturn, 1) := by decide +kernel
theorem dX7_has_0 : decode cX7_has 0 = .ok (.iload_n 0, 1) := by decide +kernel
theorem dX7_has_1 : decode cX7_has 1 = .ok (.iload_n 1, 1) := by decide +kernel
theorem dX7_has_2 : decode cX7_has 2 = .ok (.ishr, 1) := by decide +kernel
theorem dX7_has_3 : decode cX7_has 3 = .ok (.iconst 1, 1) := by decide +kernel
theorem dX7_has_4 : decode cX7_has 4 = .ok (.iand, 1) := by decide +kernel
theorem dX7_has_5 : decode cX7_has 5 = .ok (.iconst 1, 1) := by decide +kernel
theorem dX7_has_6 : decode cX7_has 6 = .ok (.if_icmp .ne 7, 3) := by decide +kernel
theorem dX7_has_9 : decode cX7_has 9 = .ok (.iconst 1, 1) := by decide +kernel
theorem dX7_has_10 : decode cX7_has 10 = .ok (.goto 4, 3) := by decide +kernel
theorem dX7_has_13 : decode cX7_has 13 = .ok (.iconst 0, 1) := by decide +kernel
theorem dX7_has_14 : decode cX7_has 14 = .ok (.ireturn, 1) := by decide +kernel
theorem dX7_bits_0 : decode cX7_bits 0 = .ok (.iconst 0, 1) := by decide +kernel
theorem dX7_bits_1 : decode cX7_bits 1 = .ok (.istore_n 1, 1) := by decide +kernel
theorem dX7_bits_2 : decode cX7_bits 2 = .ok (.iconst 0, 1) := by decide +kernel
theorem dX7_bits_3 : decode cX7_bits 3 = .ok (.istore_n 2, 1) := by decide +kernel
theorem dX7_bits_4 : decode cX7_bits 4 = .ok (.iload_n 2, 1) := by decide +kernel
theorem dX7_bits_5 : decode cX7_bits 5 = .ok (.bipush 7, 2) := by decide +kernel
theorem dX7_bits_7 : decode cX7_bits 7 = .ok (.if_icmp .ge 17, 3) := by decide +kernel
theorem dX7_bits_10 : decode cX7_bits 10 = .ok (.iload_n 1, 1) := by decide +kernel
theorem dX7_bits_11 : decode cX7_bits 11 = .ok (.iload_n 0, 1) := by decide +kernel
theorem dX7_bits_12 : decode cX7_bits 12 = .ok (.iload_n 2, 1) := by decide +kernel
theorem dX7_bits_13 : decode cX7_bits 13 = .ok (.ishr, 1) := by decide +kernel
theorem dX7_bits_14 : decode cX7_bits 14 = .ok (.iconst 1, 1) := by decide +kernel
theorem dX7_bits_15 : decode cX7_bits 15 = .ok (.iand, 1) := by decide +kernel
theorem dX7_bits_16 : decode cX7_bits 16 = .ok (.iadd, 1) := by decide +kernel
theorem dX7_bits_17 : decode cX7_bits 17 = .ok (.istore_n 1, 1) := by decide +kernel
theorem dX7_bits_18 : decode cX7_bits 18 = .ok (.iinc 2 1, 3) := by decide +kernel
theorem dX7_bits_21 : decode cX7_bits 21 = .ok (.goto (-17), 3) := by decide +kernel
theorem dX7_bits_24 : decode cX7_bits 24 = .ok (.iload_n 1, 1) := by decide +kernel
theorem dX7_bits_25 : decode cX7_bits 25 = .ok (.ireturn, 1) := by decide +kernel
theorem dX7_isThere_0 : decode cX7_isThere 0 = .ok (.iload_n 1, 1) := by decide +kernel
theorem dX7_isThere_1 : decode cX7_isThere 1 = .ok (.iconst 0, 1) := by decide +kernel
theorem dX7_isThere_2 : decode cX7_isThere 2 = .ok (.bipush 6, 2) := by decide +kernel
theorem dX7_isThere_4 : decode cX7_isThere 4 = .ok (.invokestatic 49, 3) := by decide +kernel
theorem dX7_isThere_7 : decode cX7_isThere 7 = .ok (.ifCond .eq 18, 3) := by decide +kernel
theorem dX7_isThere_10 : decode cX7_isThere 10 = .ok (.aload_n 0, 1) := by decide +kernel
theorem dX7_isThere_11 : decode cX7_isThere 11 = .ok (.getfield 53, 3) := by decide +kernel
theorem dX7_isThere_14 : decode cX7_isThere 14 = .ok (.iload_n 1, 1) := by decide +kernel
theorem dX7_isThere_15 : decode cX7_isThere 15 = .ok (.invokestatic 56, 3) := by decide +kernel
theorem dX7_isThere_18 : decode cX7_isThere 18 = .ok (.ifCond .eq 7, 3) := by decide +kernel
theorem dX7_isThere_21 : decode cX7_isThere 21 = .ok (.iconst 1, 1) := by decide +kernel
theorem dX7_isThere_22 : decode cX7_isThere 22 = .ok (.goto 4, 3) := by decide +kernel
theorem dX7_isThere_25 : decode cX7_isThere 25 = .ok (.iconst 0, 1) := by decide +kernel
theorem dX7_isThere_26 : decode cX7_isThere 26 = .ok (.ireturn, 1) := by decide +kernel
theorem dX7_isBelow_0 : decode cX7_isBelow 0 = .ok (.iload_n 1, 1) := by decide +kernel
theorem dX7_isBelow_1 : decode cX7_isBelow 1 = .ok (.iconst 0, 1) := by decide +kernel
theorem dX7_isBelow_2 : decode cX7_isBelow 2 = .ok (.bipush 6, 2) := by decide +kernel
theorem dX7_isBelow_4 : decode cX7_isBelow 4 = .ok (.invokestatic 49, 3) := by decide +kernel
theorem dX7_isBelow_7 : decode cX7_isBelow 7 = .ok (.ifCond .eq 21, 3) := by decide +kernel
theorem dX7_isBelow_10 : decode cX7_isBelow 10 = .ok (.aload_n 0, 1) := by decide +kernel
theorem dX7_isBelow_11 : decode cX7_isBelow 11 = .ok (.getfield 23, 3) := by decide +kernel
theorem dX7_isBelow_14 : decode cX7_isBelow 14 = .ok (.bipush 7, 2) := by decide +kernel
theorem dX7_isBelow_16 : decode cX7_isBelow 16 = .ok (.iaload, 1) := by decide +kernel
theorem dX7_isBelow_17 : decode cX7_isBelow 17 = .ok (.iload_n 1, 1) := by decide +kernel
theorem dX7_isBelow_18 : decode cX7_isBelow 18 = .ok (.invokestatic 56, 3) := by decide +kernel
theorem dX7_isBelow_21 : decode cX7_isBelow 21 = .ok (.ifCond .eq 7, 3) := by decide +kernel
theorem dX7_isBelow_24 : decode cX7_isBelow 24 = .ok (.iconst 1, 1) := by decide +kernel
theorem dX7_isBelow_25 : decode cX7_isBelow 25 = .ok (.goto 4, 3) := by decide +kernel
theorem dX7_isBelow_28 : decode cX7_isBelow 28 = .ok (.iconst 0, 1) := by decide +kernel
theorem dX7_isBelow_29 : decode cX7_isBelow 29 = .ok (.ireturn, 1) := by decide +kernel
theorem dX7_dive_0 : decode cX7_dive 0 = .ok (.iload_n 1, 1) := by decide +kernel
theorem dX7_dive_1 : decode cX7_dive 1 = .ok (.iconst 0, 1) := by decide +kernel
theorem dX7_dive_2 : decode cX7_dive 2 = .ok (.bipush 6, 2) := by decide +kernel
theorem dX7_dive_4 : decode cX7_dive 4 = .ok (.invokestatic 49, 3) := by decide +kernel
theorem dX7_dive_7 : decode cX7_dive 7 = .ok (.ifCond .ne 5, 3) := by decide +kernel
theorem dX7_dive_10 : decode cX7_dive 10 = .ok (.iconst (-1), 1) := by decide +kernel
theorem dX7_dive_11 : decode cX7_dive 11 = .ok (.ireturn, 1) := by decide +kernel
theorem dX7_dive_12 : decode cX7_dive 12 = .ok (.iload_n 2, 1) := by decide +kernel
theorem dX7_dive_13 : decode cX7_dive 13 = .ok (.iconst 0, 1) := by decide +kernel
theorem dX7_dive_14 : decode cX7_dive 14 = .ok (.bipush 9, 2) := by decide +kernel
theorem dX7_dive_16 : decode cX7_dive 16 = .ok (.invokestatic 49, 3) := by decide +kernel
theorem dX7_dive_19 : decode cX7_dive 19 = .ok (.ifCond .eq 13, 3) := by decide +kernel
theorem dX7_dive_22 : decode cX7_dive 22 = .ok (.iload_n 3, 1) := by decide +kernel
theorem dX7_dive_23 : decode cX7_dive 23 = .ok (.iconst 0, 1) := by decide +kernel
theorem dX7_dive_24 : decode cX7_dive 24 = .ok (.bipush 99, 2) := by decide +kernel
theorem dX7_dive_26 : decode cX7_dive 26 = .ok (.invokestatic 49, 3) := by decide +kernel
theorem dX7_dive_29 : decode cX7_dive 29 = .ok (.ifCond .ne 6, 3) := by decide +kernel
theorem dX7_dive_32 : decode cX7_dive 32 = .ok (.bipush (-2), 2) := by decide +kernel
theorem dX7_dive_34 : decode cX7_dive 34 = .ok (.ireturn, 1) := by decide +kernel
theorem dX7_dive_35 : decode cX7_dive 35 = .ok (.aload_n 0, 1) := by decide +kernel
theorem dX7_dive_36 : decode cX7_dive 36 = .ok (.dup, 1) := by decide +kernel
theorem dX7_dive_37 : decode cX7_dive 37 = .ok (.getfield 53, 3) := by decide +kernel
theorem dX7_dive_40 : decode cX7_dive 40 = .ok (.iconst 1, 1) := by decide +kernel
theorem dX7_dive_41 : decode cX7_dive 41 = .ok (.iload_n 1, 1) := by decide +kernel
theorem dX7_dive_42 : decode cX7_dive 42 = .ok (.ishl, 1) := by decide +kernel
theorem dX7_dive_43 : decode cX7_dive 43 = .ok (.ior, 1) := by decide +kernel
theorem dX7_dive_44 : decode cX7_dive 44 = .ok (.putfield 53, 3) := by decide +kernel
theorem dX7_dive_47 : decode cX7_dive 47 = .ok (.aload_n 0, 1) := by decide +kernel
theorem dX7_dive_48 : decode cX7_dive 48 = .ok (.getfield 23, 3) := by decide +kernel
theorem dX7_dive_51 : decode cX7_dive 51 = .ok (.bipush 7, 2) := by decide +kernel
theorem dX7_dive_53 : decode cX7_dive 53 = .ok (.dup2, 1) := by decide +kernel
theorem dX7_dive_54 : decode cX7_dive 54 = .ok (.iaload, 1) := by decide +kernel
theorem dX7_dive_55 : decode cX7_dive 55 = .ok (.iconst 1, 1) := by decide +kernel
theorem dX7_dive_56 : decode cX7_dive 56 = .ok (.iload_n 1, 1) := by decide +kernel
theorem dX7_dive_57 : decode cX7_dive 57 = .ok (.ishl, 1) := by decide +kernel
theorem dX7_dive_58 : decode cX7_dive 58 = .ok (.ior, 1) := by decide +kernel
theorem dX7_dive_59 : decode cX7_dive 59 = .ok (.iastore, 1) := by decide +kernel
theorem dX7_dive_60 : decode cX7_dive 60 = .ok (.aload_n 0, 1) := by decide +kernel
theorem dX7_dive_61 : decode cX7_dive 61 = .ok (.getfield 7, 3) := by decide +kernel
theorem dX7_dive_64 : decode cX7_dive 64 = .ok (.iload_n 1, 1) := by decide +kernel
theorem dX7_dive_65 : decode cX7_dive 65 = .ok (.iload_n 2, 1) := by decide +kernel
theorem dX7_dive_66 : decode cX7_dive 66 = .ok (.iastore, 1) := by decide +kernel
theorem dX7_dive_67 : decode cX7_dive 67 = .ok (.aload_n 0, 1) := by decide +kernel
theorem dX7_dive_68 : decode cX7_dive 68 = .ok (.getfield 23, 3) := by decide +kernel
theorem dX7_dive_71 : decode cX7_dive 71 = .ok (.iload_n 1, 1) := by decide +kernel
theorem dX7_dive_72 : decode cX7_dive 72 = .ok (.iload_n 3, 1) := by decide +kernel
theorem dX7_dive_73 : decode cX7_dive 73 = .ok (.iastore, 1) := by decide +kernel
theorem dX7_dive_74 : decode cX7_dive 74 = .ok (.aload_n 0, 1) := by decide +kernel
theorem dX7_dive_75 : decode cX7_dive 75 = .ok (.getfield 23, 3) := by decide +kernel
theorem dX7_dive_78 : decode cX7_dive 78 = .ok (.bipush 7, 2) := by decide +kernel
theorem dX7_dive_80 : decode cX7_dive 80 = .ok (.iaload, 1) := by decide +kernel
theorem dX7_dive_81 : decode cX7_dive 81 = .ok (.invokestatic 60, 3) := by decide +kernel
theorem dX7_dive_84 : decode cX7_dive 84 = .ok (.ireturn, 1) := by decide +kernel
theorem dX7_leave_0 : decode cX7_leave 0 = .ok (.aload_n 0, 1) := by decide +kernel
theorem dX7_leave_1 : decode cX7_leave 1 = .ok (.iload_n 1, 1) := by decide +kernel
theorem dX7_leave_2 : decode cX7_leave 2 = .ok (.invokevirtual 64, 3) := by decide +kernel
theorem dX7_leave_5 : decode cX7_leave 5 = .ok (.ifCond .ne 5, 3) := by decide +kernel
theorem dX7_leave_8 : decode cX7_leave 8 = .ok (.iconst (-1), 1) := by decide +kernel
theorem dX7_leave_9 : decode cX7_leave 9 = .ok (.ireturn, 1) := by decide +kernel
theorem dX7_leave_10 : decode cX7_leave 10 = .ok (.aload_n 0, 1) := by decide +kernel
theorem dX7_leave_11 : decode cX7_leave 11 = .ok (.dup, 1) := by decide +kernel
theorem dX7_leave_12 : decode cX7_leave 12 = .ok (.getfield 53, 3) := by decide +kernel
theorem dX7_leave_15 : decode cX7_leave 15 = .ok (.iconst 1, 1) := by decide +kernel
theorem dX7_leave_16 : decode cX7_leave 16 = .ok (.iload_n 1, 1) := by decide +kernel
theorem dX7_leave_17 : decode cX7_leave 17 = .ok (.ishl, 1) := by decide +kernel
theorem dX7_leave_18 : decode cX7_leave 18 = .ok (.iconst (-1), 1) := by decide +kernel
theorem dX7_leave_19 : decode cX7_leave 19 = .ok (.ixor, 1) := by decide +kernel
theorem dX7_leave_20 : decode cX7_leave 20 = .ok (.iand, 1) := by decide +kernel
theorem dX7_leave_21 : decode cX7_leave 21 = .ok (.putfield 53, 3) := by decide +kernel
theorem dX7_leave_24 : decode cX7_leave 24 = .ok (.aload_n 0, 1) := by decide +kernel
theorem dX7_leave_25 : decode cX7_leave 25 = .ok (.getfield 23, 3) := by decide +kernel
theorem dX7_leave_28 : decode cX7_leave 28 = .ok (.bipush 7, 2) := by decide +kernel
theorem dX7_leave_30 : decode cX7_leave 30 = .ok (.dup2, 1) := by decide +kernel
theorem dX7_leave_31 : decode cX7_leave 31 = .ok (.iaload, 1) := by decide +kernel
theorem dX7_leave_32 : decode cX7_leave 32 = .ok (.iconst 1, 1) := by decide +kernel
theorem dX7_leave_33 : decode cX7_leave 33 = .ok (.iload_n 1, 1) := by decide +kernel
theorem dX7_leave_34 : decode cX7_leave 34 = .ok (.ishl, 1) := by decide +kernel
theorem dX7_leave_35 : decode cX7_leave 35 = .ok (.iconst (-1), 1) := by decide +kernel
theorem dX7_leave_36 : decode cX7_leave 36 = .ok (.ixor, 1) := by decide +kernel
theorem dX7_leave_37 : decode cX7_leave 37 = .ok (.iand, 1) := by decide +kernel
theorem dX7_leave_38 : decode cX7_leave 38 = .ok (.iastore, 1) := by decide +kernel
theorem dX7_leave_39 : decode cX7_leave 39 = .ok (.aload_n 0, 1) := by decide +kernel
theorem dX7_leave_40 : decode cX7_leave 40 = .ok (.getfield 53, 3) := by decide +kernel
theorem dX7_leave_43 : decode cX7_leave 43 = .ok (.invokestatic 60, 3) := by decide +kernel
theorem dX7_leave_46 : decode cX7_leave 46 = .ok (.ireturn, 1) := by decide +kernel
theorem dX7_set_0 : decode cX7_set 0 = .ok (.iload_n 1, 1) := by decide +kernel
theorem dX7_set_1 : decode cX7_set 1 = .ok (.ifCond .ne 13, 3) := by decide +kernel
theorem dX7_set_4 : decode cX7_set 4 = .ok (.iload_n 2, 1) := by decide +kernel
theorem dX7_set_5 : decode cX7_set 5 = .ok (.iconst 1, 1) := by decide +kernel
theorem dX7_set_6 : decode cX7_set 6 = .ok (.bipush 40, 2) := by decide +kernel
theorem dX7_set_8 : decode cX7_set 8 = .ok (.invokestatic 49, 3) := by decide +kernel
theorem dX7_set_11 : decode cX7_set 11 = .ok (.goto 23, 3) := by decide +kernel
theorem dX7_set_14 : decode cX7_set 14 = .ok (.iload_n 1, 1) := by decide +kernel
theorem dX7_set_15 : decode cX7_set 15 = .ok (.iconst 1, 1) := by decide +kernel
theorem dX7_set_16 : decode cX7_set 16 = .ok (.if_icmp .ne 17, 3) := by decide +kernel
theorem dX7_set_19 : decode cX7_set 19 = .ok (.iload_n 2, 1) := by decide +kernel
theorem dX7_set_20 : decode cX7_set 20 = .ok (.iconst 0, 1) := by decide +kernel
theorem dX7_set_21 : decode cX7_set 21 = .ok (.bipush 9, 2) := by decide +kernel
theorem dX7_set_23 : decode cX7_set 23 = .ok (.invokestatic 49, 3) := by decide +kernel
theorem dX7_set_26 : decode cX7_set 26 = .ok (.ifCond .eq 7, 3) := by decide +kernel
theorem dX7_set_29 : decode cX7_set 29 = .ok (.iconst 1, 1) := by decide +kernel
theorem dX7_set_30 : decode cX7_set 30 = .ok (.goto 4, 3) := by decide +kernel
theorem dX7_set_33 : decode cX7_set 33 = .ok (.iconst 0, 1) := by decide +kernel
theorem dX7_set_34 : decode cX7_set 34 = .ok (.istore_n 3, 1) := by decide +kernel
theorem dX7_set_35 : decode cX7_set 35 = .ok (.iload_n 3, 1) := by decide +kernel
theorem dX7_set_36 : decode cX7_set 36 = .ok (.ifCond .ne 6, 3) := by decide +kernel
theorem dX7_set_39 : decode cX7_set 39 = .ok (.bipush (-2), 2) := by decide +kernel
theorem dX7_set_41 : decode cX7_set 41 = .ok (.ireturn, 1) := by decide +kernel
theorem dX7_set_42 : decode cX7_set 42 = .ok (.iload_n 1, 1) := by decide +kernel
theorem dX7_set_43 : decode cX7_set 43 = .ok (.ifCond .ne 10, 3) := by decide +kernel
theorem dX7_set_46 : decode cX7_set 46 = .ok (.aload_n 0, 1) := by decide +kernel
theorem dX7_set_47 : decode cX7_set 47 = .ok (.getfield 13, 3) := by decide +kernel
theorem dX7_set_50 : decode cX7_set 50 = .ok (.goto 10, 3) := by decide +kernel
theorem dX7_set_53 : decode cX7_set 53 = .ok (.aload_n 0, 1) := by decide +kernel
theorem dX7_set_54 : decode cX7_set 54 = .ok (.getfield 23, 3) := by decide +kernel
theorem dX7_set_57 : decode cX7_set 57 = .ok (.bipush 9, 2) := by decide +kernel
theorem dX7_set_59 : decode cX7_set 59 = .ok (.iaload, 1) := by decide +kernel
theorem dX7_set_60 : decode cX7_set 60 = .ok (.istore 4, 2) := by decide +kernel
theorem dX7_set_62 : decode cX7_set 62 = .ok (.aload_n 0, 1) := by decide +kernel
theorem dX7_set_63 : decode cX7_set 63 = .ok (.iload_n 1, 1) := by decide +kernel
theorem dX7_set_64 : decode cX7_set 64 = .ok (.ifCond .ne 7, 3) := by decide +kernel
theorem dX7_set_67 : decode cX7_set 67 = .ok (.iload_n 2, 1) := by decide +kernel
theorem dX7_set_68 : decode cX7_set 68 = .ok (.goto 7, 3) := by decide +kernel
theorem dX7_set_71 : decode cX7_set 71 = .ok (.aload_n 0, 1) := by decide +kernel
theorem dX7_set_72 : decode cX7_set 72 = .ok (.getfield 13, 3) := by decide +kernel
theorem dX7_set_75 : decode cX7_set 75 = .ok (.putfield 13, 3) := by decide +kernel
theorem dX7_set_78 : decode cX7_set 78 = .ok (.aload_n 0, 1) := by decide +kernel
theorem dX7_set_79 : decode cX7_set 79 = .ok (.getfield 23, 3) := by decide +kernel
theorem dX7_set_82 : decode cX7_set 82 = .ok (.bipush 9, 2) := by decide +kernel
theorem dX7_set_84 : decode cX7_set 84 = .ok (.iload_n 1, 1) := by decide +kernel
theorem dX7_set_85 : decode cX7_set 85 = .ok (.iconst 1, 1) := by decide +kernel
theorem dX7_set_86 : decode cX7_set 86 = .ok (.if_icmp .ne 7, 3) := by decide +kernel
theorem dX7_set_89 : decode cX7_set 89 = .ok (.iload_n 2, 1) := by decide +kernel
theorem dX7_set_90 : decode cX7_set 90 = .ok (.goto 10, 3) := by decide +kernel
theorem dX7_set_93 : decode cX7_set 93 = .ok (.aload_n 0, 1) := by decide +kernel
theorem dX7_set_94 : decode cX7_set 94 = .ok (.getfield 23, 3) := by decide +kernel
theorem dX7_set_97 : decode cX7_set 97 = .ok (.bipush 9, 2) := by decide +kernel
theorem dX7_set_99 : decode cX7_set 99 = .ok (.iaload, 1) := by decide +kernel
theorem dX7_set_100 : decode cX7_set 100 = .ok (.iastore, 1) := by decide +kernel
theorem dX7_set_101 : decode cX7_set 101 = .ok (.iload 4, 2) := by decide +kernel
theorem dX7_set_103 : decode cX7_set 103 = .ok (.ireturn, 1) := by decide +kernel
theorem dX7_close_0 : decode cX7_close 0 = .ok (.aload_n 0, 1) := by decide +kernel
theorem dX7_close_1 : decode cX7_close 1 = .ok (.getfield 23, 3) := by decide +kernel
theorem dX7_close_4 : decode cX7_close 4 = .ok (.bipush 10, 2) := by decide +kernel
theorem dX7_close_6 : decode cX7_close 6 = .ok (.iaload, 1) := by decide +kernel
theorem dX7_close_7 : decode cX7_close 7 = .ok (.istore_n 1, 1) := by decide +kernel
theorem dX7_close_8 : decode cX7_close 8 = .ok (.aload_n 0, 1) := by decide +kernel
theorem dX7_close_9 : decode cX7_close 9 = .ok (.getfield 23, 3) := by decide +kernel
theorem dX7_close_12 : decode cX7_close 12 = .ok (.bipush 10, 2) := by decide +kernel
theorem dX7_close_14 : decode cX7_close 14 = .ok (.iconst 0, 1) := by decide +kernel
theorem dX7_close_15 : decode cX7_close 15 = .ok (.iastore, 1) := by decide +kernel
theorem dX7_close_16 : decode cX7_close 16 = .ok (.aload_n 0, 1) := by decide +kernel
theorem dX7_close_17 : decode cX7_close 17 = .ok (.getfield 23, 3) := by decide +kernel
theorem dX7_close_20 : decode cX7_close 20 = .ok (.bipush 8, 2) := by decide +kernel
theorem dX7_close_22 : decode cX7_close 22 = .ok (.iconst 0, 1) := by decide +kernel
theorem dX7_close_23 : decode cX7_close 23 = .ok (.iastore, 1) := by decide +kernel
theorem dX7_close_24 : decode cX7_close 24 = .ok (.iload_n 1, 1) := by decide +kernel
theorem dX7_close_25 : decode cX7_close 25 = .ok (.ireturn, 1) := by decide +kernel
theorem dX7_say_0 : decode cX7_say 0 = .ok (.iload_n 1, 1) := by decide +kernel
theorem dX7_say_1 : decode cX7_say 1 = .ok (.bipush 33, 2) := by decide +kernel
theorem dX7_say_3 : decode cX7_say 3 = .ok (.bipush 126, 2) := by decide +kernel
theorem dX7_say_5 : decode cX7_say 5 = .ok (.invokestatic 49, 3) := by decide +kernel
theorem dX7_say_8 : decode cX7_say 8 = .ok (.ifCond .ne 6, 3) := by decide +kernel
theorem dX7_say_11 : decode cX7_say 11 = .ok (.bipush (-2), 2) := by decide +kernel
theorem dX7_say_13 : decode cX7_say 13 = .ok (.ireturn, 1) := by decide +kernel
theorem dX7_say_14 : decode cX7_say 14 = .ok (.aload_n 0, 1) := by decide +kernel
theorem dX7_say_15 : decode cX7_say 15 = .ok (.getfield 68, 3) := by decide +kernel
theorem dX7_say_18 : decode cX7_say 18 = .ok (.bipush 60, 2) := by decide +kernel
theorem dX7_say_20 : decode cX7_say 20 = .ok (.if_icmp .ne 6, 3) := by decide +kernel
theorem dX7_say_23 : decode cX7_say 23 = .ok (.bipush (-4), 2) := by decide +kernel
theorem dX7_say_25 : decode cX7_say 25 = .ok (.ireturn, 1) := by decide +kernel
theorem dX7_say_26 : decode cX7_say 26 = .ok (.aload_n 0, 1) := by decide +kernel
theorem dX7_say_27 : decode cX7_say 27 = .ok (.getfield 29, 3) := by decide +kernel
theorem dX7_say_30 : decode cX7_say 30 = .ok (.aload_n 0, 1) := by decide +kernel
theorem dX7_say_31 : decode cX7_say 31 = .ok (.getfield 68, 3) := by decide +kernel
theorem dX7_say_34 : decode cX7_say 34 = .ok (.iload_n 1, 1) := by decide +kernel
theorem dX7_say_35 : decode cX7_say 35 = .ok (.iastore, 1) := by decide +kernel
theorem dX7_say_36 : decode cX7_say 36 = .ok (.aload_n 0, 1) := by decide +kernel
theorem dX7_say_37 : decode cX7_say 37 = .ok (.dup, 1) := by decide +kernel
theorem dX7_say_38 : decode cX7_say 38 = .ok (.getfield 68, 3) := by decide +kernel
theorem dX7_say_41 : decode cX7_say 41 = .ok (.iconst 1, 1) := by decide +kernel
theorem dX7_say_42 : decode cX7_say 42 = .ok (.iadd, 1) := by decide +kernel
theorem dX7_say_43 : decode cX7_say 43 = .ok (.putfield 68, 3) := by decide +kernel
theorem dX7_say_46 : decode cX7_say 46 = .ok (.aload_n 0, 1) := by decide +kernel
theorem dX7_say_47 : decode cX7_say 47 = .ok (.getfield 68, 3) := by decide +kernel
theorem dX7_say_50 : decode cX7_say 50 = .ok (.ireturn, 1) := by decide +kernel
theorem dX7_wipe_0 : decode cX7_wipe 0 = .ok (.aload_n 0, 1) := by decide +kernel
theorem dX7_wipe_1 : decode cX7_wipe 1 = .ok (.getfield 68, 3) := by decide +kernel
theorem dX7_wipe_4 : decode cX7_wipe 4 = .ok (.istore_n 1, 1) := by decide +kernel
theorem dX7_wipe_5 : decode cX7_wipe 5 = .ok (.aload_n 0, 1) := by decide +kernel
theorem dX7_wipe_6 : decode cX7_wipe 6 = .ok (.iconst 0, 1) := by decide +kernel
theorem dX7_wipe_7 : decode cX7_wipe 7 = .ok (.putfield 68, 3) := by decide +kernel
theorem dX7_wipe_10 : decode cX7_wipe 10 = .ok (.iload_n 1, 1) := by decide +kernel
theorem dX7_wipe_11 : decode cX7_wipe 11 = .ok (.ireturn, 1) := by decide +kernel
theorem dX7_isLetter_0 : decode cX7_isLetter 0 = .ok (.iload_n 0, 1) := by decide +kernel
theorem dX7_isLetter_1 : decode cX7_isLetter 1 = .ok (.bipush 65, 2) := by decide +kernel
theorem dX7_isLetter_3 : decode cX7_isLetter 3 = .ok (.bipush 71, 2) := by decide +kernel
theorem dX7_isLetter_5 : decode cX7_isLetter 5 = .ok (.invokestatic 49, 3) := by decide +kernel
theorem dX7_isLetter_8 : decode cX7_isLetter 8 = .ok (.ireturn, 1) := by decide +kernel
theorem dX7_faultOf_0 : decode cX7_faultOf 0 = .ok (.iconst 0, 1) := by decide +kernel
theorem dX7_faultOf_1 : decode cX7_faultOf 1 = .ok (.istore_n 1, 1) := by decide +kernel
theorem dX7_faultOf_2 : decode cX7_faultOf 2 = .ok (.iconst 0, 1) := by decide +kernel
theorem dX7_faultOf_3 : decode cX7_faultOf 3 = .ok (.istore_n 2, 1) := by decide +kernel
theorem dX7_faultOf_4 : decode cX7_faultOf 4 = .ok (.iload_n 2, 1) := by decide +kernel
theorem dX7_faultOf_5 : decode cX7_faultOf 5 = .ok (.aload_n 0, 1) := by decide +kernel
theorem dX7_faultOf_6 : decode cX7_faultOf 6 = .ok (.getfield 68, 3) := by decide +kernel
theorem dX7_faultOf_9 : decode cX7_faultOf 9 = .ok (.if_icmp .ge 120, 3) := by decide +kernel
theorem dX7_faultOf_12 : decode cX7_faultOf 12 = .ok (.aload_n 0, 1) := by decide +kernel
theorem dX7_faultOf_13 : decode cX7_faultOf 13 = .ok (.getfield 29, 3) := by decide +kernel
theorem dX7_faultOf_16 : decode cX7_faultOf 16 = .ok (.iload_n 2, 1) := by decide +kernel
theorem dX7_faultOf_17 : decode cX7_faultOf 17 = .ok (.iaload, 1) := by decide +kernel
theorem dX7_faultOf_18 : decode cX7_faultOf 18 = .ok (.istore_n 3, 1) := by decide +kernel
theorem dX7_faultOf_19 : decode cX7_faultOf 19 = .ok (.iload_n 1, 1) := by decide +kernel
theorem dX7_faultOf_20 : decode cX7_faultOf 20 = .ok (.ifCond .ne 30, 3) := by decide +kernel
theorem dX7_faultOf_23 : decode cX7_faultOf 23 = .ok (.iload_n 3, 1) := by decide +kernel
theorem dX7_faultOf_24 : decode cX7_faultOf 24 = .ok (.invokestatic 71, 3) := by decide +kernel
theorem dX7_faultOf_27 : decode cX7_faultOf 27 = .ok (.ifCond .ne 15, 3) := by decide +kernel
theorem dX7_faultOf_30 : decode cX7_faultOf 30 = .ok (.iload_n 3, 1) := by decide +kernel
theorem dX7_faultOf_31 : decode cX7_faultOf 31 = .ok (.bipush 126, 2) := by decide +kernel
theorem dX7_faultOf_33 : decode cX7_faultOf 33 = .ok (.if_icmp .eq 9, 3) := by decide +kernel
theorem dX7_faultOf_36 : decode cX7_faultOf 36 = .ok (.iload_n 3, 1) := by decide +kernel
theorem dX7_faultOf_37 : decode cX7_faultOf 37 = .ok (.bipush 46, 2) := by decide +kernel
theorem dX7_faultOf_39 : decode cX7_faultOf 39 = .ok (.if_icmp .ne 7, 3) := by decide +kernel
theorem dX7_faultOf_42 : decode cX7_faultOf 42 = .ok (.iconst 1, 1) := by decide +kernel
theorem dX7_faultOf_43 : decode cX7_faultOf 43 = .ok (.goto 45, 3) := by decide +kernel
theorem dX7_faultOf_46 : decode cX7_faultOf 46 = .ok (.iconst 0, 1) := by decide +kernel
theorem dX7_faultOf_47 : decode cX7_faultOf 47 = .ok (.goto 41, 3) := by decide +kernel
theorem dX7_faultOf_50 : decode cX7_faultOf 50 = .ok (.iload_n 1, 1) := by decide +kernel
theorem dX7_faultOf_51 : decode cX7_faultOf 51 = .ok (.iconst 1, 1) := by decide +kernel
theorem dX7_faultOf_52 : decode cX7_faultOf 52 = .ok (.if_icmp .ne 28, 3) := by decide +kernel
theorem dX7_faultOf_55 : decode cX7_faultOf 55 = .ok (.iload_n 3, 1) := by decide +kernel
theorem dX7_faultOf_56 : decode cX7_faultOf 56 = .ok (.bipush 94, 2) := by decide +kernel
theorem dX7_faultOf_58 : decode cX7_faultOf 58 = .ok (.if_icmp .eq 14, 3) := by decide +kernel
theorem dX7_faultOf_61 : decode cX7_faultOf 61 = .ok (.iload_n 3, 1) := by decide +kernel
theorem dX7_faultOf_62 : decode cX7_faultOf 62 = .ok (.bipush 49, 2) := by decide +kernel
theorem dX7_faultOf_64 : decode cX7_faultOf 64 = .ok (.bipush 57, 2) := by decide +kernel
theorem dX7_faultOf_66 : decode cX7_faultOf 66 = .ok (.invokestatic 49, 3) := by decide +kernel
theorem dX7_faultOf_69 : decode cX7_faultOf 69 = .ok (.ifCond .eq 7, 3) := by decide +kernel
theorem dX7_faultOf_72 : decode cX7_faultOf 72 = .ok (.iconst 1, 1) := by decide +kernel
theorem dX7_faultOf_73 : decode cX7_faultOf 73 = .ok (.goto 15, 3) := by decide +kernel
theorem dX7_faultOf_76 : decode cX7_faultOf 76 = .ok (.iconst 0, 1) := by decide +kernel
theorem dX7_faultOf_77 : decode cX7_faultOf 77 = .ok (.goto 11, 3) := by decide +kernel
theorem dX7_faultOf_80 : decode cX7_faultOf 80 = .ok (.iload_n 3, 1) := by decide +kernel
theorem dX7_faultOf_81 : decode cX7_faultOf 81 = .ok (.bipush 48, 2) := by decide +kernel
theorem dX7_faultOf_83 : decode cX7_faultOf 83 = .ok (.bipush 57, 2) := by decide +kernel
theorem dX7_faultOf_85 : decode cX7_faultOf 85 = .ok (.invokestatic 49, 3) := by decide +kernel
theorem dX7_faultOf_88 : decode cX7_faultOf 88 = .ok (.istore 4, 2) := by decide +kernel
theorem dX7_faultOf_90 : decode cX7_faultOf 90 = .ok (.iload 4, 2) := by decide +kernel
theorem dX7_faultOf_92 : decode cX7_faultOf 92 = .ok (.ifCond .ne 5, 3) := by decide +kernel
theorem dX7_faultOf_95 : decode cX7_faultOf 95 = .ok (.iload_n 2, 1) := by decide +kernel
theorem dX7_faultOf_96 : decode cX7_faultOf 96 = .ok (.ireturn, 1) := by decide +kernel
theorem dX7_faultOf_97 : decode cX7_faultOf 97 = .ok (.iload_n 1, 1) := by decide +kernel
theorem dX7_faultOf_98 : decode cX7_faultOf 98 = .ok (.ifCond .ne 9, 3) := by decide +kernel
theorem dX7_faultOf_101 : decode cX7_faultOf 101 = .ok (.iload_n 3, 1) := by decide +kernel
theorem dX7_faultOf_102 : decode cX7_faultOf 102 = .ok (.bipush 46, 2) := by decide +kernel
theorem dX7_faultOf_104 : decode cX7_faultOf 104 = .ok (.if_icmp .ne 7, 3) := by decide +kernel
theorem dX7_faultOf_107 : decode cX7_faultOf 107 = .ok (.iconst 0, 1) := by decide +kernel
theorem dX7_faultOf_108 : decode cX7_faultOf 108 = .ok (.goto 14, 3) := by decide +kernel
theorem dX7_faultOf_111 : decode cX7_faultOf 111 = .ok (.iload_n 3, 1) := by decide +kernel
theorem dX7_faultOf_112 : decode cX7_faultOf 112 = .ok (.bipush 126, 2) := by decide +kernel
theorem dX7_faultOf_114 : decode cX7_faultOf 114 = .ok (.if_icmp .ne 7, 3) := by decide +kernel
theorem dX7_faultOf_117 : decode cX7_faultOf 117 = .ok (.iconst 2, 1) := by decide +kernel
theorem dX7_faultOf_118 : decode cX7_faultOf 118 = .ok (.goto 4, 3) := by decide +kernel
theorem dX7_faultOf_121 : decode cX7_faultOf 121 = .ok (.iconst 1, 1) := by decide +kernel
theorem dX7_faultOf_122 : decode cX7_faultOf 122 = .ok (.istore_n 1, 1) := by decide +kernel
theorem dX7_faultOf_123 : decode cX7_faultOf 123 = .ok (.iinc 2 1, 3) := by decide +kernel
theorem dX7_faultOf_126 : decode cX7_faultOf 126 = .ok (.goto (-122), 3) := by decide +kernel
theorem dX7_faultOf_129 : decode cX7_faultOf 129 = .ok (.iload_n 1, 1) := by decide +kernel
theorem dX7_faultOf_130 : decode cX7_faultOf 130 = .ok (.ifCond .ne 8, 3) := by decide +kernel
theorem dX7_faultOf_133 : decode cX7_faultOf 133 = .ok (.bipush (-6), 2) := by decide +kernel
theorem dX7_faultOf_135 : decode cX7_faultOf 135 = .ok (.goto 7, 3) := by decide +kernel
theorem dX7_faultOf_138 : decode cX7_faultOf 138 = .ok (.aload_n 0, 1) := by decide +kernel
theorem dX7_faultOf_139 : decode cX7_faultOf 139 = .ok (.getfield 68, 3) := by decide +kernel
theorem dX7_faultOf_142 : decode cX7_faultOf 142 = .ok (.ireturn, 1) := by decide +kernel
theorem dX7_fault_0 : decode cX7_fault 0 = .ok (.aload_n 0, 1) := by decide +kernel
theorem dX7_fault_1 : decode cX7_fault 1 = .ok (.invokevirtual 74, 3) := by decide +kernel
theorem dX7_fault_4 : decode cX7_fault 4 = .ok (.ireturn, 1) := by decide +kernel
theorem dX7_asNow_0 : decode cX7_asNow 0 = .ok (.iconst 0, 1) := by decide +kernel
theorem dX7_asNow_1 : decode cX7_asNow 1 = .ok (.istore_n 1, 1) := by decide +kernel
theorem dX7_asNow_2 : decode cX7_asNow 2 = .ok (.iload_n 1, 1) := by decide +kernel
theorem dX7_asNow_3 : decode cX7_asNow 3 = .ok (.bipush 107, 2) := by decide +kernel
theorem dX7_asNow_5 : decode cX7_asNow 5 = .ok (.if_icmp .ge 21, 3) := by decide +kernel
theorem dX7_asNow_8 : decode cX7_asNow 8 = .ok (.aload_n 0, 1) := by decide +kernel
theorem dX7_asNow_9 : decode cX7_asNow 9 = .ok (.getfield 26, 3) := by decide +kernel
theorem dX7_asNow_12 : decode cX7_asNow 12 = .ok (.iload_n 1, 1) := by decide +kernel
theorem dX7_asNow_13 : decode cX7_asNow 13 = .ok (.aload_n 0, 1) := by decide +kernel
theorem dX7_asNow_14 : decode cX7_asNow 14 = .ok (.getfield 23, 3) := by decide +kernel
theorem dX7_asNow_17 : decode cX7_asNow 17 = .ok (.iload_n 1, 1) := by decide +kernel
theorem dX7_asNow_18 : decode cX7_asNow 18 = .ok (.iaload, 1) := by decide +kernel
theorem dX7_asNow_19 : decode cX7_asNow 19 = .ok (.iastore, 1) := by decide +kernel
theorem dX7_asNow_20 : decode cX7_asNow 20 = .ok (.iinc 1 1, 3) := by decide +kernel
theorem dX7_asNow_23 : decode cX7_asNow 23 = .ok (.goto (-21), 3) := by decide +kernel
theorem dX7_asNow_26 : decode cX7_asNow 26 = .ok (.return_, 1) := by decide +kernel
theorem dX7_up_0 : decode cX7_up 0 = .ok (.aload_n 0, 1) := by decide +kernel
theorem dX7_up_1 : decode cX7_up 1 = .ok (.getfield 13, 3) := by decide +kernel
theorem dX7_up_4 : decode cX7_up 4 = .ok (.iload_n 1, 1) := by decide +kernel
theorem dX7_up_5 : decode cX7_up 5 = .ok (.iadd, 1) := by decide +kernel
theorem dX7_up_6 : decode cX7_up 6 = .ok (.iconst 1, 1) := by decide +kernel
theorem dX7_up_7 : decode cX7_up 7 = .ok (.isub, 1) := by decide +kernel
theorem dX7_up_8 : decode cX7_up 8 = .ok (.iload_n 1, 1) := by decide +kernel
theorem dX7_up_9 : decode cX7_up 9 = .ok (.idiv, 1) := by decide +kernel
theorem dX7_up_10 : decode cX7_up 10 = .ok (.ireturn, 1) := by decide +kernel
theorem dX7_whyNoBubble_0 : decode cX7_whyNoBubble 0 = .ok (.aload_n 0, 1) := by decide +kernel
theorem dX7_whyNoBubble_1 : decode cX7_whyNoBubble 1 = .ok (.getfield 26, 3) := by decide +kernel
theorem dX7_whyNoBubble_4 : decode cX7_whyNoBubble 4 = .ok (.bipush 7, 2) := by decide +kernel
theorem dX7_whyNoBubble_6 : decode cX7_whyNoBubble 6 = .ok (.iaload, 1) := by decide +kernel
theorem dX7_whyNoBubble_7 : decode cX7_whyNoBubble 7 = .ok (.iload_n 1, 1) := by decide +kernel
theorem dX7_whyNoBubble_8 : decode cX7_whyNoBubble 8 = .ok (.invokestatic 56, 3) := by decide +kernel
theorem dX7_whyNoBubble_11 : decode cX7_whyNoBubble 11 = .ok (.ifCond .ne 5, 3) := by decide +kernel
theorem dX7_whyNoBubble_14 : decode cX7_whyNoBubble 14 = .ok (.iconst 1, 1) := by decide +kernel
theorem dX7_whyNoBubble_15 : decode cX7_whyNoBubble 15 = .ok (.ireturn, 1) := by decide +kernel
theorem dX7_whyNoBubble_16 : decode cX7_whyNoBubble 16 = .ok (.aload_n 0, 1) := by decide +kernel
theorem dX7_whyNoBubble_17 : decode cX7_whyNoBubble 17 = .ok (.getfield 26, 3) := by decide +kernel
theorem dX7_whyNoBubble_20 : decode cX7_whyNoBubble 20 = .ok (.iload_n 1, 1) := by decide +kernel
theorem dX7_whyNoBubble_21 : decode cX7_whyNoBubble 21 = .ok (.iaload, 1) := by decide +kernel
theorem dX7_whyNoBubble_22 : decode cX7_whyNoBubble 22 = .ok (.iload_n 2, 1) := by decide +kernel
theorem dX7_whyNoBubble_23 : decode cX7_whyNoBubble 23 = .ok (.if_icmp .ge 7, 3) := by decide +kernel
theorem dX7_whyNoBubble_26 : decode cX7_whyNoBubble 26 = .ok (.iconst 2, 1) := by decide +kernel
theorem dX7_whyNoBubble_27 : decode cX7_whyNoBubble 27 = .ok (.goto 20, 3) := by decide +kernel
theorem dX7_whyNoBubble_30 : decode cX7_whyNoBubble 30 = .ok (.aload_n 0, 1) := by decide +kernel
theorem dX7_whyNoBubble_31 : decode cX7_whyNoBubble 31 = .ok (.getfield 26, 3) := by decide +kernel
theorem dX7_whyNoBubble_34 : decode cX7_whyNoBubble 34 = .ok (.bipush 10, 2) := by decide +kernel
theorem dX7_whyNoBubble_36 : decode cX7_whyNoBubble 36 = .ok (.iaload, 1) := by decide +kernel
theorem dX7_whyNoBubble_37 : decode cX7_whyNoBubble 37 = .ok (.bipush 32, 2) := by decide +kernel
theorem dX7_whyNoBubble_39 : decode cX7_whyNoBubble 39 = .ok (.if_icmp .ne 7, 3) := by decide +kernel
theorem dX7_whyNoBubble_42 : decode cX7_whyNoBubble 42 = .ok (.iconst 3, 1) := by decide +kernel
theorem dX7_whyNoBubble_43 : decode cX7_whyNoBubble 43 = .ok (.goto 4, 3) := by decide +kernel
theorem dX7_whyNoBubble_46 : decode cX7_whyNoBubble 46 = .ok (.iconst 0, 1) := by decide +kernel
theorem dX7_whyNoBubble_47 : decode cX7_whyNoBubble 47 = .ok (.ireturn, 1) := by decide +kernel
theorem dX7_bubble_0 : decode cX7_bubble 0 = .ok (.bipush 11, 2) := by decide +kernel
theorem dX7_bubble_2 : decode cX7_bubble 2 = .ok (.iconst 3, 1) := by decide +kernel
theorem dX7_bubble_3 : decode cX7_bubble 3 = .ok (.aload_n 0, 1) := by decide +kernel
theorem dX7_bubble_4 : decode cX7_bubble 4 = .ok (.getfield 26, 3) := by decide +kernel
theorem dX7_bubble_7 : decode cX7_bubble 7 = .ok (.bipush 10, 2) := by decide +kernel
theorem dX7_bubble_9 : decode cX7_bubble 9 = .ok (.iaload, 1) := by decide +kernel
theorem dX7_bubble_10 : decode cX7_bubble 10 = .ok (.imul, 1) := by decide +kernel
theorem dX7_bubble_11 : decode cX7_bubble 11 = .ok (.iadd, 1) := by decide +kernel
theorem dX7_bubble_12 : decode cX7_bubble 12 = .ok (.istore_n 3, 1) := by decide +kernel
theorem dX7_bubble_13 : decode cX7_bubble 13 = .ok (.aload_n 0, 1) := by decide +kernel
theorem dX7_bubble_14 : decode cX7_bubble 14 = .ok (.getfield 26, 3) := by decide +kernel
theorem dX7_bubble_17 : decode cX7_bubble 17 = .ok (.iload_n 3, 1) := by decide +kernel
theorem dX7_bubble_18 : decode cX7_bubble 18 = .ok (.aload_n 0, 1) := by decide +kernel
theorem dX7_bubble_19 : decode cX7_bubble 19 = .ok (.getfield 26, 3) := by decide +kernel
theorem dX7_bubble_22 : decode cX7_bubble 22 = .ok (.bipush 8, 2) := by decide +kernel
theorem dX7_bubble_24 : decode cX7_bubble 24 = .ok (.iaload, 1) := by decide +kernel
theorem dX7_bubble_25 : decode cX7_bubble 25 = .ok (.aload_n 0, 1) := by decide +kernel
theorem dX7_bubble_26 : decode cX7_bubble 26 = .ok (.iload_n 2, 1) := by decide +kernel
theorem dX7_bubble_27 : decode cX7_bubble 27 = .ok (.invokevirtual 78, 3) := by decide +kernel
theorem dX7_bubble_30 : decode cX7_bubble 30 = .ok (.iadd, 1) := by decide +kernel
theorem dX7_bubble_31 : decode cX7_bubble 31 = .ok (.iastore, 1) := by decide +kernel
theorem dX7_bubble_32 : decode cX7_bubble 32 = .ok (.aload_n 0, 1) := by decide +kernel
theorem dX7_bubble_33 : decode cX7_bubble 33 = .ok (.getfield 26, 3) := by decide +kernel
theorem dX7_bubble_36 : decode cX7_bubble 36 = .ok (.iload_n 3, 1) := by decide +kernel
theorem dX7_bubble_37 : decode cX7_bubble 37 = .ok (.iconst 1, 1) := by decide +kernel
theorem dX7_bubble_38 : decode cX7_bubble 38 = .ok (.iadd, 1) := by decide +kernel
theorem dX7_bubble_39 : decode cX7_bubble 39 = .ok (.aload_n 0, 1) := by decide +kernel
theorem dX7_bubble_40 : decode cX7_bubble 40 = .ok (.getfield 7, 3) := by decide +kernel
theorem dX7_bubble_43 : decode cX7_bubble 43 = .ok (.iload_n 1, 1) := by decide +kernel
theorem dX7_bubble_44 : decode cX7_bubble 44 = .ok (.iaload, 1) := by decide +kernel
theorem dX7_bubble_45 : decode cX7_bubble 45 = .ok (.aload_n 0, 1) := by decide +kernel
theorem dX7_bubble_46 : decode cX7_bubble 46 = .ok (.iload_n 2, 1) := by decide +kernel
theorem dX7_bubble_47 : decode cX7_bubble 47 = .ok (.invokevirtual 78, 3) := by decide +kernel
theorem dX7_bubble_50 : decode cX7_bubble 50 = .ok (.aload_n 0, 1) := by decide +kernel
theorem dX7_bubble_51 : decode cX7_bubble 51 = .ok (.getfield 26, 3) := by decide +kernel
theorem dX7_bubble_54 : decode cX7_bubble 54 = .ok (.bipush 9, 2) := by decide +kernel
theorem dX7_bubble_56 : decode cX7_bubble 56 = .ok (.iaload, 1) := by decide +kernel
theorem dX7_bubble_57 : decode cX7_bubble 57 = .ok (.imul, 1) := by decide +kernel
theorem dX7_bubble_58 : decode cX7_bubble 58 = .ok (.iadd, 1) := by decide +kernel
theorem dX7_bubble_59 : decode cX7_bubble 59 = .ok (.bipush 10, 2) := by decide +kernel
theorem dX7_bubble_61 : decode cX7_bubble 61 = .ok (.irem, 1) := by decide +kernel
theorem dX7_bubble_62 : decode cX7_bubble 62 = .ok (.iastore, 1) := by decide +kernel
theorem dX7_bubble_63 : decode cX7_bubble 63 = .ok (.aload_n 0, 1) := by decide +kernel
theorem dX7_bubble_64 : decode cX7_bubble 64 = .ok (.getfield 26, 3) := by decide +kernel
theorem dX7_bubble_67 : decode cX7_bubble 67 = .ok (.iload_n 3, 1) := by decide +kernel
theorem dX7_bubble_68 : decode cX7_bubble 68 = .ok (.iconst 2, 1) := by decide +kernel
theorem dX7_bubble_69 : decode cX7_bubble 69 = .ok (.iadd, 1) := by decide +kernel
theorem dX7_bubble_70 : decode cX7_bubble 70 = .ok (.iload_n 2, 1) := by decide +kernel
theorem dX7_bubble_71 : decode cX7_bubble 71 = .ok (.iastore, 1) := by decide +kernel
theorem dX7_bubble_72 : decode cX7_bubble 72 = .ok (.aload_n 0, 1) := by decide +kernel
theorem dX7_bubble_73 : decode cX7_bubble 73 = .ok (.getfield 26, 3) := by decide +kernel
theorem dX7_bubble_76 : decode cX7_bubble 76 = .ok (.bipush 10, 2) := by decide +kernel
theorem dX7_bubble_78 : decode cX7_bubble 78 = .ok (.dup2, 1) := by decide +kernel
theorem dX7_bubble_79 : decode cX7_bubble 79 = .ok (.iaload, 1) := by decide +kernel
theorem dX7_bubble_80 : decode cX7_bubble 80 = .ok (.iconst 1, 1) := by decide +kernel
theorem dX7_bubble_81 : decode cX7_bubble 81 = .ok (.iadd, 1) := by decide +kernel
theorem dX7_bubble_82 : decode cX7_bubble 82 = .ok (.iastore, 1) := by decide +kernel
theorem dX7_bubble_83 : decode cX7_bubble 83 = .ok (.aload_n 0, 1) := by decide +kernel
theorem dX7_bubble_84 : decode cX7_bubble 84 = .ok (.getfield 26, 3) := by decide +kernel
theorem dX7_bubble_87 : decode cX7_bubble 87 = .ok (.iload_n 1, 1) := by decide +kernel
theorem dX7_bubble_88 : decode cX7_bubble 88 = .ok (.dup2, 1) := by decide +kernel
theorem dX7_bubble_89 : decode cX7_bubble 89 = .ok (.iaload, 1) := by decide +kernel
theorem dX7_bubble_90 : decode cX7_bubble 90 = .ok (.iload_n 2, 1) := by decide +kernel
theorem dX7_bubble_91 : decode cX7_bubble 91 = .ok (.isub, 1) := by decide +kernel
theorem dX7_bubble_92 : decode cX7_bubble 92 = .ok (.iastore, 1) := by decide +kernel
theorem dX7_bubble_93 : decode cX7_bubble 93 = .ok (.return_, 1) := by decide +kernel
theorem dX7_pass_0 : decode cX7_pass 0 = .ok (.aload_n 0, 1) := by decide +kernel
theorem dX7_pass_1 : decode cX7_pass 1 = .ok (.getfield 26, 3) := by decide +kernel
theorem dX7_pass_4 : decode cX7_pass 4 = .ok (.bipush 8, 2) := by decide +kernel
theorem dX7_pass_6 : decode cX7_pass 6 = .ok (.iaload, 1) := by decide +kernel
theorem dX7_pass_7 : decode cX7_pass 7 = .ok (.bipush 99, 2) := by decide +kernel
theorem dX7_pass_9 : decode cX7_pass 9 = .ok (.if_icmp .ne 5, 3) := by decide +kernel
theorem dX7_pass_12 : decode cX7_pass 12 = .ok (.iconst 4, 1) := by decide +kernel
theorem dX7_pass_13 : decode cX7_pass 13 = .ok (.ireturn, 1) := by decide +kernel
theorem dX7_pass_14 : decode cX7_pass 14 = .ok (.iconst 0, 1) := by decide +kernel
theorem dX7_pass_15 : decode cX7_pass 15 = .ok (.istore_n 1, 1) := by decide +kernel
theorem dX7_pass_16 : decode cX7_pass 16 = .ok (.iload_n 1, 1) := by decide +kernel
theorem dX7_pass_17 : decode cX7_pass 17 = .ok (.bipush 7, 2) := by decide +kernel
theorem dX7_pass_19 : decode cX7_pass 19 = .ok (.if_icmp .ge 60, 3) := by decide +kernel
theorem dX7_pass_22 : decode cX7_pass 22 = .ok (.aload_n 0, 1) := by decide +kernel
theorem dX7_pass_23 : decode cX7_pass 23 = .ok (.getfield 26, 3) := by decide +kernel
theorem dX7_pass_26 : decode cX7_pass 26 = .ok (.bipush 7, 2) := by decide +kernel
theorem dX7_pass_28 : decode cX7_pass 28 = .ok (.iaload, 1) := by decide +kernel
theorem dX7_pass_29 : decode cX7_pass 29 = .ok (.iload_n 1, 1) := by decide +kernel
theorem dX7_pass_30 : decode cX7_pass 30 = .ok (.invokestatic 56, 3) := by decide +kernel
theorem dX7_pass_33 : decode cX7_pass 33 = .ok (.ifCond .eq 40, 3) := by decide +kernel
theorem dX7_pass_36 : decode cX7_pass 36 = .ok (.aload_n 0, 1) := by decide +kernel
theorem dX7_pass_37 : decode cX7_pass 37 = .ok (.getfield 26, 3) := by decide +kernel
theorem dX7_pass_40 : decode cX7_pass 40 = .ok (.iload_n 1, 1) := by decide +kernel
theorem dX7_pass_41 : decode cX7_pass 41 = .ok (.iaload, 1) := by decide +kernel
theorem dX7_pass_42 : decode cX7_pass 42 = .ok (.ifCond .ne 21, 3) := by decide +kernel
theorem dX7_pass_45 : decode cX7_pass 45 = .ok (.aload_n 0, 1) := by decide +kernel
theorem dX7_pass_46 : decode cX7_pass 46 = .ok (.getfield 26, 3) := by decide +kernel
theorem dX7_pass_49 : decode cX7_pass 49 = .ok (.bipush 7, 2) := by decide +kernel
theorem dX7_pass_51 : decode cX7_pass 51 = .ok (.dup2, 1) := by decide +kernel
theorem dX7_pass_52 : decode cX7_pass 52 = .ok (.iaload, 1) := by decide +kernel
theorem dX7_pass_53 : decode cX7_pass 53 = .ok (.iconst 1, 1) := by decide +kernel
theorem dX7_pass_54 : decode cX7_pass 54 = .ok (.iload_n 1, 1) := by decide +kernel
theorem dX7_pass_55 : decode cX7_pass 55 = .ok (.ishl, 1) := by decide +kernel
theorem dX7_pass_56 : decode cX7_pass 56 = .ok (.iconst (-1), 1) := by decide +kernel
theorem dX7_pass_57 : decode cX7_pass 57 = .ok (.ixor, 1) := by decide +kernel
theorem dX7_pass_58 : decode cX7_pass 58 = .ok (.iand, 1) := by decide +kernel
theorem dX7_pass_59 : decode cX7_pass 59 = .ok (.iastore, 1) := by decide +kernel
theorem dX7_pass_60 : decode cX7_pass 60 = .ok (.goto 13, 3) := by decide +kernel
theorem dX7_pass_63 : decode cX7_pass 63 = .ok (.aload_n 0, 1) := by decide +kernel
theorem dX7_pass_64 : decode cX7_pass 64 = .ok (.getfield 26, 3) := by decide +kernel
theorem dX7_pass_67 : decode cX7_pass 67 = .ok (.iload_n 1, 1) := by decide +kernel
theorem dX7_pass_68 : decode cX7_pass 68 = .ok (.dup2, 1) := by decide +kernel
theorem dX7_pass_69 : decode cX7_pass 69 = .ok (.iaload, 1) := by decide +kernel
theorem dX7_pass_70 : decode cX7_pass 70 = .ok (.iconst 1, 1) := by decide +kernel
theorem dX7_pass_71 : decode cX7_pass 71 = .ok (.isub, 1) := by decide +kernel
theorem dX7_pass_72 : decode cX7_pass 72 = .ok (.iastore, 1) := by decide +kernel
theorem dX7_pass_73 : decode cX7_pass 73 = .ok (.iinc 1 1, 3) := by decide +kernel
theorem dX7_pass_76 : decode cX7_pass 76 = .ok (.goto (-60), 3) := by decide +kernel
theorem dX7_pass_79 : decode cX7_pass 79 = .ok (.aload_n 0, 1) := by decide +kernel
theorem dX7_pass_80 : decode cX7_pass 80 = .ok (.getfield 26, 3) := by decide +kernel
theorem dX7_pass_83 : decode cX7_pass 83 = .ok (.bipush 8, 2) := by decide +kernel
theorem dX7_pass_85 : decode cX7_pass 85 = .ok (.dup2, 1) := by decide +kernel
theorem dX7_pass_86 : decode cX7_pass 86 = .ok (.iaload, 1) := by decide +kernel
theorem dX7_pass_87 : decode cX7_pass 87 = .ok (.iconst 1, 1) := by decide +kernel
theorem dX7_pass_88 : decode cX7_pass 88 = .ok (.iadd, 1) := by decide +kernel
theorem dX7_pass_89 : decode cX7_pass 89 = .ok (.iastore, 1) := by decide +kernel
theorem dX7_pass_90 : decode cX7_pass 90 = .ok (.iconst 0, 1) := by decide +kernel
theorem dX7_pass_91 : decode cX7_pass 91 = .ok (.ireturn, 1) := by decide +kernel
theorem dX7_goSitting_0 : decode cX7_goSitting 0 = .ok (.aload_n 0, 1) := by decide +kernel
theorem dX7_goSitting_1 : decode cX7_goSitting 1 = .ok (.invokevirtual 81, 3) := by decide +kernel
theorem dX7_goSitting_4 : decode cX7_goSitting 4 = .ok (.aload_n 0, 1) := by decide +kernel
theorem dX7_goSitting_5 : decode cX7_goSitting 5 = .ok (.iconst 0, 1) := by decide +kernel
theorem dX7_goSitting_6 : decode cX7_goSitting 6 = .ok (.putfield 84, 3) := by decide +kernel
theorem dX7_goSitting_9 : decode cX7_goSitting 9 = .ok (.iconst 0, 1) := by decide +kernel
theorem dX7_goSitting_10 : decode cX7_goSitting 10 = .ok (.istore_n 1, 1) := by decide +kernel
theorem dX7_goSitting_11 : decode cX7_goSitting 11 = .ok (.iload_n 1, 1) := by decide +kernel
theorem dX7_goSitting_12 : decode cX7_goSitting 12 = .ok (.aload_n 0, 1) := by decide +kernel
theorem dX7_goSitting_13 : decode cX7_goSitting 13 = .ok (.getfield 68, 3) := by decide +kernel
theorem dX7_goSitting_16 : decode cX7_goSitting 16 = .ok (.if_icmp .ge 187, 3) := by decide +kernel
theorem dX7_goSitting_19 : decode cX7_goSitting 19 = .ok (.aload_n 0, 1) := by decide +kernel
theorem dX7_goSitting_20 : decode cX7_goSitting 20 = .ok (.getfield 29, 3) := by decide +kernel
theorem dX7_goSitting_23 : decode cX7_goSitting 23 = .ok (.iload_n 1, 1) := by decide +kernel
theorem dX7_goSitting_24 : decode cX7_goSitting 24 = .ok (.iaload, 1) := by decide +kernel
theorem dX7_goSitting_25 : decode cX7_goSitting 25 = .ok (.istore_n 2, 1) := by decide +kernel
theorem dX7_goSitting_26 : decode cX7_goSitting 26 = .ok (.aload_n 0, 1) := by decide +kernel
theorem dX7_goSitting_27 : decode cX7_goSitting 27 = .ok (.iconst 0, 1) := by decide +kernel
theorem dX7_goSitting_28 : decode cX7_goSitting 28 = .ok (.putfield 87, 3) := by decide +kernel
theorem dX7_goSitting_31 : decode cX7_goSitting 31 = .ok (.iload_n 2, 1) := by decide +kernel
theorem dX7_goSitting_32 : decode cX7_goSitting 32 = .ok (.bipush 46, 2) := by decide +kernel
theorem dX7_goSitting_34 : decode cX7_goSitting 34 = .ok (.if_icmp .ne 14, 3) := by decide +kernel
theorem dX7_goSitting_37 : decode cX7_goSitting 37 = .ok (.aload_n 0, 1) := by decide +kernel
theorem dX7_goSitting_38 : decode cX7_goSitting 38 = .ok (.aload_n 0, 1) := by decide +kernel
theorem dX7_goSitting_39 : decode cX7_goSitting 39 = .ok (.invokevirtual 90, 3) := by decide +kernel
theorem dX7_goSitting_42 : decode cX7_goSitting 42 = .ok (.putfield 87, 3) := by decide +kernel
theorem dX7_goSitting_45 : decode cX7_goSitting 45 = .ok (.goto 130, 3) := by decide +kernel
theorem dX7_goSitting_48 : decode cX7_goSitting 48 = .ok (.iload_n 2, 1) := by decide +kernel
theorem dX7_goSitting_49 : decode cX7_goSitting 49 = .ok (.bipush 126, 2) := by decide +kernel
theorem dX7_goSitting_51 : decode cX7_goSitting 51 = .ok (.if_icmp .ne 25, 3) := by decide +kernel
theorem dX7_goSitting_54 : decode cX7_goSitting 54 = .ok (.iinc 1 1, 3) := by decide +kernel
theorem dX7_goSitting_57 : decode cX7_goSitting 57 = .ok (.aload_n 0, 1) := by decide +kernel
theorem dX7_goSitting_58 : decode cX7_goSitting 58 = .ok (.getfield 26, 3) := by decide +kernel
theorem dX7_goSitting_61 : decode cX7_goSitting 61 = .ok (.bipush 9, 2) := by decide +kernel
theorem dX7_goSitting_63 : decode cX7_goSitting 63 = .ok (.aload_n 0, 1) := by decide +kernel
theorem dX7_goSitting_64 : decode cX7_goSitting 64 = .ok (.getfield 29, 3) := by decide +kernel
theorem dX7_goSitting_67 : decode cX7_goSitting 67 = .ok (.iload_n 1, 1) := by decide +kernel
theorem dX7_goSitting_68 : decode cX7_goSitting 68 = .ok (.iaload, 1) := by decide +kernel
theorem dX7_goSitting_69 : decode cX7_goSitting 69 = .ok (.bipush 48, 2) := by decide +kernel
theorem dX7_goSitting_71 : decode cX7_goSitting 71 = .ok (.isub, 1) := by decide +kernel
theorem dX7_goSitting_72 : decode cX7_goSitting 72 = .ok (.iastore, 1) := by decide +kernel
theorem dX7_goSitting_73 : decode cX7_goSitting 73 = .ok (.goto 102, 3) := by decide +kernel
theorem dX7_goSitting_76 : decode cX7_goSitting 76 = .ok (.iinc 1 1, 3) := by decide +kernel
theorem dX7_goSitting_79 : decode cX7_goSitting 79 = .ok (.iload_n 2, 1) := by decide +kernel
theorem dX7_goSitting_80 : decode cX7_goSitting 80 = .ok (.bipush 65, 2) := by decide +kernel
theorem dX7_goSitting_82 : decode cX7_goSitting 82 = .ok (.isub, 1) := by decide +kernel
theorem dX7_goSitting_83 : decode cX7_goSitting 83 = .ok (.istore_n 3, 1) := by decide +kernel
theorem dX7_goSitting_84 : decode cX7_goSitting 84 = .ok (.aload_n 0, 1) := by decide +kernel
theorem dX7_goSitting_85 : decode cX7_goSitting 85 = .ok (.getfield 29, 3) := by decide +kernel
theorem dX7_goSitting_88 : decode cX7_goSitting 88 = .ok (.iload_n 1, 1) := by decide +kernel
theorem dX7_goSitting_89 : decode cX7_goSitting 89 = .ok (.iaload, 1) := by decide +kernel
theorem dX7_goSitting_90 : decode cX7_goSitting 90 = .ok (.bipush 94, 2) := by decide +kernel
theorem dX7_goSitting_92 : decode cX7_goSitting 92 = .ok (.if_icmp .ne 44, 3) := by decide +kernel
theorem dX7_goSitting_95 : decode cX7_goSitting 95 = .ok (.aload_n 0, 1) := by decide +kernel
theorem dX7_goSitting_96 : decode cX7_goSitting 96 = .ok (.aload_n 0, 1) := by decide +kernel
theorem dX7_goSitting_97 : decode cX7_goSitting 97 = .ok (.getfield 26, 3) := by decide +kernel
theorem dX7_goSitting_100 : decode cX7_goSitting 100 = .ok (.bipush 7, 2) := by decide +kernel
theorem dX7_goSitting_102 : decode cX7_goSitting 102 = .ok (.iaload, 1) := by decide +kernel
theorem dX7_goSitting_103 : decode cX7_goSitting 103 = .ok (.iload_n 3, 1) := by decide +kernel
theorem dX7_goSitting_104 : decode cX7_goSitting 104 = .ok (.invokestatic 56, 3) := by decide +kernel
theorem dX7_goSitting_107 : decode cX7_goSitting 107 = .ok (.ifCond .eq 7, 3) := by decide +kernel
theorem dX7_goSitting_110 : decode cX7_goSitting 110 = .ok (.iconst 0, 1) := by decide +kernel
theorem dX7_goSitting_111 : decode cX7_goSitting 111 = .ok (.goto 4, 3) := by decide +kernel
theorem dX7_goSitting_114 : decode cX7_goSitting 114 = .ok (.iconst 1, 1) := by decide +kernel
theorem dX7_goSitting_115 : decode cX7_goSitting 115 = .ok (.putfield 87, 3) := by decide +kernel
theorem dX7_goSitting_118 : decode cX7_goSitting 118 = .ok (.aload_n 0, 1) := by decide +kernel
theorem dX7_goSitting_119 : decode cX7_goSitting 119 = .ok (.getfield 26, 3) := by decide +kernel
theorem dX7_goSitting_122 : decode cX7_goSitting 122 = .ok (.bipush 7, 2) := by decide +kernel
theorem dX7_goSitting_124 : decode cX7_goSitting 124 = .ok (.dup2, 1) := by decide +kernel
theorem dX7_goSitting_125 : decode cX7_goSitting 125 = .ok (.iaload, 1) := by decide +kernel
theorem dX7_goSitting_126 : decode cX7_goSitting 126 = .ok (.iconst 1, 1) := by decide +kernel
theorem dX7_goSitting_127 : decode cX7_goSitting 127 = .ok (.iload_n 3, 1) := by decide +kernel
theorem dX7_goSitting_128 : decode cX7_goSitting 128 = .ok (.ishl, 1) := by decide +kernel
theorem dX7_goSitting_129 : decode cX7_goSitting 129 = .ok (.iconst (-1), 1) := by decide +kernel
theorem dX7_goSitting_130 : decode cX7_goSitting 130 = .ok (.ixor, 1) := by decide +kernel
theorem dX7_goSitting_131 : decode cX7_goSitting 131 = .ok (.iand, 1) := by decide +kernel
theorem dX7_goSitting_132 : decode cX7_goSitting 132 = .ok (.iastore, 1) := by decide +kernel
theorem dX7_goSitting_133 : decode cX7_goSitting 133 = .ok (.goto 42, 3) := by decide +kernel
theorem dX7_goSitting_136 : decode cX7_goSitting 136 = .ok (.aload_n 0, 1) := by decide +kernel
theorem dX7_goSitting_137 : decode cX7_goSitting 137 = .ok (.aload_n 0, 1) := by decide +kernel
theorem dX7_goSitting_138 : decode cX7_goSitting 138 = .ok (.iload_n 3, 1) := by decide +kernel
theorem dX7_goSitting_139 : decode cX7_goSitting 139 = .ok (.aload_n 0, 1) := by decide +kernel
theorem dX7_goSitting_140 : decode cX7_goSitting 140 = .ok (.getfield 29, 3) := by decide +kernel
theorem dX7_goSitting_143 : decode cX7_goSitting 143 = .ok (.iload_n 1, 1) := by decide +kernel
theorem dX7_goSitting_144 : decode cX7_goSitting 144 = .ok (.iaload, 1) := by decide +kernel
theorem dX7_goSitting_145 : decode cX7_goSitting 145 = .ok (.bipush 48, 2) := by decide +kernel
theorem dX7_goSitting_147 : decode cX7_goSitting 147 = .ok (.isub, 1) := by decide +kernel
theorem dX7_goSitting_148 : decode cX7_goSitting 148 = .ok (.invokevirtual 93, 3) := by decide +kernel
theorem dX7_goSitting_151 : decode cX7_goSitting 151 = .ok (.putfield 87, 3) := by decide +kernel
theorem dX7_goSitting_154 : decode cX7_goSitting 154 = .ok (.aload_n 0, 1) := by decide +kernel
theorem dX7_goSitting_155 : decode cX7_goSitting 155 = .ok (.getfield 87, 3) := by decide +kernel
theorem dX7_goSitting_158 : decode cX7_goSitting 158 = .ok (.ifCond .ne 17, 3) := by decide +kernel
theorem dX7_goSitting_161 : decode cX7_goSitting 161 = .ok (.aload_n 0, 1) := by decide +kernel
theorem dX7_goSitting_162 : decode cX7_goSitting 162 = .ok (.iload_n 3, 1) := by decide +kernel
theorem dX7_goSitting_163 : decode cX7_goSitting 163 = .ok (.aload_n 0, 1) := by decide +kernel
theorem dX7_goSitting_164 : decode cX7_goSitting 164 = .ok (.getfield 29, 3) := by decide +kernel
theorem dX7_goSitting_167 : decode cX7_goSitting 167 = .ok (.iload_n 1, 1) := by decide +kernel
theorem dX7_goSitting_168 : decode cX7_goSitting 168 = .ok (.iaload, 1) := by decide +kernel
theorem dX7_goSitting_169 : decode cX7_goSitting 169 = .ok (.bipush 48, 2) := by decide +kernel
theorem dX7_goSitting_171 : decode cX7_goSitting 171 = .ok (.isub, 1) := by decide +kernel
theorem dX7_goSitting_172 : decode cX7_goSitting 172 = .ok (.invokevirtual 97, 3) := by decide +kernel
theorem dX7_goSitting_175 : decode cX7_goSitting 175 = .ok (.aload_n 0, 1) := by decide +kernel
theorem dX7_goSitting_176 : decode cX7_goSitting 176 = .ok (.getfield 87, 3) := by decide +kernel
theorem dX7_goSitting_179 : decode cX7_goSitting 179 = .ok (.ifCond .le 8, 3) := by decide +kernel
theorem dX7_goSitting_182 : decode cX7_goSitting 182 = .ok (.aload_n 0, 1) := by decide +kernel
theorem dX7_goSitting_183 : decode cX7_goSitting 183 = .ok (.getfield 84, 3) := by decide +kernel
theorem dX7_goSitting_186 : decode cX7_goSitting 186 = .ok (.ireturn, 1) := by decide +kernel
theorem dX7_goSitting_187 : decode cX7_goSitting 187 = .ok (.iinc 1 1, 3) := by decide +kernel
theorem dX7_goSitting_190 : decode cX7_goSitting 190 = .ok (.aload_n 0, 1) := by decide +kernel
theorem dX7_goSitting_191 : decode cX7_goSitting 191 = .ok (.dup, 1) := by decide +kernel
theorem dX7_goSitting_192 : decode cX7_goSitting 192 = .ok (.getfield 84, 3) := by decide +kernel
theorem dX7_goSitting_195 : decode cX7_goSitting 195 = .ok (.iconst 1, 1) := by decide +kernel
theorem dX7_goSitting_196 : decode cX7_goSitting 196 = .ok (.iadd, 1) := by decide +kernel
theorem dX7_goSitting_197 : decode cX7_goSitting 197 = .ok (.putfield 84, 3) := by decide +kernel
theorem dX7_goSitting_200 : decode cX7_goSitting 200 = .ok (.goto (-189), 3) := by decide +kernel
theorem dX7_goSitting_203 : decode cX7_goSitting 203 = .ok (.bipush (-6), 2) := by decide +kernel
theorem dX7_goSitting_205 : decode cX7_goSitting 205 = .ok (.ireturn, 1) := by decide +kernel
theorem dX7_judge_0 : decode cX7_judge 0 = .ok (.iload_n 1, 1) := by decide +kernel
theorem dX7_judge_1 : decode cX7_judge 1 = .ok (.iconst 0, 1) := by decide +kernel
theorem dX7_judge_2 : decode cX7_judge 2 = .ok (.iconst 1, 1) := by decide +kernel
theorem dX7_judge_3 : decode cX7_judge 3 = .ok (.invokestatic 49, 3) := by decide +kernel
theorem dX7_judge_6 : decode cX7_judge 6 = .ok (.ifCond .ne 6, 3) := by decide +kernel
theorem dX7_judge_9 : decode cX7_judge 9 = .ok (.bipush (-2), 2) := by decide +kernel
theorem dX7_judge_11 : decode cX7_judge 11 = .ok (.ireturn, 1) := by decide +kernel
theorem dX7_judge_12 : decode cX7_judge 12 = .ok (.aload_n 0, 1) := by decide +kernel
theorem dX7_judge_13 : decode cX7_judge 13 = .ok (.invokevirtual 74, 3) := by decide +kernel
theorem dX7_judge_16 : decode cX7_judge 16 = .ok (.ifCond .lt 6, 3) := by decide +kernel
theorem dX7_judge_19 : decode cX7_judge 19 = .ok (.bipush (-5), 2) := by decide +kernel
theorem dX7_judge_21 : decode cX7_judge 21 = .ok (.ireturn, 1) := by decide +kernel
theorem dX7_judge_22 : decode cX7_judge 22 = .ok (.aload_n 0, 1) := by decide +kernel
theorem dX7_judge_23 : decode cX7_judge 23 = .ok (.invokevirtual 101, 3) := by decide +kernel
theorem dX7_judge_26 : decode cX7_judge 26 = .ok (.istore_n 2, 1) := by decide +kernel
theorem dX7_judge_27 : decode cX7_judge 27 = .ok (.iload_n 2, 1) := by decide +kernel
theorem dX7_judge_28 : decode cX7_judge 28 = .ok (.ifCond .lt 7, 3) := by decide +kernel
theorem dX7_judge_31 : decode cX7_judge 31 = .ok (.iload_n 1, 1) := by decide +kernel
theorem dX7_judge_32 : decode cX7_judge 32 = .ok (.ifCond .ne 7, 3) := by decide +kernel
theorem dX7_judge_35 : decode cX7_judge 35 = .ok (.iload_n 2, 1) := by decide +kernel
theorem dX7_judge_36 : decode cX7_judge 36 = .ok (.goto 7, 3) := by decide +kernel
theorem dX7_judge_39 : decode cX7_judge 39 = .ok (.aload_n 0, 1) := by decide +kernel
theorem dX7_judge_40 : decode cX7_judge 40 = .ok (.getfield 87, 3) := by decide +kernel
theorem dX7_judge_43 : decode cX7_judge 43 = .ok (.ireturn, 1) := by decide +kernel
theorem dX7_barOfSitting_0 : decode cX7_barOfSitting 0 = .ok (.aload_n 0, 1) := by decide +kernel
theorem dX7_barOfSitting_1 : decode cX7_barOfSitting 1 = .ok (.invokevirtual 74, 3) := by decide +kernel
theorem dX7_barOfSitting_4 : decode cX7_barOfSitting 4 = .ok (.ifCond .ge 10, 3) := by decide +kernel
theorem dX7_barOfSitting_7 : decode cX7_barOfSitting 7 = .ok (.aload_n 0, 1) := by decide +kernel
theorem dX7_barOfSitting_8 : decode cX7_barOfSitting 8 = .ok (.invokevirtual 101, 3) := by decide +kernel
theorem dX7_barOfSitting_11 : decode cX7_barOfSitting 11 = .ok (.ifCond .lt 8, 3) := by decide +kernel
theorem dX7_barOfSitting_14 : decode cX7_barOfSitting 14 = .ok (.bipush (-5), 2) := by decide +kernel
theorem dX7_barOfSitting_16 : decode cX7_barOfSitting 16 = .ok (.goto 4, 3) := by decide +kernel
theorem dX7_barOfSitting_19 : decode cX7_barOfSitting 19 = .ok (.iconst 0, 1) := by decide +kernel
theorem dX7_barOfSitting_20 : decode cX7_barOfSitting 20 = .ok (.ireturn, 1) := by decide +kernel
theorem dX7_done_0 : decode cX7_done 0 = .ok (.aload_n 0, 1) := by decide +kernel
theorem dX7_done_1 : decode cX7_done 1 = .ok (.invokevirtual 104, 3) := by decide +kernel
theorem dX7_done_4 : decode cX7_done 4 = .ok (.ifCond .ge 6, 3) := by decide +kernel
theorem dX7_done_7 : decode cX7_done 7 = .ok (.bipush (-5), 2) := by decide +kernel
theorem dX7_done_9 : decode cX7_done 9 = .ok (.ireturn, 1) := by decide +kernel
theorem dX7_done_10 : decode cX7_done 10 = .ok (.iconst 0, 1) := by decide +kernel
theorem dX7_done_11 : decode cX7_done 11 = .ok (.istore_n 1, 1) := by decide +kernel
theorem dX7_done_12 : decode cX7_done 12 = .ok (.iload_n 1, 1) := by decide +kernel
theorem dX7_done_13 : decode cX7_done 13 = .ok (.bipush 107, 2) := by decide +kernel
theorem dX7_done_15 : decode cX7_done 15 = .ok (.if_icmp .ge 21, 3) := by decide +kernel
theorem dX7_done_18 : decode cX7_done 18 = .ok (.aload_n 0, 1) := by decide +kernel
theorem dX7_done_19 : decode cX7_done 19 = .ok (.getfield 23, 3) := by decide +kernel
theorem dX7_done_22 : decode cX7_done 22 = .ok (.iload_n 1, 1) := by decide +kernel
theorem dX7_done_23 : decode cX7_done 23 = .ok (.aload_n 0, 1) := by decide +kernel
theorem dX7_done_24 : decode cX7_done 24 = .ok (.getfield 26, 3) := by decide +kernel
theorem dX7_done_27 : decode cX7_done 27 = .ok (.iload_n 1, 1) := by decide +kernel
theorem dX7_done_28 : decode cX7_done 28 = .ok (.iaload, 1) := by decide +kernel
theorem dX7_done_29 : decode cX7_done 29 = .ok (.iastore, 1) := by decide +kernel
theorem dX7_done_30 : decode cX7_done 30 = .ok (.iinc 1 1, 3) := by decide +kernel
theorem dX7_done_33 : decode cX7_done 33 = .ok (.goto (-21), 3) := by decide +kernel
theorem dX7_done_36 : decode cX7_done 36 = .ok (.aload_n 0, 1) := by decide +kernel
theorem dX7_done_37 : decode cX7_done 37 = .ok (.iconst 0, 1) := by decide +kernel
theorem dX7_done_38 : decode cX7_done 38 = .ok (.putfield 68, 3) := by decide +kernel
theorem dX7_done_41 : decode cX7_done 41 = .ok (.aload_n 0, 1) := by decide +kernel
theorem dX7_done_42 : decode cX7_done 42 = .ok (.getfield 84, 3) := by decide +kernel
theorem dX7_done_45 : decode cX7_done 45 = .ok (.ireturn, 1) := by decide +kernel
theorem dX7_behind_0 : decode cX7_behind 0 = .ok (.aload_n 0, 1) := by decide +kernel
theorem dX7_behind_1 : decode cX7_behind 1 = .ok (.iload_n 1, 1) := by decide +kernel
theorem dX7_behind_2 : decode cX7_behind 2 = .ok (.invokevirtual 64, 3) := by decide +kernel
theorem dX7_behind_5 : decode cX7_behind 5 = .ok (.ifCond .ne 5, 3) := by decide +kernel
theorem dX7_behind_8 : decode cX7_behind 8 = .ok (.iconst (-1), 1) := by decide +kernel
theorem dX7_behind_9 : decode cX7_behind 9 = .ok (.ireturn, 1) := by decide +kernel
theorem dX7_behind_10 : decode cX7_behind 10 = .ok (.iload_n 2, 1) := by decide +kernel
theorem dX7_behind_11 : decode cX7_behind 11 = .ok (.iconst 0, 1) := by decide +kernel
theorem dX7_behind_12 : decode cX7_behind 12 = .ok (.iconst 1, 1) := by decide +kernel
theorem dX7_behind_13 : decode cX7_behind 13 = .ok (.invokestatic 49, 3) := by decide +kernel
theorem dX7_behind_16 : decode cX7_behind 16 = .ok (.ifCond .ne 6, 3) := by decide +kernel
theorem dX7_behind_19 : decode cX7_behind 19 = .ok (.bipush (-2), 2) := by decide +kernel
theorem dX7_behind_21 : decode cX7_behind 21 = .ok (.ireturn, 1) := by decide +kernel
theorem dX7_behind_22 : decode cX7_behind 22 = .ok (.aload_n 0, 1) := by decide +kernel
theorem dX7_behind_23 : decode cX7_behind 23 = .ok (.invokevirtual 104, 3) := by decide +kernel
theorem dX7_behind_26 : decode cX7_behind 26 = .ok (.ifCond .ge 6, 3) := by decide +kernel
theorem dX7_behind_29 : decode cX7_behind 29 = .ok (.bipush (-5), 2) := by decide +kernel
theorem dX7_behind_31 : decode cX7_behind 31 = .ok (.ireturn, 1) := by decide +kernel
theorem dX7_behind_32 : decode cX7_behind 32 = .ok (.iload_n 2, 1) := by decide +kernel
theorem dX7_behind_33 : decode cX7_behind 33 = .ok (.ifCond .ne 12, 3) := by decide +kernel
theorem dX7_behind_36 : decode cX7_behind 36 = .ok (.aload_n 0, 1) := by decide +kernel
theorem dX7_behind_37 : decode cX7_behind 37 = .ok (.getfield 26, 3) := by decide +kernel
theorem dX7_behind_40 : decode cX7_behind 40 = .ok (.iload_n 1, 1) := by decide +kernel
theorem dX7_behind_41 : decode cX7_behind 41 = .ok (.iaload, 1) := by decide +kernel
theorem dX7_behind_42 : decode cX7_behind 42 = .ok (.goto 14, 3) := by decide +kernel
theorem dX7_behind_45 : decode cX7_behind 45 = .ok (.aload_n 0, 1) := by decide +kernel
theorem dX7_behind_46 : decode cX7_behind 46 = .ok (.getfield 26, 3) := by decide +kernel
theorem dX7_behind_49 : decode cX7_behind 49 = .ok (.bipush 7, 2) := by decide +kernel
theorem dX7_behind_51 : decode cX7_behind 51 = .ok (.iaload, 1) := by decide +kernel
theorem dX7_behind_52 : decode cX7_behind 52 = .ok (.iload_n 1, 1) := by decide +kernel
theorem dX7_behind_53 : decode cX7_behind 53 = .ok (.ishr, 1) := by decide +kernel
theorem dX7_behind_54 : decode cX7_behind 54 = .ok (.iconst 1, 1) := by decide +kernel
theorem dX7_behind_55 : decode cX7_behind 55 = .ok (.iand, 1) := by decide +kernel
theorem dX7_behind_56 : decode cX7_behind 56 = .ok (.ireturn, 1) := by decide +kernel
theorem dX7_then_0 : decode cX7_then 0 = .ok (.iload_n 1, 1) := by decide +kernel
theorem dX7_then_1 : decode cX7_then 1 = .ok (.iconst 0, 1) := by decide +kernel
theorem dX7_then_2 : decode cX7_then 2 = .ok (.iconst 3, 1) := by decide +kernel
theorem dX7_then_3 : decode cX7_then 3 = .ok (.invokestatic 49, 3) := by decide +kernel
theorem dX7_then_6 : decode cX7_then 6 = .ok (.ifCond .ne 6, 3) := by decide +kernel
theorem dX7_then_9 : decode cX7_then 9 = .ok (.bipush (-2), 2) := by decide +kernel
theorem dX7_then_11 : decode cX7_then 11 = .ok (.ireturn, 1) := by decide +kernel
theorem dX7_then_12 : decode cX7_then 12 = .ok (.aload_n 0, 1) := by decide +kernel
theorem dX7_then_13 : decode cX7_then 13 = .ok (.invokevirtual 104, 3) := by decide +kernel
theorem dX7_then_16 : decode cX7_then 16 = .ok (.ifCond .ge 8, 3) := by decide +kernel
theorem dX7_then_19 : decode cX7_then 19 = .ok (.bipush (-5), 2) := by decide +kernel
theorem dX7_then_21 : decode cX7_then 21 = .ok (.goto 12, 3) := by decide +kernel
theorem dX7_then_24 : decode cX7_then 24 = .ok (.aload_n 0, 1) := by decide +kernel
theorem dX7_then_25 : decode cX7_then 25 = .ok (.getfield 26, 3) := by decide +kernel
theorem dX7_then_28 : decode cX7_then 28 = .ok (.bipush 7, 2) := by decide +kernel
theorem dX7_then_30 : decode cX7_then 30 = .ok (.iload_n 1, 1) := by decide +kernel
theorem dX7_then_31 : decode cX7_then 31 = .ok (.iadd, 1) := by decide +kernel
theorem dX7_then_32 : decode cX7_then 32 = .ok (.iaload, 1) := by decide +kernel
theorem dX7_then_33 : decode cX7_then 33 = .ok (.ireturn, 1) := by decide +kernel
theorem dX7_sizeAt_0 : decode cX7_sizeAt 0 = .ok (.iconst 0, 1) := by decide +kernel
theorem dX7_sizeAt_1 : decode cX7_sizeAt 1 = .ok (.istore_n 3, 1) := by decide +kernel
theorem dX7_sizeAt_2 : decode cX7_sizeAt 2 = .ok (.iconst 0, 1) := by decide +kernel
theorem dX7_sizeAt_3 : decode cX7_sizeAt 3 = .ok (.istore 4, 2) := by decide +kernel
theorem dX7_sizeAt_5 : decode cX7_sizeAt 5 = .ok (.iload 4, 2) := by decide +kernel
theorem dX7_sizeAt_7 : decode cX7_sizeAt 7 = .ok (.aload_n 0, 1) := by decide +kernel
theorem dX7_sizeAt_8 : decode cX7_sizeAt 8 = .ok (.getfield 23, 3) := by decide +kernel
theorem dX7_sizeAt_11 : decode cX7_sizeAt 11 = .ok (.bipush 10, 2) := by decide +kernel
theorem dX7_sizeAt_13 : decode cX7_sizeAt 13 = .ok (.iaload, 1) := by decide +kernel
theorem dX7_sizeAt_14 : decode cX7_sizeAt 14 = .ok (.if_icmp .ge 60, 3) := by decide +kernel
theorem dX7_sizeAt_17 : decode cX7_sizeAt 17 = .ok (.iload_n 3, 1) := by decide +kernel
theorem dX7_sizeAt_18 : decode cX7_sizeAt 18 = .ok (.aload_n 0, 1) := by decide +kernel
theorem dX7_sizeAt_19 : decode cX7_sizeAt 19 = .ok (.getfield 23, 3) := by decide +kernel
theorem dX7_sizeAt_22 : decode cX7_sizeAt 22 = .ok (.bipush 11, 2) := by decide +kernel
theorem dX7_sizeAt_24 : decode cX7_sizeAt 24 = .ok (.iconst 3, 1) := by decide +kernel
theorem dX7_sizeAt_25 : decode cX7_sizeAt 25 = .ok (.iload 4, 2) := by decide +kernel
theorem dX7_sizeAt_27 : decode cX7_sizeAt 27 = .ok (.imul, 1) := by decide +kernel
theorem dX7_sizeAt_28 : decode cX7_sizeAt 28 = .ok (.iadd, 1) := by decide +kernel
theorem dX7_sizeAt_29 : decode cX7_sizeAt 29 = .ok (.iaload, 1) := by decide +kernel
theorem dX7_sizeAt_30 : decode cX7_sizeAt 30 = .ok (.iload_n 1, 1) := by decide +kernel
theorem dX7_sizeAt_31 : decode cX7_sizeAt 31 = .ok (.if_icmp .ne 34, 3) := by decide +kernel
theorem dX7_sizeAt_34 : decode cX7_sizeAt 34 = .ok (.aload_n 0, 1) := by decide +kernel
theorem dX7_sizeAt_35 : decode cX7_sizeAt 35 = .ok (.getfield 23, 3) := by decide +kernel
theorem dX7_sizeAt_38 : decode cX7_sizeAt 38 = .ok (.bipush 12, 2) := by decide +kernel
theorem dX7_sizeAt_40 : decode cX7_sizeAt 40 = .ok (.iconst 3, 1) := by decide +kernel
theorem dX7_sizeAt_41 : decode cX7_sizeAt 41 = .ok (.iload 4, 2) := by decide +kernel
theorem dX7_sizeAt_43 : decode cX7_sizeAt 43 = .ok (.imul, 1) := by decide +kernel
theorem dX7_sizeAt_44 : decode cX7_sizeAt 44 = .ok (.iadd, 1) := by decide +kernel
theorem dX7_sizeAt_45 : decode cX7_sizeAt 45 = .ok (.iaload, 1) := by decide +kernel
theorem dX7_sizeAt_46 : decode cX7_sizeAt 46 = .ok (.iload_n 2, 1) := by decide +kernel
theorem dX7_sizeAt_47 : decode cX7_sizeAt 47 = .ok (.if_icmp .ne 18, 3) := by decide +kernel
theorem dX7_sizeAt_50 : decode cX7_sizeAt 50 = .ok (.aload_n 0, 1) := by decide +kernel
theorem dX7_sizeAt_51 : decode cX7_sizeAt 51 = .ok (.getfield 23, 3) := by decide +kernel
theorem dX7_sizeAt_54 : decode cX7_sizeAt 54 = .ok (.bipush 13, 2) := by decide +kernel
theorem dX7_sizeAt_56 : decode cX7_sizeAt 56 = .ok (.iconst 3, 1) := by decide +kernel
theorem dX7_sizeAt_57 : decode cX7_sizeAt 57 = .ok (.iload 4, 2) := by decide +kernel
theorem dX7_sizeAt_59 : decode cX7_sizeAt 59 = .ok (.imul, 1) := by decide +kernel
theorem dX7_sizeAt_60 : decode cX7_sizeAt 60 = .ok (.iadd, 1) := by decide +kernel
theorem dX7_sizeAt_61 : decode cX7_sizeAt 61 = .ok (.iaload, 1) := by decide +kernel
theorem dX7_sizeAt_62 : decode cX7_sizeAt 62 = .ok (.goto 4, 3) := by decide +kernel
theorem dX7_sizeAt_65 : decode cX7_sizeAt 65 = .ok (.iconst 0, 1) := by decide +kernel
theorem dX7_sizeAt_66 : decode cX7_sizeAt 66 = .ok (.iadd, 1) := by decide +kernel
theorem dX7_sizeAt_67 : decode cX7_sizeAt 67 = .ok (.istore_n 3, 1) := by decide +kernel
theorem dX7_sizeAt_68 : decode cX7_sizeAt 68 = .ok (.iinc 4 1, 3) := by decide +kernel
theorem dX7_sizeAt_71 : decode cX7_sizeAt 71 = .ok (.goto (-66), 3) := by decide +kernel
theorem dX7_sizeAt_74 : decode cX7_sizeAt 74 = .ok (.iload_n 3, 1) := by decide +kernel
theorem dX7_sizeAt_75 : decode cX7_sizeAt 75 = .ok (.ireturn, 1) := by decide +kernel
theorem dX7_lastMinute_0 : decode cX7_lastMinute 0 = .ok (.iconst (-1), 1) := by decide +kernel
theorem dX7_lastMinute_1 : decode cX7_lastMinute 1 = .ok (.istore_n 1, 1) := by decide +kernel
theorem dX7_lastMinute_2 : decode cX7_lastMinute 2 = .ok (.iconst 0, 1) := by decide +kernel
theorem dX7_lastMinute_3 : decode cX7_lastMinute 3 = .ok (.istore_n 2, 1) := by decide +kernel
theorem dX7_lastMinute_4 : decode cX7_lastMinute 4 = .ok (.iload_n 2, 1) := by decide +kernel
theorem dX7_lastMinute_5 : decode cX7_lastMinute 5 = .ok (.aload_n 0, 1) := by decide +kernel
theorem dX7_lastMinute_6 : decode cX7_lastMinute 6 = .ok (.getfield 23, 3) := by decide +kernel
theorem dX7_lastMinute_9 : decode cX7_lastMinute 9 = .ok (.bipush 10, 2) := by decide +kernel
theorem dX7_lastMinute_11 : decode cX7_lastMinute 11 = .ok (.iaload, 1) := by decide +kernel
theorem dX7_lastMinute_12 : decode cX7_lastMinute 12 = .ok (.if_icmp .ge 40, 3) := by decide +kernel
theorem dX7_lastMinute_15 : decode cX7_lastMinute 15 = .ok (.aload_n 0, 1) := by decide +kernel
theorem dX7_lastMinute_16 : decode cX7_lastMinute 16 = .ok (.getfield 23, 3) := by decide +kernel
theorem dX7_lastMinute_19 : decode cX7_lastMinute 19 = .ok (.bipush 11, 2) := by decide +kernel
theorem dX7_lastMinute_21 : decode cX7_lastMinute 21 = .ok (.iconst 3, 1) := by decide +kernel
theorem dX7_lastMinute_22 : decode cX7_lastMinute 22 = .ok (.iload_n 2, 1) := by decide +kernel
theorem dX7_lastMinute_23 : decode cX7_lastMinute 23 = .ok (.imul, 1) := by decide +kernel
theorem dX7_lastMinute_24 : decode cX7_lastMinute 24 = .ok (.iadd, 1) := by decide +kernel
theorem dX7_lastMinute_25 : decode cX7_lastMinute 25 = .ok (.iaload, 1) := by decide +kernel
theorem dX7_lastMinute_26 : decode cX7_lastMinute 26 = .ok (.iload_n 1, 1) := by decide +kernel
theorem dX7_lastMinute_27 : decode cX7_lastMinute 27 = .ok (.if_icmp .le 17, 3) := by decide +kernel
theorem dX7_lastMinute_30 : decode cX7_lastMinute 30 = .ok (.aload_n 0, 1) := by decide +kernel
theorem dX7_lastMinute_31 : decode cX7_lastMinute 31 = .ok (.getfield 23, 3) := by decide +kernel
theorem dX7_lastMinute_34 : decode cX7_lastMinute 34 = .ok (.bipush 11, 2) := by decide +kernel
theorem dX7_lastMinute_36 : decode cX7_lastMinute 36 = .ok (.iconst 3, 1) := by decide +kernel
theorem dX7_lastMinute_37 : decode cX7_lastMinute 37 = .ok (.iload_n 2, 1) := by decide +kernel
theorem dX7_lastMinute_38 : decode cX7_lastMinute 38 = .ok (.imul, 1) := by decide +kernel
theorem dX7_lastMinute_39 : decode cX7_lastMinute 39 = .ok (.iadd, 1) := by decide +kernel
theorem dX7_lastMinute_40 : decode cX7_lastMinute 40 = .ok (.iaload, 1) := by decide +kernel
theorem dX7_lastMinute_41 : decode cX7_lastMinute 41 = .ok (.goto 4, 3) := by decide +kernel
theorem dX7_lastMinute_44 : decode cX7_lastMinute 44 = .ok (.iload_n 1, 1) := by decide +kernel
theorem dX7_lastMinute_45 : decode cX7_lastMinute 45 = .ok (.istore_n 1, 1) := by decide +kernel
theorem dX7_lastMinute_46 : decode cX7_lastMinute 46 = .ok (.iinc 2 1, 3) := by decide +kernel
theorem dX7_lastMinute_49 : decode cX7_lastMinute 49 = .ok (.goto (-45), 3) := by decide +kernel
theorem dX7_lastMinute_52 : decode cX7_lastMinute 52 = .ok (.iload_n 1, 1) := by decide +kernel
theorem dX7_lastMinute_53 : decode cX7_lastMinute 53 = .ok (.ireturn, 1) := by decide +kernel
theorem dX7_word_0 : decode cX7_word 0 = .ok (.iload_n 2, 1) := by decide +kernel
theorem dX7_word_1 : decode cX7_word 1 = .ok (.iconst 0, 1) := by decide +kernel
theorem dX7_word_2 : decode cX7_word 2 = .ok (.iconst 2, 1) := by decide +kernel
theorem dX7_word_3 : decode cX7_word 3 = .ok (.invokestatic 49, 3) := by decide +kernel
theorem dX7_word_6 : decode cX7_word 6 = .ok (.ifCond .ne 6, 3) := by decide +kernel
theorem dX7_word_9 : decode cX7_word 9 = .ok (.bipush (-2), 2) := by decide +kernel
theorem dX7_word_11 : decode cX7_word 11 = .ok (.ireturn, 1) := by decide +kernel
theorem dX7_word_12 : decode cX7_word 12 = .ok (.iconst 0, 1) := by decide +kernel
theorem dX7_word_13 : decode cX7_word 13 = .ok (.istore_n 3, 1) := by decide +kernel
theorem dX7_word_14 : decode cX7_word 14 = .ok (.aload_n 0, 1) := by decide +kernel
theorem dX7_word_15 : decode cX7_word 15 = .ok (.invokevirtual 107, 3) := by decide +kernel
theorem dX7_word_18 : decode cX7_word 18 = .ok (.istore 4, 2) := by decide +kernel
theorem dX7_word_20 : decode cX7_word 20 = .ok (.iconst 0, 1) := by decide +kernel
theorem dX7_word_21 : decode cX7_word 21 = .ok (.istore 5, 2) := by decide +kernel
theorem dX7_word_23 : decode cX7_word 23 = .ok (.iload 5, 2) := by decide +kernel
theorem dX7_word_25 : decode cX7_word 25 = .ok (.iload 4, 2) := by decide +kernel
theorem dX7_word_27 : decode cX7_word 27 = .ok (.if_icmp .gt 70, 3) := by decide +kernel
theorem dX7_word_30 : decode cX7_word 30 = .ok (.iconst 0, 1) := by decide +kernel
theorem dX7_word_31 : decode cX7_word 31 = .ok (.istore 6, 2) := by decide +kernel
theorem dX7_word_33 : decode cX7_word 33 = .ok (.iload 6, 2) := by decide +kernel
theorem dX7_word_35 : decode cX7_word 35 = .ok (.bipush 10, 2) := by decide +kernel
theorem dX7_word_37 : decode cX7_word 37 = .ok (.if_icmp .ge 54, 3) := by decide +kernel
theorem dX7_word_40 : decode cX7_word 40 = .ok (.aload_n 0, 1) := by decide +kernel
theorem dX7_word_41 : decode cX7_word 41 = .ok (.iload 5, 2) := by decide +kernel
theorem dX7_word_43 : decode cX7_word 43 = .ok (.iload 6, 2) := by decide +kernel
theorem dX7_word_45 : decode cX7_word 45 = .ok (.invokevirtual 110, 3) := by decide +kernel
theorem dX7_word_48 : decode cX7_word 48 = .ok (.istore 7, 2) := by decide +kernel
theorem dX7_word_50 : decode cX7_word 50 = .ok (.iload 7, 2) := by decide +kernel
theorem dX7_word_52 : decode cX7_word 52 = .ok (.ifCond .le 33, 3) := by decide +kernel
theorem dX7_word_55 : decode cX7_word 55 = .ok (.iload_n 3, 1) := by decide +kernel
theorem dX7_word_56 : decode cX7_word 56 = .ok (.iload_n 1, 1) := by decide +kernel
theorem dX7_word_57 : decode cX7_word 57 = .ok (.if_icmp .ne 25, 3) := by decide +kernel
theorem dX7_word_60 : decode cX7_word 60 = .ok (.iload_n 2, 1) := by decide +kernel
theorem dX7_word_61 : decode cX7_word 61 = .ok (.ifCond .ne 8, 3) := by decide +kernel
theorem dX7_word_64 : decode cX7_word 64 = .ok (.iload 5, 2) := by decide +kernel
theorem dX7_word_66 : decode cX7_word 66 = .ok (.goto 15, 3) := by decide +kernel
theorem dX7_word_69 : decode cX7_word 69 = .ok (.iload_n 2, 1) := by decide +kernel
theorem dX7_word_70 : decode cX7_word 70 = .ok (.iconst 1, 1) := by decide +kernel
theorem dX7_word_71 : decode cX7_word 71 = .ok (.if_icmp .ne 8, 3) := by decide +kernel
theorem dX7_word_74 : decode cX7_word 74 = .ok (.iload 6, 2) := by decide +kernel
theorem dX7_word_76 : decode cX7_word 76 = .ok (.goto 5, 3) := by decide +kernel
theorem dX7_word_79 : decode cX7_word 79 = .ok (.iload 7, 2) := by decide +kernel
theorem dX7_word_81 : decode cX7_word 81 = .ok (.ireturn, 1) := by decide +kernel
theorem dX7_word_82 : decode cX7_word 82 = .ok (.iinc 3 1, 3) := by decide +kernel
theorem dX7_word_85 : decode cX7_word 85 = .ok (.iinc 6 1, 3) := by decide +kernel
theorem dX7_word_88 : decode cX7_word 88 = .ok (.goto (-55), 3) := by decide +kernel
theorem dX7_word_91 : decode cX7_word 91 = .ok (.iinc 5 1, 3) := by decide +kernel
theorem dX7_word_94 : decode cX7_word 94 = .ok (.goto (-71), 3) := by decide +kernel
theorem dX7_word_97 : decode cX7_word 97 = .ok (.iload_n 1, 1) := by decide +kernel
theorem dX7_word_98 : decode cX7_word 98 = .ok (.iconst (-1), 1) := by decide +kernel
theorem dX7_word_99 : decode cX7_word 99 = .ok (.if_icmp .ne 7, 3) := by decide +kernel
theorem dX7_word_102 : decode cX7_word 102 = .ok (.iload_n 3, 1) := by decide +kernel
theorem dX7_word_103 : decode cX7_word 103 = .ok (.goto 4, 3) := by decide +kernel
theorem dX7_word_106 : decode cX7_word 106 = .ok (.iconst (-1), 1) := by decide +kernel
theorem dX7_word_107 : decode cX7_word 107 = .ok (.ireturn, 1) := by decide +kernel
theorem dX7_votes_0 : decode cX7_votes 0 = .ok (.iload_n 1, 1) := by decide +kernel
theorem dX7_votes_1 : decode cX7_votes 1 = .ok (.iconst 0, 1) := by decide +kernel
theorem dX7_votes_2 : decode cX7_votes 2 = .ok (.sipush 999, 3) := by decide +kernel
theorem dX7_votes_5 : decode cX7_votes 5 = .ok (.invokestatic 49, 3) := by decide +kernel
theorem dX7_votes_8 : decode cX7_votes 8 = .ok (.ifCond .eq 23, 3) := by decide +kernel
theorem dX7_votes_11 : decode cX7_votes 11 = .ok (.iload_n 2, 1) := by decide +kernel
theorem dX7_votes_12 : decode cX7_votes 12 = .ok (.iconst 0, 1) := by decide +kernel
theorem dX7_votes_13 : decode cX7_votes 13 = .ok (.sipush 999, 3) := by decide +kernel
theorem dX7_votes_16 : decode cX7_votes 16 = .ok (.invokestatic 49, 3) := by decide +kernel
theorem dX7_votes_19 : decode cX7_votes 19 = .ok (.ifCond .eq 12, 3) := by decide +kernel
theorem dX7_votes_22 : decode cX7_votes 22 = .ok (.iload_n 3, 1) := by decide +kernel
theorem dX7_votes_23 : decode cX7_votes 23 = .ok (.iconst 0, 1) := by decide +kernel
theorem dX7_votes_24 : decode cX7_votes 24 = .ok (.iconst 1, 1) := by decide +kernel
theorem dX7_votes_25 : decode cX7_votes 25 = .ok (.invokestatic 49, 3) := by decide +kernel
theorem dX7_votes_28 : decode cX7_votes 28 = .ok (.ifCond .ne 6, 3) := by decide +kernel
theorem dX7_votes_31 : decode cX7_votes 31 = .ok (.bipush (-2), 2) := by decide +kernel
theorem dX7_votes_33 : decode cX7_votes 33 = .ok (.ireturn, 1) := by decide +kernel
theorem dX7_votes_34 : decode cX7_votes 34 = .ok (.iconst 0, 1) := by decide +kernel
theorem dX7_votes_35 : decode cX7_votes 35 = .ok (.istore 4, 2) := by decide +kernel
theorem dX7_votes_37 : decode cX7_votes 37 = .ok (.aload_n 0, 1) := by decide +kernel
theorem dX7_votes_38 : decode cX7_votes 38 = .ok (.invokevirtual 107, 3) := by decide +kernel
theorem dX7_votes_41 : decode cX7_votes 41 = .ok (.istore 5, 2) := by decide +kernel
theorem dX7_votes_43 : decode cX7_votes 43 = .ok (.iload_n 1, 1) := by decide +kernel
theorem dX7_votes_44 : decode cX7_votes 44 = .ok (.istore 6, 2) := by decide +kernel
theorem dX7_votes_46 : decode cX7_votes 46 = .ok (.iload 6, 2) := by decide +kernel
theorem dX7_votes_48 : decode cX7_votes 48 = .ok (.iload_n 2, 1) := by decide +kernel
theorem dX7_votes_49 : decode cX7_votes 49 = .ok (.if_icmp .gt 82, 3) := by decide +kernel
theorem dX7_votes_52 : decode cX7_votes 52 = .ok (.iload 6, 2) := by decide +kernel
theorem dX7_votes_54 : decode cX7_votes 54 = .ok (.iload 5, 2) := by decide +kernel
theorem dX7_votes_56 : decode cX7_votes 56 = .ok (.if_icmp .gt 75, 3) := by decide +kernel
theorem dX7_votes_59 : decode cX7_votes 59 = .ok (.iconst 0, 1) := by decide +kernel
theorem dX7_votes_60 : decode cX7_votes 60 = .ok (.istore 7, 2) := by decide +kernel
theorem dX7_votes_62 : decode cX7_votes 62 = .ok (.iload 7, 2) := by decide +kernel
theorem dX7_votes_64 : decode cX7_votes 64 = .ok (.bipush 10, 2) := by decide +kernel
theorem dX7_votes_66 : decode cX7_votes 66 = .ok (.if_icmp .ge 59, 3) := by decide +kernel
theorem dX7_votes_69 : decode cX7_votes 69 = .ok (.aload_n 0, 1) := by decide +kernel
theorem dX7_votes_70 : decode cX7_votes 70 = .ok (.iload 6, 2) := by decide +kernel
theorem dX7_votes_72 : decode cX7_votes 72 = .ok (.iload 7, 2) := by decide +kernel
theorem dX7_votes_74 : decode cX7_votes 74 = .ok (.invokevirtual 110, 3) := by decide +kernel
theorem dX7_votes_77 : decode cX7_votes 77 = .ok (.istore 8, 2) := by decide +kernel
theorem dX7_votes_79 : decode cX7_votes 79 = .ok (.iload 4, 2) := by decide +kernel
theorem dX7_votes_81 : decode cX7_votes 81 = .ok (.iload_n 3, 1) := by decide +kernel
theorem dX7_votes_82 : decode cX7_votes 82 = .ok (.ifCond .ne 23, 3) := by decide +kernel
theorem dX7_votes_85 : decode cX7_votes 85 = .ok (.iload 8, 2) := by decide +kernel
theorem dX7_votes_87 : decode cX7_votes 87 = .ok (.iconst 1, 1) := by decide +kernel
theorem dX7_votes_88 : decode cX7_votes 88 = .ok (.if_icmp .eq 9, 3) := by decide +kernel
theorem dX7_votes_91 : decode cX7_votes 91 = .ok (.iload 8, 2) := by decide +kernel
theorem dX7_votes_93 : decode cX7_votes 93 = .ok (.iconst 2, 1) := by decide +kernel
theorem dX7_votes_94 : decode cX7_votes 94 = .ok (.if_icmp .ne 7, 3) := by decide +kernel
theorem dX7_votes_97 : decode cX7_votes 97 = .ok (.iconst 1, 1) := by decide +kernel
theorem dX7_votes_98 : decode cX7_votes 98 = .ok (.goto 18, 3) := by decide +kernel
theorem dX7_votes_101 : decode cX7_votes 101 = .ok (.iconst 0, 1) := by decide +kernel
theorem dX7_votes_102 : decode cX7_votes 102 = .ok (.goto 14, 3) := by decide +kernel
theorem dX7_votes_105 : decode cX7_votes 105 = .ok (.iload 8, 2) := by decide +kernel
theorem dX7_votes_107 : decode cX7_votes 107 = .ok (.iconst 2, 1) := by decide +kernel
theorem dX7_votes_108 : decode cX7_votes 108 = .ok (.if_icmp .le 7, 3) := by decide +kernel
theorem dX7_votes_111 : decode cX7_votes 111 = .ok (.iconst 1, 1) := by decide +kernel
theorem dX7_votes_112 : decode cX7_votes 112 = .ok (.goto 4, 3) := by decide +kernel
theorem dX7_votes_115 : decode cX7_votes 115 = .ok (.iconst 0, 1) := by decide +kernel
theorem dX7_votes_116 : decode cX7_votes 116 = .ok (.iadd, 1) := by decide +kernel
theorem dX7_votes_117 : decode cX7_votes 117 = .ok (.istore 4, 2) := by decide +kernel
theorem dX7_votes_119 : decode cX7_votes 119 = .ok (.iinc 7 1, 3) := by decide +kernel
theorem dX7_votes_122 : decode cX7_votes 122 = .ok (.goto (-60), 3) := by decide +kernel
theorem dX7_votes_125 : decode cX7_votes 125 = .ok (.iinc 6 1, 3) := by decide +kernel
theorem dX7_votes_128 : decode cX7_votes 128 = .ok (.goto (-82), 3) := by decide +kernel
theorem dX7_votes_131 : decode cX7_votes 131 = .ok (.iload 4, 2) := by decide +kernel
theorem dX7_votes_133 : decode cX7_votes 133 = .ok (.ireturn, 1) := by decide +kernel
theorem dX7_falls_0 : decode cX7_falls 0 = .ok (.iconst 0, 1) := by decide +kernel
theorem dX7_falls_1 : decode cX7_falls 1 = .ok (.istore_n 1, 1) := by decide +kernel
theorem dX7_falls_2 : decode cX7_falls 2 = .ok (.iconst 0, 1) := by decide +kernel
theorem dX7_falls_3 : decode cX7_falls 3 = .ok (.istore_n 2, 1) := by decide +kernel
theorem dX7_falls_4 : decode cX7_falls 4 = .ok (.iload_n 2, 1) := by decide +kernel
theorem dX7_falls_5 : decode cX7_falls 5 = .ok (.bipush 7, 2) := by decide +kernel
theorem dX7_falls_7 : decode cX7_falls 7 = .ok (.if_icmp .ge 48, 3) := by decide +kernel
theorem dX7_falls_10 : decode cX7_falls 10 = .ok (.aload_n 0, 1) := by decide +kernel
theorem dX7_falls_11 : decode cX7_falls 11 = .ok (.getfield 23, 3) := by decide +kernel
theorem dX7_falls_14 : decode cX7_falls 14 = .ok (.bipush 7, 2) := by decide +kernel
theorem dX7_falls_16 : decode cX7_falls 16 = .ok (.iaload, 1) := by decide +kernel
theorem dX7_falls_17 : decode cX7_falls 17 = .ok (.iload_n 2, 1) := by decide +kernel
theorem dX7_falls_18 : decode cX7_falls 18 = .ok (.invokestatic 56, 3) := by decide +kernel
theorem dX7_falls_21 : decode cX7_falls 21 = .ok (.ifCond .eq 26, 3) := by decide +kernel
theorem dX7_falls_24 : decode cX7_falls 24 = .ok (.aload_n 0, 1) := by decide +kernel
theorem dX7_falls_25 : decode cX7_falls 25 = .ok (.getfield 23, 3) := by decide +kernel
theorem dX7_falls_28 : decode cX7_falls 28 = .ok (.iload_n 2, 1) := by decide +kernel
theorem dX7_falls_29 : decode cX7_falls 29 = .ok (.iaload, 1) := by decide +kernel
theorem dX7_falls_30 : decode cX7_falls 30 = .ok (.iconst 1, 1) := by decide +kernel
theorem dX7_falls_31 : decode cX7_falls 31 = .ok (.iadd, 1) := by decide +kernel
theorem dX7_falls_32 : decode cX7_falls 32 = .ok (.iload_n 1, 1) := by decide +kernel
theorem dX7_falls_33 : decode cX7_falls 33 = .ok (.if_icmp .le 14, 3) := by decide +kernel
theorem dX7_falls_36 : decode cX7_falls 36 = .ok (.aload_n 0, 1) := by decide +kernel
theorem dX7_falls_37 : decode cX7_falls 37 = .ok (.getfield 23, 3) := by decide +kernel
theorem dX7_falls_40 : decode cX7_falls 40 = .ok (.iload_n 2, 1) := by decide +kernel
theorem dX7_falls_41 : decode cX7_falls 41 = .ok (.iaload, 1) := by decide +kernel
theorem dX7_falls_42 : decode cX7_falls 42 = .ok (.iconst 1, 1) := by decide +kernel
theorem dX7_falls_43 : decode cX7_falls 43 = .ok (.iadd, 1) := by decide +kernel
theorem dX7_falls_44 : decode cX7_falls 44 = .ok (.goto 4, 3) := by decide +kernel
theorem dX7_falls_47 : decode cX7_falls 47 = .ok (.iload_n 1, 1) := by decide +kernel
theorem dX7_falls_48 : decode cX7_falls 48 = .ok (.istore_n 1, 1) := by decide +kernel
theorem dX7_falls_49 : decode cX7_falls 49 = .ok (.iinc 2 1, 3) := by decide +kernel
theorem dX7_falls_52 : decode cX7_falls 52 = .ok (.goto (-48), 3) := by decide +kernel
theorem dX7_falls_55 : decode cX7_falls 55 = .ok (.iload_n 1, 1) := by decide +kernel
theorem dX7_falls_56 : decode cX7_falls 56 = .ok (.ireturn, 1) := by decide +kernel
theorem dX7_waitFor_0 : decode cX7_waitFor 0 = .ok (.iload_n 3, 1) := by decide +kernel
theorem dX7_waitFor_1 : decode cX7_waitFor 1 = .ok (.aload_n 0, 1) := by decide +kernel
theorem dX7_waitFor_2 : decode cX7_waitFor 2 = .ok (.getfield 23, 3) := by decide +kernel
theorem dX7_waitFor_5 : decode cX7_waitFor 5 = .ok (.bipush 8, 2) := by decide +kernel
theorem dX7_waitFor_7 : decode cX7_waitFor 7 = .ok (.iaload, 1) := by decide +kernel
theorem dX7_waitFor_8 : decode cX7_waitFor 8 = .ok (.isub, 1) := by decide +kernel
theorem dX7_waitFor_9 : decode cX7_waitFor 9 = .ok (.aload_n 0, 1) := by decide +kernel
theorem dX7_waitFor_10 : decode cX7_waitFor 10 = .ok (.iload 4, 2) := by decide +kernel
theorem dX7_waitFor_12 : decode cX7_waitFor 12 = .ok (.invokevirtual 78, 3) := by decide +kernel
theorem dX7_waitFor_15 : decode cX7_waitFor 15 = .ok (.isub, 1) := by decide +kernel
theorem dX7_waitFor_16 : decode cX7_waitFor 16 = .ok (.istore 5, 2) := by decide +kernel
theorem dX7_waitFor_18 : decode cX7_waitFor 18 = .ok (.iload 5, 2) := by decide +kernel
theorem dX7_waitFor_20 : decode cX7_waitFor 20 = .ok (.ifCond .lt 49, 3) := by decide +kernel
theorem dX7_waitFor_23 : decode cX7_waitFor 23 = .ok (.aload_n 0, 1) := by decide +kernel
theorem dX7_waitFor_24 : decode cX7_waitFor 24 = .ok (.getfield 23, 3) := by decide +kernel
theorem dX7_waitFor_27 : decode cX7_waitFor 27 = .ok (.iload_n 1, 1) := by decide +kernel
theorem dX7_waitFor_28 : decode cX7_waitFor 28 = .ok (.iaload, 1) := by decide +kernel
theorem dX7_waitFor_29 : decode cX7_waitFor 29 = .ok (.iload 5, 2) := by decide +kernel
theorem dX7_waitFor_31 : decode cX7_waitFor 31 = .ok (.isub, 1) := by decide +kernel
theorem dX7_waitFor_32 : decode cX7_waitFor 32 = .ok (.iload 4, 2) := by decide +kernel
theorem dX7_waitFor_34 : decode cX7_waitFor 34 = .ok (.if_icmp .lt 35, 3) := by decide +kernel
theorem dX7_waitFor_37 : decode cX7_waitFor 37 = .ok (.aload_n 0, 1) := by decide +kernel
theorem dX7_waitFor_38 : decode cX7_waitFor 38 = .ok (.getfield 7, 3) := by decide +kernel
theorem dX7_waitFor_41 : decode cX7_waitFor 41 = .ok (.iload_n 1, 1) := by decide +kernel
theorem dX7_waitFor_42 : decode cX7_waitFor 42 = .ok (.iaload, 1) := by decide +kernel
theorem dX7_waitFor_43 : decode cX7_waitFor 43 = .ok (.aload_n 0, 1) := by decide +kernel
theorem dX7_waitFor_44 : decode cX7_waitFor 44 = .ok (.iload 4, 2) := by decide +kernel
theorem dX7_waitFor_46 : decode cX7_waitFor 46 = .ok (.invokevirtual 78, 3) := by decide +kernel
theorem dX7_waitFor_49 : decode cX7_waitFor 49 = .ok (.aload_n 0, 1) := by decide +kernel
theorem dX7_waitFor_50 : decode cX7_waitFor 50 = .ok (.getfield 23, 3) := by decide +kernel
theorem dX7_waitFor_53 : decode cX7_waitFor 53 = .ok (.bipush 9, 2) := by decide +kernel
theorem dX7_waitFor_55 : decode cX7_waitFor 55 = .ok (.iaload, 1) := by decide +kernel
theorem dX7_waitFor_56 : decode cX7_waitFor 56 = .ok (.imul, 1) := by decide +kernel
theorem dX7_waitFor_57 : decode cX7_waitFor 57 = .ok (.iadd, 1) := by decide +kernel
theorem dX7_waitFor_58 : decode cX7_waitFor 58 = .ok (.bipush 10, 2) := by decide +kernel
theorem dX7_waitFor_60 : decode cX7_waitFor 60 = .ok (.irem, 1) := by decide +kernel
theorem dX7_waitFor_61 : decode cX7_waitFor 61 = .ok (.iload_n 2, 1) := by decide +kernel
theorem dX7_waitFor_62 : decode cX7_waitFor 62 = .ok (.if_icmp .ne 7, 3) := by decide +kernel
theorem dX7_waitFor_65 : decode cX7_waitFor 65 = .ok (.iconst 1, 1) := by decide +kernel
theorem dX7_waitFor_66 : decode cX7_waitFor 66 = .ok (.goto 4, 3) := by decide +kernel
theorem dX7_waitFor_69 : decode cX7_waitFor 69 = .ok (.iconst 0, 1) := by decide +kernel
theorem dX7_waitFor_70 : decode cX7_waitFor 70 = .ok (.istore 6, 2) := by decide +kernel
theorem dX7_waitFor_72 : decode cX7_waitFor 72 = .ok (.iload 6, 2) := by decide +kernel
theorem dX7_waitFor_74 : decode cX7_waitFor 74 = .ok (.ifCond .eq 8, 3) := by decide +kernel
theorem dX7_waitFor_77 : decode cX7_waitFor 77 = .ok (.iload 5, 2) := by decide +kernel
theorem dX7_waitFor_79 : decode cX7_waitFor 79 = .ok (.goto 5, 3) := by decide +kernel
theorem dX7_waitFor_82 : decode cX7_waitFor 82 = .ok (.bipush (-6), 2) := by decide +kernel
theorem dX7_waitFor_84 : decode cX7_waitFor 84 = .ok (.ireturn, 1) := by decide +kernel
theorem dX7_speak_0 : decode cX7_speak 0 = .ok (.aload_n 0, 1) := by decide +kernel
theorem dX7_speak_1 : decode cX7_speak 1 = .ok (.iload_n 1, 1) := by decide +kernel
theorem dX7_speak_2 : decode cX7_speak 2 = .ok (.invokevirtual 113, 3) := by decide +kernel
theorem dX7_speak_5 : decode cX7_speak 5 = .ok (.ifCond .ne 5, 3) := by decide +kernel
theorem dX7_speak_8 : decode cX7_speak 8 = .ok (.iconst (-1), 1) := by decide +kernel
theorem dX7_speak_9 : decode cX7_speak 9 = .ok (.ireturn, 1) := by decide +kernel
theorem dX7_speak_10 : decode cX7_speak 10 = .ok (.iload_n 2, 1) := by decide +kernel
theorem dX7_speak_11 : decode cX7_speak 11 = .ok (.iconst 0, 1) := by decide +kernel
theorem dX7_speak_12 : decode cX7_speak 12 = .ok (.bipush 9, 2) := by decide +kernel
theorem dX7_speak_14 : decode cX7_speak 14 = .ok (.invokestatic 49, 3) := by decide +kernel
theorem dX7_speak_17 : decode cX7_speak 17 = .ok (.ifCond .eq 24, 3) := by decide +kernel
theorem dX7_speak_20 : decode cX7_speak 20 = .ok (.iload_n 3, 1) := by decide +kernel
theorem dX7_speak_21 : decode cX7_speak 21 = .ok (.iconst 0, 1) := by decide +kernel
theorem dX7_speak_22 : decode cX7_speak 22 = .ok (.sipush 999, 3) := by decide +kernel
theorem dX7_speak_25 : decode cX7_speak 25 = .ok (.invokestatic 49, 3) := by decide +kernel
theorem dX7_speak_28 : decode cX7_speak 28 = .ok (.ifCond .eq 13, 3) := by decide +kernel
theorem dX7_speak_31 : decode cX7_speak 31 = .ok (.iload 4, 2) := by decide +kernel
theorem dX7_speak_33 : decode cX7_speak 33 = .ok (.iconst 0, 1) := by decide +kernel
theorem dX7_speak_34 : decode cX7_speak 34 = .ok (.iconst 2, 1) := by decide +kernel
theorem dX7_speak_35 : decode cX7_speak 35 = .ok (.invokestatic 49, 3) := by decide +kernel
theorem dX7_speak_38 : decode cX7_speak 38 = .ok (.ifCond .ne 6, 3) := by decide +kernel
theorem dX7_speak_41 : decode cX7_speak 41 = .ok (.bipush (-2), 2) := by decide +kernel
theorem dX7_speak_43 : decode cX7_speak 43 = .ok (.ireturn, 1) := by decide +kernel
theorem dX7_speak_44 : decode cX7_speak 44 = .ok (.iconst 0, 1) := by decide +kernel
theorem dX7_speak_45 : decode cX7_speak 45 = .ok (.istore 5, 2) := by decide +kernel
theorem dX7_speak_47 : decode cX7_speak 47 = .ok (.bipush (-6), 2) := by decide +kernel
theorem dX7_speak_49 : decode cX7_speak 49 = .ok (.istore 6, 2) := by decide +kernel
theorem dX7_speak_51 : decode cX7_speak 51 = .ok (.bipush 9, 2) := by decide +kernel
theorem dX7_speak_53 : decode cX7_speak 53 = .ok (.istore 7, 2) := by decide +kernel
theorem dX7_speak_55 : decode cX7_speak 55 = .ok (.iload 7, 2) := by decide +kernel
theorem dX7_speak_57 : decode cX7_speak 57 = .ok (.ifCond .le 28, 3) := by decide +kernel
theorem dX7_speak_60 : decode cX7_speak 60 = .ok (.aload_n 0, 1) := by decide +kernel
theorem dX7_speak_61 : decode cX7_speak 61 = .ok (.iload_n 1, 1) := by decide +kernel
theorem dX7_speak_62 : decode cX7_speak 62 = .ok (.iload_n 2, 1) := by decide +kernel
theorem dX7_speak_63 : decode cX7_speak 63 = .ok (.iload_n 3, 1) := by decide +kernel
theorem dX7_speak_64 : decode cX7_speak 64 = .ok (.iload 7, 2) := by decide +kernel
theorem dX7_speak_66 : decode cX7_speak 66 = .ok (.invokevirtual 116, 3) := by decide +kernel
theorem dX7_speak_69 : decode cX7_speak 69 = .ok (.ifCond .lt 10, 3) := by decide +kernel
theorem dX7_speak_72 : decode cX7_speak 72 = .ok (.iinc 5 1, 3) := by decide +kernel
theorem dX7_speak_75 : decode cX7_speak 75 = .ok (.iload 7, 2) := by decide +kernel
theorem dX7_speak_77 : decode cX7_speak 77 = .ok (.istore 6, 2) := by decide +kernel
theorem dX7_speak_79 : decode cX7_speak 79 = .ok (.iinc 7 (-1), 3) := by decide +kernel
theorem dX7_speak_82 : decode cX7_speak 82 = .ok (.goto (-27), 3) := by decide +kernel
theorem dX7_speak_85 : decode cX7_speak 85 = .ok (.iload 4, 2) := by decide +kernel
theorem dX7_speak_87 : decode cX7_speak 87 = .ok (.ifCond .ne 8, 3) := by decide +kernel
theorem dX7_speak_90 : decode cX7_speak 90 = .ok (.iload 5, 2) := by decide +kernel
theorem dX7_speak_92 : decode cX7_speak 92 = .ok (.goto 28, 3) := by decide +kernel
theorem dX7_speak_95 : decode cX7_speak 95 = .ok (.iload 6, 2) := by decide +kernel
theorem dX7_speak_97 : decode cX7_speak 97 = .ok (.ifCond .lt 9, 3) := by decide +kernel
theorem dX7_speak_100 : decode cX7_speak 100 = .ok (.iload 4, 2) := by decide +kernel
theorem dX7_speak_102 : decode cX7_speak 102 = .ok (.iconst 1, 1) := by decide +kernel
theorem dX7_speak_103 : decode cX7_speak 103 = .ok (.if_icmp .ne 8, 3) := by decide +kernel
theorem dX7_speak_106 : decode cX7_speak 106 = .ok (.iload 6, 2) := by decide +kernel
theorem dX7_speak_108 : decode cX7_speak 108 = .ok (.goto 12, 3) := by decide +kernel
theorem dX7_speak_111 : decode cX7_speak 111 = .ok (.aload_n 0, 1) := by decide +kernel
theorem dX7_speak_112 : decode cX7_speak 112 = .ok (.iload_n 1, 1) := by decide +kernel
theorem dX7_speak_113 : decode cX7_speak 113 = .ok (.iload_n 2, 1) := by decide +kernel
theorem dX7_speak_114 : decode cX7_speak 114 = .ok (.iload_n 3, 1) := by decide +kernel
theorem dX7_speak_115 : decode cX7_speak 115 = .ok (.iload 6, 2) := by decide +kernel
theorem dX7_speak_117 : decode cX7_speak 117 = .ok (.invokevirtual 116, 3) := by decide +kernel
theorem dX7_speak_120 : decode cX7_speak 120 = .ok (.ireturn, 1) := by decide +kernel
theorem dX7_digit_0 : decode cX7_digit 0 = .ok (.iload_n 0, 1) := by decide +kernel
theorem dX7_digit_1 : decode cX7_digit 1 = .ok (.istore_n 2, 1) := by decide +kernel
theorem dX7_digit_2 : decode cX7_digit 2 = .ok (.iconst 0, 1) := by decide +kernel
theorem dX7_digit_3 : decode cX7_digit 3 = .ok (.istore_n 3, 1) := by decide +kernel
theorem dX7_digit_4 : decode cX7_digit 4 = .ok (.iload_n 3, 1) := by decide +kernel
theorem dX7_digit_5 : decode cX7_digit 5 = .ok (.iload_n 1, 1) := by decide +kernel
theorem dX7_digit_6 : decode cX7_digit 6 = .ok (.if_icmp .ge 14, 3) := by decide +kernel
theorem dX7_digit_9 : decode cX7_digit 9 = .ok (.iload_n 2, 1) := by decide +kernel
theorem dX7_digit_10 : decode cX7_digit 10 = .ok (.bipush 10, 2) := by decide +kernel
theorem dX7_digit_12 : decode cX7_digit 12 = .ok (.idiv, 1) := by decide +kernel
theorem dX7_digit_13 : decode cX7_digit 13 = .ok (.istore_n 2, 1) := by decide +kernel
theorem dX7_digit_14 : decode cX7_digit 14 = .ok (.iinc 3 1, 3) := by decide +kernel
theorem dX7_digit_17 : decode cX7_digit 17 = .ok (.goto (-13), 3) := by decide +kernel
theorem dX7_digit_20 : decode cX7_digit 20 = .ok (.iload_n 2, 1) := by decide +kernel
theorem dX7_digit_21 : decode cX7_digit 21 = .ok (.bipush 10, 2) := by decide +kernel
theorem dX7_digit_23 : decode cX7_digit 23 = .ok (.irem, 1) := by decide +kernel
theorem dX7_digit_24 : decode cX7_digit 24 = .ok (.ireturn, 1) := by decide +kernel
theorem dX7_laws_0 : decode cX7_laws 0 = .ok (.iload_n 1, 1) := by decide +kernel
theorem dX7_laws_1 : decode cX7_laws 1 = .ok (.iconst 0, 1) := by decide +kernel
theorem dX7_laws_2 : decode cX7_laws 2 = .ok (.ldc 120, 2) := by decide +kernel
theorem dX7_laws_4 : decode cX7_laws 4 = .ok (.invokestatic 49, 3) := by decide +kernel
theorem dX7_laws_7 : decode cX7_laws 7 = .ok (.ifCond .eq 33, 3) := by decide +kernel
theorem dX7_laws_10 : decode cX7_laws 10 = .ok (.iload_n 2, 1) := by decide +kernel
theorem dX7_laws_11 : decode cX7_laws 11 = .ok (.iconst 0, 1) := by decide +kernel
theorem dX7_laws_12 : decode cX7_laws 12 = .ok (.ldc 120, 2) := by decide +kernel
theorem dX7_laws_14 : decode cX7_laws 14 = .ok (.invokestatic 49, 3) := by decide +kernel
theorem dX7_laws_17 : decode cX7_laws 17 = .ok (.ifCond .eq 23, 3) := by decide +kernel
theorem dX7_laws_20 : decode cX7_laws 20 = .ok (.iload_n 3, 1) := by decide +kernel
theorem dX7_laws_21 : decode cX7_laws 21 = .ok (.iconst 0, 1) := by decide +kernel
theorem dX7_laws_22 : decode cX7_laws 22 = .ok (.bipush 54, 2) := by decide +kernel
theorem dX7_laws_24 : decode cX7_laws 24 = .ok (.invokestatic 49, 3) := by decide +kernel
theorem dX7_laws_27 : decode cX7_laws 27 = .ok (.ifCond .eq 13, 3) := by decide +kernel
theorem dX7_laws_30 : decode cX7_laws 30 = .ok (.iload 4, 2) := by decide +kernel
theorem dX7_laws_32 : decode cX7_laws 32 = .ok (.iconst 0, 1) := by decide +kernel
theorem dX7_laws_33 : decode cX7_laws 33 = .ok (.iconst 2, 1) := by decide +kernel
theorem dX7_laws_34 : decode cX7_laws 34 = .ok (.invokestatic 49, 3) := by decide +kernel
theorem dX7_laws_37 : decode cX7_laws 37 = .ok (.ifCond .ne 6, 3) := by decide +kernel
theorem dX7_laws_40 : decode cX7_laws 40 = .ok (.bipush (-2), 2) := by decide +kernel
theorem dX7_laws_42 : decode cX7_laws 42 = .ok (.ireturn, 1) := by decide +kernel
theorem dX7_laws_43 : decode cX7_laws 43 = .ok (.iconst (-1), 1) := by decide +kernel
theorem dX7_laws_44 : decode cX7_laws 44 = .ok (.istore 5, 2) := by decide +kernel
theorem dX7_laws_46 : decode cX7_laws 46 = .ok (.iconst 0, 1) := by decide +kernel
theorem dX7_laws_47 : decode cX7_laws 47 = .ok (.istore 6, 2) := by decide +kernel
theorem dX7_laws_49 : decode cX7_laws 49 = .ok (.iconst 0, 1) := by decide +kernel
theorem dX7_laws_50 : decode cX7_laws 50 = .ok (.istore 7, 2) := by decide +kernel
theorem dX7_laws_52 : decode cX7_laws 52 = .ok (.iconst 0, 1) := by decide +kernel
theorem dX7_laws_53 : decode cX7_laws 53 = .ok (.istore 8, 2) := by decide +kernel
theorem dX7_laws_55 : decode cX7_laws 55 = .ok (.iload 8, 2) := by decide +kernel
theorem dX7_laws_57 : decode cX7_laws 57 = .ok (.bipush 64, 2) := by decide +kernel
theorem dX7_laws_59 : decode cX7_laws 59 = .ok (.if_icmp .ge 161, 3) := by decide +kernel
theorem dX7_laws_62 : decode cX7_laws 62 = .ok (.iconst 0, 1) := by decide +kernel
theorem dX7_laws_63 : decode cX7_laws 63 = .ok (.istore 9, 2) := by decide +kernel
theorem dX7_laws_65 : decode cX7_laws 65 = .ok (.iconst 0, 1) := by decide +kernel
theorem dX7_laws_66 : decode cX7_laws 66 = .ok (.istore 10, 2) := by decide +kernel
theorem dX7_laws_68 : decode cX7_laws 68 = .ok (.iconst 1, 1) := by decide +kernel
theorem dX7_laws_69 : decode cX7_laws 69 = .ok (.istore 11, 2) := by decide +kernel
theorem dX7_laws_71 : decode cX7_laws 71 = .ok (.iconst 0, 1) := by decide +kernel
theorem dX7_laws_72 : decode cX7_laws 72 = .ok (.istore 12, 2) := by decide +kernel
theorem dX7_laws_74 : decode cX7_laws 74 = .ok (.iload 12, 2) := by decide +kernel
theorem dX7_laws_76 : decode cX7_laws 76 = .ok (.bipush 6, 2) := by decide +kernel
theorem dX7_laws_78 : decode cX7_laws 78 = .ok (.if_icmp .ge 62, 3) := by decide +kernel
theorem dX7_laws_81 : decode cX7_laws 81 = .ok (.iload 8, 2) := by decide +kernel
theorem dX7_laws_83 : decode cX7_laws 83 = .ok (.iload 12, 2) := by decide +kernel
theorem dX7_laws_85 : decode cX7_laws 85 = .ok (.invokestatic 56, 3) := by decide +kernel
theorem dX7_laws_88 : decode cX7_laws 88 = .ok (.ifCond .eq 46, 3) := by decide +kernel
theorem dX7_laws_91 : decode cX7_laws 91 = .ok (.iload 11, 2) := by decide +kernel
theorem dX7_laws_93 : decode cX7_laws 93 = .ok (.ifCond .eq 16, 3) := by decide +kernel
theorem dX7_laws_96 : decode cX7_laws 96 = .ok (.iload_n 1, 1) := by decide +kernel
theorem dX7_laws_97 : decode cX7_laws 97 = .ok (.iload 12, 2) := by decide +kernel
theorem dX7_laws_99 : decode cX7_laws 99 = .ok (.invokestatic 121, 3) := by decide +kernel
theorem dX7_laws_102 : decode cX7_laws 102 = .ok (.ifCond .le 7, 3) := by decide +kernel
theorem dX7_laws_105 : decode cX7_laws 105 = .ok (.iconst 1, 1) := by decide +kernel
theorem dX7_laws_106 : decode cX7_laws 106 = .ok (.goto 4, 3) := by decide +kernel
theorem dX7_laws_109 : decode cX7_laws 109 = .ok (.iconst 0, 1) := by decide +kernel
theorem dX7_laws_110 : decode cX7_laws 110 = .ok (.istore 11, 2) := by decide +kernel
theorem dX7_laws_112 : decode cX7_laws 112 = .ok (.iload 9, 2) := by decide +kernel
theorem dX7_laws_114 : decode cX7_laws 114 = .ok (.iload_n 1, 1) := by decide +kernel
theorem dX7_laws_115 : decode cX7_laws 115 = .ok (.iload 12, 2) := by decide +kernel
theorem dX7_laws_117 : decode cX7_laws 117 = .ok (.invokestatic 121, 3) := by decide +kernel
theorem dX7_laws_120 : decode cX7_laws 120 = .ok (.iadd, 1) := by decide +kernel
theorem dX7_laws_121 : decode cX7_laws 121 = .ok (.istore 9, 2) := by decide +kernel
theorem dX7_laws_123 : decode cX7_laws 123 = .ok (.iload 10, 2) := by decide +kernel
theorem dX7_laws_125 : decode cX7_laws 125 = .ok (.iload_n 2, 1) := by decide +kernel
theorem dX7_laws_126 : decode cX7_laws 126 = .ok (.iload 12, 2) := by decide +kernel
theorem dX7_laws_128 : decode cX7_laws 128 = .ok (.invokestatic 121, 3) := by decide +kernel
theorem dX7_laws_131 : decode cX7_laws 131 = .ok (.iadd, 1) := by decide +kernel
theorem dX7_laws_132 : decode cX7_laws 132 = .ok (.istore 10, 2) := by decide +kernel
theorem dX7_laws_134 : decode cX7_laws 134 = .ok (.iinc 12 1, 3) := by decide +kernel
theorem dX7_laws_137 : decode cX7_laws 137 = .ok (.goto (-63), 3) := by decide +kernel
theorem dX7_laws_140 : decode cX7_laws 140 = .ok (.iload 7, 2) := by decide +kernel
theorem dX7_laws_142 : decode cX7_laws 142 = .ok (.iload 11, 2) := by decide +kernel
theorem dX7_laws_144 : decode cX7_laws 144 = .ok (.ifCond .eq 13, 3) := by decide +kernel
theorem dX7_laws_147 : decode cX7_laws 147 = .ok (.iload 9, 2) := by decide +kernel
theorem dX7_laws_149 : decode cX7_laws 149 = .ok (.iload_n 3, 1) := by decide +kernel
theorem dX7_laws_150 : decode cX7_laws 150 = .ok (.if_icmp .ne 7, 3) := by decide +kernel
theorem dX7_laws_153 : decode cX7_laws 153 = .ok (.iconst 1, 1) := by decide +kernel
theorem dX7_laws_154 : decode cX7_laws 154 = .ok (.goto 4, 3) := by decide +kernel
theorem dX7_laws_157 : decode cX7_laws 157 = .ok (.iconst 0, 1) := by decide +kernel
theorem dX7_laws_158 : decode cX7_laws 158 = .ok (.iadd, 1) := by decide +kernel
theorem dX7_laws_159 : decode cX7_laws 159 = .ok (.istore 7, 2) := by decide +kernel
theorem dX7_laws_161 : decode cX7_laws 161 = .ok (.iload 11, 2) := by decide +kernel
theorem dX7_laws_163 : decode cX7_laws 163 = .ok (.ifCond .eq 20, 3) := by decide +kernel
theorem dX7_laws_166 : decode cX7_laws 166 = .ok (.iload 9, 2) := by decide +kernel
theorem dX7_laws_168 : decode cX7_laws 168 = .ok (.iload_n 3, 1) := by decide +kernel
theorem dX7_laws_169 : decode cX7_laws 169 = .ok (.if_icmp .gt 14, 3) := by decide +kernel
theorem dX7_laws_172 : decode cX7_laws 172 = .ok (.iload 10, 2) := by decide +kernel
theorem dX7_laws_174 : decode cX7_laws 174 = .ok (.iload 5, 2) := by decide +kernel
theorem dX7_laws_176 : decode cX7_laws 176 = .ok (.if_icmp .le 7, 3) := by decide +kernel
theorem dX7_laws_179 : decode cX7_laws 179 = .ok (.iconst 1, 1) := by decide +kernel
theorem dX7_laws_180 : decode cX7_laws 180 = .ok (.goto 4, 3) := by decide +kernel
theorem dX7_laws_183 : decode cX7_laws 183 = .ok (.iconst 0, 1) := by decide +kernel
theorem dX7_laws_184 : decode cX7_laws 184 = .ok (.istore 12, 2) := by decide +kernel
theorem dX7_laws_186 : decode cX7_laws 186 = .ok (.iload 12, 2) := by decide +kernel
theorem dX7_laws_188 : decode cX7_laws 188 = .ok (.ifCond .eq 8, 3) := by decide +kernel
theorem dX7_laws_191 : decode cX7_laws 191 = .ok (.iload 8, 2) := by decide +kernel
theorem dX7_laws_193 : decode cX7_laws 193 = .ok (.goto 5, 3) := by decide +kernel
theorem dX7_laws_196 : decode cX7_laws 196 = .ok (.iload 6, 2) := by decide +kernel
theorem dX7_laws_198 : decode cX7_laws 198 = .ok (.istore 6, 2) := by decide +kernel
theorem dX7_laws_200 : decode cX7_laws 200 = .ok (.iload 12, 2) := by decide +kernel
theorem dX7_laws_202 : decode cX7_laws 202 = .ok (.ifCond .eq 8, 3) := by decide +kernel
theorem dX7_laws_205 : decode cX7_laws 205 = .ok (.iload 10, 2) := by decide +kernel
theorem dX7_laws_207 : decode cX7_laws 207 = .ok (.goto 5, 3) := by decide +kernel
theorem dX7_laws_210 : decode cX7_laws 210 = .ok (.iload 5, 2) := by decide +kernel
theorem dX7_laws_212 : decode cX7_laws 212 = .ok (.istore 5, 2) := by decide +kernel
theorem dX7_laws_214 : decode cX7_laws 214 = .ok (.iinc 8 1, 3) := by decide +kernel
theorem dX7_laws_217 : decode cX7_laws 217 = .ok (.goto (-162), 3) := by decide +kernel
theorem dX7_laws_220 : decode cX7_laws 220 = .ok (.iload 4, 2) := by decide +kernel
theorem dX7_laws_222 : decode cX7_laws 222 = .ok (.ifCond .ne 8, 3) := by decide +kernel
theorem dX7_laws_225 : decode cX7_laws 225 = .ok (.iload 5, 2) := by decide +kernel
theorem dX7_laws_227 : decode cX7_laws 227 = .ok (.goto 16, 3) := by decide +kernel
theorem dX7_laws_230 : decode cX7_laws 230 = .ok (.iload 4, 2) := by decide +kernel
theorem dX7_laws_232 : decode cX7_laws 232 = .ok (.iconst 1, 1) := by decide +kernel
theorem dX7_laws_233 : decode cX7_laws 233 = .ok (.if_icmp .ne 8, 3) := by decide +kernel
theorem dX7_laws_236 : decode cX7_laws 236 = .ok (.iload 6, 2) := by decide +kernel
theorem dX7_laws_238 : decode cX7_laws 238 = .ok (.goto 5, 3) := by decide +kernel
theorem dX7_laws_241 : decode cX7_laws 241 = .ok (.iload 7, 2) := by decide +kernel
theorem dX7_laws_243 : decode cX7_laws 243 = .ok (.ireturn, 1) := by decide +kernel
theorem dX7_breathOf_0 : decode cX7_breathOf 0 = .ok (.iconst 0, 1) := by decide +kernel
theorem dX7_breathOf_1 : decode cX7_breathOf 1 = .ok (.istore_n 2, 1) := by decide +kernel
theorem dX7_breathOf_2 : decode cX7_breathOf 2 = .ok (.iconst 0, 1) := by decide +kernel
theorem dX7_breathOf_3 : decode cX7_breathOf 3 = .ok (.istore_n 3, 1) := by decide +kernel
theorem dX7_breathOf_4 : decode cX7_breathOf 4 = .ok (.iload_n 3, 1) := by decide +kernel
theorem dX7_breathOf_5 : decode cX7_breathOf 5 = .ok (.bipush 7, 2) := by decide +kernel
theorem dX7_breathOf_7 : decode cX7_breathOf 7 = .ok (.if_icmp .ge 30, 3) := by decide +kernel
theorem dX7_breathOf_10 : decode cX7_breathOf 10 = .ok (.iload_n 2, 1) := by decide +kernel
theorem dX7_breathOf_11 : decode cX7_breathOf 11 = .ok (.iload_n 1, 1) := by decide +kernel
theorem dX7_breathOf_12 : decode cX7_breathOf 12 = .ok (.iload_n 3, 1) := by decide +kernel
theorem dX7_breathOf_13 : decode cX7_breathOf 13 = .ok (.invokestatic 56, 3) := by decide +kernel
theorem dX7_breathOf_16 : decode cX7_breathOf 16 = .ok (.ifCond .eq 12, 3) := by decide +kernel
theorem dX7_breathOf_19 : decode cX7_breathOf 19 = .ok (.aload_n 0, 1) := by decide +kernel
theorem dX7_breathOf_20 : decode cX7_breathOf 20 = .ok (.getfield 23, 3) := by decide +kernel
theorem dX7_breathOf_23 : decode cX7_breathOf 23 = .ok (.iload_n 3, 1) := by decide +kernel
theorem dX7_breathOf_24 : decode cX7_breathOf 24 = .ok (.iaload, 1) := by decide +kernel
theorem dX7_breathOf_25 : decode cX7_breathOf 25 = .ok (.goto 4, 3) := by decide +kernel
theorem dX7_breathOf_28 : decode cX7_breathOf 28 = .ok (.iconst 0, 1) := by decide +kernel
theorem dX7_breathOf_29 : decode cX7_breathOf 29 = .ok (.iadd, 1) := by decide +kernel
theorem dX7_breathOf_30 : decode cX7_breathOf 30 = .ok (.istore_n 2, 1) := by decide +kernel
theorem dX7_breathOf_31 : decode cX7_breathOf 31 = .ok (.iinc 3 1, 3) := by decide +kernel
theorem dX7_breathOf_34 : decode cX7_breathOf 34 = .ok (.goto (-30), 3) := by decide +kernel
theorem dX7_breathOf_37 : decode cX7_breathOf 37 = .ok (.iload_n 2, 1) := by decide +kernel
theorem dX7_breathOf_38 : decode cX7_breathOf 38 = .ok (.ireturn, 1) := by decide +kernel
theorem dX7_passes_0 : decode cX7_passes 0 = .ok (.iconst 2, 1) := by decide +kernel
theorem dX7_passes_1 : decode cX7_passes 1 = .ok (.aload_n 0, 1) := by decide +kernel
theorem dX7_passes_2 : decode cX7_passes 2 = .ok (.iload_n 1, 1) := by decide +kernel
theorem dX7_passes_3 : decode cX7_passes 3 = .ok (.invokevirtual 124, 3) := by decide +kernel
theorem dX7_passes_6 : decode cX7_passes 6 = .ok (.imul, 1) := by decide +kernel
theorem dX7_passes_7 : decode cX7_passes 7 = .ok (.aload_n 0, 1) := by decide +kernel
theorem dX7_passes_8 : decode cX7_passes 8 = .ok (.aload_n 0, 1) := by decide +kernel
theorem dX7_passes_9 : decode cX7_passes 9 = .ok (.getfield 23, 3) := by decide +kernel
theorem dX7_passes_12 : decode cX7_passes 12 = .ok (.bipush 7, 2) := by decide +kernel
theorem dX7_passes_14 : decode cX7_passes 14 = .ok (.iaload, 1) := by decide +kernel
theorem dX7_passes_15 : decode cX7_passes 15 = .ok (.invokevirtual 124, 3) := by decide +kernel
theorem dX7_passes_18 : decode cX7_passes 18 = .ok (.if_icmp .le 7, 3) := by decide +kernel
theorem dX7_passes_21 : decode cX7_passes 21 = .ok (.iconst 1, 1) := by decide +kernel
theorem dX7_passes_22 : decode cX7_passes 22 = .ok (.goto 4, 3) := by decide +kernel
theorem dX7_passes_25 : decode cX7_passes 25 = .ok (.iconst 0, 1) := by decide +kernel
theorem dX7_passes_26 : decode cX7_passes 26 = .ok (.ireturn, 1) := by decide +kernel
theorem dX7_power_0 : decode cX7_power 0 = .ok (.aload_n 0, 1) := by decide +kernel
theorem dX7_power_1 : decode cX7_power 1 = .ok (.iload_n 1, 1) := by decide +kernel
theorem dX7_power_2 : decode cX7_power 2 = .ok (.invokevirtual 113, 3) := by decide +kernel
theorem dX7_power_5 : decode cX7_power 5 = .ok (.ifCond .ne 5, 3) := by decide +kernel
theorem dX7_power_8 : decode cX7_power 8 = .ok (.iconst (-1), 1) := by decide +kernel
theorem dX7_power_9 : decode cX7_power 9 = .ok (.ireturn, 1) := by decide +kernel
theorem dX7_power_10 : decode cX7_power 10 = .ok (.iconst 0, 1) := by decide +kernel
theorem dX7_power_11 : decode cX7_power 11 = .ok (.istore_n 2, 1) := by decide +kernel
theorem dX7_power_12 : decode cX7_power 12 = .ok (.iconst 0, 1) := by decide +kernel
theorem dX7_power_13 : decode cX7_power 13 = .ok (.istore_n 3, 1) := by decide +kernel
theorem dX7_power_14 : decode cX7_power 14 = .ok (.iload_n 3, 1) := by decide +kernel
theorem dX7_power_15 : decode cX7_power 15 = .ok (.sipush 128, 3) := by decide +kernel
theorem dX7_power_18 : decode cX7_power 18 = .ok (.if_icmp .ge 71, 3) := by decide +kernel
theorem dX7_power_21 : decode cX7_power 21 = .ok (.iload_n 3, 1) := by decide +kernel
theorem dX7_power_22 : decode cX7_power 22 = .ok (.aload_n 0, 1) := by decide +kernel
theorem dX7_power_23 : decode cX7_power 23 = .ok (.getfield 23, 3) := by decide +kernel
theorem dX7_power_26 : decode cX7_power 26 = .ok (.bipush 7, 2) := by decide +kernel
theorem dX7_power_28 : decode cX7_power 28 = .ok (.iaload, 1) := by decide +kernel
theorem dX7_power_29 : decode cX7_power 29 = .ok (.iconst (-1), 1) := by decide +kernel
theorem dX7_power_30 : decode cX7_power 30 = .ok (.ixor, 1) := by decide +kernel
theorem dX7_power_31 : decode cX7_power 31 = .ok (.iand, 1) := by decide +kernel
theorem dX7_power_32 : decode cX7_power 32 = .ok (.ifCond .ne 15, 3) := by decide +kernel
theorem dX7_power_35 : decode cX7_power 35 = .ok (.iload_n 3, 1) := by decide +kernel
theorem dX7_power_36 : decode cX7_power 36 = .ok (.iload_n 1, 1) := by decide +kernel
theorem dX7_power_37 : decode cX7_power 37 = .ok (.invokestatic 56, 3) := by decide +kernel
theorem dX7_power_40 : decode cX7_power 40 = .ok (.ifCond .ne 7, 3) := by decide +kernel
theorem dX7_power_43 : decode cX7_power 43 = .ok (.iconst 1, 1) := by decide +kernel
theorem dX7_power_44 : decode cX7_power 44 = .ok (.goto 4, 3) := by decide +kernel
theorem dX7_power_47 : decode cX7_power 47 = .ok (.iconst 0, 1) := by decide +kernel
theorem dX7_power_48 : decode cX7_power 48 = .ok (.istore 4, 2) := by decide +kernel
theorem dX7_power_50 : decode cX7_power 50 = .ok (.iload_n 2, 1) := by decide +kernel
theorem dX7_power_51 : decode cX7_power 51 = .ok (.iload 4, 2) := by decide +kernel
theorem dX7_power_53 : decode cX7_power 53 = .ok (.ifCond .eq 27, 3) := by decide +kernel
theorem dX7_power_56 : decode cX7_power 56 = .ok (.aload_n 0, 1) := by decide +kernel
theorem dX7_power_57 : decode cX7_power 57 = .ok (.iload_n 3, 1) := by decide +kernel
theorem dX7_power_58 : decode cX7_power 58 = .ok (.invokevirtual 127, 3) := by decide +kernel
theorem dX7_power_61 : decode cX7_power 61 = .ok (.ifCond .ne 19, 3) := by decide +kernel
theorem dX7_power_64 : decode cX7_power 64 = .ok (.aload_n 0, 1) := by decide +kernel
theorem dX7_power_65 : decode cX7_power 65 = .ok (.iload_n 3, 1) := by decide +kernel
theorem dX7_power_66 : decode cX7_power 66 = .ok (.iconst 1, 1) := by decide +kernel
theorem dX7_power_67 : decode cX7_power 67 = .ok (.iload_n 1, 1) := by decide +kernel
theorem dX7_power_68 : decode cX7_power 68 = .ok (.ishl, 1) := by decide +kernel
theorem dX7_power_69 : decode cX7_power 69 = .ok (.ior, 1) := by decide +kernel
theorem dX7_power_70 : decode cX7_power 70 = .ok (.invokevirtual 127, 3) := by decide +kernel
theorem dX7_power_73 : decode cX7_power 73 = .ok (.ifCond .eq 7, 3) := by decide +kernel
theorem dX7_power_76 : decode cX7_power 76 = .ok (.iconst 1, 1) := by decide +kernel
theorem dX7_power_77 : decode cX7_power 77 = .ok (.goto 4, 3) := by decide +kernel
theorem dX7_power_80 : decode cX7_power 80 = .ok (.iconst 0, 1) := by decide +kernel
theorem dX7_power_81 : decode cX7_power 81 = .ok (.iadd, 1) := by decide +kernel
theorem dX7_power_82 : decode cX7_power 82 = .ok (.istore_n 2, 1) := by decide +kernel
theorem dX7_power_83 : decode cX7_power 83 = .ok (.iinc 3 1, 3) := by decide +kernel
theorem dX7_power_86 : decode cX7_power 86 = .ok (.goto (-72), 3) := by decide +kernel
theorem dX7_power_89 : decode cX7_power 89 = .ok (.iload_n 2, 1) := by decide +kernel
theorem dX7_power_90 : decode cX7_power 90 = .ok (.ireturn, 1) := by decide +kernel
theorem dX7_areBelow_0 : decode cX7_areBelow 0 = .ok (.iload_n 1, 1) := by decide +kernel
theorem dX7_areBelow_1 : decode cX7_areBelow 1 = .ok (.iconst 0, 1) := by decide +kernel
theorem dX7_areBelow_2 : decode cX7_areBelow 2 = .ok (.bipush 127, 2) := by decide +kernel
theorem dX7_areBelow_4 : decode cX7_areBelow 4 = .ok (.invokestatic 49, 3) := by decide +kernel
theorem dX7_areBelow_7 : decode cX7_areBelow 7 = .ok (.ifCond .eq 21, 3) := by decide +kernel
theorem dX7_areBelow_10 : decode cX7_areBelow 10 = .ok (.iload_n 1, 1) := by decide +kernel
theorem dX7_areBelow_11 : decode cX7_areBelow 11 = .ok (.aload_n 0, 1) := by decide +kernel
theorem dX7_areBelow_12 : decode cX7_areBelow 12 = .ok (.getfield 23, 3) := by decide +kernel
theorem dX7_areBelow_15 : decode cX7_areBelow 15 = .ok (.bipush 7, 2) := by decide +kernel
theorem dX7_areBelow_17 : decode cX7_areBelow 17 = .ok (.iaload, 1) := by decide +kernel
theorem dX7_areBelow_18 : decode cX7_areBelow 18 = .ok (.iconst (-1), 1) := by decide +kernel
theorem dX7_areBelow_19 : decode cX7_areBelow 19 = .ok (.ixor, 1) := by decide +kernel
theorem dX7_areBelow_20 : decode cX7_areBelow 20 = .ok (.iand, 1) := by decide +kernel
theorem dX7_areBelow_21 : decode cX7_areBelow 21 = .ok (.ifCond .ne 7, 3) := by decide +kernel
theorem dX7_areBelow_24 : decode cX7_areBelow 24 = .ok (.iconst 1, 1) := by decide +kernel
theorem dX7_areBelow_25 : decode cX7_areBelow 25 = .ok (.goto 4, 3) := by decide +kernel
theorem dX7_areBelow_28 : decode cX7_areBelow 28 = .ok (.iconst 0, 1) := by decide +kernel
theorem dX7_areBelow_29 : decode cX7_areBelow 29 = .ok (.ireturn, 1) := by decide +kernel
theorem dX7_held_0 : decode cX7_held 0 = .ok (.aload_n 0, 1) := by decide +kernel
theorem dX7_held_1 : decode cX7_held 1 = .ok (.iload_n 1, 1) := by decide +kernel
theorem dX7_held_2 : decode cX7_held 2 = .ok (.invokevirtual 130, 3) := by decide +kernel
theorem dX7_held_5 : decode cX7_held 5 = .ok (.ifCond .ne 5, 3) := by decide +kernel
theorem dX7_held_8 : decode cX7_held 8 = .ok (.iconst (-1), 1) := by decide +kernel
theorem dX7_held_9 : decode cX7_held 9 = .ok (.ireturn, 1) := by decide +kernel
theorem dX7_held_10 : decode cX7_held 10 = .ok (.iload_n 2, 1) := by decide +kernel
theorem dX7_held_11 : decode cX7_held 11 = .ok (.iconst 0, 1) := by decide +kernel
theorem dX7_held_12 : decode cX7_held 12 = .ok (.iconst 1, 1) := by decide +kernel
theorem dX7_held_13 : decode cX7_held 13 = .ok (.invokestatic 49, 3) := by decide +kernel
theorem dX7_held_16 : decode cX7_held 16 = .ok (.ifCond .ne 6, 3) := by decide +kernel
theorem dX7_held_19 : decode cX7_held 19 = .ok (.bipush (-2), 2) := by decide +kernel
theorem dX7_held_21 : decode cX7_held 21 = .ok (.ireturn, 1) := by decide +kernel
theorem dX7_held_22 : decode cX7_held 22 = .ok (.bipush (-6), 2) := by decide +kernel
theorem dX7_held_24 : decode cX7_held 24 = .ok (.istore_n 3, 1) := by decide +kernel
theorem dX7_held_25 : decode cX7_held 25 = .ok (.iconst 0, 1) := by decide +kernel
theorem dX7_held_26 : decode cX7_held 26 = .ok (.istore 4, 2) := by decide +kernel
theorem dX7_held_28 : decode cX7_held 28 = .ok (.iload 4, 2) := by decide +kernel
theorem dX7_held_30 : decode cX7_held 30 = .ok (.sipush 128, 3) := by decide +kernel
theorem dX7_held_33 : decode cX7_held 33 = .ok (.if_icmp .ge 66, 3) := by decide +kernel
theorem dX7_held_36 : decode cX7_held 36 = .ok (.iload 4, 2) := by decide +kernel
theorem dX7_held_38 : decode cX7_held 38 = .ok (.iload_n 1, 1) := by decide +kernel
theorem dX7_held_39 : decode cX7_held 39 = .ok (.iconst (-1), 1) := by decide +kernel
theorem dX7_held_40 : decode cX7_held 40 = .ok (.ixor, 1) := by decide +kernel
theorem dX7_held_41 : decode cX7_held 41 = .ok (.iand, 1) := by decide +kernel
theorem dX7_held_42 : decode cX7_held 42 = .ok (.ifCond .ne 23, 3) := by decide +kernel
theorem dX7_held_45 : decode cX7_held 45 = .ok (.iload_n 3, 1) := by decide +kernel
theorem dX7_held_46 : decode cX7_held 46 = .ok (.ifCond .lt 15, 3) := by decide +kernel
theorem dX7_held_49 : decode cX7_held 49 = .ok (.iload 4, 2) := by decide +kernel
theorem dX7_held_51 : decode cX7_held 51 = .ok (.invokestatic 60, 3) := by decide +kernel
theorem dX7_held_54 : decode cX7_held 54 = .ok (.iload_n 3, 1) := by decide +kernel
theorem dX7_held_55 : decode cX7_held 55 = .ok (.invokestatic 60, 3) := by decide +kernel
theorem dX7_held_58 : decode cX7_held 58 = .ok (.if_icmp .ge 7, 3) := by decide +kernel
theorem dX7_held_61 : decode cX7_held 61 = .ok (.iconst 1, 1) := by decide +kernel
theorem dX7_held_62 : decode cX7_held 62 = .ok (.goto 4, 3) := by decide +kernel
theorem dX7_held_65 : decode cX7_held 65 = .ok (.iconst 0, 1) := by decide +kernel
theorem dX7_held_66 : decode cX7_held 66 = .ok (.istore 5, 2) := by decide +kernel
theorem dX7_held_68 : decode cX7_held 68 = .ok (.iload 5, 2) := by decide +kernel
theorem dX7_held_70 : decode cX7_held 70 = .ok (.ifCond .eq 21, 3) := by decide +kernel
theorem dX7_held_73 : decode cX7_held 73 = .ok (.aload_n 0, 1) := by decide +kernel
theorem dX7_held_74 : decode cX7_held 74 = .ok (.iload_n 1, 1) := by decide +kernel
theorem dX7_held_75 : decode cX7_held 75 = .ok (.iload 4, 2) := by decide +kernel
theorem dX7_held_77 : decode cX7_held 77 = .ok (.iconst (-1), 1) := by decide +kernel
theorem dX7_held_78 : decode cX7_held 78 = .ok (.ixor, 1) := by decide +kernel
theorem dX7_held_79 : decode cX7_held 79 = .ok (.iand, 1) := by decide +kernel
theorem dX7_held_80 : decode cX7_held 80 = .ok (.invokevirtual 127, 3) := by decide +kernel
theorem dX7_held_83 : decode cX7_held 83 = .ok (.ifCond .ne 8, 3) := by decide +kernel
theorem dX7_held_86 : decode cX7_held 86 = .ok (.iload 4, 2) := by decide +kernel
theorem dX7_held_88 : decode cX7_held 88 = .ok (.goto 4, 3) := by decide +kernel
theorem dX7_held_91 : decode cX7_held 91 = .ok (.iload_n 3, 1) := by decide +kernel
theorem dX7_held_92 : decode cX7_held 92 = .ok (.istore_n 3, 1) := by decide +kernel
theorem dX7_held_93 : decode cX7_held 93 = .ok (.iinc 4 1, 3) := by decide +kernel
theorem dX7_held_96 : decode cX7_held 96 = .ok (.goto (-68), 3) := by decide +kernel
theorem dX7_held_99 : decode cX7_held 99 = .ok (.iload_n 2, 1) := by decide +kernel
theorem dX7_held_100 : decode cX7_held 100 = .ok (.iconst 1, 1) := by decide +kernel
theorem dX7_held_101 : decode cX7_held 101 = .ok (.if_icmp .ne 7, 3) := by decide +kernel
theorem dX7_held_104 : decode cX7_held 104 = .ok (.iload_n 3, 1) := by decide +kernel
theorem dX7_held_105 : decode cX7_held 105 = .ok (.goto 7, 3) := by decide +kernel
theorem dX7_held_108 : decode cX7_held 108 = .ok (.iload_n 3, 1) := by decide +kernel
theorem dX7_held_109 : decode cX7_held 109 = .ok (.invokestatic 60, 3) := by decide +kernel
theorem dX7_held_112 : decode cX7_held 112 = .ok (.ireturn, 1) := by decide +kernel
theorem dX7_hours_0 : decode cX7_hours 0 = .ok (.iload_n 1, 1) := by decide +kernel
theorem dX7_hours_1 : decode cX7_hours 1 = .ok (.iconst 0, 1) := by decide +kernel
theorem dX7_hours_2 : decode cX7_hours 2 = .ok (.iconst 5, 1) := by decide +kernel
theorem dX7_hours_3 : decode cX7_hours 3 = .ok (.invokestatic 49, 3) := by decide +kernel
theorem dX7_hours_6 : decode cX7_hours 6 = .ok (.ifCond .ne 5, 3) := by decide +kernel
theorem dX7_hours_9 : decode cX7_hours 9 = .ok (.iconst (-1), 1) := by decide +kernel
theorem dX7_hours_10 : decode cX7_hours 10 = .ok (.ireturn, 1) := by decide +kernel
theorem dX7_hours_11 : decode cX7_hours 11 = .ok (.iload_n 2, 1) := by decide +kernel
theorem dX7_hours_12 : decode cX7_hours 12 = .ok (.iconst 0, 1) := by decide +kernel
theorem dX7_hours_13 : decode cX7_hours 13 = .ok (.ldc 48, 2) := by decide +kernel
theorem dX7_hours_15 : decode cX7_hours 15 = .ok (.invokestatic 49, 3) := by decide +kernel
theorem dX7_hours_18 : decode cX7_hours 18 = .ok (.ifCond .ne 6, 3) := by decide +kernel
theorem dX7_hours_21 : decode cX7_hours 21 = .ok (.bipush (-2), 2) := by decide +kernel
theorem dX7_hours_23 : decode cX7_hours 23 = .ok (.ireturn, 1) := by decide +kernel
theorem dX7_hours_24 : decode cX7_hours 24 = .ok (.aload_n 0, 1) := by decide +kernel
theorem dX7_hours_25 : decode cX7_hours 25 = .ok (.getfield 17, 3) := by decide +kernel
theorem dX7_hours_28 : decode cX7_hours 28 = .ok (.iload_n 1, 1) := by decide +kernel
theorem dX7_hours_29 : decode cX7_hours 29 = .ok (.iaload, 1) := by decide +kernel
theorem dX7_hours_30 : decode cX7_hours 30 = .ok (.istore_n 3, 1) := by decide +kernel
theorem dX7_hours_31 : decode cX7_hours 31 = .ok (.aload_n 0, 1) := by decide +kernel
theorem dX7_hours_32 : decode cX7_hours 32 = .ok (.getfield 17, 3) := by decide +kernel
theorem dX7_hours_35 : decode cX7_hours 35 = .ok (.iload_n 1, 1) := by decide +kernel
theorem dX7_hours_36 : decode cX7_hours 36 = .ok (.iload_n 2, 1) := by decide +kernel
theorem dX7_hours_37 : decode cX7_hours 37 = .ok (.iastore, 1) := by decide +kernel
theorem dX7_hours_38 : decode cX7_hours 38 = .ok (.iload_n 3, 1) := by decide +kernel
theorem dX7_hours_39 : decode cX7_hours 39 = .ok (.ireturn, 1) := by decide +kernel
theorem dX7_orders_0 : decode cX7_orders 0 = .ok (.iload_n 1, 1) := by decide +kernel
theorem dX7_orders_1 : decode cX7_orders 1 = .ok (.iconst 1, 1) := by decide +kernel
theorem dX7_orders_2 : decode cX7_orders 2 = .ok (.bipush 6, 2) := by decide +kernel
theorem dX7_orders_4 : decode cX7_orders 4 = .ok (.invokestatic 49, 3) := by decide +kernel
theorem dX7_orders_7 : decode cX7_orders 7 = .ok (.ifCond .eq 13, 3) := by decide +kernel
theorem dX7_orders_10 : decode cX7_orders 10 = .ok (.iload_n 2, 1) := by decide +kernel
theorem dX7_orders_11 : decode cX7_orders 11 = .ok (.iconst 0, 1) := by decide +kernel
theorem dX7_orders_12 : decode cX7_orders 12 = .ok (.bipush 23, 2) := by decide +kernel
theorem dX7_orders_14 : decode cX7_orders 14 = .ok (.invokestatic 49, 3) := by decide +kernel
theorem dX7_orders_17 : decode cX7_orders 17 = .ok (.ifCond .ne 6, 3) := by decide +kernel
theorem dX7_orders_20 : decode cX7_orders 20 = .ok (.bipush (-2), 2) := by decide +kernel
theorem dX7_orders_22 : decode cX7_orders 22 = .ok (.ireturn, 1) := by decide +kernel
theorem dX7_orders_23 : decode cX7_orders 23 = .ok (.iconst 1, 1) := by decide +kernel
theorem dX7_orders_24 : decode cX7_orders 24 = .ok (.iload_n 1, 1) := by decide +kernel
theorem dX7_orders_25 : decode cX7_orders 25 = .ok (.ishl, 1) := by decide +kernel
theorem dX7_orders_26 : decode cX7_orders 26 = .ok (.iconst 1, 1) := by decide +kernel
theorem dX7_orders_27 : decode cX7_orders 27 = .ok (.isub, 1) := by decide +kernel
theorem dX7_orders_28 : decode cX7_orders 28 = .ok (.istore_n 3, 1) := by decide +kernel
theorem dX7_orders_29 : decode cX7_orders 29 = .ok (.iconst 0, 1) := by decide +kernel
theorem dX7_orders_30 : decode cX7_orders 30 = .ok (.istore 4, 2) := by decide +kernel
theorem dX7_orders_32 : decode cX7_orders 32 = .ok (.iload 4, 2) := by decide +kernel
theorem dX7_orders_34 : decode cX7_orders 34 = .ok (.iload_n 3, 1) := by decide +kernel
theorem dX7_orders_35 : decode cX7_orders 35 = .ok (.if_icmp .gt 26, 3) := by decide +kernel
theorem dX7_orders_38 : decode cX7_orders 38 = .ok (.aload_n 0, 1) := by decide +kernel
theorem dX7_orders_39 : decode cX7_orders 39 = .ok (.getfield 32, 3) := by decide +kernel
theorem dX7_orders_42 : decode cX7_orders 42 = .ok (.iload 4, 2) := by decide +kernel
theorem dX7_orders_44 : decode cX7_orders 44 = .ok (.iload 4, 2) := by decide +kernel
theorem dX7_orders_46 : decode cX7_orders 46 = .ok (.ifCond .ne 7, 3) := by decide +kernel
theorem dX7_orders_49 : decode cX7_orders 49 = .ok (.iconst 1, 1) := by decide +kernel
theorem dX7_orders_50 : decode cX7_orders 50 = .ok (.goto 4, 3) := by decide +kernel
theorem dX7_orders_53 : decode cX7_orders 53 = .ok (.iconst 0, 1) := by decide +kernel
theorem dX7_orders_54 : decode cX7_orders 54 = .ok (.iastore, 1) := by decide +kernel
theorem dX7_orders_55 : decode cX7_orders 55 = .ok (.iinc 4 1, 3) := by decide +kernel
theorem dX7_orders_58 : decode cX7_orders 58 = .ok (.goto (-26), 3) := by decide +kernel
theorem dX7_orders_61 : decode cX7_orders 61 = .ok (.iconst 0, 1) := by decide +kernel
theorem dX7_orders_62 : decode cX7_orders 62 = .ok (.istore 4, 2) := by decide +kernel
theorem dX7_orders_64 : decode cX7_orders 64 = .ok (.iload 4, 2) := by decide +kernel
theorem dX7_orders_66 : decode cX7_orders 66 = .ok (.iload_n 3, 1) := by decide +kernel
theorem dX7_orders_67 : decode cX7_orders 67 = .ok (.if_icmp .ge 79, 3) := by decide +kernel
theorem dX7_orders_70 : decode cX7_orders 70 = .ok (.iconst 0, 1) := by decide +kernel
theorem dX7_orders_71 : decode cX7_orders 71 = .ok (.istore 5, 2) := by decide +kernel
theorem dX7_orders_73 : decode cX7_orders 73 = .ok (.iload 5, 2) := by decide +kernel
theorem dX7_orders_75 : decode cX7_orders 75 = .ok (.iload_n 1, 1) := by decide +kernel
theorem dX7_orders_76 : decode cX7_orders 76 = .ok (.if_icmp .ge 64, 3) := by decide +kernel
theorem dX7_orders_79 : decode cX7_orders 79 = .ok (.iload 4, 2) := by decide +kernel
theorem dX7_orders_81 : decode cX7_orders 81 = .ok (.iload 5, 2) := by decide +kernel
theorem dX7_orders_83 : decode cX7_orders 83 = .ok (.invokestatic 56, 3) := by decide +kernel
theorem dX7_orders_86 : decode cX7_orders 86 = .ok (.ifCond .ne 48, 3) := by decide +kernel
theorem dX7_orders_89 : decode cX7_orders 89 = .ok (.aload_n 0, 1) := by decide +kernel
theorem dX7_orders_90 : decode cX7_orders 90 = .ok (.getfield 17, 3) := by decide +kernel
theorem dX7_orders_93 : decode cX7_orders 93 = .ok (.iload 5, 2) := by decide +kernel
theorem dX7_orders_95 : decode cX7_orders 95 = .ok (.iaload, 1) := by decide +kernel
theorem dX7_orders_96 : decode cX7_orders 96 = .ok (.iload_n 2, 1) := by decide +kernel
theorem dX7_orders_97 : decode cX7_orders 97 = .ok (.iload 4, 2) := by decide +kernel
theorem dX7_orders_99 : decode cX7_orders 99 = .ok (.invokestatic 60, 3) := by decide +kernel
theorem dX7_orders_102 : decode cX7_orders 102 = .ok (.iadd, 1) := by decide +kernel
theorem dX7_orders_103 : decode cX7_orders 103 = .ok (.bipush 24, 2) := by decide +kernel
theorem dX7_orders_105 : decode cX7_orders 105 = .ok (.irem, 1) := by decide +kernel
theorem dX7_orders_106 : decode cX7_orders 106 = .ok (.invokestatic 56, 3) := by decide +kernel
theorem dX7_orders_109 : decode cX7_orders 109 = .ok (.ifCond .eq 25, 3) := by decide +kernel
theorem dX7_orders_112 : decode cX7_orders 112 = .ok (.aload_n 0, 1) := by decide +kernel
theorem dX7_orders_113 : decode cX7_orders 113 = .ok (.getfield 32, 3) := by decide +kernel
theorem dX7_orders_116 : decode cX7_orders 116 = .ok (.iload 4, 2) := by decide +kernel
theorem dX7_orders_118 : decode cX7_orders 118 = .ok (.iconst 1, 1) := by decide +kernel
theorem dX7_orders_119 : decode cX7_orders 119 = .ok (.iload 5, 2) := by decide +kernel
theorem dX7_orders_121 : decode cX7_orders 121 = .ok (.ishl, 1) := by decide +kernel
theorem dX7_orders_122 : decode cX7_orders 122 = .ok (.ior, 1) := by decide +kernel
theorem dX7_orders_123 : decode cX7_orders 123 = .ok (.dup2, 1) := by decide +kernel
theorem dX7_orders_124 : decode cX7_orders 124 = .ok (.iaload, 1) := by decide +kernel
theorem dX7_orders_125 : decode cX7_orders 125 = .ok (.aload_n 0, 1) := by decide +kernel
theorem dX7_orders_126 : decode cX7_orders 126 = .ok (.getfield 32, 3) := by decide +kernel
theorem dX7_orders_129 : decode cX7_orders 129 = .ok (.iload 4, 2) := by decide +kernel
theorem dX7_orders_131 : decode cX7_orders 131 = .ok (.iaload, 1) := by decide +kernel
theorem dX7_orders_132 : decode cX7_orders 132 = .ok (.iadd, 1) := by decide +kernel
theorem dX7_orders_133 : decode cX7_orders 133 = .ok (.iastore, 1) := by decide +kernel
theorem dX7_orders_134 : decode cX7_orders 134 = .ok (.iinc 5 1, 3) := by decide +kernel
theorem dX7_orders_137 : decode cX7_orders 137 = .ok (.goto (-64), 3) := by decide +kernel
theorem dX7_orders_140 : decode cX7_orders 140 = .ok (.iinc 4 1, 3) := by decide +kernel
theorem dX7_orders_143 : decode cX7_orders 143 = .ok (.goto (-79), 3) := by decide +kernel
theorem dX7_orders_146 : decode cX7_orders 146 = .ok (.aload_n 0, 1) := by decide +kernel
theorem dX7_orders_147 : decode cX7_orders 147 = .ok (.getfield 32, 3) := by decide +kernel
theorem dX7_orders_150 : decode cX7_orders 150 = .ok (.iload_n 3, 1) := by decide +kernel
theorem dX7_orders_151 : decode cX7_orders 151 = .ok (.iaload, 1) := by decide +kernel
theorem dX7_orders_152 : decode cX7_orders 152 = .ok (.ireturn, 1) := by decide +kernel
theorem dX7_seen_0 : decode cX7_seen 0 = .ok (.iload_n 1, 1) := by decide +kernel
theorem dX7_seen_1 : decode cX7_seen 1 = .ok (.iconst 1, 1) := by decide +kernel
theorem dX7_seen_2 : decode cX7_seen 2 = .ok (.bipush 9, 2) := by decide +kernel
theorem dX7_seen_4 : decode cX7_seen 4 = .ok (.invokestatic 49, 3) := by decide +kernel
theorem dX7_seen_7 : decode cX7_seen 7 = .ok (.ifCond .eq 24, 3) := by decide +kernel
theorem dX7_seen_10 : decode cX7_seen 10 = .ok (.iload_n 2, 1) := by decide +kernel
theorem dX7_seen_11 : decode cX7_seen 11 = .ok (.iconst 0, 1) := by decide +kernel
theorem dX7_seen_12 : decode cX7_seen 12 = .ok (.sipush 999, 3) := by decide +kernel
theorem dX7_seen_15 : decode cX7_seen 15 = .ok (.invokestatic 49, 3) := by decide +kernel
theorem dX7_seen_18 : decode cX7_seen 18 = .ok (.ifCond .eq 13, 3) := by decide +kernel
theorem dX7_seen_21 : decode cX7_seen 21 = .ok (.iload_n 3, 1) := by decide +kernel
theorem dX7_seen_22 : decode cX7_seen 22 = .ok (.iconst 0, 1) := by decide +kernel
theorem dX7_seen_23 : decode cX7_seen 23 = .ok (.bipush 9, 2) := by decide +kernel
theorem dX7_seen_25 : decode cX7_seen 25 = .ok (.invokestatic 49, 3) := by decide +kernel
theorem dX7_seen_28 : decode cX7_seen 28 = .ok (.ifCond .ne 6, 3) := by decide +kernel
theorem dX7_seen_31 : decode cX7_seen 31 = .ok (.bipush (-2), 2) := by decide +kernel
theorem dX7_seen_33 : decode cX7_seen 33 = .ok (.ireturn, 1) := by decide +kernel
theorem dX7_seen_34 : decode cX7_seen 34 = .ok (.aload_n 0, 1) := by decide +kernel
theorem dX7_seen_35 : decode cX7_seen 35 = .ok (.getfield 133, 3) := by decide +kernel
theorem dX7_seen_38 : decode cX7_seen 38 = .ok (.bipush 8, 2) := by decide +kernel
theorem dX7_seen_40 : decode cX7_seen 40 = .ok (.if_icmp .ne 6, 3) := by decide +kernel
theorem dX7_seen_43 : decode cX7_seen 43 = .ok (.bipush (-4), 2) := by decide +kernel
theorem dX7_seen_45 : decode cX7_seen 45 = .ok (.ireturn, 1) := by decide +kernel
theorem dX7_seen_46 : decode cX7_seen 46 = .ok (.aload_n 0, 1) := by decide +kernel
theorem dX7_seen_47 : decode cX7_seen 47 = .ok (.getfield 20, 3) := by decide +kernel
theorem dX7_seen_50 : decode cX7_seen 50 = .ok (.iconst 3, 1) := by decide +kernel
theorem dX7_seen_51 : decode cX7_seen 51 = .ok (.aload_n 0, 1) := by decide +kernel
theorem dX7_seen_52 : decode cX7_seen 52 = .ok (.getfield 133, 3) := by decide +kernel
theorem dX7_seen_55 : decode cX7_seen 55 = .ok (.imul, 1) := by decide +kernel
theorem dX7_seen_56 : decode cX7_seen 56 = .ok (.iload_n 1, 1) := by decide +kernel
theorem dX7_seen_57 : decode cX7_seen 57 = .ok (.iastore, 1) := by decide +kernel
theorem dX7_seen_58 : decode cX7_seen 58 = .ok (.aload_n 0, 1) := by decide +kernel
theorem dX7_seen_59 : decode cX7_seen 59 = .ok (.getfield 20, 3) := by decide +kernel
theorem dX7_seen_62 : decode cX7_seen 62 = .ok (.iconst 3, 1) := by decide +kernel
theorem dX7_seen_63 : decode cX7_seen 63 = .ok (.aload_n 0, 1) := by decide +kernel
theorem dX7_seen_64 : decode cX7_seen 64 = .ok (.getfield 133, 3) := by decide +kernel
theorem dX7_seen_67 : decode cX7_seen 67 = .ok (.imul, 1) := by decide +kernel
theorem dX7_seen_68 : decode cX7_seen 68 = .ok (.iconst 1, 1) := by decide +kernel
theorem dX7_seen_69 : decode cX7_seen 69 = .ok (.iadd, 1) := by decide +kernel
theorem dX7_seen_70 : decode cX7_seen 70 = .ok (.iload_n 2, 1) := by decide +kernel
theorem dX7_seen_71 : decode cX7_seen 71 = .ok (.iastore, 1) := by decide +kernel
theorem dX7_seen_72 : decode cX7_seen 72 = .ok (.aload_n 0, 1) := by decide +kernel
theorem dX7_seen_73 : decode cX7_seen 73 = .ok (.getfield 20, 3) := by decide +kernel
theorem dX7_seen_76 : decode cX7_seen 76 = .ok (.iconst 3, 1) := by decide +kernel
theorem dX7_seen_77 : decode cX7_seen 77 = .ok (.aload_n 0, 1) := by decide +kernel
theorem dX7_seen_78 : decode cX7_seen 78 = .ok (.getfield 133, 3) := by decide +kernel
theorem dX7_seen_81 : decode cX7_seen 81 = .ok (.imul, 1) := by decide +kernel
theorem dX7_seen_82 : decode cX7_seen 82 = .ok (.iconst 2, 1) := by decide +kernel
theorem dX7_seen_83 : decode cX7_seen 83 = .ok (.iadd, 1) := by decide +kernel
theorem dX7_seen_84 : decode cX7_seen 84 = .ok (.iload_n 3, 1) := by decide +kernel
theorem dX7_seen_85 : decode cX7_seen 85 = .ok (.iastore, 1) := by decide +kernel
theorem dX7_seen_86 : decode cX7_seen 86 = .ok (.aload_n 0, 1) := by decide +kernel
theorem dX7_seen_87 : decode cX7_seen 87 = .ok (.dup, 1) := by decide +kernel
theorem dX7_seen_88 : decode cX7_seen 88 = .ok (.getfield 133, 3) := by decide +kernel
theorem dX7_seen_91 : decode cX7_seen 91 = .ok (.iconst 1, 1) := by decide +kernel
theorem dX7_seen_92 : decode cX7_seen 92 = .ok (.iadd, 1) := by decide +kernel
theorem dX7_seen_93 : decode cX7_seen 93 = .ok (.putfield 133, 3) := by decide +kernel
theorem dX7_seen_96 : decode cX7_seen 96 = .ok (.aload_n 0, 1) := by decide +kernel
theorem dX7_seen_97 : decode cX7_seen 97 = .ok (.getfield 133, 3) := by decide +kernel
theorem dX7_seen_100 : decode cX7_seen 100 = .ok (.ireturn, 1) := by decide +kernel
theorem dX7_forget_0 : decode cX7_forget 0 = .ok (.aload_n 0, 1) := by decide +kernel
theorem dX7_forget_1 : decode cX7_forget 1 = .ok (.getfield 133, 3) := by decide +kernel
theorem dX7_forget_4 : decode cX7_forget 4 = .ok (.istore_n 1, 1) := by decide +kernel
theorem dX7_forget_5 : decode cX7_forget 5 = .ok (.aload_n 0, 1) := by decide +kernel
theorem dX7_forget_6 : decode cX7_forget 6 = .ok (.iconst 0, 1) := by decide +kernel
theorem dX7_forget_7 : decode cX7_forget 7 = .ok (.putfield 133, 3) := by decide +kernel
theorem dX7_forget_10 : decode cX7_forget 10 = .ok (.iload_n 1, 1) := by decide +kernel
theorem dX7_forget_11 : decode cX7_forget 11 = .ok (.ireturn, 1) := by decide +kernel
theorem dX7_whoseSet_0 : decode cX7_whoseSet 0 = .ok (.aload_n 0, 1) := by decide +kernel
theorem dX7_whoseSet_1 : decode cX7_whoseSet 1 = .ok (.getfield 53, 3) := by decide +kernel
theorem dX7_whoseSet_4 : decode cX7_whoseSet 4 = .ok (.istore_n 1, 1) := by decide +kernel
theorem dX7_whoseSet_5 : decode cX7_whoseSet 5 = .ok (.iconst 0, 1) := by decide +kernel
theorem dX7_whoseSet_6 : decode cX7_whoseSet 6 = .ok (.istore_n 2, 1) := by decide +kernel
theorem dX7_whoseSet_7 : decode cX7_whoseSet 7 = .ok (.iload_n 2, 1) := by decide +kernel
theorem dX7_whoseSet_8 : decode cX7_whoseSet 8 = .ok (.aload_n 0, 1) := by decide +kernel
theorem dX7_whoseSet_9 : decode cX7_whoseSet 9 = .ok (.getfield 133, 3) := by decide +kernel
theorem dX7_whoseSet_12 : decode cX7_whoseSet 12 = .ok (.if_icmp .ge 114, 3) := by decide +kernel
theorem dX7_whoseSet_15 : decode cX7_whoseSet 15 = .ok (.aload_n 0, 1) := by decide +kernel
theorem dX7_whoseSet_16 : decode cX7_whoseSet 16 = .ok (.getfield 20, 3) := by decide +kernel
theorem dX7_whoseSet_19 : decode cX7_whoseSet 19 = .ok (.iconst 3, 1) := by decide +kernel
theorem dX7_whoseSet_20 : decode cX7_whoseSet 20 = .ok (.iload_n 2, 1) := by decide +kernel
theorem dX7_whoseSet_21 : decode cX7_whoseSet 21 = .ok (.imul, 1) := by decide +kernel
theorem dX7_whoseSet_22 : decode cX7_whoseSet 22 = .ok (.iaload, 1) := by decide +kernel
theorem dX7_whoseSet_23 : decode cX7_whoseSet 23 = .ok (.istore_n 3, 1) := by decide +kernel
theorem dX7_whoseSet_24 : decode cX7_whoseSet 24 = .ok (.iconst 0, 1) := by decide +kernel
theorem dX7_whoseSet_25 : decode cX7_whoseSet 25 = .ok (.istore 4, 2) := by decide +kernel
theorem dX7_whoseSet_27 : decode cX7_whoseSet 27 = .ok (.iload 4, 2) := by decide +kernel
theorem dX7_whoseSet_29 : decode cX7_whoseSet 29 = .ok (.bipush 7, 2) := by decide +kernel
theorem dX7_whoseSet_31 : decode cX7_whoseSet 31 = .ok (.if_icmp .ge 89, 3) := by decide +kernel
theorem dX7_whoseSet_34 : decode cX7_whoseSet 34 = .ok (.aload_n 0, 1) := by decide +kernel
theorem dX7_whoseSet_35 : decode cX7_whoseSet 35 = .ok (.getfield 20, 3) := by decide +kernel
theorem dX7_whoseSet_38 : decode cX7_whoseSet 38 = .ok (.iconst 3, 1) := by decide +kernel
theorem dX7_whoseSet_39 : decode cX7_whoseSet 39 = .ok (.iload_n 2, 1) := by decide +kernel
theorem dX7_whoseSet_40 : decode cX7_whoseSet 40 = .ok (.imul, 1) := by decide +kernel
theorem dX7_whoseSet_41 : decode cX7_whoseSet 41 = .ok (.iconst 1, 1) := by decide +kernel
theorem dX7_whoseSet_42 : decode cX7_whoseSet 42 = .ok (.iadd, 1) := by decide +kernel
theorem dX7_whoseSet_43 : decode cX7_whoseSet 43 = .ok (.iaload, 1) := by decide +kernel
theorem dX7_whoseSet_44 : decode cX7_whoseSet 44 = .ok (.aload_n 0, 1) := by decide +kernel
theorem dX7_whoseSet_45 : decode cX7_whoseSet 45 = .ok (.iload_n 3, 1) := by decide +kernel
theorem dX7_whoseSet_46 : decode cX7_whoseSet 46 = .ok (.invokevirtual 78, 3) := by decide +kernel
theorem dX7_whoseSet_49 : decode cX7_whoseSet 49 = .ok (.if_icmp .lt 44, 3) := by decide +kernel
theorem dX7_whoseSet_52 : decode cX7_whoseSet 52 = .ok (.aload_n 0, 1) := by decide +kernel
theorem dX7_whoseSet_53 : decode cX7_whoseSet 53 = .ok (.getfield 7, 3) := by decide +kernel
theorem dX7_whoseSet_56 : decode cX7_whoseSet 56 = .ok (.iload 4, 2) := by decide +kernel
theorem dX7_whoseSet_58 : decode cX7_whoseSet 58 = .ok (.iaload, 1) := by decide +kernel
theorem dX7_whoseSet_59 : decode cX7_whoseSet 59 = .ok (.aload_n 0, 1) := by decide +kernel
theorem dX7_whoseSet_60 : decode cX7_whoseSet 60 = .ok (.iload_n 3, 1) := by decide +kernel
theorem dX7_whoseSet_61 : decode cX7_whoseSet 61 = .ok (.invokevirtual 78, 3) := by decide +kernel
theorem dX7_whoseSet_64 : decode cX7_whoseSet 64 = .ok (.aload_n 0, 1) := by decide +kernel
theorem dX7_whoseSet_65 : decode cX7_whoseSet 65 = .ok (.getfield 23, 3) := by decide +kernel
theorem dX7_whoseSet_68 : decode cX7_whoseSet 68 = .ok (.bipush 9, 2) := by decide +kernel
theorem dX7_whoseSet_70 : decode cX7_whoseSet 70 = .ok (.iaload, 1) := by decide +kernel
theorem dX7_whoseSet_71 : decode cX7_whoseSet 71 = .ok (.imul, 1) := by decide +kernel
theorem dX7_whoseSet_72 : decode cX7_whoseSet 72 = .ok (.iadd, 1) := by decide +kernel
theorem dX7_whoseSet_73 : decode cX7_whoseSet 73 = .ok (.bipush 10, 2) := by decide +kernel
theorem dX7_whoseSet_75 : decode cX7_whoseSet 75 = .ok (.irem, 1) := by decide +kernel
theorem dX7_whoseSet_76 : decode cX7_whoseSet 76 = .ok (.aload_n 0, 1) := by decide +kernel
theorem dX7_whoseSet_77 : decode cX7_whoseSet 77 = .ok (.getfield 20, 3) := by decide +kernel
theorem dX7_whoseSet_80 : decode cX7_whoseSet 80 = .ok (.iconst 3, 1) := by decide +kernel
theorem dX7_whoseSet_81 : decode cX7_whoseSet 81 = .ok (.iload_n 2, 1) := by decide +kernel
theorem dX7_whoseSet_82 : decode cX7_whoseSet 82 = .ok (.imul, 1) := by decide +kernel
theorem dX7_whoseSet_83 : decode cX7_whoseSet 83 = .ok (.iconst 2, 1) := by decide +kernel
theorem dX7_whoseSet_84 : decode cX7_whoseSet 84 = .ok (.iadd, 1) := by decide +kernel
theorem dX7_whoseSet_85 : decode cX7_whoseSet 85 = .ok (.iaload, 1) := by decide +kernel
theorem dX7_whoseSet_86 : decode cX7_whoseSet 86 = .ok (.if_icmp .ne 7, 3) := by decide +kernel
theorem dX7_whoseSet_89 : decode cX7_whoseSet 89 = .ok (.iconst 1, 1) := by decide +kernel
theorem dX7_whoseSet_90 : decode cX7_whoseSet 90 = .ok (.goto 4, 3) := by decide +kernel
theorem dX7_whoseSet_93 : decode cX7_whoseSet 93 = .ok (.iconst 0, 1) := by decide +kernel
theorem dX7_whoseSet_94 : decode cX7_whoseSet 94 = .ok (.istore 5, 2) := by decide +kernel
theorem dX7_whoseSet_96 : decode cX7_whoseSet 96 = .ok (.iload_n 1, 1) := by decide +kernel
theorem dX7_whoseSet_97 : decode cX7_whoseSet 97 = .ok (.iload 5, 2) := by decide +kernel
theorem dX7_whoseSet_99 : decode cX7_whoseSet 99 = .ok (.ifCond .eq 7, 3) := by decide +kernel
theorem dX7_whoseSet_102 : decode cX7_whoseSet 102 = .ok (.iconst (-1), 1) := by decide +kernel
theorem dX7_whoseSet_103 : decode cX7_whoseSet 103 = .ok (.goto 9, 3) := by decide +kernel
theorem dX7_whoseSet_106 : decode cX7_whoseSet 106 = .ok (.iconst 1, 1) := by decide +kernel
theorem dX7_whoseSet_107 : decode cX7_whoseSet 107 = .ok (.iload 4, 2) := by decide +kernel
theorem dX7_whoseSet_109 : decode cX7_whoseSet 109 = .ok (.ishl, 1) := by decide +kernel
theorem dX7_whoseSet_110 : decode cX7_whoseSet 110 = .ok (.iconst (-1), 1) := by decide +kernel
theorem dX7_whoseSet_111 : decode cX7_whoseSet 111 = .ok (.ixor, 1) := by decide +kernel
theorem dX7_whoseSet_112 : decode cX7_whoseSet 112 = .ok (.iand, 1) := by decide +kernel
theorem dX7_whoseSet_113 : decode cX7_whoseSet 113 = .ok (.istore_n 1, 1) := by decide +kernel
theorem dX7_whoseSet_114 : decode cX7_whoseSet 114 = .ok (.iinc 4 1, 3) := by decide +kernel
theorem dX7_whoseSet_117 : decode cX7_whoseSet 117 = .ok (.goto (-90), 3) := by decide +kernel
theorem dX7_whoseSet_120 : decode cX7_whoseSet 120 = .ok (.iinc 2 1, 3) := by decide +kernel
theorem dX7_whoseSet_123 : decode cX7_whoseSet 123 = .ok (.goto (-116), 3) := by decide +kernel
theorem dX7_whoseSet_126 : decode cX7_whoseSet 126 = .ok (.iload_n 1, 1) := by decide +kernel
theorem dX7_whoseSet_127 : decode cX7_whoseSet 127 = .ok (.ireturn, 1) := by decide +kernel
theorem dX7_whose_0 : decode cX7_whose 0 = .ok (.aload_n 0, 1) := by decide +kernel
theorem dX7_whose_1 : decode cX7_whose 1 = .ok (.invokevirtual 136, 3) := by decide +kernel
theorem dX7_whose_4 : decode cX7_whose 4 = .ok (.ireturn, 1) := by decide +kernel
theorem dX7_alike_0 : decode cX7_alike 0 = .ok (.aload_n 0, 1) := by decide +kernel
theorem dX7_alike_1 : decode cX7_alike 1 = .ok (.invokevirtual 136, 3) := by decide +kernel
theorem dX7_alike_4 : decode cX7_alike 4 = .ok (.istore_n 2, 1) := by decide +kernel
theorem dX7_alike_5 : decode cX7_alike 5 = .ok (.iconst 0, 1) := by decide +kernel
theorem dX7_alike_6 : decode cX7_alike 6 = .ok (.istore_n 3, 1) := by decide +kernel
theorem dX7_alike_7 : decode cX7_alike 7 = .ok (.iconst 0, 1) := by decide +kernel
theorem dX7_alike_8 : decode cX7_alike 8 = .ok (.istore 4, 2) := by decide +kernel
theorem dX7_alike_10 : decode cX7_alike 10 = .ok (.iload 4, 2) := by decide +kernel
theorem dX7_alike_12 : decode cX7_alike 12 = .ok (.bipush 7, 2) := by decide +kernel
theorem dX7_alike_14 : decode cX7_alike 14 = .ok (.if_icmp .ge 80, 3) := by decide +kernel
theorem dX7_alike_17 : decode cX7_alike 17 = .ok (.iload 4, 2) := by decide +kernel
theorem dX7_alike_19 : decode cX7_alike 19 = .ok (.iconst 1, 1) := by decide +kernel
theorem dX7_alike_20 : decode cX7_alike 20 = .ok (.iadd, 1) := by decide +kernel
theorem dX7_alike_21 : decode cX7_alike 21 = .ok (.istore 5, 2) := by decide +kernel
theorem dX7_alike_23 : decode cX7_alike 23 = .ok (.iload 5, 2) := by decide +kernel
theorem dX7_alike_25 : decode cX7_alike 25 = .ok (.bipush 7, 2) := by decide +kernel
theorem dX7_alike_27 : decode cX7_alike 27 = .ok (.if_icmp .ge 61, 3) := by decide +kernel
theorem dX7_alike_30 : decode cX7_alike 30 = .ok (.iload_n 2, 1) := by decide +kernel
theorem dX7_alike_31 : decode cX7_alike 31 = .ok (.iload 4, 2) := by decide +kernel
theorem dX7_alike_33 : decode cX7_alike 33 = .ok (.invokestatic 56, 3) := by decide +kernel
theorem dX7_alike_36 : decode cX7_alike 36 = .ok (.ifCond .eq 46, 3) := by decide +kernel
theorem dX7_alike_39 : decode cX7_alike 39 = .ok (.iload_n 2, 1) := by decide +kernel
theorem dX7_alike_40 : decode cX7_alike 40 = .ok (.iload 5, 2) := by decide +kernel
theorem dX7_alike_42 : decode cX7_alike 42 = .ok (.invokestatic 56, 3) := by decide +kernel
theorem dX7_alike_45 : decode cX7_alike 45 = .ok (.ifCond .eq 37, 3) := by decide +kernel
theorem dX7_alike_48 : decode cX7_alike 48 = .ok (.aload_n 0, 1) := by decide +kernel
theorem dX7_alike_49 : decode cX7_alike 49 = .ok (.getfield 7, 3) := by decide +kernel
theorem dX7_alike_52 : decode cX7_alike 52 = .ok (.iload 4, 2) := by decide +kernel
theorem dX7_alike_54 : decode cX7_alike 54 = .ok (.iaload, 1) := by decide +kernel
theorem dX7_alike_55 : decode cX7_alike 55 = .ok (.aload_n 0, 1) := by decide +kernel
theorem dX7_alike_56 : decode cX7_alike 56 = .ok (.getfield 7, 3) := by decide +kernel
theorem dX7_alike_59 : decode cX7_alike 59 = .ok (.iload 5, 2) := by decide +kernel
theorem dX7_alike_61 : decode cX7_alike 61 = .ok (.iaload, 1) := by decide +kernel
theorem dX7_alike_62 : decode cX7_alike 62 = .ok (.if_icmp .ne 20, 3) := by decide +kernel
theorem dX7_alike_65 : decode cX7_alike 65 = .ok (.iload_n 3, 1) := by decide +kernel
theorem dX7_alike_66 : decode cX7_alike 66 = .ok (.iload_n 1, 1) := by decide +kernel
theorem dX7_alike_67 : decode cX7_alike 67 = .ok (.if_icmp .ne 12, 3) := by decide +kernel
theorem dX7_alike_70 : decode cX7_alike 70 = .ok (.bipush 10, 2) := by decide +kernel
theorem dX7_alike_72 : decode cX7_alike 72 = .ok (.iload 4, 2) := by decide +kernel
theorem dX7_alike_74 : decode cX7_alike 74 = .ok (.imul, 1) := by decide +kernel
theorem dX7_alike_75 : decode cX7_alike 75 = .ok (.iload 5, 2) := by decide +kernel
theorem dX7_alike_77 : decode cX7_alike 77 = .ok (.iadd, 1) := by decide +kernel
theorem dX7_alike_78 : decode cX7_alike 78 = .ok (.ireturn, 1) := by decide +kernel
theorem dX7_alike_79 : decode cX7_alike 79 = .ok (.iinc 3 1, 3) := by decide +kernel
theorem dX7_alike_82 : decode cX7_alike 82 = .ok (.iinc 5 1, 3) := by decide +kernel
theorem dX7_alike_85 : decode cX7_alike 85 = .ok (.goto (-62), 3) := by decide +kernel
theorem dX7_alike_88 : decode cX7_alike 88 = .ok (.iinc 4 1, 3) := by decide +kernel
theorem dX7_alike_91 : decode cX7_alike 91 = .ok (.goto (-81), 3) := by decide +kernel
theorem dX7_alike_94 : decode cX7_alike 94 = .ok (.iload_n 1, 1) := by decide +kernel
theorem dX7_alike_95 : decode cX7_alike 95 = .ok (.iconst (-1), 1) := by decide +kernel
theorem dX7_alike_96 : decode cX7_alike 96 = .ok (.if_icmp .ne 7, 3) := by decide +kernel
theorem dX7_alike_99 : decode cX7_alike 99 = .ok (.iload_n 3, 1) := by decide +kernel
theorem dX7_alike_100 : decode cX7_alike 100 = .ok (.goto 5, 3) := by decide +kernel
theorem dX7_alike_103 : decode cX7_alike 103 = .ok (.bipush (-6), 2) := by decide +kernel
theorem dX7_alike_105 : decode cX7_alike 105 = .ok (.ireturn, 1) := by decide +kernel
theorem dX7_over_0 : decode cX7_over 0 = .ok (.iconst 0, 1) := by decide +kernel
theorem dX7_over_1 : decode cX7_over 1 = .ok (.istore 5, 2) := by decide +kernel
theorem dX7_over_3 : decode cX7_over 3 = .ok (.iconst 0, 1) := by decide +kernel
theorem dX7_over_4 : decode cX7_over 4 = .ok (.istore 6, 2) := by decide +kernel
theorem dX7_over_6 : decode cX7_over 6 = .ok (.iload 6, 2) := by decide +kernel
theorem dX7_over_8 : decode cX7_over 8 = .ok (.bipush 7, 2) := by decide +kernel
theorem dX7_over_10 : decode cX7_over 10 = .ok (.if_icmp .ge 51, 3) := by decide +kernel
theorem dX7_over_13 : decode cX7_over 13 = .ok (.iload 5, 2) := by decide +kernel
theorem dX7_over_15 : decode cX7_over 15 = .ok (.iload_n 1, 1) := by decide +kernel
theorem dX7_over_16 : decode cX7_over 16 = .ok (.iload 6, 2) := by decide +kernel
theorem dX7_over_18 : decode cX7_over 18 = .ok (.invokestatic 56, 3) := by decide +kernel
theorem dX7_over_21 : decode cX7_over 21 = .ok (.ifCond .eq 30, 3) := by decide +kernel
theorem dX7_over_24 : decode cX7_over 24 = .ok (.aload_n 0, 1) := by decide +kernel
theorem dX7_over_25 : decode cX7_over 25 = .ok (.getfield 23, 3) := by decide +kernel
theorem dX7_over_28 : decode cX7_over 28 = .ok (.iload 6, 2) := by decide +kernel
theorem dX7_over_30 : decode cX7_over 30 = .ok (.iaload, 1) := by decide +kernel
theorem dX7_over_31 : decode cX7_over 31 = .ok (.iload 6, 2) := by decide +kernel
theorem dX7_over_33 : decode cX7_over 33 = .ok (.iload_n 3, 1) := by decide +kernel
theorem dX7_over_34 : decode cX7_over 34 = .ok (.if_icmp .ne 8, 3) := by decide +kernel
theorem dX7_over_37 : decode cX7_over 37 = .ok (.iload 4, 2) := by decide +kernel
theorem dX7_over_39 : decode cX7_over 39 = .ok (.goto 4, 3) := by decide +kernel
theorem dX7_over_42 : decode cX7_over 42 = .ok (.iconst 0, 1) := by decide +kernel
theorem dX7_over_43 : decode cX7_over 43 = .ok (.isub, 1) := by decide +kernel
theorem dX7_over_44 : decode cX7_over 44 = .ok (.iload_n 2, 1) := by decide +kernel
theorem dX7_over_45 : decode cX7_over 45 = .ok (.iconst 1, 1) := by decide +kernel
theorem dX7_over_46 : decode cX7_over 46 = .ok (.iadd, 1) := by decide +kernel
theorem dX7_over_47 : decode cX7_over 47 = .ok (.irem, 1) := by decide +kernel
theorem dX7_over_48 : decode cX7_over 48 = .ok (.goto 4, 3) := by decide +kernel
theorem dX7_over_51 : decode cX7_over 51 = .ok (.iconst 0, 1) := by decide +kernel
theorem dX7_over_52 : decode cX7_over 52 = .ok (.ixor, 1) := by decide +kernel
theorem dX7_over_53 : decode cX7_over 53 = .ok (.istore 5, 2) := by decide +kernel
theorem dX7_over_55 : decode cX7_over 55 = .ok (.iinc 6 1, 3) := by decide +kernel
theorem dX7_over_58 : decode cX7_over 58 = .ok (.goto (-52), 3) := by decide +kernel
theorem dX7_over_61 : decode cX7_over 61 = .ok (.iload 5, 2) := by decide +kernel
theorem dX7_over_63 : decode cX7_over 63 = .ok (.ireturn, 1) := by decide +kernel
theorem dX7_filibuster_0 : decode cX7_filibuster 0 = .ok (.aload_n 0, 1) := by decide +kernel
theorem dX7_filibuster_1 : decode cX7_filibuster 1 = .ok (.iload_n 1, 1) := by decide +kernel
theorem dX7_filibuster_2 : decode cX7_filibuster 2 = .ok (.invokevirtual 130, 3) := by decide +kernel
theorem dX7_filibuster_5 : decode cX7_filibuster 5 = .ok (.ifCond .ne 5, 3) := by decide +kernel
theorem dX7_filibuster_8 : decode cX7_filibuster 8 = .ok (.iconst (-1), 1) := by decide +kernel
theorem dX7_filibuster_9 : decode cX7_filibuster 9 = .ok (.ireturn, 1) := by decide +kernel
theorem dX7_filibuster_10 : decode cX7_filibuster 10 = .ok (.iload_n 2, 1) := by decide +kernel
theorem dX7_filibuster_11 : decode cX7_filibuster 11 = .ok (.iconst 1, 1) := by decide +kernel
theorem dX7_filibuster_12 : decode cX7_filibuster 12 = .ok (.bipush 9, 2) := by decide +kernel
theorem dX7_filibuster_14 : decode cX7_filibuster 14 = .ok (.invokestatic 49, 3) := by decide +kernel
theorem dX7_filibuster_17 : decode cX7_filibuster 17 = .ok (.ifCond .eq 12, 3) := by decide +kernel
theorem dX7_filibuster_20 : decode cX7_filibuster 20 = .ok (.iload_n 3, 1) := by decide +kernel
theorem dX7_filibuster_21 : decode cX7_filibuster 21 = .ok (.iconst 0, 1) := by decide +kernel
theorem dX7_filibuster_22 : decode cX7_filibuster 22 = .ok (.iconst 2, 1) := by decide +kernel
theorem dX7_filibuster_23 : decode cX7_filibuster 23 = .ok (.invokestatic 49, 3) := by decide +kernel
theorem dX7_filibuster_26 : decode cX7_filibuster 26 = .ok (.ifCond .ne 6, 3) := by decide +kernel
theorem dX7_filibuster_29 : decode cX7_filibuster 29 = .ok (.bipush (-2), 2) := by decide +kernel
theorem dX7_filibuster_31 : decode cX7_filibuster 31 = .ok (.ireturn, 1) := by decide +kernel
theorem dX7_filibuster_32 : decode cX7_filibuster 32 = .ok (.aload_n 0, 1) := by decide +kernel
theorem dX7_filibuster_33 : decode cX7_filibuster 33 = .ok (.iload_n 1, 1) := by decide +kernel
theorem dX7_filibuster_34 : decode cX7_filibuster 34 = .ok (.iload_n 2, 1) := by decide +kernel
theorem dX7_filibuster_35 : decode cX7_filibuster 35 = .ok (.bipush (-6), 2) := by decide +kernel
theorem dX7_filibuster_37 : decode cX7_filibuster 37 = .ok (.iconst 0, 1) := by decide +kernel
theorem dX7_filibuster_38 : decode cX7_filibuster 38 = .ok (.invokevirtual 139, 3) := by decide +kernel
theorem dX7_filibuster_41 : decode cX7_filibuster 41 = .ok (.ifCond .eq 7, 3) := by decide +kernel
theorem dX7_filibuster_44 : decode cX7_filibuster 44 = .ok (.iconst 1, 1) := by decide +kernel
theorem dX7_filibuster_45 : decode cX7_filibuster 45 = .ok (.goto 4, 3) := by decide +kernel
theorem dX7_filibuster_48 : decode cX7_filibuster 48 = .ok (.iconst 0, 1) := by decide +kernel
theorem dX7_filibuster_49 : decode cX7_filibuster 49 = .ok (.istore 4, 2) := by decide +kernel
theorem dX7_filibuster_51 : decode cX7_filibuster 51 = .ok (.iload_n 3, 1) := by decide +kernel
theorem dX7_filibuster_52 : decode cX7_filibuster 52 = .ok (.ifCond .ne 14, 3) := by decide +kernel
theorem dX7_filibuster_55 : decode cX7_filibuster 55 = .ok (.iload 4, 2) := by decide +kernel
theorem dX7_filibuster_57 : decode cX7_filibuster 57 = .ok (.ifCond .eq 7, 3) := by decide +kernel
theorem dX7_filibuster_60 : decode cX7_filibuster 60 = .ok (.iconst 0, 1) := by decide +kernel
theorem dX7_filibuster_61 : decode cX7_filibuster 61 = .ok (.goto 4, 3) := by decide +kernel
theorem dX7_filibuster_64 : decode cX7_filibuster 64 = .ok (.iconst 1, 1) := by decide +kernel
theorem dX7_filibuster_65 : decode cX7_filibuster 65 = .ok (.ireturn, 1) := by decide +kernel
theorem dX7_filibuster_66 : decode cX7_filibuster 66 = .ok (.iconst 0, 1) := by decide +kernel
theorem dX7_filibuster_67 : decode cX7_filibuster 67 = .ok (.istore 5, 2) := by decide +kernel
theorem dX7_filibuster_69 : decode cX7_filibuster 69 = .ok (.iload 5, 2) := by decide +kernel
theorem dX7_filibuster_71 : decode cX7_filibuster 71 = .ok (.bipush 7, 2) := by decide +kernel
theorem dX7_filibuster_73 : decode cX7_filibuster 73 = .ok (.if_icmp .ge 76, 3) := by decide +kernel
theorem dX7_filibuster_76 : decode cX7_filibuster 76 = .ok (.iload 4, 2) := by decide +kernel
theorem dX7_filibuster_78 : decode cX7_filibuster 78 = .ok (.ifCond .eq 71, 3) := by decide +kernel
theorem dX7_filibuster_81 : decode cX7_filibuster 81 = .ok (.iconst 1, 1) := by decide +kernel
theorem dX7_filibuster_82 : decode cX7_filibuster 82 = .ok (.istore 6, 2) := by decide +kernel
theorem dX7_filibuster_84 : decode cX7_filibuster 84 = .ok (.iload 6, 2) := by decide +kernel
theorem dX7_filibuster_86 : decode cX7_filibuster 86 = .ok (.iload_n 2, 1) := by decide +kernel
theorem dX7_filibuster_87 : decode cX7_filibuster 87 = .ok (.if_icmp .gt 56, 3) := by decide +kernel
theorem dX7_filibuster_90 : decode cX7_filibuster 90 = .ok (.iload_n 1, 1) := by decide +kernel
theorem dX7_filibuster_91 : decode cX7_filibuster 91 = .ok (.iload 5, 2) := by decide +kernel
theorem dX7_filibuster_93 : decode cX7_filibuster 93 = .ok (.invokestatic 56, 3) := by decide +kernel
theorem dX7_filibuster_96 : decode cX7_filibuster 96 = .ok (.ifCond .eq 47, 3) := by decide +kernel
theorem dX7_filibuster_99 : decode cX7_filibuster 99 = .ok (.iload 6, 2) := by decide +kernel
theorem dX7_filibuster_101 : decode cX7_filibuster 101 = .ok (.aload_n 0, 1) := by decide +kernel
theorem dX7_filibuster_102 : decode cX7_filibuster 102 = .ok (.getfield 23, 3) := by decide +kernel
theorem dX7_filibuster_105 : decode cX7_filibuster 105 = .ok (.iload 5, 2) := by decide +kernel
theorem dX7_filibuster_107 : decode cX7_filibuster 107 = .ok (.iaload, 1) := by decide +kernel
theorem dX7_filibuster_108 : decode cX7_filibuster 108 = .ok (.if_icmp .gt 35, 3) := by decide +kernel
theorem dX7_filibuster_111 : decode cX7_filibuster 111 = .ok (.aload_n 0, 1) := by decide +kernel
theorem dX7_filibuster_112 : decode cX7_filibuster 112 = .ok (.iload_n 1, 1) := by decide +kernel
theorem dX7_filibuster_113 : decode cX7_filibuster 113 = .ok (.iload_n 2, 1) := by decide +kernel
theorem dX7_filibuster_114 : decode cX7_filibuster 114 = .ok (.iload 5, 2) := by decide +kernel
theorem dX7_filibuster_116 : decode cX7_filibuster 116 = .ok (.iload 6, 2) := by decide +kernel
theorem dX7_filibuster_118 : decode cX7_filibuster 118 = .ok (.invokevirtual 139, 3) := by decide +kernel
theorem dX7_filibuster_121 : decode cX7_filibuster 121 = .ok (.ifCond .ne 16, 3) := by decide +kernel
theorem dX7_filibuster_124 : decode cX7_filibuster 124 = .ok (.iload_n 3, 1) := by decide +kernel
theorem dX7_filibuster_125 : decode cX7_filibuster 125 = .ok (.iconst 1, 1) := by decide +kernel
theorem dX7_filibuster_126 : decode cX7_filibuster 126 = .ok (.if_icmp .ne 8, 3) := by decide +kernel
theorem dX7_filibuster_129 : decode cX7_filibuster 129 = .ok (.iload 5, 2) := by decide +kernel
theorem dX7_filibuster_131 : decode cX7_filibuster 131 = .ok (.goto 5, 3) := by decide +kernel
theorem dX7_filibuster_134 : decode cX7_filibuster 134 = .ok (.iload 6, 2) := by decide +kernel
theorem dX7_filibuster_136 : decode cX7_filibuster 136 = .ok (.ireturn, 1) := by decide +kernel
theorem dX7_filibuster_137 : decode cX7_filibuster 137 = .ok (.iinc 6 1, 3) := by decide +kernel
theorem dX7_filibuster_140 : decode cX7_filibuster 140 = .ok (.goto (-56), 3) := by decide +kernel
theorem dX7_filibuster_143 : decode cX7_filibuster 143 = .ok (.iinc 5 1, 3) := by decide +kernel
theorem dX7_filibuster_146 : decode cX7_filibuster 146 = .ok (.goto (-77), 3) := by decide +kernel
theorem dX7_filibuster_149 : decode cX7_filibuster 149 = .ok (.bipush (-6), 2) := by decide +kernel
theorem dX7_filibuster_151 : decode cX7_filibuster 151 = .ok (.ireturn, 1) := by decide +kernel
theorem dX7_breakAll_0 : decode cX7_breakAll 0 = .ok (.iconst 1, 1) := by decide +kernel
theorem dX7_breakAll_1 : decode cX7_breakAll 1 = .ok (.istore_n 1, 1) := by decide +kernel
theorem dX7_breakAll_2 : decode cX7_breakAll 2 = .ok (.iload_n 1, 1) := by decide +kernel
theorem dX7_breakAll_3 : decode cX7_breakAll 3 = .ok (.bipush 10, 2) := by decide +kernel
theorem dX7_breakAll_5 : decode cX7_breakAll 5 = .ok (.if_icmp .ge 16, 3) := by decide +kernel
theorem dX7_breakAll_8 : decode cX7_breakAll 8 = .ok (.aload_n 0, 1) := by decide +kernel
theorem dX7_breakAll_9 : decode cX7_breakAll 9 = .ok (.getfield 38, 3) := by decide +kernel
theorem dX7_breakAll_12 : decode cX7_breakAll 12 = .ok (.iload_n 1, 1) := by decide +kernel
theorem dX7_breakAll_13 : decode cX7_breakAll 13 = .ok (.iconst 0, 1) := by decide +kernel
theorem dX7_breakAll_14 : decode cX7_breakAll 14 = .ok (.iastore, 1) := by decide +kernel
theorem dX7_breakAll_15 : decode cX7_breakAll 15 = .ok (.iinc 1 1, 3) := by decide +kernel
theorem dX7_breakAll_18 : decode cX7_breakAll 18 = .ok (.goto (-16), 3) := by decide +kernel
theorem dX7_breakAll_21 : decode cX7_breakAll 21 = .ok (.iconst 1, 1) := by decide +kernel
theorem dX7_breakAll_22 : decode cX7_breakAll 22 = .ok (.istore_n 1, 1) := by decide +kernel
theorem dX7_breakAll_23 : decode cX7_breakAll 23 = .ok (.iload_n 1, 1) := by decide +kernel
theorem dX7_breakAll_24 : decode cX7_breakAll 24 = .ok (.bipush 10, 2) := by decide +kernel
theorem dX7_breakAll_26 : decode cX7_breakAll 26 = .ok (.if_icmp .ge 54, 3) := by decide +kernel
theorem dX7_breakAll_29 : decode cX7_breakAll 29 = .ok (.aload_n 0, 1) := by decide +kernel
theorem dX7_breakAll_30 : decode cX7_breakAll 30 = .ok (.getfield 38, 3) := by decide +kernel
theorem dX7_breakAll_33 : decode cX7_breakAll 33 = .ok (.iload_n 1, 1) := by decide +kernel
theorem dX7_breakAll_34 : decode cX7_breakAll 34 = .ok (.iconst 2, 1) := by decide +kernel
theorem dX7_breakAll_35 : decode cX7_breakAll 35 = .ok (.idiv, 1) := by decide +kernel
theorem dX7_breakAll_36 : decode cX7_breakAll 36 = .ok (.dup2, 1) := by decide +kernel
theorem dX7_breakAll_37 : decode cX7_breakAll 37 = .ok (.iaload, 1) := by decide +kernel
theorem dX7_breakAll_38 : decode cX7_breakAll 38 = .ok (.iload_n 1, 1) := by decide +kernel
theorem dX7_breakAll_39 : decode cX7_breakAll 39 = .ok (.iconst 1, 1) := by decide +kernel
theorem dX7_breakAll_40 : decode cX7_breakAll 40 = .ok (.if_icmp .ne 7, 3) := by decide +kernel
theorem dX7_breakAll_43 : decode cX7_breakAll 43 = .ok (.iconst 0, 1) := by decide +kernel
theorem dX7_breakAll_44 : decode cX7_breakAll 44 = .ok (.goto 9, 3) := by decide +kernel
theorem dX7_breakAll_47 : decode cX7_breakAll 47 = .ok (.aload_n 0, 1) := by decide +kernel
theorem dX7_breakAll_48 : decode cX7_breakAll 48 = .ok (.getfield 35, 3) := by decide +kernel
theorem dX7_breakAll_51 : decode cX7_breakAll 51 = .ok (.iload_n 1, 1) := by decide +kernel
theorem dX7_breakAll_52 : decode cX7_breakAll 52 = .ok (.iaload, 1) := by decide +kernel
theorem dX7_breakAll_53 : decode cX7_breakAll 53 = .ok (.iadd, 1) := by decide +kernel
theorem dX7_breakAll_54 : decode cX7_breakAll 54 = .ok (.iastore, 1) := by decide +kernel
theorem dX7_breakAll_55 : decode cX7_breakAll 55 = .ok (.aload_n 0, 1) := by decide +kernel
theorem dX7_breakAll_56 : decode cX7_breakAll 56 = .ok (.getfield 38, 3) := by decide +kernel
theorem dX7_breakAll_59 : decode cX7_breakAll 59 = .ok (.iload_n 1, 1) := by decide +kernel
theorem dX7_breakAll_60 : decode cX7_breakAll 60 = .ok (.iload_n 1, 1) := by decide +kernel
theorem dX7_breakAll_61 : decode cX7_breakAll 61 = .ok (.iconst 2, 1) := by decide +kernel
theorem dX7_breakAll_62 : decode cX7_breakAll 62 = .ok (.idiv, 1) := by decide +kernel
theorem dX7_breakAll_63 : decode cX7_breakAll 63 = .ok (.isub, 1) := by decide +kernel
theorem dX7_breakAll_64 : decode cX7_breakAll 64 = .ok (.dup2, 1) := by decide +kernel
theorem dX7_breakAll_65 : decode cX7_breakAll 65 = .ok (.iaload, 1) := by decide +kernel
theorem dX7_breakAll_66 : decode cX7_breakAll 66 = .ok (.aload_n 0, 1) := by decide +kernel
theorem dX7_breakAll_67 : decode cX7_breakAll 67 = .ok (.getfield 35, 3) := by decide +kernel
theorem dX7_breakAll_70 : decode cX7_breakAll 70 = .ok (.iload_n 1, 1) := by decide +kernel
theorem dX7_breakAll_71 : decode cX7_breakAll 71 = .ok (.iaload, 1) := by decide +kernel
theorem dX7_breakAll_72 : decode cX7_breakAll 72 = .ok (.iadd, 1) := by decide +kernel
theorem dX7_breakAll_73 : decode cX7_breakAll 73 = .ok (.iastore, 1) := by decide +kernel
theorem dX7_breakAll_74 : decode cX7_breakAll 74 = .ok (.iinc 1 1, 3) := by decide +kernel
theorem dX7_breakAll_77 : decode cX7_breakAll 77 = .ok (.goto (-54), 3) := by decide +kernel
theorem dX7_breakAll_80 : decode cX7_breakAll 80 = .ok (.iconst 1, 1) := by decide +kernel
theorem dX7_breakAll_81 : decode cX7_breakAll 81 = .ok (.istore_n 1, 1) := by decide +kernel
theorem dX7_breakAll_82 : decode cX7_breakAll 82 = .ok (.iload_n 1, 1) := by decide +kernel
theorem dX7_breakAll_83 : decode cX7_breakAll 83 = .ok (.bipush 10, 2) := by decide +kernel
theorem dX7_breakAll_85 : decode cX7_breakAll 85 = .ok (.if_icmp .ge 21, 3) := by decide +kernel
theorem dX7_breakAll_88 : decode cX7_breakAll 88 = .ok (.aload_n 0, 1) := by decide +kernel
theorem dX7_breakAll_89 : decode cX7_breakAll 89 = .ok (.getfield 35, 3) := by decide +kernel
theorem dX7_breakAll_92 : decode cX7_breakAll 92 = .ok (.iload_n 1, 1) := by decide +kernel
theorem dX7_breakAll_93 : decode cX7_breakAll 93 = .ok (.aload_n 0, 1) := by decide +kernel
theorem dX7_breakAll_94 : decode cX7_breakAll 94 = .ok (.getfield 38, 3) := by decide +kernel
theorem dX7_breakAll_97 : decode cX7_breakAll 97 = .ok (.iload_n 1, 1) := by decide +kernel
theorem dX7_breakAll_98 : decode cX7_breakAll 98 = .ok (.iaload, 1) := by decide +kernel
theorem dX7_breakAll_99 : decode cX7_breakAll 99 = .ok (.iastore, 1) := by decide +kernel
theorem dX7_breakAll_100 : decode cX7_breakAll 100 = .ok (.iinc 1 1, 3) := by decide +kernel
theorem dX7_breakAll_103 : decode cX7_breakAll 103 = .ok (.goto (-21), 3) := by decide +kernel
theorem dX7_breakAll_106 : decode cX7_breakAll 106 = .ok (.return_, 1) := by decide +kernel
theorem dX7_count_0 : decode cX7_count 0 = .ok (.iconst 0, 1) := by decide +kernel
theorem dX7_count_1 : decode cX7_count 1 = .ok (.istore_n 1, 1) := by decide +kernel
theorem dX7_count_2 : decode cX7_count 2 = .ok (.iconst 1, 1) := by decide +kernel
theorem dX7_count_3 : decode cX7_count 3 = .ok (.istore_n 2, 1) := by decide +kernel
theorem dX7_count_4 : decode cX7_count 4 = .ok (.iload_n 2, 1) := by decide +kernel
theorem dX7_count_5 : decode cX7_count 5 = .ok (.bipush 10, 2) := by decide +kernel
theorem dX7_count_7 : decode cX7_count 7 = .ok (.if_icmp .ge 18, 3) := by decide +kernel
theorem dX7_count_10 : decode cX7_count 10 = .ok (.iload_n 1, 1) := by decide +kernel
theorem dX7_count_11 : decode cX7_count 11 = .ok (.aload_n 0, 1) := by decide +kernel
theorem dX7_count_12 : decode cX7_count 12 = .ok (.getfield 35, 3) := by decide +kernel
theorem dX7_count_15 : decode cX7_count 15 = .ok (.iload_n 2, 1) := by decide +kernel
theorem dX7_count_16 : decode cX7_count 16 = .ok (.iaload, 1) := by decide +kernel
theorem dX7_count_17 : decode cX7_count 17 = .ok (.iadd, 1) := by decide +kernel
theorem dX7_count_18 : decode cX7_count 18 = .ok (.istore_n 1, 1) := by decide +kernel
theorem dX7_count_19 : decode cX7_count 19 = .ok (.iinc 2 1, 3) := by decide +kernel
theorem dX7_count_22 : decode cX7_count 22 = .ok (.goto (-18), 3) := by decide +kernel
theorem dX7_count_25 : decode cX7_count 25 = .ok (.iload_n 1, 1) := by decide +kernel
theorem dX7_count_26 : decode cX7_count 26 = .ok (.ireturn, 1) := by decide +kernel
theorem dX7_breaks_0 : decode cX7_breaks 0 = .ok (.iload_n 1, 1) := by decide +kernel
theorem dX7_breaks_1 : decode cX7_breaks 1 = .ok (.iconst 1, 1) := by decide +kernel
theorem dX7_breaks_2 : decode cX7_breaks 2 = .ok (.bipush 9, 2) := by decide +kernel
theorem dX7_breaks_4 : decode cX7_breaks 4 = .ok (.invokestatic 49, 3) := by decide +kernel
theorem dX7_breaks_7 : decode cX7_breaks 7 = .ok (.ifCond .eq 43, 3) := by decide +kernel
theorem dX7_breaks_10 : decode cX7_breaks 10 = .ok (.iload_n 2, 1) := by decide +kernel
theorem dX7_breaks_11 : decode cX7_breaks 11 = .ok (.iconst 0, 1) := by decide +kernel
theorem dX7_breaks_12 : decode cX7_breaks 12 = .ok (.bipush 6, 2) := by decide +kernel
theorem dX7_breaks_14 : decode cX7_breaks 14 = .ok (.invokestatic 49, 3) := by decide +kernel
theorem dX7_breaks_17 : decode cX7_breaks 17 = .ok (.ifCond .eq 33, 3) := by decide +kernel
theorem dX7_breaks_20 : decode cX7_breaks 20 = .ok (.iload_n 3, 1) := by decide +kernel
theorem dX7_breaks_21 : decode cX7_breaks 21 = .ok (.iconst 0, 1) := by decide +kernel
theorem dX7_breaks_22 : decode cX7_breaks 22 = .ok (.bipush 10, 2) := by decide +kernel
theorem dX7_breaks_24 : decode cX7_breaks 24 = .ok (.invokestatic 49, 3) := by decide +kernel
theorem dX7_breaks_27 : decode cX7_breaks 27 = .ok (.ifCond .eq 23, 3) := by decide +kernel
theorem dX7_breaks_30 : decode cX7_breaks 30 = .ok (.iload 4, 2) := by decide +kernel
theorem dX7_breaks_32 : decode cX7_breaks 32 = .ok (.iconst 0, 1) := by decide +kernel
theorem dX7_breaks_33 : decode cX7_breaks 33 = .ok (.iconst 1, 1) := by decide +kernel
theorem dX7_breaks_34 : decode cX7_breaks 34 = .ok (.invokestatic 49, 3) := by decide +kernel
theorem dX7_breaks_37 : decode cX7_breaks 37 = .ok (.ifCond .eq 13, 3) := by decide +kernel
theorem dX7_breaks_40 : decode cX7_breaks 40 = .ok (.iload 5, 2) := by decide +kernel
theorem dX7_breaks_42 : decode cX7_breaks 42 = .ok (.iconst 0, 1) := by decide +kernel
theorem dX7_breaks_43 : decode cX7_breaks 43 = .ok (.iconst 1, 1) := by decide +kernel
theorem dX7_breaks_44 : decode cX7_breaks 44 = .ok (.invokestatic 49, 3) := by decide +kernel
theorem dX7_breaks_47 : decode cX7_breaks 47 = .ok (.ifCond .ne 7, 3) := by decide +kernel
theorem dX7_breaks_50 : decode cX7_breaks 50 = .ok (.ldc2_w 142, 3) := by decide +kernel
theorem dX7_breaks_53 : decode cX7_breaks 53 = .ok (.lreturn, 1) := by decide +kernel
theorem dX7_breaks_54 : decode cX7_breaks 54 = .ok (.lconst 0, 1) := by decide +kernel
theorem dX7_breaks_55 : decode cX7_breaks 55 = .ok (.lstore 6, 2) := by decide +kernel
theorem dX7_breaks_57 : decode cX7_breaks 57 = .ok (.lconst 1, 1) := by decide +kernel
theorem dX7_breaks_58 : decode cX7_breaks 58 = .ok (.lstore 8, 2) := by decide +kernel
theorem dX7_breaks_60 : decode cX7_breaks 60 = .ok (.iconst 0, 1) := by decide +kernel
theorem dX7_breaks_61 : decode cX7_breaks 61 = .ok (.istore 10, 2) := by decide +kernel
theorem dX7_breaks_63 : decode cX7_breaks 63 = .ok (.iload 10, 2) := by decide +kernel
theorem dX7_breaks_65 : decode cX7_breaks 65 = .ok (.iload_n 2, 1) := by decide +kernel
theorem dX7_breaks_66 : decode cX7_breaks 66 = .ok (.if_icmp .ge 17, 3) := by decide +kernel
theorem dX7_breaks_69 : decode cX7_breaks 69 = .ok (.lload 8, 2) := by decide +kernel
theorem dX7_breaks_71 : decode cX7_breaks 71 = .ok (.ldc2_w 144, 3) := by decide +kernel
theorem dX7_breaks_74 : decode cX7_breaks 74 = .ok (.lmul, 1) := by decide +kernel
theorem dX7_breaks_75 : decode cX7_breaks 75 = .ok (.lstore 8, 2) := by decide +kernel
theorem dX7_breaks_77 : decode cX7_breaks 77 = .ok (.iinc 10 1, 3) := by decide +kernel
theorem dX7_breaks_80 : decode cX7_breaks 80 = .ok (.goto (-17), 3) := by decide +kernel
theorem dX7_breaks_83 : decode cX7_breaks 83 = .ok (.iconst 0, 1) := by decide +kernel
theorem dX7_breaks_84 : decode cX7_breaks 84 = .ok (.istore 10, 2) := by decide +kernel
theorem dX7_breaks_86 : decode cX7_breaks 86 = .ok (.iload 10, 2) := by decide +kernel
theorem dX7_breaks_88 : decode cX7_breaks 88 = .ok (.iconst 1, 1) := by decide +kernel
theorem dX7_breaks_89 : decode cX7_breaks 89 = .ok (.iload_n 2, 1) := by decide +kernel
theorem dX7_breaks_90 : decode cX7_breaks 90 = .ok (.ishl, 1) := by decide +kernel
theorem dX7_breaks_91 : decode cX7_breaks 91 = .ok (.if_icmp .ge 140, 3) := by decide +kernel
theorem dX7_breaks_94 : decode cX7_breaks 94 = .ok (.lconst 1, 1) := by decide +kernel
theorem dX7_breaks_95 : decode cX7_breaks 95 = .ok (.lstore 11, 2) := by decide +kernel
theorem dX7_breaks_97 : decode cX7_breaks 97 = .ok (.iconst 1, 1) := by decide +kernel
theorem dX7_breaks_98 : decode cX7_breaks 98 = .ok (.istore 13, 2) := by decide +kernel
theorem dX7_breaks_100 : decode cX7_breaks 100 = .ok (.iload 13, 2) := by decide +kernel
theorem dX7_breaks_102 : decode cX7_breaks 102 = .ok (.bipush 10, 2) := by decide +kernel
theorem dX7_breaks_104 : decode cX7_breaks 104 = .ok (.if_icmp .ge 27, 3) := by decide +kernel
theorem dX7_breaks_107 : decode cX7_breaks 107 = .ok (.aload_n 0, 1) := by decide +kernel
theorem dX7_breaks_108 : decode cX7_breaks 108 = .ok (.getfield 35, 3) := by decide +kernel
theorem dX7_breaks_111 : decode cX7_breaks 111 = .ok (.iload 13, 2) := by decide +kernel
theorem dX7_breaks_113 : decode cX7_breaks 113 = .ok (.iload 13, 2) := by decide +kernel
theorem dX7_breaks_115 : decode cX7_breaks 115 = .ok (.iload_n 1, 1) := by decide +kernel
theorem dX7_breaks_116 : decode cX7_breaks 116 = .ok (.if_icmp .ne 7, 3) := by decide +kernel
theorem dX7_breaks_119 : decode cX7_breaks 119 = .ok (.iconst 1, 1) := by decide +kernel
theorem dX7_breaks_120 : decode cX7_breaks 120 = .ok (.goto 4, 3) := by decide +kernel
theorem dX7_breaks_123 : decode cX7_breaks 123 = .ok (.iconst 0, 1) := by decide +kernel
theorem dX7_breaks_124 : decode cX7_breaks 124 = .ok (.iastore, 1) := by decide +kernel
theorem dX7_breaks_125 : decode cX7_breaks 125 = .ok (.iinc 13 1, 3) := by decide +kernel
theorem dX7_breaks_128 : decode cX7_breaks 128 = .ok (.goto (-28), 3) := by decide +kernel
theorem dX7_breaks_131 : decode cX7_breaks 131 = .ok (.iconst 0, 1) := by decide +kernel
theorem dX7_breaks_132 : decode cX7_breaks 132 = .ok (.istore 13, 2) := by decide +kernel
theorem dX7_breaks_134 : decode cX7_breaks 134 = .ok (.iload 13, 2) := by decide +kernel
theorem dX7_breaks_136 : decode cX7_breaks 136 = .ok (.iload_n 2, 1) := by decide +kernel
theorem dX7_breaks_137 : decode cX7_breaks 137 = .ok (.if_icmp .ge 48, 3) := by decide +kernel
theorem dX7_breaks_140 : decode cX7_breaks 140 = .ok (.lload 11, 2) := by decide +kernel
theorem dX7_breaks_142 : decode cX7_breaks 142 = .ok (.iload 10, 2) := by decide +kernel
theorem dX7_breaks_144 : decode cX7_breaks 144 = .ok (.iload 13, 2) := by decide +kernel
theorem dX7_breaks_146 : decode cX7_breaks 146 = .ok (.invokestatic 56, 3) := by decide +kernel
theorem dX7_breaks_149 : decode cX7_breaks 149 = .ok (.ifCond .eq 8, 3) := by decide +kernel
theorem dX7_breaks_152 : decode cX7_breaks 152 = .ok (.iload_n 3, 1) := by decide +kernel
theorem dX7_breaks_153 : decode cX7_breaks 153 = .ok (.i2l, 1) := by decide +kernel
theorem dX7_breaks_154 : decode cX7_breaks 154 = .ok (.goto 8, 3) := by decide +kernel
theorem dX7_breaks_157 : decode cX7_breaks 157 = .ok (.bipush 10, 2) := by decide +kernel
theorem dX7_breaks_159 : decode cX7_breaks 159 = .ok (.iload_n 3, 1) := by decide +kernel
theorem dX7_breaks_160 : decode cX7_breaks 160 = .ok (.isub, 1) := by decide +kernel
theorem dX7_breaks_161 : decode cX7_breaks 161 = .ok (.i2l, 1) := by decide +kernel
theorem dX7_breaks_162 : decode cX7_breaks 162 = .ok (.lmul, 1) := by decide +kernel
theorem dX7_breaks_163 : decode cX7_breaks 163 = .ok (.lstore 11, 2) := by decide +kernel
theorem dX7_breaks_165 : decode cX7_breaks 165 = .ok (.iload 10, 2) := by decide +kernel
theorem dX7_breaks_167 : decode cX7_breaks 167 = .ok (.iload 13, 2) := by decide +kernel
theorem dX7_breaks_169 : decode cX7_breaks 169 = .ok (.invokestatic 56, 3) := by decide +kernel
theorem dX7_breaks_172 : decode cX7_breaks 172 = .ok (.ifCond .eq 7, 3) := by decide +kernel
theorem dX7_breaks_175 : decode cX7_breaks 175 = .ok (.aload_n 0, 1) := by decide +kernel
theorem dX7_breaks_176 : decode cX7_breaks 176 = .ok (.invokevirtual 146, 3) := by decide +kernel
theorem dX7_breaks_179 : decode cX7_breaks 179 = .ok (.iinc 13 1, 3) := by decide +kernel
theorem dX7_breaks_182 : decode cX7_breaks 182 = .ok (.goto (-48), 3) := by decide +kernel
theorem dX7_breaks_185 : decode cX7_breaks 185 = .ok (.lload 6, 2) := by decide +kernel
theorem dX7_breaks_187 : decode cX7_breaks 187 = .ok (.iload 4, 2) := by decide +kernel
theorem dX7_breaks_189 : decode cX7_breaks 189 = .ok (.ifCond .ne 14, 3) := by decide +kernel
theorem dX7_breaks_192 : decode cX7_breaks 192 = .ok (.lload 11, 2) := by decide +kernel
theorem dX7_breaks_194 : decode cX7_breaks 194 = .ok (.aload_n 0, 1) := by decide +kernel
theorem dX7_breaks_195 : decode cX7_breaks 195 = .ok (.invokevirtual 149, 3) := by decide +kernel
theorem dX7_breaks_198 : decode cX7_breaks 198 = .ok (.i2l, 1) := by decide +kernel
theorem dX7_breaks_199 : decode cX7_breaks 199 = .ok (.lmul, 1) := by decide +kernel
theorem dX7_breaks_200 : decode cX7_breaks 200 = .ok (.goto 22, 3) := by decide +kernel
theorem dX7_breaks_203 : decode cX7_breaks 203 = .ok (.aload_n 0, 1) := by decide +kernel
theorem dX7_breaks_204 : decode cX7_breaks 204 = .ok (.invokevirtual 149, 3) := by decide +kernel
theorem dX7_breaks_207 : decode cX7_breaks 207 = .ok (.aload_n 0, 1) := by decide +kernel
theorem dX7_breaks_208 : decode cX7_breaks 208 = .ok (.getfield 35, 3) := by decide +kernel
theorem dX7_breaks_211 : decode cX7_breaks 211 = .ok (.iconst 1, 1) := by decide +kernel
theorem dX7_breaks_212 : decode cX7_breaks 212 = .ok (.iaload, 1) := by decide +kernel
theorem dX7_breaks_213 : decode cX7_breaks 213 = .ok (.if_icmp .ne 8, 3) := by decide +kernel
theorem dX7_breaks_216 : decode cX7_breaks 216 = .ok (.lload 11, 2) := by decide +kernel
theorem dX7_breaks_218 : decode cX7_breaks 218 = .ok (.goto 4, 3) := by decide +kernel
theorem dX7_breaks_221 : decode cX7_breaks 221 = .ok (.lconst 0, 1) := by decide +kernel
theorem dX7_breaks_222 : decode cX7_breaks 222 = .ok (.ladd, 1) := by decide +kernel
theorem dX7_breaks_223 : decode cX7_breaks 223 = .ok (.lstore 6, 2) := by decide +kernel
theorem dX7_breaks_225 : decode cX7_breaks 225 = .ok (.iinc 10 1, 3) := by decide +kernel
theorem dX7_breaks_228 : decode cX7_breaks 228 = .ok (.goto (-142), 3) := by decide +kernel
theorem dX7_breaks_231 : decode cX7_breaks 231 = .ok (.lload 6, 2) := by decide +kernel
theorem dX7_breaks_233 : decode cX7_breaks 233 = .ok (.lstore 10, 2) := by decide +kernel
theorem dX7_breaks_235 : decode cX7_breaks 235 = .ok (.lload 8, 2) := by decide +kernel
theorem dX7_breaks_237 : decode cX7_breaks 237 = .ok (.lstore 12, 2) := by decide +kernel
theorem dX7_breaks_239 : decode cX7_breaks 239 = .ok (.lload 12, 2) := by decide +kernel
theorem dX7_breaks_241 : decode cX7_breaks 241 = .ok (.lconst 0, 1) := by decide +kernel
theorem dX7_breaks_242 : decode cX7_breaks 242 = .ok (.lcmp, 1) := by decide +kernel
theorem dX7_breaks_243 : decode cX7_breaks 243 = .ok (.ifCond .eq 21, 3) := by decide +kernel
theorem dX7_breaks_246 : decode cX7_breaks 246 = .ok (.lload 10, 2) := by decide +kernel
theorem dX7_breaks_248 : decode cX7_breaks 248 = .ok (.lload 12, 2) := by decide +kernel
theorem dX7_breaks_250 : decode cX7_breaks 250 = .ok (.lrem, 1) := by decide +kernel
theorem dX7_breaks_251 : decode cX7_breaks 251 = .ok (.lstore 14, 2) := by decide +kernel
theorem dX7_breaks_253 : decode cX7_breaks 253 = .ok (.lload 12, 2) := by decide +kernel
theorem dX7_breaks_255 : decode cX7_breaks 255 = .ok (.lstore 10, 2) := by decide +kernel
theorem dX7_breaks_257 : decode cX7_breaks 257 = .ok (.lload 14, 2) := by decide +kernel
theorem dX7_breaks_259 : decode cX7_breaks 259 = .ok (.lstore 12, 2) := by decide +kernel
theorem dX7_breaks_261 : decode cX7_breaks 261 = .ok (.goto (-22), 3) := by decide +kernel
theorem dX7_breaks_264 : decode cX7_breaks 264 = .ok (.iload 5, 2) := by decide +kernel
theorem dX7_breaks_266 : decode cX7_breaks 266 = .ok (.ifCond .ne 11, 3) := by decide +kernel
theorem dX7_breaks_269 : decode cX7_breaks 269 = .ok (.lload 6, 2) := by decide +kernel
theorem dX7_breaks_271 : decode cX7_breaks 271 = .ok (.lload 10, 2) := by decide +kernel
theorem dX7_breaks_273 : decode cX7_breaks 273 = .ok (.ldiv, 1) := by decide +kernel
theorem dX7_breaks_274 : decode cX7_breaks 274 = .ok (.goto 8, 3) := by decide +kernel
theorem dX7_breaks_277 : decode cX7_breaks 277 = .ok (.lload 8, 2) := by decide +kernel
theorem dX7_breaks_279 : decode cX7_breaks 279 = .ok (.lload 10, 2) := by decide +kernel
theorem dX7_breaks_281 : decode cX7_breaks 281 = .ok (.ldiv, 1) := by decide +kernel
theorem dX7_breaks_282 : decode cX7_breaks 282 = .ok (.lreturn, 1) := by decide +kernel
theorem dX7_day_0 : decode cX7_day 0 = .ok (.iload_n 1, 1) := by decide +kernel
theorem dX7_day_1 : decode cX7_day 1 = .ok (.iconst 0, 1) := by decide +kernel
theorem dX7_day_2 : decode cX7_day 2 = .ok (.sipush 9999, 3) := by decide +kernel
theorem dX7_day_5 : decode cX7_day 5 = .ok (.invokestatic 49, 3) := by decide +kernel
theorem dX7_day_8 : decode cX7_day 8 = .ok (.ifCond .eq 22, 3) := by decide +kernel
theorem dX7_day_11 : decode cX7_day 11 = .ok (.iload_n 2, 1) := by decide +kernel
theorem dX7_day_12 : decode cX7_day 12 = .ok (.iconst 1, 1) := by decide +kernel
theorem dX7_day_13 : decode cX7_day 13 = .ok (.bipush 99, 2) := by decide +kernel
theorem dX7_day_15 : decode cX7_day 15 = .ok (.invokestatic 49, 3) := by decide +kernel
theorem dX7_day_18 : decode cX7_day 18 = .ok (.ifCond .eq 12, 3) := by decide +kernel
theorem dX7_day_21 : decode cX7_day 21 = .ok (.iload_n 3, 1) := by decide +kernel
theorem dX7_day_22 : decode cX7_day 22 = .ok (.iconst 0, 1) := by decide +kernel
theorem dX7_day_23 : decode cX7_day 23 = .ok (.iconst 2, 1) := by decide +kernel
theorem dX7_day_24 : decode cX7_day 24 = .ok (.invokestatic 49, 3) := by decide +kernel
theorem dX7_day_27 : decode cX7_day 27 = .ok (.ifCond .ne 6, 3) := by decide +kernel
theorem dX7_day_30 : decode cX7_day 30 = .ok (.bipush (-2), 2) := by decide +kernel
theorem dX7_day_32 : decode cX7_day 32 = .ok (.ireturn, 1) := by decide +kernel
theorem dX7_day_33 : decode cX7_day 33 = .ok (.aload_n 0, 1) := by decide +kernel
theorem dX7_day_34 : decode cX7_day 34 = .ok (.invokevirtual 81, 3) := by decide +kernel
theorem dX7_day_37 : decode cX7_day 37 = .ok (.iload_n 1, 1) := by decide +kernel
theorem dX7_day_38 : decode cX7_day 38 = .ok (.istore 4, 2) := by decide +kernel
theorem dX7_day_40 : decode cX7_day 40 = .ok (.iconst 0, 1) := by decide +kernel
theorem dX7_day_41 : decode cX7_day 41 = .ok (.istore 5, 2) := by decide +kernel
theorem dX7_day_43 : decode cX7_day 43 = .ok (.iload 5, 2) := by decide +kernel
theorem dX7_day_45 : decode cX7_day 45 = .ok (.iload_n 2, 1) := by decide +kernel
theorem dX7_day_46 : decode cX7_day 46 = .ok (.if_icmp .ge 108, 3) := by decide +kernel
theorem dX7_day_49 : decode cX7_day 49 = .ok (.bipush 75, 2) := by decide +kernel
theorem dX7_day_51 : decode cX7_day 51 = .ok (.iload 4, 2) := by decide +kernel
theorem dX7_day_53 : decode cX7_day 53 = .ok (.imul, 1) := by decide +kernel
theorem dX7_day_54 : decode cX7_day 54 = .ok (.bipush 74, 2) := by decide +kernel
theorem dX7_day_56 : decode cX7_day 56 = .ok (.iadd, 1) := by decide +kernel
theorem dX7_day_57 : decode cX7_day 57 = .ok (.ldc 152, 2) := by decide +kernel
theorem dX7_day_59 : decode cX7_day 59 = .ok (.irem, 1) := by decide +kernel
theorem dX7_day_60 : decode cX7_day 60 = .ok (.istore 4, 2) := by decide +kernel
theorem dX7_day_62 : decode cX7_day 62 = .ok (.iload 4, 2) := by decide +kernel
theorem dX7_day_64 : decode cX7_day 64 = .ok (.bipush 8, 2) := by decide +kernel
theorem dX7_day_66 : decode cX7_day 66 = .ok (.irem, 1) := by decide +kernel
theorem dX7_day_67 : decode cX7_day 67 = .ok (.istore 6, 2) := by decide +kernel
theorem dX7_day_69 : decode cX7_day 69 = .ok (.iload 4, 2) := by decide +kernel
theorem dX7_day_71 : decode cX7_day 71 = .ok (.bipush 8, 2) := by decide +kernel
theorem dX7_day_73 : decode cX7_day 73 = .ok (.idiv, 1) := by decide +kernel
theorem dX7_day_74 : decode cX7_day 74 = .ok (.bipush 7, 2) := by decide +kernel
theorem dX7_day_76 : decode cX7_day 76 = .ok (.irem, 1) := by decide +kernel
theorem dX7_day_77 : decode cX7_day 77 = .ok (.istore 7, 2) := by decide +kernel
theorem dX7_day_79 : decode cX7_day 79 = .ok (.iconst 1, 1) := by decide +kernel
theorem dX7_day_80 : decode cX7_day 80 = .ok (.iload 4, 2) := by decide +kernel
theorem dX7_day_82 : decode cX7_day 82 = .ok (.bipush 64, 2) := by decide +kernel
theorem dX7_day_84 : decode cX7_day 84 = .ok (.idiv, 1) := by decide +kernel
theorem dX7_day_85 : decode cX7_day 85 = .ok (.bipush 9, 2) := by decide +kernel
theorem dX7_day_87 : decode cX7_day 87 = .ok (.irem, 1) := by decide +kernel
theorem dX7_day_88 : decode cX7_day 88 = .ok (.iadd, 1) := by decide +kernel
theorem dX7_day_89 : decode cX7_day 89 = .ok (.istore 8, 2) := by decide +kernel
theorem dX7_day_91 : decode cX7_day 91 = .ok (.iload 6, 2) := by decide +kernel
theorem dX7_day_93 : decode cX7_day 93 = .ok (.iconst 3, 1) := by decide +kernel
theorem dX7_day_94 : decode cX7_day 94 = .ok (.if_icmp .ge 11, 3) := by decide +kernel
theorem dX7_day_97 : decode cX7_day 97 = .ok (.aload_n 0, 1) := by decide +kernel
theorem dX7_day_98 : decode cX7_day 98 = .ok (.invokevirtual 90, 3) := by decide +kernel
theorem dX7_day_101 : decode cX7_day 101 = .ok (.pop, 1) := by decide +kernel
theorem dX7_day_102 : decode cX7_day 102 = .ok (.goto 46, 3) := by decide +kernel
theorem dX7_day_105 : decode cX7_day 105 = .ok (.iload 6, 2) := by decide +kernel
theorem dX7_day_107 : decode cX7_day 107 = .ok (.iconst 3, 1) := by decide +kernel
theorem dX7_day_108 : decode cX7_day 108 = .ok (.if_icmp .ne 21, 3) := by decide +kernel
theorem dX7_day_111 : decode cX7_day 111 = .ok (.aload_n 0, 1) := by decide +kernel
theorem dX7_day_112 : decode cX7_day 112 = .ok (.getfield 26, 3) := by decide +kernel
theorem dX7_day_115 : decode cX7_day 115 = .ok (.bipush 9, 2) := by decide +kernel
theorem dX7_day_117 : decode cX7_day 117 = .ok (.iload 4, 2) := by decide +kernel
theorem dX7_day_119 : decode cX7_day 119 = .ok (.bipush 8, 2) := by decide +kernel
theorem dX7_day_121 : decode cX7_day 121 = .ok (.idiv, 1) := by decide +kernel
theorem dX7_day_122 : decode cX7_day 122 = .ok (.bipush 10, 2) := by decide +kernel
theorem dX7_day_124 : decode cX7_day 124 = .ok (.irem, 1) := by decide +kernel
theorem dX7_day_125 : decode cX7_day 125 = .ok (.iastore, 1) := by decide +kernel
theorem dX7_day_126 : decode cX7_day 126 = .ok (.goto 22, 3) := by decide +kernel
theorem dX7_day_129 : decode cX7_day 129 = .ok (.aload_n 0, 1) := by decide +kernel
theorem dX7_day_130 : decode cX7_day 130 = .ok (.iload 7, 2) := by decide +kernel
theorem dX7_day_132 : decode cX7_day 132 = .ok (.iload 8, 2) := by decide +kernel
theorem dX7_day_134 : decode cX7_day 134 = .ok (.invokevirtual 93, 3) := by decide +kernel
theorem dX7_day_137 : decode cX7_day 137 = .ok (.ifCond .ne 11, 3) := by decide +kernel
theorem dX7_day_140 : decode cX7_day 140 = .ok (.aload_n 0, 1) := by decide +kernel
theorem dX7_day_141 : decode cX7_day 141 = .ok (.iload 7, 2) := by decide +kernel
theorem dX7_day_143 : decode cX7_day 143 = .ok (.iload 8, 2) := by decide +kernel
theorem dX7_day_145 : decode cX7_day 145 = .ok (.invokevirtual 97, 3) := by decide +kernel
theorem dX7_day_148 : decode cX7_day 148 = .ok (.iinc 5 1, 3) := by decide +kernel
theorem dX7_day_151 : decode cX7_day 151 = .ok (.goto (-108), 3) := by decide +kernel
theorem dX7_day_154 : decode cX7_day 154 = .ok (.iconst 0, 1) := by decide +kernel
theorem dX7_day_155 : decode cX7_day 155 = .ok (.istore 5, 2) := by decide +kernel
theorem dX7_day_157 : decode cX7_day 157 = .ok (.iconst 0, 1) := by decide +kernel
theorem dX7_day_158 : decode cX7_day 158 = .ok (.istore 6, 2) := by decide +kernel
theorem dX7_day_160 : decode cX7_day 160 = .ok (.iload 6, 2) := by decide +kernel
theorem dX7_day_162 : decode cX7_day 162 = .ok (.bipush 7, 2) := by decide +kernel
theorem dX7_day_164 : decode cX7_day 164 = .ok (.if_icmp .ge 40, 3) := by decide +kernel
theorem dX7_day_167 : decode cX7_day 167 = .ok (.iload 5, 2) := by decide +kernel
theorem dX7_day_169 : decode cX7_day 169 = .ok (.aload_n 0, 1) := by decide +kernel
theorem dX7_day_170 : decode cX7_day 170 = .ok (.getfield 26, 3) := by decide +kernel
theorem dX7_day_173 : decode cX7_day 173 = .ok (.bipush 7, 2) := by decide +kernel
theorem dX7_day_175 : decode cX7_day 175 = .ok (.iaload, 1) := by decide +kernel
theorem dX7_day_176 : decode cX7_day 176 = .ok (.iload 6, 2) := by decide +kernel
theorem dX7_day_178 : decode cX7_day 178 = .ok (.invokestatic 56, 3) := by decide +kernel
theorem dX7_day_181 : decode cX7_day 181 = .ok (.ifCond .eq 13, 3) := by decide +kernel
theorem dX7_day_184 : decode cX7_day 184 = .ok (.aload_n 0, 1) := by decide +kernel
theorem dX7_day_185 : decode cX7_day 185 = .ok (.getfield 26, 3) := by decide +kernel
theorem dX7_day_188 : decode cX7_day 188 = .ok (.iload 6, 2) := by decide +kernel
theorem dX7_day_190 : decode cX7_day 190 = .ok (.iaload, 1) := by decide +kernel
theorem dX7_day_191 : decode cX7_day 191 = .ok (.goto 4, 3) := by decide +kernel
theorem dX7_day_194 : decode cX7_day 194 = .ok (.iconst 0, 1) := by decide +kernel
theorem dX7_day_195 : decode cX7_day 195 = .ok (.iadd, 1) := by decide +kernel
theorem dX7_day_196 : decode cX7_day 196 = .ok (.istore 5, 2) := by decide +kernel
theorem dX7_day_198 : decode cX7_day 198 = .ok (.iinc 6 1, 3) := by decide +kernel
theorem dX7_day_201 : decode cX7_day 201 = .ok (.goto (-41), 3) := by decide +kernel
theorem dX7_day_204 : decode cX7_day 204 = .ok (.iload_n 3, 1) := by decide +kernel
theorem dX7_day_205 : decode cX7_day 205 = .ok (.ifCond .ne 13, 3) := by decide +kernel
theorem dX7_day_208 : decode cX7_day 208 = .ok (.aload_n 0, 1) := by decide +kernel
theorem dX7_day_209 : decode cX7_day 209 = .ok (.getfield 26, 3) := by decide +kernel
theorem dX7_day_212 : decode cX7_day 212 = .ok (.bipush 10, 2) := by decide +kernel
theorem dX7_day_214 : decode cX7_day 214 = .ok (.iaload, 1) := by decide +kernel
theorem dX7_day_215 : decode cX7_day 215 = .ok (.goto 23, 3) := by decide +kernel
theorem dX7_day_218 : decode cX7_day 218 = .ok (.iload_n 3, 1) := by decide +kernel
theorem dX7_day_219 : decode cX7_day 219 = .ok (.iconst 1, 1) := by decide +kernel
theorem dX7_day_220 : decode cX7_day 220 = .ok (.if_icmp .ne 8, 3) := by decide +kernel
theorem dX7_day_223 : decode cX7_day 223 = .ok (.iload 5, 2) := by decide +kernel
theorem dX7_day_225 : decode cX7_day 225 = .ok (.goto 13, 3) := by decide +kernel
theorem dX7_day_228 : decode cX7_day 228 = .ok (.aload_n 0, 1) := by decide +kernel
theorem dX7_day_229 : decode cX7_day 229 = .ok (.getfield 26, 3) := by decide +kernel
theorem dX7_day_232 : decode cX7_day 232 = .ok (.bipush 7, 2) := by decide +kernel
theorem dX7_day_234 : decode cX7_day 234 = .ok (.iaload, 1) := by decide +kernel
theorem dX7_day_235 : decode cX7_day 235 = .ok (.invokestatic 60, 3) := by decide +kernel
theorem dX7_day_238 : decode cX7_day 238 = .ok (.ireturn, 1) := by decide +kernel
theorem dX7_image_0 : decode cX7_image 0 = .ok (.iload_n 1, 1) := by decide +kernel
theorem dX7_image_1 : decode cX7_image 1 = .ok (.iconst 0, 1) := by decide +kernel
theorem dX7_image_2 : decode cX7_image 2 = .ok (.iconst 1, 1) := by decide +kernel
theorem dX7_image_3 : decode cX7_image 3 = .ok (.invokestatic 49, 3) := by decide +kernel
theorem dX7_image_6 : decode cX7_image 6 = .ok (.ifCond .ne 6, 3) := by decide +kernel
theorem dX7_image_9 : decode cX7_image 9 = .ok (.bipush (-2), 2) := by decide +kernel
theorem dX7_image_11 : decode cX7_image 11 = .ok (.ireturn, 1) := by decide +kernel
theorem dX7_image_12 : decode cX7_image 12 = .ok (.sipush 150, 3) := by decide +kernel
theorem dX7_image_15 : decode cX7_image 15 = .ok (.iload_n 1, 1) := by decide +kernel
theorem dX7_image_16 : decode cX7_image 16 = .ok (.imul, 1) := by decide +kernel
theorem dX7_image_17 : decode cX7_image 17 = .ok (.istore_n 2, 1) := by decide +kernel
theorem dX7_image_18 : decode cX7_image 18 = .ok (.iconst 0, 1) := by decide +kernel
theorem dX7_image_19 : decode cX7_image 19 = .ok (.istore_n 3, 1) := by decide +kernel
theorem dX7_image_20 : decode cX7_image 20 = .ok (.iload_n 3, 1) := by decide +kernel
theorem dX7_image_21 : decode cX7_image 21 = .ok (.bipush 107, 2) := by decide +kernel
theorem dX7_image_23 : decode cX7_image 23 = .ok (.if_icmp .ge 23, 3) := by decide +kernel
theorem dX7_image_26 : decode cX7_image 26 = .ok (.aload_n 0, 1) := by decide +kernel
theorem dX7_image_27 : decode cX7_image 27 = .ok (.getfield 41, 3) := by decide +kernel
theorem dX7_image_30 : decode cX7_image 30 = .ok (.iload_n 2, 1) := by decide +kernel
theorem dX7_image_31 : decode cX7_image 31 = .ok (.iload_n 3, 1) := by decide +kernel
theorem dX7_image_32 : decode cX7_image 32 = .ok (.iadd, 1) := by decide +kernel
theorem dX7_image_33 : decode cX7_image 33 = .ok (.aload_n 0, 1) := by decide +kernel
theorem dX7_image_34 : decode cX7_image 34 = .ok (.getfield 23, 3) := by decide +kernel
theorem dX7_image_37 : decode cX7_image 37 = .ok (.iload_n 3, 1) := by decide +kernel
theorem dX7_image_38 : decode cX7_image 38 = .ok (.iaload, 1) := by decide +kernel
theorem dX7_image_39 : decode cX7_image 39 = .ok (.iastore, 1) := by decide +kernel
theorem dX7_image_40 : decode cX7_image 40 = .ok (.iinc 3 1, 3) := by decide +kernel
theorem dX7_image_43 : decode cX7_image 43 = .ok (.goto (-23), 3) := by decide +kernel
theorem dX7_image_46 : decode cX7_image 46 = .ok (.iconst 0, 1) := by decide +kernel
theorem dX7_image_47 : decode cX7_image 47 = .ok (.istore_n 3, 1) := by decide +kernel
theorem dX7_image_48 : decode cX7_image 48 = .ok (.iload_n 3, 1) := by decide +kernel
theorem dX7_image_49 : decode cX7_image 49 = .ok (.bipush 7, 2) := by decide +kernel
theorem dX7_image_51 : decode cX7_image 51 = .ok (.if_icmp .ge 26, 3) := by decide +kernel
theorem dX7_image_54 : decode cX7_image 54 = .ok (.aload_n 0, 1) := by decide +kernel
theorem dX7_image_55 : decode cX7_image 55 = .ok (.getfield 41, 3) := by decide +kernel
theorem dX7_image_58 : decode cX7_image 58 = .ok (.iload_n 2, 1) := by decide +kernel
theorem dX7_image_59 : decode cX7_image 59 = .ok (.bipush 107, 2) := by decide +kernel
theorem dX7_image_61 : decode cX7_image 61 = .ok (.iadd, 1) := by decide +kernel
theorem dX7_image_62 : decode cX7_image 62 = .ok (.iload_n 3, 1) := by decide +kernel
theorem dX7_image_63 : decode cX7_image 63 = .ok (.iadd, 1) := by decide +kernel
theorem dX7_image_64 : decode cX7_image 64 = .ok (.aload_n 0, 1) := by decide +kernel
theorem dX7_image_65 : decode cX7_image 65 = .ok (.getfield 7, 3) := by decide +kernel
theorem dX7_image_68 : decode cX7_image 68 = .ok (.iload_n 3, 1) := by decide +kernel
theorem dX7_image_69 : decode cX7_image 69 = .ok (.iaload, 1) := by decide +kernel
theorem dX7_image_70 : decode cX7_image 70 = .ok (.iastore, 1) := by decide +kernel
theorem dX7_image_71 : decode cX7_image 71 = .ok (.iinc 3 1, 3) := by decide +kernel
theorem dX7_image_74 : decode cX7_image 74 = .ok (.goto (-26), 3) := by decide +kernel
theorem dX7_image_77 : decode cX7_image 77 = .ok (.iconst 0, 1) := by decide +kernel
theorem dX7_image_78 : decode cX7_image 78 = .ok (.istore_n 3, 1) := by decide +kernel
theorem dX7_image_79 : decode cX7_image 79 = .ok (.iload_n 3, 1) := by decide +kernel
theorem dX7_image_80 : decode cX7_image 80 = .ok (.bipush 6, 2) := by decide +kernel
theorem dX7_image_82 : decode cX7_image 82 = .ok (.if_icmp .ge 26, 3) := by decide +kernel
theorem dX7_image_85 : decode cX7_image 85 = .ok (.aload_n 0, 1) := by decide +kernel
theorem dX7_image_86 : decode cX7_image 86 = .ok (.getfield 41, 3) := by decide +kernel
theorem dX7_image_89 : decode cX7_image 89 = .ok (.iload_n 2, 1) := by decide +kernel
theorem dX7_image_90 : decode cX7_image 90 = .ok (.bipush 115, 2) := by decide +kernel
theorem dX7_image_92 : decode cX7_image 92 = .ok (.iadd, 1) := by decide +kernel
theorem dX7_image_93 : decode cX7_image 93 = .ok (.iload_n 3, 1) := by decide +kernel
theorem dX7_image_94 : decode cX7_image 94 = .ok (.iadd, 1) := by decide +kernel
theorem dX7_image_95 : decode cX7_image 95 = .ok (.aload_n 0, 1) := by decide +kernel
theorem dX7_image_96 : decode cX7_image 96 = .ok (.getfield 17, 3) := by decide +kernel
theorem dX7_image_99 : decode cX7_image 99 = .ok (.iload_n 3, 1) := by decide +kernel
theorem dX7_image_100 : decode cX7_image 100 = .ok (.iaload, 1) := by decide +kernel
theorem dX7_image_101 : decode cX7_image 101 = .ok (.iastore, 1) := by decide +kernel
theorem dX7_image_102 : decode cX7_image 102 = .ok (.iinc 3 1, 3) := by decide +kernel
theorem dX7_image_105 : decode cX7_image 105 = .ok (.goto (-26), 3) := by decide +kernel
theorem dX7_image_108 : decode cX7_image 108 = .ok (.iconst 0, 1) := by decide +kernel
theorem dX7_image_109 : decode cX7_image 109 = .ok (.istore_n 3, 1) := by decide +kernel
theorem dX7_image_110 : decode cX7_image 110 = .ok (.iload_n 3, 1) := by decide +kernel
theorem dX7_image_111 : decode cX7_image 111 = .ok (.bipush 24, 2) := by decide +kernel
theorem dX7_image_113 : decode cX7_image 113 = .ok (.if_icmp .ge 26, 3) := by decide +kernel
theorem dX7_image_116 : decode cX7_image 116 = .ok (.aload_n 0, 1) := by decide +kernel
theorem dX7_image_117 : decode cX7_image 117 = .ok (.getfield 41, 3) := by decide +kernel
theorem dX7_image_120 : decode cX7_image 120 = .ok (.iload_n 2, 1) := by decide +kernel
theorem dX7_image_121 : decode cX7_image 121 = .ok (.bipush 122, 2) := by decide +kernel
theorem dX7_image_123 : decode cX7_image 123 = .ok (.iadd, 1) := by decide +kernel
theorem dX7_image_124 : decode cX7_image 124 = .ok (.iload_n 3, 1) := by decide +kernel
theorem dX7_image_125 : decode cX7_image 125 = .ok (.iadd, 1) := by decide +kernel
theorem dX7_image_126 : decode cX7_image 126 = .ok (.aload_n 0, 1) := by decide +kernel
theorem dX7_image_127 : decode cX7_image 127 = .ok (.getfield 20, 3) := by decide +kernel
theorem dX7_image_130 : decode cX7_image 130 = .ok (.iload_n 3, 1) := by decide +kernel
theorem dX7_image_131 : decode cX7_image 131 = .ok (.iaload, 1) := by decide +kernel
theorem dX7_image_132 : decode cX7_image 132 = .ok (.iastore, 1) := by decide +kernel
theorem dX7_image_133 : decode cX7_image 133 = .ok (.iinc 3 1, 3) := by decide +kernel
theorem dX7_image_136 : decode cX7_image 136 = .ok (.goto (-26), 3) := by decide +kernel
theorem dX7_image_139 : decode cX7_image 139 = .ok (.aload_n 0, 1) := by decide +kernel
theorem dX7_image_140 : decode cX7_image 140 = .ok (.getfield 41, 3) := by decide +kernel
theorem dX7_image_143 : decode cX7_image 143 = .ok (.iload_n 2, 1) := by decide +kernel
theorem dX7_image_144 : decode cX7_image 144 = .ok (.sipush 146, 3) := by decide +kernel
theorem dX7_image_147 : decode cX7_image 147 = .ok (.iadd, 1) := by decide +kernel
theorem dX7_image_148 : decode cX7_image 148 = .ok (.aload_n 0, 1) := by decide +kernel
theorem dX7_image_149 : decode cX7_image 149 = .ok (.getfield 53, 3) := by decide +kernel
theorem dX7_image_152 : decode cX7_image 152 = .ok (.iastore, 1) := by decide +kernel
theorem dX7_image_153 : decode cX7_image 153 = .ok (.aload_n 0, 1) := by decide +kernel
theorem dX7_image_154 : decode cX7_image 154 = .ok (.getfield 41, 3) := by decide +kernel
theorem dX7_image_157 : decode cX7_image 157 = .ok (.iload_n 2, 1) := by decide +kernel
theorem dX7_image_158 : decode cX7_image 158 = .ok (.sipush 147, 3) := by decide +kernel
theorem dX7_image_161 : decode cX7_image 161 = .ok (.iadd, 1) := by decide +kernel
theorem dX7_image_162 : decode cX7_image 162 = .ok (.aload_n 0, 1) := by decide +kernel
theorem dX7_image_163 : decode cX7_image 163 = .ok (.getfield 13, 3) := by decide +kernel
theorem dX7_image_166 : decode cX7_image 166 = .ok (.iastore, 1) := by decide +kernel
theorem dX7_image_167 : decode cX7_image 167 = .ok (.aload_n 0, 1) := by decide +kernel
theorem dX7_image_168 : decode cX7_image 168 = .ok (.getfield 41, 3) := by decide +kernel
theorem dX7_image_171 : decode cX7_image 171 = .ok (.iload_n 2, 1) := by decide +kernel
theorem dX7_image_172 : decode cX7_image 172 = .ok (.sipush 148, 3) := by decide +kernel
theorem dX7_image_175 : decode cX7_image 175 = .ok (.iadd, 1) := by decide +kernel
theorem dX7_image_176 : decode cX7_image 176 = .ok (.aload_n 0, 1) := by decide +kernel
theorem dX7_image_177 : decode cX7_image 177 = .ok (.getfield 133, 3) := by decide +kernel
theorem dX7_image_180 : decode cX7_image 180 = .ok (.iastore, 1) := by decide +kernel
theorem dX7_image_181 : decode cX7_image 181 = .ok (.aload_n 0, 1) := by decide +kernel
theorem dX7_image_182 : decode cX7_image 182 = .ok (.getfield 44, 3) := by decide +kernel
theorem dX7_image_185 : decode cX7_image 185 = .ok (.iload_n 1, 1) := by decide +kernel
theorem dX7_image_186 : decode cX7_image 186 = .ok (.iconst 1, 1) := by decide +kernel
theorem dX7_image_187 : decode cX7_image 187 = .ok (.bastore, 1) := by decide +kernel
theorem dX7_image_188 : decode cX7_image 188 = .ok (.iconst 1, 1) := by decide +kernel
theorem dX7_image_189 : decode cX7_image 189 = .ok (.ireturn, 1) := by decide +kernel
theorem dX7_restore_0 : decode cX7_restore 0 = .ok (.iload_n 1, 1) := by decide +kernel
theorem dX7_restore_1 : decode cX7_restore 1 = .ok (.iconst 0, 1) := by decide +kernel
theorem dX7_restore_2 : decode cX7_restore 2 = .ok (.iconst 1, 1) := by decide +kernel
theorem dX7_restore_3 : decode cX7_restore 3 = .ok (.invokestatic 49, 3) := by decide +kernel
theorem dX7_restore_6 : decode cX7_restore 6 = .ok (.ifCond .ne 6, 3) := by decide +kernel
theorem dX7_restore_9 : decode cX7_restore 9 = .ok (.bipush (-2), 2) := by decide +kernel
theorem dX7_restore_11 : decode cX7_restore 11 = .ok (.ireturn, 1) := by decide +kernel
theorem dX7_restore_12 : decode cX7_restore 12 = .ok (.aload_n 0, 1) := by decide +kernel
theorem dX7_restore_13 : decode cX7_restore 13 = .ok (.getfield 44, 3) := by decide +kernel
theorem dX7_restore_16 : decode cX7_restore 16 = .ok (.iload_n 1, 1) := by decide +kernel
theorem dX7_restore_17 : decode cX7_restore 17 = .ok (.baload, 1) := by decide +kernel
theorem dX7_restore_18 : decode cX7_restore 18 = .ok (.ifCond .ne 6, 3) := by decide +kernel
theorem dX7_restore_21 : decode cX7_restore 21 = .ok (.bipush (-3), 2) := by decide +kernel
theorem dX7_restore_23 : decode cX7_restore 23 = .ok (.ireturn, 1) := by decide +kernel
theorem dX7_restore_24 : decode cX7_restore 24 = .ok (.sipush 150, 3) := by decide +kernel
theorem dX7_restore_27 : decode cX7_restore 27 = .ok (.iload_n 1, 1) := by decide +kernel
theorem dX7_restore_28 : decode cX7_restore 28 = .ok (.imul, 1) := by decide +kernel
theorem dX7_restore_29 : decode cX7_restore 29 = .ok (.istore_n 2, 1) := by decide +kernel
theorem dX7_restore_30 : decode cX7_restore 30 = .ok (.iconst 0, 1) := by decide +kernel
theorem dX7_restore_31 : decode cX7_restore 31 = .ok (.istore_n 3, 1) := by decide +kernel
theorem dX7_restore_32 : decode cX7_restore 32 = .ok (.iload_n 3, 1) := by decide +kernel
theorem dX7_restore_33 : decode cX7_restore 33 = .ok (.bipush 107, 2) := by decide +kernel
theorem dX7_restore_35 : decode cX7_restore 35 = .ok (.if_icmp .ge 23, 3) := by decide +kernel
theorem dX7_restore_38 : decode cX7_restore 38 = .ok (.aload_n 0, 1) := by decide +kernel
theorem dX7_restore_39 : decode cX7_restore 39 = .ok (.getfield 23, 3) := by decide +kernel
theorem dX7_restore_42 : decode cX7_restore 42 = .ok (.iload_n 3, 1) := by decide +kernel
theorem dX7_restore_43 : decode cX7_restore 43 = .ok (.aload_n 0, 1) := by decide +kernel
theorem dX7_restore_44 : decode cX7_restore 44 = .ok (.getfield 41, 3) := by decide +kernel
theorem dX7_restore_47 : decode cX7_restore 47 = .ok (.iload_n 2, 1) := by decide +kernel
theorem dX7_restore_48 : decode cX7_restore 48 = .ok (.iload_n 3, 1) := by decide +kernel
theorem dX7_restore_49 : decode cX7_restore 49 = .ok (.iadd, 1) := by decide +kernel
theorem dX7_restore_50 : decode cX7_restore 50 = .ok (.iaload, 1) := by decide +kernel
theorem dX7_restore_51 : decode cX7_restore 51 = .ok (.iastore, 1) := by decide +kernel
theorem dX7_restore_52 : decode cX7_restore 52 = .ok (.iinc 3 1, 3) := by decide +kernel
theorem dX7_restore_55 : decode cX7_restore 55 = .ok (.goto (-23), 3) := by decide +kernel
theorem dX7_restore_58 : decode cX7_restore 58 = .ok (.iconst 0, 1) := by decide +kernel
theorem dX7_restore_59 : decode cX7_restore 59 = .ok (.istore_n 3, 1) := by decide +kernel
theorem dX7_restore_60 : decode cX7_restore 60 = .ok (.iload_n 3, 1) := by decide +kernel
theorem dX7_restore_61 : decode cX7_restore 61 = .ok (.bipush 7, 2) := by decide +kernel
theorem dX7_restore_63 : decode cX7_restore 63 = .ok (.if_icmp .ge 26, 3) := by decide +kernel
theorem dX7_restore_66 : decode cX7_restore 66 = .ok (.aload_n 0, 1) := by decide +kernel
theorem dX7_restore_67 : decode cX7_restore 67 = .ok (.getfield 7, 3) := by decide +kernel
theorem dX7_restore_70 : decode cX7_restore 70 = .ok (.iload_n 3, 1) := by decide +kernel
theorem dX7_restore_71 : decode cX7_restore 71 = .ok (.aload_n 0, 1) := by decide +kernel
theorem dX7_restore_72 : decode cX7_restore 72 = .ok (.getfield 41, 3) := by decide +kernel
theorem dX7_restore_75 : decode cX7_restore 75 = .ok (.iload_n 2, 1) := by decide +kernel
theorem dX7_restore_76 : decode cX7_restore 76 = .ok (.bipush 107, 2) := by decide +kernel
theorem dX7_restore_78 : decode cX7_restore 78 = .ok (.iadd, 1) := by decide +kernel
theorem dX7_restore_79 : decode cX7_restore 79 = .ok (.iload_n 3, 1) := by decide +kernel
theorem dX7_restore_80 : decode cX7_restore 80 = .ok (.iadd, 1) := by decide +kernel
theorem dX7_restore_81 : decode cX7_restore 81 = .ok (.iaload, 1) := by decide +kernel
theorem dX7_restore_82 : decode cX7_restore 82 = .ok (.iastore, 1) := by decide +kernel
theorem dX7_restore_83 : decode cX7_restore 83 = .ok (.iinc 3 1, 3) := by decide +kernel
theorem dX7_restore_86 : decode cX7_restore 86 = .ok (.goto (-26), 3) := by decide +kernel
theorem dX7_restore_89 : decode cX7_restore 89 = .ok (.iconst 0, 1) := by decide +kernel
theorem dX7_restore_90 : decode cX7_restore 90 = .ok (.istore_n 3, 1) := by decide +kernel
theorem dX7_restore_91 : decode cX7_restore 91 = .ok (.iload_n 3, 1) := by decide +kernel
theorem dX7_restore_92 : decode cX7_restore 92 = .ok (.bipush 6, 2) := by decide +kernel
theorem dX7_restore_94 : decode cX7_restore 94 = .ok (.if_icmp .ge 26, 3) := by decide +kernel
theorem dX7_restore_97 : decode cX7_restore 97 = .ok (.aload_n 0, 1) := by decide +kernel
theorem dX7_restore_98 : decode cX7_restore 98 = .ok (.getfield 17, 3) := by decide +kernel
theorem dX7_restore_101 : decode cX7_restore 101 = .ok (.iload_n 3, 1) := by decide +kernel
theorem dX7_restore_102 : decode cX7_restore 102 = .ok (.aload_n 0, 1) := by decide +kernel
theorem dX7_restore_103 : decode cX7_restore 103 = .ok (.getfield 41, 3) := by decide +kernel
theorem dX7_restore_106 : decode cX7_restore 106 = .ok (.iload_n 2, 1) := by decide +kernel
theorem dX7_restore_107 : decode cX7_restore 107 = .ok (.bipush 115, 2) := by decide +kernel
theorem dX7_restore_109 : decode cX7_restore 109 = .ok (.iadd, 1) := by decide +kernel
theorem dX7_restore_110 : decode cX7_restore 110 = .ok (.iload_n 3, 1) := by decide +kernel
theorem dX7_restore_111 : decode cX7_restore 111 = .ok (.iadd, 1) := by decide +kernel
theorem dX7_restore_112 : decode cX7_restore 112 = .ok (.iaload, 1) := by decide +kernel
theorem dX7_restore_113 : decode cX7_restore 113 = .ok (.iastore, 1) := by decide +kernel
theorem dX7_restore_114 : decode cX7_restore 114 = .ok (.iinc 3 1, 3) := by decide +kernel
theorem dX7_restore_117 : decode cX7_restore 117 = .ok (.goto (-26), 3) := by decide +kernel
theorem dX7_restore_120 : decode cX7_restore 120 = .ok (.iconst 0, 1) := by decide +kernel
theorem dX7_restore_121 : decode cX7_restore 121 = .ok (.istore_n 3, 1) := by decide +kernel
theorem dX7_restore_122 : decode cX7_restore 122 = .ok (.iload_n 3, 1) := by decide +kernel
theorem dX7_restore_123 : decode cX7_restore 123 = .ok (.bipush 24, 2) := by decide +kernel
theorem dX7_restore_125 : decode cX7_restore 125 = .ok (.if_icmp .ge 26, 3) := by decide +kernel
theorem dX7_restore_128 : decode cX7_restore 128 = .ok (.aload_n 0, 1) := by decide +kernel
theorem dX7_restore_129 : decode cX7_restore 129 = .ok (.getfield 20, 3) := by decide +kernel
theorem dX7_restore_132 : decode cX7_restore 132 = .ok (.iload_n 3, 1) := by decide +kernel
theorem dX7_restore_133 : decode cX7_restore 133 = .ok (.aload_n 0, 1) := by decide +kernel
theorem dX7_restore_134 : decode cX7_restore 134 = .ok (.getfield 41, 3) := by decide +kernel
theorem dX7_restore_137 : decode cX7_restore 137 = .ok (.iload_n 2, 1) := by decide +kernel
theorem dX7_restore_138 : decode cX7_restore 138 = .ok (.bipush 122, 2) := by decide +kernel
theorem dX7_restore_140 : decode cX7_restore 140 = .ok (.iadd, 1) := by decide +kernel
theorem dX7_restore_141 : decode cX7_restore 141 = .ok (.iload_n 3, 1) := by decide +kernel
theorem dX7_restore_142 : decode cX7_restore 142 = .ok (.iadd, 1) := by decide +kernel
theorem dX7_restore_143 : decode cX7_restore 143 = .ok (.iaload, 1) := by decide +kernel
theorem dX7_restore_144 : decode cX7_restore 144 = .ok (.iastore, 1) := by decide +kernel
theorem dX7_restore_145 : decode cX7_restore 145 = .ok (.iinc 3 1, 3) := by decide +kernel
theorem dX7_restore_148 : decode cX7_restore 148 = .ok (.goto (-26), 3) := by decide +kernel
theorem dX7_restore_151 : decode cX7_restore 151 = .ok (.aload_n 0, 1) := by decide +kernel
theorem dX7_restore_152 : decode cX7_restore 152 = .ok (.aload_n 0, 1) := by decide +kernel
theorem dX7_restore_153 : decode cX7_restore 153 = .ok (.getfield 41, 3) := by decide +kernel
theorem dX7_restore_156 : decode cX7_restore 156 = .ok (.iload_n 2, 1) := by decide +kernel
theorem dX7_restore_157 : decode cX7_restore 157 = .ok (.sipush 146, 3) := by decide +kernel
theorem dX7_restore_160 : decode cX7_restore 160 = .ok (.iadd, 1) := by decide +kernel
theorem dX7_restore_161 : decode cX7_restore 161 = .ok (.iaload, 1) := by decide +kernel
theorem dX7_restore_162 : decode cX7_restore 162 = .ok (.putfield 53, 3) := by decide +kernel
theorem dX7_restore_165 : decode cX7_restore 165 = .ok (.aload_n 0, 1) := by decide +kernel
theorem dX7_restore_166 : decode cX7_restore 166 = .ok (.aload_n 0, 1) := by decide +kernel
theorem dX7_restore_167 : decode cX7_restore 167 = .ok (.getfield 41, 3) := by decide +kernel
theorem dX7_restore_170 : decode cX7_restore 170 = .ok (.iload_n 2, 1) := by decide +kernel
theorem dX7_restore_171 : decode cX7_restore 171 = .ok (.sipush 147, 3) := by decide +kernel
theorem dX7_restore_174 : decode cX7_restore 174 = .ok (.iadd, 1) := by decide +kernel
theorem dX7_restore_175 : decode cX7_restore 175 = .ok (.iaload, 1) := by decide +kernel
theorem dX7_restore_176 : decode cX7_restore 176 = .ok (.putfield 13, 3) := by decide +kernel
theorem dX7_restore_179 : decode cX7_restore 179 = .ok (.aload_n 0, 1) := by decide +kernel
theorem dX7_restore_180 : decode cX7_restore 180 = .ok (.aload_n 0, 1) := by decide +kernel
theorem dX7_restore_181 : decode cX7_restore 181 = .ok (.getfield 41, 3) := by decide +kernel
theorem dX7_restore_184 : decode cX7_restore 184 = .ok (.iload_n 2, 1) := by decide +kernel
theorem dX7_restore_185 : decode cX7_restore 185 = .ok (.sipush 148, 3) := by decide +kernel
theorem dX7_restore_188 : decode cX7_restore 188 = .ok (.iadd, 1) := by decide +kernel
theorem dX7_restore_189 : decode cX7_restore 189 = .ok (.iaload, 1) := by decide +kernel
theorem dX7_restore_190 : decode cX7_restore 190 = .ok (.putfield 133, 3) := by decide +kernel
theorem dX7_restore_193 : decode cX7_restore 193 = .ok (.iconst 1, 1) := by decide +kernel
theorem dX7_restore_194 : decode cX7_restore 194 = .ok (.ireturn, 1) := by decide +kernel
theorem dX7_told_0 : decode cX7_told 0 = .ok (.iload_n 1, 1) := by decide +kernel
theorem dX7_told_1 : decode cX7_told 1 = .ok (.bipush 30, 2) := by decide +kernel
theorem dX7_told_3 : decode cX7_told 3 = .ok (.if_icmp .lt 29, 3) := by decide +kernel
theorem dX7_told_6 : decode cX7_told 6 = .ok (.iload_n 1, 1) := by decide +kernel
theorem dX7_told_7 : decode cX7_told 7 = .ok (.bipush 30, 2) := by decide +kernel
theorem dX7_told_9 : decode cX7_told 9 = .ok (.bipush 35, 2) := by decide +kernel
theorem dX7_told_11 : decode cX7_told 11 = .ok (.invokestatic 49, 3) := by decide +kernel
theorem dX7_told_14 : decode cX7_told 14 = .ok (.ifCond .eq 15, 3) := by decide +kernel
theorem dX7_told_17 : decode cX7_told 17 = .ok (.aload_n 0, 1) := by decide +kernel
theorem dX7_told_18 : decode cX7_told 18 = .ok (.getfield 17, 3) := by decide +kernel
theorem dX7_told_21 : decode cX7_told 21 = .ok (.iload_n 1, 1) := by decide +kernel
theorem dX7_told_22 : decode cX7_told 22 = .ok (.bipush 30, 2) := by decide +kernel
theorem dX7_told_24 : decode cX7_told 24 = .ok (.isub, 1) := by decide +kernel
theorem dX7_told_25 : decode cX7_told 25 = .ok (.iaload, 1) := by decide +kernel
theorem dX7_told_26 : decode cX7_told 26 = .ok (.goto 5, 3) := by decide +kernel
theorem dX7_told_29 : decode cX7_told 29 = .ok (.bipush (-2), 2) := by decide +kernel
theorem dX7_told_31 : decode cX7_told 31 = .ok (.ireturn, 1) := by decide +kernel
theorem dX7_told_32 : decode cX7_told 32 = .ok (.iload_n 1, 1) := by decide +kernel
theorem dX7_told_33 : decode cX7_told 33 = .ok (.bipush 20, 2) := by decide +kernel
theorem dX7_told_35 : decode cX7_told 35 = .ok (.if_icmp .lt 29, 3) := by decide +kernel
theorem dX7_told_38 : decode cX7_told 38 = .ok (.aload_n 0, 1) := by decide +kernel
theorem dX7_told_39 : decode cX7_told 39 = .ok (.iload_n 1, 1) := by decide +kernel
theorem dX7_told_40 : decode cX7_told 40 = .ok (.bipush 20, 2) := by decide +kernel
theorem dX7_told_42 : decode cX7_told 42 = .ok (.isub, 1) := by decide +kernel
theorem dX7_told_43 : decode cX7_told 43 = .ok (.invokevirtual 64, 3) := by decide +kernel
theorem dX7_told_46 : decode cX7_told 46 = .ok (.ifCond .eq 15, 3) := by decide +kernel
theorem dX7_told_49 : decode cX7_told 49 = .ok (.aload_n 0, 1) := by decide +kernel
theorem dX7_told_50 : decode cX7_told 50 = .ok (.getfield 23, 3) := by decide +kernel
theorem dX7_told_53 : decode cX7_told 53 = .ok (.iload_n 1, 1) := by decide +kernel
theorem dX7_told_54 : decode cX7_told 54 = .ok (.bipush 20, 2) := by decide +kernel
theorem dX7_told_56 : decode cX7_told 56 = .ok (.isub, 1) := by decide +kernel
theorem dX7_told_57 : decode cX7_told 57 = .ok (.iaload, 1) := by decide +kernel
theorem dX7_told_58 : decode cX7_told 58 = .ok (.goto 5, 3) := by decide +kernel
theorem dX7_told_61 : decode cX7_told 61 = .ok (.bipush (-2), 2) := by decide +kernel
theorem dX7_told_63 : decode cX7_told 63 = .ok (.ireturn, 1) := by decide +kernel
theorem dX7_told_64 : decode cX7_told 64 = .ok (.iload_n 1, 1) := by decide +kernel
theorem dX7_told_65 : decode cX7_told 65 = .ok (.bipush 10, 2) := by decide +kernel
theorem dX7_told_67 : decode cX7_told 67 = .ok (.if_icmp .lt 29, 3) := by decide +kernel
theorem dX7_told_70 : decode cX7_told 70 = .ok (.aload_n 0, 1) := by decide +kernel
theorem dX7_told_71 : decode cX7_told 71 = .ok (.iload_n 1, 1) := by decide +kernel
theorem dX7_told_72 : decode cX7_told 72 = .ok (.bipush 10, 2) := by decide +kernel
theorem dX7_told_74 : decode cX7_told 74 = .ok (.isub, 1) := by decide +kernel
theorem dX7_told_75 : decode cX7_told 75 = .ok (.invokevirtual 64, 3) := by decide +kernel
theorem dX7_told_78 : decode cX7_told 78 = .ok (.ifCond .eq 15, 3) := by decide +kernel
theorem dX7_told_81 : decode cX7_told 81 = .ok (.aload_n 0, 1) := by decide +kernel
theorem dX7_told_82 : decode cX7_told 82 = .ok (.getfield 7, 3) := by decide +kernel
theorem dX7_told_85 : decode cX7_told 85 = .ok (.iload_n 1, 1) := by decide +kernel
theorem dX7_told_86 : decode cX7_told 86 = .ok (.bipush 10, 2) := by decide +kernel
theorem dX7_told_88 : decode cX7_told 88 = .ok (.isub, 1) := by decide +kernel
theorem dX7_told_89 : decode cX7_told 89 = .ok (.iaload, 1) := by decide +kernel
theorem dX7_told_90 : decode cX7_told 90 = .ok (.goto 5, 3) := by decide +kernel
theorem dX7_told_93 : decode cX7_told 93 = .ok (.bipush (-2), 2) := by decide +kernel
theorem dX7_told_95 : decode cX7_told 95 = .ok (.ireturn, 1) := by decide +kernel
theorem dX7_told_96 : decode cX7_told 96 = .ok (.iload_n 1, 1) := by decide +kernel
theorem dX7_told_97 : decode cX7_told 97 = .ok (.tableswitch 87 0 6 #[43, 48, 53, 61, 69, 74, 82], 43) := by decide +kernel
theorem dX7_told_140 : decode cX7_told 140 = .ok (.aload_n 0, 1) := by decide +kernel
theorem dX7_told_141 : decode cX7_told 141 = .ok (.getfield 68, 3) := by decide +kernel
theorem dX7_told_144 : decode cX7_told 144 = .ok (.ireturn, 1) := by decide +kernel
theorem dX7_told_145 : decode cX7_told 145 = .ok (.aload_n 0, 1) := by decide +kernel
theorem dX7_told_146 : decode cX7_told 146 = .ok (.getfield 53, 3) := by decide +kernel
theorem dX7_told_149 : decode cX7_told 149 = .ok (.ireturn, 1) := by decide +kernel
theorem dX7_told_150 : decode cX7_told 150 = .ok (.aload_n 0, 1) := by decide +kernel
theorem dX7_told_151 : decode cX7_told 151 = .ok (.getfield 23, 3) := by decide +kernel
theorem dX7_told_154 : decode cX7_told 154 = .ok (.bipush 7, 2) := by decide +kernel
theorem dX7_told_156 : decode cX7_told 156 = .ok (.iaload, 1) := by decide +kernel
theorem dX7_told_157 : decode cX7_told 157 = .ok (.ireturn, 1) := by decide +kernel
theorem dX7_told_158 : decode cX7_told 158 = .ok (.aload_n 0, 1) := by decide +kernel
theorem dX7_told_159 : decode cX7_told 159 = .ok (.getfield 23, 3) := by decide +kernel
theorem dX7_told_162 : decode cX7_told 162 = .ok (.bipush 8, 2) := by decide +kernel
theorem dX7_told_164 : decode cX7_told 164 = .ok (.iaload, 1) := by decide +kernel
theorem dX7_told_165 : decode cX7_told 165 = .ok (.ireturn, 1) := by decide +kernel
theorem dX7_told_166 : decode cX7_told 166 = .ok (.aload_n 0, 1) := by decide +kernel
theorem dX7_told_167 : decode cX7_told 167 = .ok (.getfield 13, 3) := by decide +kernel
theorem dX7_told_170 : decode cX7_told 170 = .ok (.ireturn, 1) := by decide +kernel
theorem dX7_told_171 : decode cX7_told 171 = .ok (.aload_n 0, 1) := by decide +kernel
theorem dX7_told_172 : decode cX7_told 172 = .ok (.getfield 23, 3) := by decide +kernel
theorem dX7_told_175 : decode cX7_told 175 = .ok (.bipush 9, 2) := by decide +kernel
theorem dX7_told_177 : decode cX7_told 177 = .ok (.iaload, 1) := by decide +kernel
theorem dX7_told_178 : decode cX7_told 178 = .ok (.ireturn, 1) := by decide +kernel
theorem dX7_told_179 : decode cX7_told 179 = .ok (.aload_n 0, 1) := by decide +kernel
theorem dX7_told_180 : decode cX7_told 180 = .ok (.getfield 133, 3) := by decide +kernel
theorem dX7_told_183 : decode cX7_told 183 = .ok (.ireturn, 1) := by decide +kernel
theorem dX7_told_184 : decode cX7_told 184 = .ok (.iload_n 1, 1) := by decide +kernel
theorem dX7_told_185 : decode cX7_told 185 = .ok (.bipush 7, 2) := by decide +kernel
theorem dX7_told_187 : decode cX7_told 187 = .ok (.if_icmp .ne 13, 3) := by decide +kernel
theorem dX7_told_190 : decode cX7_told 190 = .ok (.aload_n 0, 1) := by decide +kernel
theorem dX7_told_191 : decode cX7_told 191 = .ok (.getfield 23, 3) := by decide +kernel
theorem dX7_told_194 : decode cX7_told 194 = .ok (.bipush 10, 2) := by decide +kernel
theorem dX7_told_196 : decode cX7_told 196 = .ok (.iaload, 1) := by decide +kernel
theorem dX7_told_197 : decode cX7_told 197 = .ok (.goto 5, 3) := by decide +kernel
theorem dX7_told_200 : decode cX7_told 200 = .ok (.bipush (-2), 2) := by decide +kernel
theorem dX7_told_202 : decode cX7_told 202 = .ok (.ireturn, 1) := by decide +kernel
