theorem dX0_init_0 : decode cX0_init 0 = .ok (.aload_n 0, 1) := by decide +kernel
theorem dX0_init_1 : decode cX0_init 1 = .ok (.invokespecial 3, 3) := by decide +kernel
theorem dX0_init_4 : decode cX0_init 4 = .ok (.aload_n 0, 1) := by decide +kernel
theorem dX0_init_5 : decode cX0_init 5 = .ok (.bipush 32, 2) := by decide +kernel
theorem dX0_init_7 : decode cX0_init 7 = .ok (.newarray .int, 2) := by decide +kernel
theorem dX0_init_9 : decode cX0_init 9 = .ok (.putfield 9, 3) := by decide +kernel
theorem dX0_init_12 : decode cX0_init 12 = .ok (.aload_n 0, 1) := by decide +kernel
theorem dX0_init_13 : decode cX0_init 13 = .ok (.bipush 32, 2) := by decide +kernel
theorem dX0_init_15 : decode cX0_init 15 = .ok (.newarray .int, 2) := by decide +kernel
theorem dX0_init_17 : decode cX0_init 17 = .ok (.putfield 15, 3) := by decide +kernel
theorem dX0_init_20 : decode cX0_init 20 = .ok (.return_, 1) := by decide +kernel
theorem dX0_clear_0 : decode cX0_clear 0 = .ok (.aload_n 0, 1) := by decide +kernel
theorem dX0_clear_1 : decode cX0_clear 1 = .ok (.iconst 0, 1) := by decide +kernel
theorem dX0_clear_2 : decode cX0_clear 2 = .ok (.putfield 18, 3) := by decide +kernel
theorem dX0_clear_5 : decode cX0_clear 5 = .ok (.aload_n 0, 1) := by decide +kernel
theorem dX0_clear_6 : decode cX0_clear 6 = .ok (.iconst 0, 1) := by decide +kernel
theorem dX0_clear_7 : decode cX0_clear 7 = .ok (.putfield 22, 3) := by decide +kernel
theorem dX0_clear_10 : decode cX0_clear 10 = .ok (.return_, 1) := by decide +kernel
theorem dX0_add_0 : decode cX0_add 0 = .ok (.aload_n 0, 1) := by decide +kernel
theorem dX0_add_1 : decode cX0_add 1 = .ok (.getfield 22, 3) := by decide +kernel
theorem dX0_add_4 : decode cX0_add 4 = .ok (.bipush 32, 2) := by decide +kernel
theorem dX0_add_6 : decode cX0_add 6 = .ok (.if_icmp .lt 4, 3) := by decide +kernel
theorem dX0_add_9 : decode cX0_add 9 = .ok (.return_, 1) := by decide +kernel
theorem dX0_add_10 : decode cX0_add 10 = .ok (.iload_n 1, 1) := by decide +kernel
theorem dX0_add_11 : decode cX0_add 11 = .ok (.bipush 10, 2) := by decide +kernel
theorem dX0_add_13 : decode cX0_add 13 = .ok (.imul, 1) := by decide +kernel
theorem dX0_add_14 : decode cX0_add 14 = .ok (.iload_n 2, 1) := by decide +kernel
theorem dX0_add_15 : decode cX0_add 15 = .ok (.iadd, 1) := by decide +kernel
theorem dX0_add_16 : decode cX0_add 16 = .ok (.istore 4, 2) := by decide +kernel
theorem dX0_add_18 : decode cX0_add 18 = .ok (.iconst 0, 1) := by decide +kernel
theorem dX0_add_19 : decode cX0_add 19 = .ok (.istore 5, 2) := by decide +kernel
theorem dX0_add_21 : decode cX0_add 21 = .ok (.iload 5, 2) := by decide +kernel
theorem dX0_add_23 : decode cX0_add 23 = .ok (.aload_n 0, 1) := by decide +kernel
theorem dX0_add_24 : decode cX0_add 24 = .ok (.getfield 18, 3) := by decide +kernel
theorem dX0_add_27 : decode cX0_add 27 = .ok (.if_icmp .ge 28, 3) := by decide +kernel
theorem dX0_add_30 : decode cX0_add 30 = .ok (.iload 5, 2) := by decide +kernel
theorem dX0_add_32 : decode cX0_add 32 = .ok (.bipush 31, 2) := by decide +kernel
theorem dX0_add_34 : decode cX0_add 34 = .ok (.if_icmp .ge 21, 3) := by decide +kernel
theorem dX0_add_37 : decode cX0_add 37 = .ok (.aload_n 0, 1) := by decide +kernel
theorem dX0_add_38 : decode cX0_add 38 = .ok (.getfield 9, 3) := by decide +kernel
theorem dX0_add_41 : decode cX0_add 41 = .ok (.iload 5, 2) := by decide +kernel
theorem dX0_add_43 : decode cX0_add 43 = .ok (.iaload, 1) := by decide +kernel
theorem dX0_add_44 : decode cX0_add 44 = .ok (.iload 4, 2) := by decide +kernel
theorem dX0_add_46 : decode cX0_add 46 = .ok (.if_icmp .ge 9, 3) := by decide +kernel
theorem dX0_add_49 : decode cX0_add 49 = .ok (.iinc 5 1, 3) := by decide +kernel
theorem dX0_add_52 : decode cX0_add 52 = .ok (.goto (-31), 3) := by decide +kernel
theorem dX0_add_55 : decode cX0_add 55 = .ok (.iload 5, 2) := by decide +kernel
theorem dX0_add_57 : decode cX0_add 57 = .ok (.aload_n 0, 1) := by decide +kernel
theorem dX0_add_58 : decode cX0_add 58 = .ok (.getfield 18, 3) := by decide +kernel
theorem dX0_add_61 : decode cX0_add 61 = .ok (.if_icmp .eq 15, 3) := by decide +kernel
theorem dX0_add_64 : decode cX0_add 64 = .ok (.aload_n 0, 1) := by decide +kernel
theorem dX0_add_65 : decode cX0_add 65 = .ok (.getfield 9, 3) := by decide +kernel
theorem dX0_add_68 : decode cX0_add 68 = .ok (.iload 5, 2) := by decide +kernel
theorem dX0_add_70 : decode cX0_add 70 = .ok (.iaload, 1) := by decide +kernel
theorem dX0_add_71 : decode cX0_add 71 = .ok (.iload 4, 2) := by decide +kernel
theorem dX0_add_73 : decode cX0_add 73 = .ok (.if_icmp .eq 26, 3) := by decide +kernel
theorem dX0_add_76 : decode cX0_add 76 = .ok (.aload_n 0, 1) := by decide +kernel
theorem dX0_add_77 : decode cX0_add 77 = .ok (.iload 5, 2) := by decide +kernel
theorem dX0_add_79 : decode cX0_add 79 = .ok (.invokevirtual 25, 3) := by decide +kernel
theorem dX0_add_82 : decode cX0_add 82 = .ok (.aload_n 0, 1) := by decide +kernel
theorem dX0_add_83 : decode cX0_add 83 = .ok (.getfield 9, 3) := by decide +kernel
theorem dX0_add_86 : decode cX0_add 86 = .ok (.iload 5, 2) := by decide +kernel
theorem dX0_add_88 : decode cX0_add 88 = .ok (.iload 4, 2) := by decide +kernel
theorem dX0_add_90 : decode cX0_add 90 = .ok (.iastore, 1) := by decide +kernel
theorem dX0_add_91 : decode cX0_add 91 = .ok (.aload_n 0, 1) := by decide +kernel
theorem dX0_add_92 : decode cX0_add 92 = .ok (.getfield 15, 3) := by decide +kernel
theorem dX0_add_95 : decode cX0_add 95 = .ok (.iload 5, 2) := by decide +kernel
theorem dX0_add_97 : decode cX0_add 97 = .ok (.iconst 0, 1) := by decide +kernel
theorem dX0_add_98 : decode cX0_add 98 = .ok (.iastore, 1) := by decide +kernel
theorem dX0_add_99 : decode cX0_add 99 = .ok (.aload_n 0, 1) := by decide +kernel
theorem dX0_add_100 : decode cX0_add 100 = .ok (.getfield 15, 3) := by decide +kernel
theorem dX0_add_103 : decode cX0_add 103 = .ok (.iload 5, 2) := by decide +kernel
theorem dX0_add_105 : decode cX0_add 105 = .ok (.dup2, 1) := by decide +kernel
theorem dX0_add_106 : decode cX0_add 106 = .ok (.iaload, 1) := by decide +kernel
theorem dX0_add_107 : decode cX0_add 107 = .ok (.iload_n 3, 1) := by decide +kernel
theorem dX0_add_108 : decode cX0_add 108 = .ok (.iadd, 1) := by decide +kernel
theorem dX0_add_109 : decode cX0_add 109 = .ok (.iastore, 1) := by decide +kernel
theorem dX0_add_110 : decode cX0_add 110 = .ok (.aload_n 0, 1) := by decide +kernel
theorem dX0_add_111 : decode cX0_add 111 = .ok (.dup, 1) := by decide +kernel
theorem dX0_add_112 : decode cX0_add 112 = .ok (.getfield 22, 3) := by decide +kernel
theorem dX0_add_115 : decode cX0_add 115 = .ok (.iconst 1, 1) := by decide +kernel
theorem dX0_add_116 : decode cX0_add 116 = .ok (.iadd, 1) := by decide +kernel
theorem dX0_add_117 : decode cX0_add 117 = .ok (.putfield 22, 3) := by decide +kernel
theorem dX0_add_120 : decode cX0_add 120 = .ok (.return_, 1) := by decide +kernel
theorem dX0_makeRoom_0 : decode cX0_makeRoom 0 = .ok (.bipush 31, 2) := by decide +kernel
theorem dX0_makeRoom_2 : decode cX0_makeRoom 2 = .ok (.istore_n 2, 1) := by decide +kernel
theorem dX0_makeRoom_3 : decode cX0_makeRoom 3 = .ok (.iload_n 2, 1) := by decide +kernel
theorem dX0_makeRoom_4 : decode cX0_makeRoom 4 = .ok (.iload_n 1, 1) := by decide +kernel
theorem dX0_makeRoom_5 : decode cX0_makeRoom 5 = .ok (.if_icmp .le 41, 3) := by decide +kernel
theorem dX0_makeRoom_8 : decode cX0_makeRoom 8 = .ok (.iload_n 2, 1) := by decide +kernel
theorem dX0_makeRoom_9 : decode cX0_makeRoom 9 = .ok (.ifCond .le 37, 3) := by decide +kernel
theorem dX0_makeRoom_12 : decode cX0_makeRoom 12 = .ok (.aload_n 0, 1) := by decide +kernel
theorem dX0_makeRoom_13 : decode cX0_makeRoom 13 = .ok (.getfield 9, 3) := by decide +kernel
theorem dX0_makeRoom_16 : decode cX0_makeRoom 16 = .ok (.iload_n 2, 1) := by decide +kernel
theorem dX0_makeRoom_17 : decode cX0_makeRoom 17 = .ok (.aload_n 0, 1) := by decide +kernel
theorem dX0_makeRoom_18 : decode cX0_makeRoom 18 = .ok (.getfield 9, 3) := by decide +kernel
theorem dX0_makeRoom_21 : decode cX0_makeRoom 21 = .ok (.iload_n 2, 1) := by decide +kernel
theorem dX0_makeRoom_22 : decode cX0_makeRoom 22 = .ok (.iconst 1, 1) := by decide +kernel
theorem dX0_makeRoom_23 : decode cX0_makeRoom 23 = .ok (.isub, 1) := by decide +kernel
theorem dX0_makeRoom_24 : decode cX0_makeRoom 24 = .ok (.iaload, 1) := by decide +kernel
theorem dX0_makeRoom_25 : decode cX0_makeRoom 25 = .ok (.iastore, 1) := by decide +kernel
theorem dX0_makeRoom_26 : decode cX0_makeRoom 26 = .ok (.aload_n 0, 1) := by decide +kernel
theorem dX0_makeRoom_27 : decode cX0_makeRoom 27 = .ok (.getfield 15, 3) := by decide +kernel
theorem dX0_makeRoom_30 : decode cX0_makeRoom 30 = .ok (.iload_n 2, 1) := by decide +kernel
theorem dX0_makeRoom_31 : decode cX0_makeRoom 31 = .ok (.aload_n 0, 1) := by decide +kernel
theorem dX0_makeRoom_32 : decode cX0_makeRoom 32 = .ok (.getfield 15, 3) := by decide +kernel
theorem dX0_makeRoom_35 : decode cX0_makeRoom 35 = .ok (.iload_n 2, 1) := by decide +kernel
theorem dX0_makeRoom_36 : decode cX0_makeRoom 36 = .ok (.iconst 1, 1) := by decide +kernel
theorem dX0_makeRoom_37 : decode cX0_makeRoom 37 = .ok (.isub, 1) := by decide +kernel
theorem dX0_makeRoom_38 : decode cX0_makeRoom 38 = .ok (.iaload, 1) := by decide +kernel
theorem dX0_makeRoom_39 : decode cX0_makeRoom 39 = .ok (.iastore, 1) := by decide +kernel
theorem dX0_makeRoom_40 : decode cX0_makeRoom 40 = .ok (.iinc 2 (-1), 3) := by decide +kernel
theorem dX0_makeRoom_43 : decode cX0_makeRoom 43 = .ok (.goto (-40), 3) := by decide +kernel
theorem dX0_makeRoom_46 : decode cX0_makeRoom 46 = .ok (.aload_n 0, 1) := by decide +kernel
theorem dX0_makeRoom_47 : decode cX0_makeRoom 47 = .ok (.dup, 1) := by decide +kernel
theorem dX0_makeRoom_48 : decode cX0_makeRoom 48 = .ok (.getfield 18, 3) := by decide +kernel
theorem dX0_makeRoom_51 : decode cX0_makeRoom 51 = .ok (.iconst 1, 1) := by decide +kernel
theorem dX0_makeRoom_52 : decode cX0_makeRoom 52 = .ok (.iadd, 1) := by decide +kernel
theorem dX0_makeRoom_53 : decode cX0_makeRoom 53 = .ok (.putfield 18, 3) := by decide +kernel
theorem dX0_makeRoom_56 : decode cX0_makeRoom 56 = .ok (.return_, 1) := by decide +kernel
theorem dX0_minuteOf_0 : decode cX0_minuteOf 0 = .ok (.iload_n 1, 1) := by decide +kernel
theorem dX0_minuteOf_1 : decode cX0_minuteOf 1 = .ok (.ifCond .lt 21, 3) := by decide +kernel
theorem dX0_minuteOf_4 : decode cX0_minuteOf 4 = .ok (.iload_n 1, 1) := by decide +kernel
theorem dX0_minuteOf_5 : decode cX0_minuteOf 5 = .ok (.bipush 32, 2) := by decide +kernel
theorem dX0_minuteOf_7 : decode cX0_minuteOf 7 = .ok (.if_icmp .ge 15, 3) := by decide +kernel
theorem dX0_minuteOf_10 : decode cX0_minuteOf 10 = .ok (.aload_n 0, 1) := by decide +kernel
theorem dX0_minuteOf_11 : decode cX0_minuteOf 11 = .ok (.getfield 9, 3) := by decide +kernel
theorem dX0_minuteOf_14 : decode cX0_minuteOf 14 = .ok (.iload_n 1, 1) := by decide +kernel
theorem dX0_minuteOf_15 : decode cX0_minuteOf 15 = .ok (.iaload, 1) := by decide +kernel
theorem dX0_minuteOf_16 : decode cX0_minuteOf 16 = .ok (.bipush 10, 2) := by decide +kernel
theorem dX0_minuteOf_18 : decode cX0_minuteOf 18 = .ok (.idiv, 1) := by decide +kernel
theorem dX0_minuteOf_19 : decode cX0_minuteOf 19 = .ok (.goto 4, 3) := by decide +kernel
theorem dX0_minuteOf_22 : decode cX0_minuteOf 22 = .ok (.iconst 0, 1) := by decide +kernel
theorem dX0_minuteOf_23 : decode cX0_minuteOf 23 = .ok (.ireturn, 1) := by decide +kernel
theorem dX0_placeOf_0 : decode cX0_placeOf 0 = .ok (.iload_n 1, 1) := by decide +kernel
theorem dX0_placeOf_1 : decode cX0_placeOf 1 = .ok (.ifCond .lt 21, 3) := by decide +kernel
theorem dX0_placeOf_4 : decode cX0_placeOf 4 = .ok (.iload_n 1, 1) := by decide +kernel
theorem dX0_placeOf_5 : decode cX0_placeOf 5 = .ok (.bipush 32, 2) := by decide +kernel
theorem dX0_placeOf_7 : decode cX0_placeOf 7 = .ok (.if_icmp .ge 15, 3) := by decide +kernel
theorem dX0_placeOf_10 : decode cX0_placeOf 10 = .ok (.aload_n 0, 1) := by decide +kernel
theorem dX0_placeOf_11 : decode cX0_placeOf 11 = .ok (.getfield 9, 3) := by decide +kernel
theorem dX0_placeOf_14 : decode cX0_placeOf 14 = .ok (.iload_n 1, 1) := by decide +kernel
theorem dX0_placeOf_15 : decode cX0_placeOf 15 = .ok (.iaload, 1) := by decide +kernel
theorem dX0_placeOf_16 : decode cX0_placeOf 16 = .ok (.bipush 10, 2) := by decide +kernel
theorem dX0_placeOf_18 : decode cX0_placeOf 18 = .ok (.irem, 1) := by decide +kernel
theorem dX0_placeOf_19 : decode cX0_placeOf 19 = .ok (.goto 4, 3) := by decide +kernel
theorem dX0_placeOf_22 : decode cX0_placeOf 22 = .ok (.iconst 0, 1) := by decide +kernel
theorem dX0_placeOf_23 : decode cX0_placeOf 23 = .ok (.ireturn, 1) := by decide +kernel
theorem dX0_sizeOf_0 : decode cX0_sizeOf 0 = .ok (.iload_n 1, 1) := by decide +kernel
theorem dX0_sizeOf_1 : decode cX0_sizeOf 1 = .ok (.ifCond .lt 18, 3) := by decide +kernel
theorem dX0_sizeOf_4 : decode cX0_sizeOf 4 = .ok (.iload_n 1, 1) := by decide +kernel
theorem dX0_sizeOf_5 : decode cX0_sizeOf 5 = .ok (.bipush 32, 2) := by decide +kernel
theorem dX0_sizeOf_7 : decode cX0_sizeOf 7 = .ok (.if_icmp .ge 12, 3) := by decide +kernel
theorem dX0_sizeOf_10 : decode cX0_sizeOf 10 = .ok (.aload_n 0, 1) := by decide +kernel
theorem dX0_sizeOf_11 : decode cX0_sizeOf 11 = .ok (.getfield 15, 3) := by decide +kernel
theorem dX0_sizeOf_14 : decode cX0_sizeOf 14 = .ok (.iload_n 1, 1) := by decide +kernel
theorem dX0_sizeOf_15 : decode cX0_sizeOf 15 = .ok (.iaload, 1) := by decide +kernel
theorem dX0_sizeOf_16 : decode cX0_sizeOf 16 = .ok (.goto 4, 3) := by decide +kernel
theorem dX0_sizeOf_19 : decode cX0_sizeOf 19 = .ok (.iconst 0, 1) := by decide +kernel
theorem dX0_sizeOf_20 : decode cX0_sizeOf 20 = .ok (.ireturn, 1) := by decide +kernel
theorem dX0_countVotes_0 : decode cX0_countVotes 0 = .ok (.iconst 0, 1) := by decide +kernel
theorem dX0_countVotes_1 : decode cX0_countVotes 1 = .ok (.istore 4, 2) := by decide +kernel
theorem dX0_countVotes_3 : decode cX0_countVotes 3 = .ok (.iconst 0, 1) := by decide +kernel
theorem dX0_countVotes_4 : decode cX0_countVotes 4 = .ok (.istore 5, 2) := by decide +kernel
theorem dX0_countVotes_6 : decode cX0_countVotes 6 = .ok (.iload 5, 2) := by decide +kernel
theorem dX0_countVotes_8 : decode cX0_countVotes 8 = .ok (.aload_n 0, 1) := by decide +kernel
theorem dX0_countVotes_9 : decode cX0_countVotes 9 = .ok (.getfield 18, 3) := by decide +kernel
theorem dX0_countVotes_12 : decode cX0_countVotes 12 = .ok (.if_icmp .ge 49, 3) := by decide +kernel
theorem dX0_countVotes_15 : decode cX0_countVotes 15 = .ok (.aload_n 0, 1) := by decide +kernel
theorem dX0_countVotes_16 : decode cX0_countVotes 16 = .ok (.iload 5, 2) := by decide +kernel
theorem dX0_countVotes_18 : decode cX0_countVotes 18 = .ok (.invokevirtual 29, 3) := by decide +kernel
theorem dX0_countVotes_21 : decode cX0_countVotes 21 = .ok (.iconst 2, 1) := by decide +kernel
theorem dX0_countVotes_22 : decode cX0_countVotes 22 = .ok (.if_icmp .gt 7, 3) := by decide +kernel
theorem dX0_countVotes_25 : decode cX0_countVotes 25 = .ok (.iconst 1, 1) := by decide +kernel
theorem dX0_countVotes_26 : decode cX0_countVotes 26 = .ok (.goto 4, 3) := by decide +kernel
theorem dX0_countVotes_29 : decode cX0_countVotes 29 = .ok (.iconst 0, 1) := by decide +kernel
theorem dX0_countVotes_30 : decode cX0_countVotes 30 = .ok (.istore 6, 2) := by decide +kernel
theorem dX0_countVotes_32 : decode cX0_countVotes 32 = .ok (.aload_n 0, 1) := by decide +kernel
theorem dX0_countVotes_33 : decode cX0_countVotes 33 = .ok (.iload 5, 2) := by decide +kernel
theorem dX0_countVotes_35 : decode cX0_countVotes 35 = .ok (.invokevirtual 33, 3) := by decide +kernel
theorem dX0_countVotes_38 : decode cX0_countVotes 38 = .ok (.iload_n 1, 1) := by decide +kernel
theorem dX0_countVotes_39 : decode cX0_countVotes 39 = .ok (.iload_n 2, 1) := by decide +kernel
theorem dX0_countVotes_40 : decode cX0_countVotes 40 = .ok (.invokestatic 36, 3) := by decide +kernel
theorem dX0_countVotes_43 : decode cX0_countVotes 43 = .ok (.ifCond .eq 12, 3) := by decide +kernel
theorem dX0_countVotes_46 : decode cX0_countVotes 46 = .ok (.iload 6, 2) := by decide +kernel
theorem dX0_countVotes_48 : decode cX0_countVotes 48 = .ok (.iload_n 3, 1) := by decide +kernel
theorem dX0_countVotes_49 : decode cX0_countVotes 49 = .ok (.if_icmp .ne 6, 3) := by decide +kernel
theorem dX0_countVotes_52 : decode cX0_countVotes 52 = .ok (.iinc 4 1, 3) := by decide +kernel
theorem dX0_countVotes_55 : decode cX0_countVotes 55 = .ok (.iinc 5 1, 3) := by decide +kernel
theorem dX0_countVotes_58 : decode cX0_countVotes 58 = .ok (.goto (-52), 3) := by decide +kernel
theorem dX0_countVotes_61 : decode cX0_countVotes 61 = .ok (.iload 4, 2) := by decide +kernel
theorem dX0_countVotes_63 : decode cX0_countVotes 63 = .ok (.ireturn, 1) := by decide +kernel
theorem dX0_copyFrom_0 : decode cX0_copyFrom 0 = .ok (.iconst 0, 1) := by decide +kernel
theorem dX0_copyFrom_1 : decode cX0_copyFrom 1 = .ok (.istore_n 2, 1) := by decide +kernel
theorem dX0_copyFrom_2 : decode cX0_copyFrom 2 = .ok (.iload_n 2, 1) := by decide +kernel
theorem dX0_copyFrom_3 : decode cX0_copyFrom 3 = .ok (.bipush 32, 2) := by decide +kernel
theorem dX0_copyFrom_5 : decode cX0_copyFrom 5 = .ok (.if_icmp .ge 33, 3) := by decide +kernel
theorem dX0_copyFrom_8 : decode cX0_copyFrom 8 = .ok (.aload_n 0, 1) := by decide +kernel
theorem dX0_copyFrom_9 : decode cX0_copyFrom 9 = .ok (.getfield 9, 3) := by decide +kernel
theorem dX0_copyFrom_12 : decode cX0_copyFrom 12 = .ok (.iload_n 2, 1) := by decide +kernel
theorem dX0_copyFrom_13 : decode cX0_copyFrom 13 = .ok (.aload_n 1, 1) := by decide +kernel
theorem dX0_copyFrom_14 : decode cX0_copyFrom 14 = .ok (.getfield 9, 3) := by decide +kernel
theorem dX0_copyFrom_17 : decode cX0_copyFrom 17 = .ok (.iload_n 2, 1) := by decide +kernel
theorem dX0_copyFrom_18 : decode cX0_copyFrom 18 = .ok (.iaload, 1) := by decide +kernel
theorem dX0_copyFrom_19 : decode cX0_copyFrom 19 = .ok (.iastore, 1) := by decide +kernel
theorem dX0_copyFrom_20 : decode cX0_copyFrom 20 = .ok (.aload_n 0, 1) := by decide +kernel
theorem dX0_copyFrom_21 : decode cX0_copyFrom 21 = .ok (.getfield 15, 3) := by decide +kernel
theorem dX0_copyFrom_24 : decode cX0_copyFrom 24 = .ok (.iload_n 2, 1) := by decide +kernel
theorem dX0_copyFrom_25 : decode cX0_copyFrom 25 = .ok (.aload_n 1, 1) := by decide +kernel
theorem dX0_copyFrom_26 : decode cX0_copyFrom 26 = .ok (.getfield 15, 3) := by decide +kernel
theorem dX0_copyFrom_29 : decode cX0_copyFrom 29 = .ok (.iload_n 2, 1) := by decide +kernel
theorem dX0_copyFrom_30 : decode cX0_copyFrom 30 = .ok (.iaload, 1) := by decide +kernel
theorem dX0_copyFrom_31 : decode cX0_copyFrom 31 = .ok (.iastore, 1) := by decide +kernel
theorem dX0_copyFrom_32 : decode cX0_copyFrom 32 = .ok (.iinc 2 1, 3) := by decide +kernel
theorem dX0_copyFrom_35 : decode cX0_copyFrom 35 = .ok (.goto (-33), 3) := by decide +kernel
theorem dX0_copyFrom_38 : decode cX0_copyFrom 38 = .ok (.aload_n 0, 1) := by decide +kernel
theorem dX0_copyFrom_39 : decode cX0_copyFrom 39 = .ok (.aload_n 1, 1) := by decide +kernel
theorem dX0_copyFrom_40 : decode cX0_copyFrom 40 = .ok (.getfield 18, 3) := by decide +kernel
theorem dX0_copyFrom_43 : decode cX0_copyFrom 43 = .ok (.putfield 18, 3) := by decide +kernel
theorem dX0_copyFrom_46 : decode cX0_copyFrom 46 = .ok (.aload_n 0, 1) := by decide +kernel
theorem dX0_copyFrom_47 : decode cX0_copyFrom 47 = .ok (.aload_n 1, 1) := by decide +kernel
theorem dX0_copyFrom_48 : decode cX0_copyFrom 48 = .ok (.getfield 22, 3) := by decide +kernel
theorem dX0_copyFrom_51 : decode cX0_copyFrom 51 = .ok (.putfield 22, 3) := by decide +kernel
theorem dX0_copyFrom_54 : decode cX0_copyFrom 54 = .ok (.return_, 1) := by decide +kernel
theorem dX1_init_0 : decode cX1_init 0 = .ok (.aload_n 0, 1) := by decide +kernel
theorem dX1_init_1 : decode cX1_init 1 = .ok (.invokespecial 3, 3) := by decide +kernel
theorem dX1_init_4 : decode cX1_init 4 = .ok (.aload_n 0, 1) := by decide +kernel
theorem dX1_init_5 : decode cX1_init 5 = .ok (.new 9, 3) := by decide +kernel
theorem dX1_init_8 : decode cX1_init 8 = .ok (.dup, 1) := by decide +kernel
theorem dX1_init_9 : decode cX1_init 9 = .ok (.invokespecial 11, 3) := by decide +kernel
theorem dX1_init_12 : decode cX1_init 12 = .ok (.putfield 12, 3) := by decide +kernel
theorem dX1_init_15 : decode cX1_init 15 = .ok (.aload_n 0, 1) := by decide +kernel
theorem dX1_init_16 : decode cX1_init 16 = .ok (.new 18, 3) := by decide +kernel
theorem dX1_init_19 : decode cX1_init 19 = .ok (.dup, 1) := by decide +kernel
theorem dX1_init_20 : decode cX1_init 20 = .ok (.invokespecial 20, 3) := by decide +kernel
theorem dX1_init_23 : decode cX1_init 23 = .ok (.putfield 21, 3) := by decide +kernel
theorem dX1_init_26 : decode cX1_init 26 = .ok (.aload_n 0, 1) := by decide +kernel
theorem dX1_init_27 : decode cX1_init 27 = .ok (.bipush 6, 2) := by decide +kernel
theorem dX1_init_29 : decode cX1_init 29 = .ok (.newarray .int, 2) := by decide +kernel
theorem dX1_init_31 : decode cX1_init 31 = .ok (.putfield 25, 3) := by decide +kernel
theorem dX1_init_34 : decode cX1_init 34 = .ok (.iconst 0, 1) := by decide +kernel
theorem dX1_init_35 : decode cX1_init 35 = .ok (.istore_n 1, 1) := by decide +kernel
theorem dX1_init_36 : decode cX1_init 36 = .ok (.iload_n 1, 1) := by decide +kernel
theorem dX1_init_37 : decode cX1_init 37 = .ok (.bipush 6, 2) := by decide +kernel
theorem dX1_init_39 : decode cX1_init 39 = .ok (.if_icmp .ge 17, 3) := by decide +kernel
theorem dX1_init_42 : decode cX1_init 42 = .ok (.aload_n 0, 1) := by decide +kernel
theorem dX1_init_43 : decode cX1_init 43 = .ok (.getfield 25, 3) := by decide +kernel
theorem dX1_init_46 : decode cX1_init 46 = .ok (.iload_n 1, 1) := by decide +kernel
theorem dX1_init_47 : decode cX1_init 47 = .ok (.ldc 29, 2) := by decide +kernel
theorem dX1_init_49 : decode cX1_init 49 = .ok (.iastore, 1) := by decide +kernel
theorem dX1_init_50 : decode cX1_init 50 = .ok (.iinc 1 1, 3) := by decide +kernel
theorem dX1_init_53 : decode cX1_init 53 = .ok (.goto (-17), 3) := by decide +kernel
theorem dX1_init_56 : decode cX1_init 56 = .ok (.return_, 1) := by decide +kernel
theorem dX1_copyFrom_0 : decode cX1_copyFrom 0 = .ok (.aload_n 0, 1) := by decide +kernel
theorem dX1_copyFrom_1 : decode cX1_copyFrom 1 = .ok (.getfield 12, 3) := by decide +kernel
theorem dX1_copyFrom_4 : decode cX1_copyFrom 4 = .ok (.aload_n 1, 1) := by decide +kernel
theorem dX1_copyFrom_5 : decode cX1_copyFrom 5 = .ok (.getfield 12, 3) := by decide +kernel
theorem dX1_copyFrom_8 : decode cX1_copyFrom 8 = .ok (.invokevirtual 30, 3) := by decide +kernel
theorem dX1_copyFrom_11 : decode cX1_copyFrom 11 = .ok (.aload_n 0, 1) := by decide +kernel
theorem dX1_copyFrom_12 : decode cX1_copyFrom 12 = .ok (.getfield 21, 3) := by decide +kernel
theorem dX1_copyFrom_15 : decode cX1_copyFrom 15 = .ok (.aload_n 1, 1) := by decide +kernel
theorem dX1_copyFrom_16 : decode cX1_copyFrom 16 = .ok (.getfield 21, 3) := by decide +kernel
theorem dX1_copyFrom_19 : decode cX1_copyFrom 19 = .ok (.invokevirtual 34, 3) := by decide +kernel
theorem dX1_copyFrom_22 : decode cX1_copyFrom 22 = .ok (.iconst 0, 1) := by decide +kernel
theorem dX1_copyFrom_23 : decode cX1_copyFrom 23 = .ok (.istore_n 2, 1) := by decide +kernel
theorem dX1_copyFrom_24 : decode cX1_copyFrom 24 = .ok (.iload_n 2, 1) := by decide +kernel
theorem dX1_copyFrom_25 : decode cX1_copyFrom 25 = .ok (.bipush 6, 2) := by decide +kernel
theorem dX1_copyFrom_27 : decode cX1_copyFrom 27 = .ok (.if_icmp .ge 21, 3) := by decide +kernel
theorem dX1_copyFrom_30 : decode cX1_copyFrom 30 = .ok (.aload_n 0, 1) := by decide +kernel
theorem dX1_copyFrom_31 : decode cX1_copyFrom 31 = .ok (.getfield 25, 3) := by decide +kernel
theorem dX1_copyFrom_34 : decode cX1_copyFrom 34 = .ok (.iload_n 2, 1) := by decide +kernel
theorem dX1_copyFrom_35 : decode cX1_copyFrom 35 = .ok (.aload_n 1, 1) := by decide +kernel
theorem dX1_copyFrom_36 : decode cX1_copyFrom 36 = .ok (.getfield 25, 3) := by decide +kernel
theorem dX1_copyFrom_39 : decode cX1_copyFrom 39 = .ok (.iload_n 2, 1) := by decide +kernel
theorem dX1_copyFrom_40 : decode cX1_copyFrom 40 = .ok (.iaload, 1) := by decide +kernel
theorem dX1_copyFrom_41 : decode cX1_copyFrom 41 = .ok (.iastore, 1) := by decide +kernel
theorem dX1_copyFrom_42 : decode cX1_copyFrom 42 = .ok (.iinc 2 1, 3) := by decide +kernel
theorem dX1_copyFrom_45 : decode cX1_copyFrom 45 = .ok (.goto (-21), 3) := by decide +kernel
theorem dX1_copyFrom_48 : decode cX1_copyFrom 48 = .ok (.return_, 1) := by decide +kernel
theorem dX2_init_0 : decode cX2_init 0 = .ok (.aload_n 0, 1) := by decide +kernel
theorem dX2_init_1 : decode cX2_init 1 = .ok (.invokespecial 3, 3) := by decide +kernel
theorem dX2_init_4 : decode cX2_init 4 = .ok (.aload_n 0, 1) := by decide +kernel
theorem dX2_init_5 : decode cX2_init 5 = .ok (.bipush 7, 2) := by decide +kernel
theorem dX2_init_7 : decode cX2_init 7 = .ok (.newarray .int, 2) := by decide +kernel
theorem dX2_init_9 : decode cX2_init 9 = .ok (.putfield 9, 3) := by decide +kernel
theorem dX2_init_12 : decode cX2_init 12 = .ok (.aload_n 0, 1) := by decide +kernel
theorem dX2_init_13 : decode cX2_init 13 = .ok (.bipush 7, 2) := by decide +kernel
theorem dX2_init_15 : decode cX2_init 15 = .ok (.newarray .int, 2) := by decide +kernel
theorem dX2_init_17 : decode cX2_init 17 = .ok (.putfield 15, 3) := by decide +kernel
theorem dX2_init_20 : decode cX2_init 20 = .ok (.aload_n 0, 1) := by decide +kernel
theorem dX2_init_21 : decode cX2_init 21 = .ok (.new 18, 3) := by decide +kernel
theorem dX2_init_24 : decode cX2_init 24 = .ok (.dup, 1) := by decide +kernel
theorem dX2_init_25 : decode cX2_init 25 = .ok (.invokespecial 20, 3) := by decide +kernel
theorem dX2_init_28 : decode cX2_init 28 = .ok (.putfield 21, 3) := by decide +kernel
theorem dX2_init_31 : decode cX2_init 31 = .ok (.aload_n 0, 1) := by decide +kernel
theorem dX2_init_32 : decode cX2_init 32 = .ok (.bipush 12, 2) := by decide +kernel
theorem dX2_init_34 : decode cX2_init 34 = .ok (.putfield 25, 3) := by decide +kernel
theorem dX2_init_37 : decode cX2_init 37 = .ok (.return_, 1) := by decide +kernel
theorem dX2_seat_0 : decode cX2_seat 0 = .ok (.iload_n 1, 1) := by decide +kernel
theorem dX2_seat_1 : decode cX2_seat 1 = .ok (.ifCond .lt 9, 3) := by decide +kernel
theorem dX2_seat_4 : decode cX2_seat 4 = .ok (.iload_n 1, 1) := by decide +kernel
theorem dX2_seat_5 : decode cX2_seat 5 = .ok (.bipush 7, 2) := by decide +kernel
theorem dX2_seat_7 : decode cX2_seat 7 = .ok (.if_icmp .lt 4, 3) := by decide +kernel
theorem dX2_seat_10 : decode cX2_seat 10 = .ok (.return_, 1) := by decide +kernel
theorem dX2_seat_11 : decode cX2_seat 11 = .ok (.aload_n 0, 1) := by decide +kernel
theorem dX2_seat_12 : decode cX2_seat 12 = .ok (.getfield 9, 3) := by decide +kernel
theorem dX2_seat_15 : decode cX2_seat 15 = .ok (.iload_n 1, 1) := by decide +kernel
theorem dX2_seat_16 : decode cX2_seat 16 = .ok (.iload_n 2, 1) := by decide +kernel
theorem dX2_seat_17 : decode cX2_seat 17 = .ok (.iastore, 1) := by decide +kernel
theorem dX2_seat_18 : decode cX2_seat 18 = .ok (.aload_n 0, 1) := by decide +kernel
theorem dX2_seat_19 : decode cX2_seat 19 = .ok (.getfield 15, 3) := by decide +kernel
theorem dX2_seat_22 : decode cX2_seat 22 = .ok (.iload_n 1, 1) := by decide +kernel
theorem dX2_seat_23 : decode cX2_seat 23 = .ok (.iload_n 3, 1) := by decide +kernel
theorem dX2_seat_24 : decode cX2_seat 24 = .ok (.iastore, 1) := by decide +kernel
theorem dX2_seat_25 : decode cX2_seat 25 = .ok (.aload_n 0, 1) := by decide +kernel
theorem dX2_seat_26 : decode cX2_seat 26 = .ok (.dup, 1) := by decide +kernel
theorem dX2_seat_27 : decode cX2_seat 27 = .ok (.getfield 29, 3) := by decide +kernel
theorem dX2_seat_30 : decode cX2_seat 30 = .ok (.iconst 1, 1) := by decide +kernel
theorem dX2_seat_31 : decode cX2_seat 31 = .ok (.iload_n 1, 1) := by decide +kernel
theorem dX2_seat_32 : decode cX2_seat 32 = .ok (.ishl, 1) := by decide +kernel
theorem dX2_seat_33 : decode cX2_seat 33 = .ok (.ior, 1) := by decide +kernel
theorem dX2_seat_34 : decode cX2_seat 34 = .ok (.putfield 29, 3) := by decide +kernel
theorem dX2_seat_37 : decode cX2_seat 37 = .ok (.aload_n 0, 1) := by decide +kernel
theorem dX2_seat_38 : decode cX2_seat 38 = .ok (.dup, 1) := by decide +kernel
theorem dX2_seat_39 : decode cX2_seat 39 = .ok (.getfield 32, 3) := by decide +kernel
theorem dX2_seat_42 : decode cX2_seat 42 = .ok (.iconst 1, 1) := by decide +kernel
theorem dX2_seat_43 : decode cX2_seat 43 = .ok (.iload_n 1, 1) := by decide +kernel
theorem dX2_seat_44 : decode cX2_seat 44 = .ok (.ishl, 1) := by decide +kernel
theorem dX2_seat_45 : decode cX2_seat 45 = .ok (.ior, 1) := by decide +kernel
theorem dX2_seat_46 : decode cX2_seat 46 = .ok (.putfield 32, 3) := by decide +kernel
theorem dX2_seat_49 : decode cX2_seat 49 = .ok (.return_, 1) := by decide +kernel
theorem dX2_unseat_0 : decode cX2_unseat 0 = .ok (.aload_n 0, 1) := by decide +kernel
theorem dX2_unseat_1 : decode cX2_unseat 1 = .ok (.dup, 1) := by decide +kernel
theorem dX2_unseat_2 : decode cX2_unseat 2 = .ok (.getfield 29, 3) := by decide +kernel
theorem dX2_unseat_5 : decode cX2_unseat 5 = .ok (.iconst 1, 1) := by decide +kernel
theorem dX2_unseat_6 : decode cX2_unseat 6 = .ok (.iload_n 1, 1) := by decide +kernel
theorem dX2_unseat_7 : decode cX2_unseat 7 = .ok (.ishl, 1) := by decide +kernel
theorem dX2_unseat_8 : decode cX2_unseat 8 = .ok (.iconst (-1), 1) := by decide +kernel
theorem dX2_unseat_9 : decode cX2_unseat 9 = .ok (.ixor, 1) := by decide +kernel
theorem dX2_unseat_10 : decode cX2_unseat 10 = .ok (.iand, 1) := by decide +kernel
theorem dX2_unseat_11 : decode cX2_unseat 11 = .ok (.putfield 29, 3) := by decide +kernel
theorem dX2_unseat_14 : decode cX2_unseat 14 = .ok (.aload_n 0, 1) := by decide +kernel
theorem dX2_unseat_15 : decode cX2_unseat 15 = .ok (.dup, 1) := by decide +kernel
theorem dX2_unseat_16 : decode cX2_unseat 16 = .ok (.getfield 32, 3) := by decide +kernel
theorem dX2_unseat_19 : decode cX2_unseat 19 = .ok (.iconst 1, 1) := by decide +kernel
theorem dX2_unseat_20 : decode cX2_unseat 20 = .ok (.iload_n 1, 1) := by decide +kernel
theorem dX2_unseat_21 : decode cX2_unseat 21 = .ok (.ishl, 1) := by decide +kernel
theorem dX2_unseat_22 : decode cX2_unseat 22 = .ok (.iconst (-1), 1) := by decide +kernel
theorem dX2_unseat_23 : decode cX2_unseat 23 = .ok (.ixor, 1) := by decide +kernel
theorem dX2_unseat_24 : decode cX2_unseat 24 = .ok (.iand, 1) := by decide +kernel
theorem dX2_unseat_25 : decode cX2_unseat 25 = .ok (.putfield 32, 3) := by decide +kernel
theorem dX2_unseat_28 : decode cX2_unseat 28 = .ok (.return_, 1) := by decide +kernel
theorem dX2_isThere_0 : decode cX2_isThere 0 = .ok (.iload_n 1, 1) := by decide +kernel
theorem dX2_isThere_1 : decode cX2_isThere 1 = .ok (.ifCond .lt 25, 3) := by decide +kernel
theorem dX2_isThere_4 : decode cX2_isThere 4 = .ok (.iload_n 1, 1) := by decide +kernel
theorem dX2_isThere_5 : decode cX2_isThere 5 = .ok (.bipush 7, 2) := by decide +kernel
theorem dX2_isThere_7 : decode cX2_isThere 7 = .ok (.if_icmp .ge 19, 3) := by decide +kernel
theorem dX2_isThere_10 : decode cX2_isThere 10 = .ok (.aload_n 0, 1) := by decide +kernel
theorem dX2_isThere_11 : decode cX2_isThere 11 = .ok (.getfield 29, 3) := by decide +kernel
theorem dX2_isThere_14 : decode cX2_isThere 14 = .ok (.iload_n 1, 1) := by decide +kernel
theorem dX2_isThere_15 : decode cX2_isThere 15 = .ok (.ishr, 1) := by decide +kernel
theorem dX2_isThere_16 : decode cX2_isThere 16 = .ok (.iconst 1, 1) := by decide +kernel
theorem dX2_isThere_17 : decode cX2_isThere 17 = .ok (.iand, 1) := by decide +kernel
theorem dX2_isThere_18 : decode cX2_isThere 18 = .ok (.iconst 1, 1) := by decide +kernel
theorem dX2_isThere_19 : decode cX2_isThere 19 = .ok (.if_icmp .ne 7, 3) := by decide +kernel
theorem dX2_isThere_22 : decode cX2_isThere 22 = .ok (.iconst 1, 1) := by decide +kernel
theorem dX2_isThere_23 : decode cX2_isThere 23 = .ok (.goto 4, 3) := by decide +kernel
theorem dX2_isThere_26 : decode cX2_isThere 26 = .ok (.iconst 0, 1) := by decide +kernel
theorem dX2_isThere_27 : decode cX2_isThere 27 = .ok (.ireturn, 1) := by decide +kernel
theorem dX2_isBelow_0 : decode cX2_isBelow 0 = .ok (.iload_n 1, 1) := by decide +kernel
theorem dX2_isBelow_1 : decode cX2_isBelow 1 = .ok (.ifCond .lt 25, 3) := by decide +kernel
theorem dX2_isBelow_4 : decode cX2_isBelow 4 = .ok (.iload_n 1, 1) := by decide +kernel
theorem dX2_isBelow_5 : decode cX2_isBelow 5 = .ok (.bipush 7, 2) := by decide +kernel
theorem dX2_isBelow_7 : decode cX2_isBelow 7 = .ok (.if_icmp .ge 19, 3) := by decide +kernel
theorem dX2_isBelow_10 : decode cX2_isBelow 10 = .ok (.aload_n 0, 1) := by decide +kernel
theorem dX2_isBelow_11 : decode cX2_isBelow 11 = .ok (.getfield 32, 3) := by decide +kernel
theorem dX2_isBelow_14 : decode cX2_isBelow 14 = .ok (.iload_n 1, 1) := by decide +kernel
theorem dX2_isBelow_15 : decode cX2_isBelow 15 = .ok (.ishr, 1) := by decide +kernel
theorem dX2_isBelow_16 : decode cX2_isBelow 16 = .ok (.iconst 1, 1) := by decide +kernel
theorem dX2_isBelow_17 : decode cX2_isBelow 17 = .ok (.iand, 1) := by decide +kernel
theorem dX2_isBelow_18 : decode cX2_isBelow 18 = .ok (.iconst 1, 1) := by decide +kernel
theorem dX2_isBelow_19 : decode cX2_isBelow 19 = .ok (.if_icmp .ne 7, 3) := by decide +kernel
theorem dX2_isBelow_22 : decode cX2_isBelow 22 = .ok (.iconst 1, 1) := by decide +kernel
theorem dX2_isBelow_23 : decode cX2_isBelow 23 = .ok (.goto 4, 3) := by decide +kernel
theorem dX2_isBelow_26 : decode cX2_isBelow 26 = .ok (.iconst 0, 1) := by decide +kernel
theorem dX2_isBelow_27 : decode cX2_isBelow 27 = .ok (.ireturn, 1) := by decide +kernel
theorem dX2_placeOf_0 : decode cX2_placeOf 0 = .ok (.iload_n 1, 1) := by decide +kernel
theorem dX2_placeOf_1 : decode cX2_placeOf 1 = .ok (.ifCond .lt 18, 3) := by decide +kernel
theorem dX2_placeOf_4 : decode cX2_placeOf 4 = .ok (.iload_n 1, 1) := by decide +kernel
theorem dX2_placeOf_5 : decode cX2_placeOf 5 = .ok (.bipush 7, 2) := by decide +kernel
theorem dX2_placeOf_7 : decode cX2_placeOf 7 = .ok (.if_icmp .ge 12, 3) := by decide +kernel
theorem dX2_placeOf_10 : decode cX2_placeOf 10 = .ok (.aload_n 0, 1) := by decide +kernel
theorem dX2_placeOf_11 : decode cX2_placeOf 11 = .ok (.getfield 9, 3) := by decide +kernel
theorem dX2_placeOf_14 : decode cX2_placeOf 14 = .ok (.iload_n 1, 1) := by decide +kernel
theorem dX2_placeOf_15 : decode cX2_placeOf 15 = .ok (.iaload, 1) := by decide +kernel
theorem dX2_placeOf_16 : decode cX2_placeOf 16 = .ok (.goto 4, 3) := by decide +kernel
theorem dX2_placeOf_19 : decode cX2_placeOf 19 = .ok (.iconst 0, 1) := by decide +kernel
theorem dX2_placeOf_20 : decode cX2_placeOf 20 = .ok (.ireturn, 1) := by decide +kernel
theorem dX2_breathOf_0 : decode cX2_breathOf 0 = .ok (.iload_n 1, 1) := by decide +kernel
theorem dX2_breathOf_1 : decode cX2_breathOf 1 = .ok (.ifCond .lt 18, 3) := by decide +kernel
theorem dX2_breathOf_4 : decode cX2_breathOf 4 = .ok (.iload_n 1, 1) := by decide +kernel
theorem dX2_breathOf_5 : decode cX2_breathOf 5 = .ok (.bipush 7, 2) := by decide +kernel
theorem dX2_breathOf_7 : decode cX2_breathOf 7 = .ok (.if_icmp .ge 12, 3) := by decide +kernel
theorem dX2_breathOf_10 : decode cX2_breathOf 10 = .ok (.aload_n 0, 1) := by decide +kernel
theorem dX2_breathOf_11 : decode cX2_breathOf 11 = .ok (.getfield 15, 3) := by decide +kernel
theorem dX2_breathOf_14 : decode cX2_breathOf 14 = .ok (.iload_n 1, 1) := by decide +kernel
theorem dX2_breathOf_15 : decode cX2_breathOf 15 = .ok (.iaload, 1) := by decide +kernel
theorem dX2_breathOf_16 : decode cX2_breathOf 16 = .ok (.goto 4, 3) := by decide +kernel
theorem dX2_breathOf_19 : decode cX2_breathOf 19 = .ok (.iconst 0, 1) := by decide +kernel
theorem dX2_breathOf_20 : decode cX2_breathOf 20 = .ok (.ireturn, 1) := by decide +kernel
theorem dX2_breathOfAll_0 : decode cX2_breathOfAll 0 = .ok (.iconst 0, 1) := by decide +kernel
theorem dX2_breathOfAll_1 : decode cX2_breathOfAll 1 = .ok (.istore_n 2, 1) := by decide +kernel
theorem dX2_breathOfAll_2 : decode cX2_breathOfAll 2 = .ok (.iconst 0, 1) := by decide +kernel
theorem dX2_breathOfAll_3 : decode cX2_breathOfAll 3 = .ok (.istore_n 3, 1) := by decide +kernel
theorem dX2_breathOfAll_4 : decode cX2_breathOfAll 4 = .ok (.iload_n 3, 1) := by decide +kernel
theorem dX2_breathOfAll_5 : decode cX2_breathOfAll 5 = .ok (.bipush 7, 2) := by decide +kernel
theorem dX2_breathOfAll_7 : decode cX2_breathOfAll 7 = .ok (.if_icmp .ge 27, 3) := by decide +kernel
theorem dX2_breathOfAll_10 : decode cX2_breathOfAll 10 = .ok (.iload_n 1, 1) := by decide +kernel
theorem dX2_breathOfAll_11 : decode cX2_breathOfAll 11 = .ok (.iload_n 3, 1) := by decide +kernel
theorem dX2_breathOfAll_12 : decode cX2_breathOfAll 12 = .ok (.ishr, 1) := by decide +kernel
theorem dX2_breathOfAll_13 : decode cX2_breathOfAll 13 = .ok (.iconst 1, 1) := by decide +kernel
theorem dX2_breathOfAll_14 : decode cX2_breathOfAll 14 = .ok (.iand, 1) := by decide +kernel
theorem dX2_breathOfAll_15 : decode cX2_breathOfAll 15 = .ok (.iconst 1, 1) := by decide +kernel
theorem dX2_breathOfAll_16 : decode cX2_breathOfAll 16 = .ok (.if_icmp .ne 12, 3) := by decide +kernel
theorem dX2_breathOfAll_19 : decode cX2_breathOfAll 19 = .ok (.iload_n 2, 1) := by decide +kernel
theorem dX2_breathOfAll_20 : decode cX2_breathOfAll 20 = .ok (.aload_n 0, 1) := by decide +kernel
theorem dX2_breathOfAll_21 : decode cX2_breathOfAll 21 = .ok (.getfield 15, 3) := by decide +kernel
theorem dX2_breathOfAll_24 : decode cX2_breathOfAll 24 = .ok (.iload_n 3, 1) := by decide +kernel
theorem dX2_breathOfAll_25 : decode cX2_breathOfAll 25 = .ok (.iaload, 1) := by decide +kernel
theorem dX2_breathOfAll_26 : decode cX2_breathOfAll 26 = .ok (.iadd, 1) := by decide +kernel
theorem dX2_breathOfAll_27 : decode cX2_breathOfAll 27 = .ok (.istore_n 2, 1) := by decide +kernel
theorem dX2_breathOfAll_28 : decode cX2_breathOfAll 28 = .ok (.iinc 3 1, 3) := by decide +kernel
theorem dX2_breathOfAll_31 : decode cX2_breathOfAll 31 = .ok (.goto (-27), 3) := by decide +kernel
theorem dX2_breathOfAll_34 : decode cX2_breathOfAll 34 = .ok (.iload_n 2, 1) := by decide +kernel
theorem dX2_breathOfAll_35 : decode cX2_breathOfAll 35 = .ok (.ireturn, 1) := by decide +kernel
theorem dX2_passes_0 : decode cX2_passes 0 = .ok (.iconst 2, 1) := by decide +kernel
theorem dX2_passes_1 : decode cX2_passes 1 = .ok (.aload_n 0, 1) := by decide +kernel
theorem dX2_passes_2 : decode cX2_passes 2 = .ok (.iload_n 1, 1) := by decide +kernel
theorem dX2_passes_3 : decode cX2_passes 3 = .ok (.invokevirtual 35, 3) := by decide +kernel
theorem dX2_passes_6 : decode cX2_passes 6 = .ok (.imul, 1) := by decide +kernel
theorem dX2_passes_7 : decode cX2_passes 7 = .ok (.aload_n 0, 1) := by decide +kernel
theorem dX2_passes_8 : decode cX2_passes 8 = .ok (.aload_n 0, 1) := by decide +kernel
theorem dX2_passes_9 : decode cX2_passes 9 = .ok (.getfield 32, 3) := by decide +kernel
theorem dX2_passes_12 : decode cX2_passes 12 = .ok (.invokevirtual 35, 3) := by decide +kernel
theorem dX2_passes_15 : decode cX2_passes 15 = .ok (.if_icmp .le 7, 3) := by decide +kernel
theorem dX2_passes_18 : decode cX2_passes 18 = .ok (.iconst 1, 1) := by decide +kernel
theorem dX2_passes_19 : decode cX2_passes 19 = .ok (.goto 4, 3) := by decide +kernel
theorem dX2_passes_22 : decode cX2_passes 22 = .ok (.iconst 0, 1) := by decide +kernel
theorem dX2_passes_23 : decode cX2_passes 23 = .ok (.ireturn, 1) := by decide +kernel
theorem dX2_minutesUp_0 : decode cX2_minutesUp 0 = .ok (.iload_n 1, 1) := by decide +kernel
theorem dX2_minutesUp_1 : decode cX2_minutesUp 1 = .ok (.iconst 1, 1) := by decide +kernel
theorem dX2_minutesUp_2 : decode cX2_minutesUp 2 = .ok (.if_icmp .ge 7, 3) := by decide +kernel
theorem dX2_minutesUp_5 : decode cX2_minutesUp 5 = .ok (.iconst 0, 1) := by decide +kernel
theorem dX2_minutesUp_6 : decode cX2_minutesUp 6 = .ok (.goto 13, 3) := by decide +kernel
theorem dX2_minutesUp_9 : decode cX2_minutesUp 9 = .ok (.aload_n 0, 1) := by decide +kernel
theorem dX2_minutesUp_10 : decode cX2_minutesUp 10 = .ok (.getfield 25, 3) := by decide +kernel
theorem dX2_minutesUp_13 : decode cX2_minutesUp 13 = .ok (.iload_n 1, 1) := by decide +kernel
theorem dX2_minutesUp_14 : decode cX2_minutesUp 14 = .ok (.iadd, 1) := by decide +kernel
theorem dX2_minutesUp_15 : decode cX2_minutesUp 15 = .ok (.iconst 1, 1) := by decide +kernel
theorem dX2_minutesUp_16 : decode cX2_minutesUp 16 = .ok (.isub, 1) := by decide +kernel
theorem dX2_minutesUp_17 : decode cX2_minutesUp 17 = .ok (.iload_n 1, 1) := by decide +kernel
theorem dX2_minutesUp_18 : decode cX2_minutesUp 18 = .ok (.idiv, 1) := by decide +kernel
theorem dX2_minutesUp_19 : decode cX2_minutesUp 19 = .ok (.ireturn, 1) := by decide +kernel
theorem dX2_placeUp_0 : decode cX2_placeUp 0 = .ok (.aload_n 0, 1) := by decide +kernel
theorem dX2_placeUp_1 : decode cX2_placeUp 1 = .ok (.iload_n 1, 1) := by decide +kernel
theorem dX2_placeUp_2 : decode cX2_placeUp 2 = .ok (.invokevirtual 39, 3) := by decide +kernel
theorem dX2_placeUp_5 : decode cX2_placeUp 5 = .ok (.aload_n 0, 1) := by decide +kernel
theorem dX2_placeUp_6 : decode cX2_placeUp 6 = .ok (.iload_n 2, 1) := by decide +kernel
theorem dX2_placeUp_7 : decode cX2_placeUp 7 = .ok (.invokevirtual 42, 3) := by decide +kernel
theorem dX2_placeUp_10 : decode cX2_placeUp 10 = .ok (.aload_n 0, 1) := by decide +kernel
theorem dX2_placeUp_11 : decode cX2_placeUp 11 = .ok (.getfield 45, 3) := by decide +kernel
theorem dX2_placeUp_14 : decode cX2_placeUp 14 = .ok (.imul, 1) := by decide +kernel
theorem dX2_placeUp_15 : decode cX2_placeUp 15 = .ok (.iadd, 1) := by decide +kernel
theorem dX2_placeUp_16 : decode cX2_placeUp 16 = .ok (.bipush 10, 2) := by decide +kernel
theorem dX2_placeUp_18 : decode cX2_placeUp 18 = .ok (.irem, 1) := by decide +kernel
theorem dX2_placeUp_19 : decode cX2_placeUp 19 = .ok (.ireturn, 1) := by decide +kernel
theorem dX2_whyNoBubble_0 : decode cX2_whyNoBubble 0 = .ok (.aload_n 0, 1) := by decide +kernel
theorem dX2_whyNoBubble_1 : decode cX2_whyNoBubble 1 = .ok (.iload_n 1, 1) := by decide +kernel
theorem dX2_whyNoBubble_2 : decode cX2_whyNoBubble 2 = .ok (.invokevirtual 48, 3) := by decide +kernel
theorem dX2_whyNoBubble_5 : decode cX2_whyNoBubble 5 = .ok (.ifCond .ne 5, 3) := by decide +kernel
theorem dX2_whyNoBubble_8 : decode cX2_whyNoBubble 8 = .ok (.iconst 1, 1) := by decide +kernel
theorem dX2_whyNoBubble_9 : decode cX2_whyNoBubble 9 = .ok (.ireturn, 1) := by decide +kernel
theorem dX2_whyNoBubble_10 : decode cX2_whyNoBubble 10 = .ok (.aload_n 0, 1) := by decide +kernel
theorem dX2_whyNoBubble_11 : decode cX2_whyNoBubble 11 = .ok (.iload_n 1, 1) := by decide +kernel
theorem dX2_whyNoBubble_12 : decode cX2_whyNoBubble 12 = .ok (.invokevirtual 52, 3) := by decide +kernel
theorem dX2_whyNoBubble_15 : decode cX2_whyNoBubble 15 = .ok (.iload_n 2, 1) := by decide +kernel
theorem dX2_whyNoBubble_16 : decode cX2_whyNoBubble 16 = .ok (.if_icmp .ge 5, 3) := by decide +kernel
theorem dX2_whyNoBubble_19 : decode cX2_whyNoBubble 19 = .ok (.iconst 2, 1) := by decide +kernel
theorem dX2_whyNoBubble_20 : decode cX2_whyNoBubble 20 = .ok (.ireturn, 1) := by decide +kernel
theorem dX2_whyNoBubble_21 : decode cX2_whyNoBubble 21 = .ok (.aload_n 0, 1) := by decide +kernel
theorem dX2_whyNoBubble_22 : decode cX2_whyNoBubble 22 = .ok (.getfield 21, 3) := by decide +kernel
theorem dX2_whyNoBubble_25 : decode cX2_whyNoBubble 25 = .ok (.getfield 55, 3) := by decide +kernel
theorem dX2_whyNoBubble_28 : decode cX2_whyNoBubble 28 = .ok (.bipush 32, 2) := by decide +kernel
theorem dX2_whyNoBubble_30 : decode cX2_whyNoBubble 30 = .ok (.if_icmp .lt 7, 3) := by decide +kernel
theorem dX2_whyNoBubble_33 : decode cX2_whyNoBubble 33 = .ok (.iconst 3, 1) := by decide +kernel
theorem dX2_whyNoBubble_34 : decode cX2_whyNoBubble 34 = .ok (.goto 4, 3) := by decide +kernel
theorem dX2_whyNoBubble_37 : decode cX2_whyNoBubble 37 = .ok (.iconst 0, 1) := by decide +kernel
theorem dX2_whyNoBubble_38 : decode cX2_whyNoBubble 38 = .ok (.ireturn, 1) := by decide +kernel
theorem dX2_makeBubble_0 : decode cX2_makeBubble 0 = .ok (.aload_n 0, 1) := by decide +kernel
theorem dX2_makeBubble_1 : decode cX2_makeBubble 1 = .ok (.iload_n 1, 1) := by decide +kernel
theorem dX2_makeBubble_2 : decode cX2_makeBubble 2 = .ok (.iload_n 2, 1) := by decide +kernel
theorem dX2_makeBubble_3 : decode cX2_makeBubble 3 = .ok (.invokevirtual 58, 3) := by decide +kernel
theorem dX2_makeBubble_6 : decode cX2_makeBubble 6 = .ok (.istore_n 3, 1) := by decide +kernel
theorem dX2_makeBubble_7 : decode cX2_makeBubble 7 = .ok (.iload_n 3, 1) := by decide +kernel
theorem dX2_makeBubble_8 : decode cX2_makeBubble 8 = .ok (.ifCond .ne 47, 3) := by decide +kernel
theorem dX2_makeBubble_11 : decode cX2_makeBubble 11 = .ok (.iload_n 1, 1) := by decide +kernel
theorem dX2_makeBubble_12 : decode cX2_makeBubble 12 = .ok (.ifCond .lt 43, 3) := by decide +kernel
theorem dX2_makeBubble_15 : decode cX2_makeBubble 15 = .ok (.iload_n 1, 1) := by decide +kernel
theorem dX2_makeBubble_16 : decode cX2_makeBubble 16 = .ok (.bipush 7, 2) := by decide +kernel
theorem dX2_makeBubble_18 : decode cX2_makeBubble 18 = .ok (.if_icmp .ge 37, 3) := by decide +kernel
theorem dX2_makeBubble_21 : decode cX2_makeBubble 21 = .ok (.aload_n 0, 1) := by decide +kernel
theorem dX2_makeBubble_22 : decode cX2_makeBubble 22 = .ok (.getfield 15, 3) := by decide +kernel
theorem dX2_makeBubble_25 : decode cX2_makeBubble 25 = .ok (.iload_n 1, 1) := by decide +kernel
theorem dX2_makeBubble_26 : decode cX2_makeBubble 26 = .ok (.dup2, 1) := by decide +kernel
theorem dX2_makeBubble_27 : decode cX2_makeBubble 27 = .ok (.iaload, 1) := by decide +kernel
theorem dX2_makeBubble_28 : decode cX2_makeBubble 28 = .ok (.iload_n 2, 1) := by decide +kernel
theorem dX2_makeBubble_29 : decode cX2_makeBubble 29 = .ok (.isub, 1) := by decide +kernel
theorem dX2_makeBubble_30 : decode cX2_makeBubble 30 = .ok (.iastore, 1) := by decide +kernel
theorem dX2_makeBubble_31 : decode cX2_makeBubble 31 = .ok (.aload_n 0, 1) := by decide +kernel
theorem dX2_makeBubble_32 : decode cX2_makeBubble 32 = .ok (.getfield 21, 3) := by decide +kernel
theorem dX2_makeBubble_35 : decode cX2_makeBubble 35 = .ok (.aload_n 0, 1) := by decide +kernel
theorem dX2_makeBubble_36 : decode cX2_makeBubble 36 = .ok (.getfield 62, 3) := by decide +kernel
theorem dX2_makeBubble_39 : decode cX2_makeBubble 39 = .ok (.aload_n 0, 1) := by decide +kernel
theorem dX2_makeBubble_40 : decode cX2_makeBubble 40 = .ok (.iload_n 2, 1) := by decide +kernel
theorem dX2_makeBubble_41 : decode cX2_makeBubble 41 = .ok (.invokevirtual 42, 3) := by decide +kernel
theorem dX2_makeBubble_44 : decode cX2_makeBubble 44 = .ok (.iadd, 1) := by decide +kernel
theorem dX2_makeBubble_45 : decode cX2_makeBubble 45 = .ok (.aload_n 0, 1) := by decide +kernel
theorem dX2_makeBubble_46 : decode cX2_makeBubble 46 = .ok (.iload_n 1, 1) := by decide +kernel
theorem dX2_makeBubble_47 : decode cX2_makeBubble 47 = .ok (.iload_n 2, 1) := by decide +kernel
theorem dX2_makeBubble_48 : decode cX2_makeBubble 48 = .ok (.invokevirtual 65, 3) := by decide +kernel
theorem dX2_makeBubble_51 : decode cX2_makeBubble 51 = .ok (.iload_n 2, 1) := by decide +kernel
theorem dX2_makeBubble_52 : decode cX2_makeBubble 52 = .ok (.invokevirtual 68, 3) := by decide +kernel
theorem dX2_makeBubble_55 : decode cX2_makeBubble 55 = .ok (.iload_n 3, 1) := by decide +kernel
theorem dX2_makeBubble_56 : decode cX2_makeBubble 56 = .ok (.ireturn, 1) := by decide +kernel
theorem dX2_rise_0 : decode cX2_rise 0 = .ok (.aload_n 0, 1) := by decide +kernel
theorem dX2_rise_1 : decode cX2_rise 1 = .ok (.iload_n 1, 1) := by decide +kernel
theorem dX2_rise_2 : decode cX2_rise 2 = .ok (.invokevirtual 48, 3) := by decide +kernel
theorem dX2_rise_5 : decode cX2_rise 5 = .ok (.ifCond .ne 5, 3) := by decide +kernel
theorem dX2_rise_8 : decode cX2_rise 8 = .ok (.iconst 1, 1) := by decide +kernel
theorem dX2_rise_9 : decode cX2_rise 9 = .ok (.ireturn, 1) := by decide +kernel
theorem dX2_rise_10 : decode cX2_rise 10 = .ok (.aload_n 0, 1) := by decide +kernel
theorem dX2_rise_11 : decode cX2_rise 11 = .ok (.dup, 1) := by decide +kernel
theorem dX2_rise_12 : decode cX2_rise 12 = .ok (.getfield 32, 3) := by decide +kernel
theorem dX2_rise_15 : decode cX2_rise 15 = .ok (.iconst 1, 1) := by decide +kernel
theorem dX2_rise_16 : decode cX2_rise 16 = .ok (.iload_n 1, 1) := by decide +kernel
theorem dX2_rise_17 : decode cX2_rise 17 = .ok (.ishl, 1) := by decide +kernel
theorem dX2_rise_18 : decode cX2_rise 18 = .ok (.iconst (-1), 1) := by decide +kernel
theorem dX2_rise_19 : decode cX2_rise 19 = .ok (.ixor, 1) := by decide +kernel
theorem dX2_rise_20 : decode cX2_rise 20 = .ok (.iand, 1) := by decide +kernel
theorem dX2_rise_21 : decode cX2_rise 21 = .ok (.putfield 32, 3) := by decide +kernel
theorem dX2_rise_24 : decode cX2_rise 24 = .ok (.iconst 0, 1) := by decide +kernel
theorem dX2_rise_25 : decode cX2_rise 25 = .ok (.ireturn, 1) := by decide +kernel
theorem dX2_passMinute_0 : decode cX2_passMinute 0 = .ok (.aload_n 0, 1) := by decide +kernel
theorem dX2_passMinute_1 : decode cX2_passMinute 1 = .ok (.getfield 62, 3) := by decide +kernel
theorem dX2_passMinute_4 : decode cX2_passMinute 4 = .ok (.bipush 99, 2) := by decide +kernel
theorem dX2_passMinute_6 : decode cX2_passMinute 6 = .ok (.if_icmp .lt 5, 3) := by decide +kernel
theorem dX2_passMinute_9 : decode cX2_passMinute 9 = .ok (.iconst 4, 1) := by decide +kernel
theorem dX2_passMinute_10 : decode cX2_passMinute 10 = .ok (.ireturn, 1) := by decide +kernel
theorem dX2_passMinute_11 : decode cX2_passMinute 11 = .ok (.aload_n 0, 1) := by decide +kernel
theorem dX2_passMinute_12 : decode cX2_passMinute 12 = .ok (.dup, 1) := by decide +kernel
theorem dX2_passMinute_13 : decode cX2_passMinute 13 = .ok (.getfield 62, 3) := by decide +kernel
theorem dX2_passMinute_16 : decode cX2_passMinute 16 = .ok (.iconst 1, 1) := by decide +kernel
theorem dX2_passMinute_17 : decode cX2_passMinute 17 = .ok (.iadd, 1) := by decide +kernel
theorem dX2_passMinute_18 : decode cX2_passMinute 18 = .ok (.putfield 62, 3) := by decide +kernel
theorem dX2_passMinute_21 : decode cX2_passMinute 21 = .ok (.iconst 0, 1) := by decide +kernel
theorem dX2_passMinute_22 : decode cX2_passMinute 22 = .ok (.istore_n 1, 1) := by decide +kernel
theorem dX2_passMinute_23 : decode cX2_passMinute 23 = .ok (.iload_n 1, 1) := by decide +kernel
theorem dX2_passMinute_24 : decode cX2_passMinute 24 = .ok (.bipush 7, 2) := by decide +kernel
theorem dX2_passMinute_26 : decode cX2_passMinute 26 = .ok (.if_icmp .ge 56, 3) := by decide +kernel
theorem dX2_passMinute_29 : decode cX2_passMinute 29 = .ok (.aload_n 0, 1) := by decide +kernel
theorem dX2_passMinute_30 : decode cX2_passMinute 30 = .ok (.iload_n 1, 1) := by decide +kernel
theorem dX2_passMinute_31 : decode cX2_passMinute 31 = .ok (.invokevirtual 48, 3) := by decide +kernel
theorem dX2_passMinute_34 : decode cX2_passMinute 34 = .ok (.ifCond .ne 6, 3) := by decide +kernel
theorem dX2_passMinute_37 : decode cX2_passMinute 37 = .ok (.goto 39, 3) := by decide +kernel
theorem dX2_passMinute_40 : decode cX2_passMinute 40 = .ok (.aload_n 0, 1) := by decide +kernel
theorem dX2_passMinute_41 : decode cX2_passMinute 41 = .ok (.getfield 15, 3) := by decide +kernel
theorem dX2_passMinute_44 : decode cX2_passMinute 44 = .ok (.iload_n 1, 1) := by decide +kernel
theorem dX2_passMinute_45 : decode cX2_passMinute 45 = .ok (.iaload, 1) := by decide +kernel
theorem dX2_passMinute_46 : decode cX2_passMinute 46 = .ok (.ifCond .ne 20, 3) := by decide +kernel
theorem dX2_passMinute_49 : decode cX2_passMinute 49 = .ok (.aload_n 0, 1) := by decide +kernel
theorem dX2_passMinute_50 : decode cX2_passMinute 50 = .ok (.dup, 1) := by decide +kernel
theorem dX2_passMinute_51 : decode cX2_passMinute 51 = .ok (.getfield 32, 3) := by decide +kernel
theorem dX2_passMinute_54 : decode cX2_passMinute 54 = .ok (.iconst 1, 1) := by decide +kernel
theorem dX2_passMinute_55 : decode cX2_passMinute 55 = .ok (.iload_n 1, 1) := by decide +kernel
theorem dX2_passMinute_56 : decode cX2_passMinute 56 = .ok (.ishl, 1) := by decide +kernel
theorem dX2_passMinute_57 : decode cX2_passMinute 57 = .ok (.iconst (-1), 1) := by decide +kernel
theorem dX2_passMinute_58 : decode cX2_passMinute 58 = .ok (.ixor, 1) := by decide +kernel
theorem dX2_passMinute_59 : decode cX2_passMinute 59 = .ok (.iand, 1) := by decide +kernel
theorem dX2_passMinute_60 : decode cX2_passMinute 60 = .ok (.putfield 32, 3) := by decide +kernel
theorem dX2_passMinute_63 : decode cX2_passMinute 63 = .ok (.goto 13, 3) := by decide +kernel
theorem dX2_passMinute_66 : decode cX2_passMinute 66 = .ok (.aload_n 0, 1) := by decide +kernel
theorem dX2_passMinute_67 : decode cX2_passMinute 67 = .ok (.getfield 15, 3) := by decide +kernel
theorem dX2_passMinute_70 : decode cX2_passMinute 70 = .ok (.iload_n 1, 1) := by decide +kernel
theorem dX2_passMinute_71 : decode cX2_passMinute 71 = .ok (.dup2, 1) := by decide +kernel
theorem dX2_passMinute_72 : decode cX2_passMinute 72 = .ok (.iaload, 1) := by decide +kernel
theorem dX2_passMinute_73 : decode cX2_passMinute 73 = .ok (.iconst 1, 1) := by decide +kernel
theorem dX2_passMinute_74 : decode cX2_passMinute 74 = .ok (.isub, 1) := by decide +kernel
theorem dX2_passMinute_75 : decode cX2_passMinute 75 = .ok (.iastore, 1) := by decide +kernel
theorem dX2_passMinute_76 : decode cX2_passMinute 76 = .ok (.iinc 1 1, 3) := by decide +kernel
theorem dX2_passMinute_79 : decode cX2_passMinute 79 = .ok (.goto (-56), 3) := by decide +kernel
theorem dX2_passMinute_82 : decode cX2_passMinute 82 = .ok (.iconst 0, 1) := by decide +kernel
theorem dX2_passMinute_83 : decode cX2_passMinute 83 = .ok (.ireturn, 1) := by decide +kernel
theorem dX2_drawnAct_0 : decode cX2_drawnAct 0 = .ok (.iload_n 1, 1) := by decide +kernel
theorem dX2_drawnAct_1 : decode cX2_drawnAct 1 = .ok (.bipush 8, 2) := by decide +kernel
theorem dX2_drawnAct_3 : decode cX2_drawnAct 3 = .ok (.irem, 1) := by decide +kernel
theorem dX2_drawnAct_4 : decode cX2_drawnAct 4 = .ok (.istore_n 2, 1) := by decide +kernel
theorem dX2_drawnAct_5 : decode cX2_drawnAct 5 = .ok (.iload_n 2, 1) := by decide +kernel
theorem dX2_drawnAct_6 : decode cX2_drawnAct 6 = .ok (.iconst 3, 1) := by decide +kernel
theorem dX2_drawnAct_7 : decode cX2_drawnAct 7 = .ok (.if_icmp .ge 11, 3) := by decide +kernel
theorem dX2_drawnAct_10 : decode cX2_drawnAct 10 = .ok (.aload_n 0, 1) := by decide +kernel
theorem dX2_drawnAct_11 : decode cX2_drawnAct 11 = .ok (.invokevirtual 72, 3) := by decide +kernel
theorem dX2_drawnAct_14 : decode cX2_drawnAct 14 = .ok (.pop, 1) := by decide +kernel
theorem dX2_drawnAct_15 : decode cX2_drawnAct 15 = .ok (.goto 43, 3) := by decide +kernel
theorem dX2_drawnAct_18 : decode cX2_drawnAct 18 = .ok (.iload_n 2, 1) := by decide +kernel
theorem dX2_drawnAct_19 : decode cX2_drawnAct 19 = .ok (.iconst 3, 1) := by decide +kernel
theorem dX2_drawnAct_20 : decode cX2_drawnAct 20 = .ok (.if_icmp .ne 17, 3) := by decide +kernel
theorem dX2_drawnAct_23 : decode cX2_drawnAct 23 = .ok (.aload_n 0, 1) := by decide +kernel
theorem dX2_drawnAct_24 : decode cX2_drawnAct 24 = .ok (.iload_n 1, 1) := by decide +kernel
theorem dX2_drawnAct_25 : decode cX2_drawnAct 25 = .ok (.bipush 8, 2) := by decide +kernel
theorem dX2_drawnAct_27 : decode cX2_drawnAct 27 = .ok (.idiv, 1) := by decide +kernel
theorem dX2_drawnAct_28 : decode cX2_drawnAct 28 = .ok (.bipush 10, 2) := by decide +kernel
theorem dX2_drawnAct_30 : decode cX2_drawnAct 30 = .ok (.irem, 1) := by decide +kernel
theorem dX2_drawnAct_31 : decode cX2_drawnAct 31 = .ok (.putfield 45, 3) := by decide +kernel
theorem dX2_drawnAct_34 : decode cX2_drawnAct 34 = .ok (.goto 24, 3) := by decide +kernel
theorem dX2_drawnAct_37 : decode cX2_drawnAct 37 = .ok (.aload_n 0, 1) := by decide +kernel
theorem dX2_drawnAct_38 : decode cX2_drawnAct 38 = .ok (.iload_n 1, 1) := by decide +kernel
theorem dX2_drawnAct_39 : decode cX2_drawnAct 39 = .ok (.bipush 8, 2) := by decide +kernel
theorem dX2_drawnAct_41 : decode cX2_drawnAct 41 = .ok (.idiv, 1) := by decide +kernel
theorem dX2_drawnAct_42 : decode cX2_drawnAct 42 = .ok (.bipush 7, 2) := by decide +kernel
theorem dX2_drawnAct_44 : decode cX2_drawnAct 44 = .ok (.irem, 1) := by decide +kernel
theorem dX2_drawnAct_45 : decode cX2_drawnAct 45 = .ok (.iconst 1, 1) := by decide +kernel
theorem dX2_drawnAct_46 : decode cX2_drawnAct 46 = .ok (.iload_n 1, 1) := by decide +kernel
theorem dX2_drawnAct_47 : decode cX2_drawnAct 47 = .ok (.bipush 64, 2) := by decide +kernel
theorem dX2_drawnAct_49 : decode cX2_drawnAct 49 = .ok (.idiv, 1) := by decide +kernel
theorem dX2_drawnAct_50 : decode cX2_drawnAct 50 = .ok (.bipush 9, 2) := by decide +kernel
theorem dX2_drawnAct_52 : decode cX2_drawnAct 52 = .ok (.irem, 1) := by decide +kernel
theorem dX2_drawnAct_53 : decode cX2_drawnAct 53 = .ok (.iadd, 1) := by decide +kernel
theorem dX2_drawnAct_54 : decode cX2_drawnAct 54 = .ok (.invokevirtual 76, 3) := by decide +kernel
theorem dX2_drawnAct_57 : decode cX2_drawnAct 57 = .ok (.pop, 1) := by decide +kernel
theorem dX2_drawnAct_58 : decode cX2_drawnAct 58 = .ok (.return_, 1) := by decide +kernel
theorem dX2_copyFrom_0 : decode cX2_copyFrom 0 = .ok (.iconst 0, 1) := by decide +kernel
theorem dX2_copyFrom_1 : decode cX2_copyFrom 1 = .ok (.istore_n 2, 1) := by decide +kernel
theorem dX2_copyFrom_2 : decode cX2_copyFrom 2 = .ok (.iload_n 2, 1) := by decide +kernel
theorem dX2_copyFrom_3 : decode cX2_copyFrom 3 = .ok (.bipush 7, 2) := by decide +kernel
theorem dX2_copyFrom_5 : decode cX2_copyFrom 5 = .ok (.if_icmp .ge 33, 3) := by decide +kernel
theorem dX2_copyFrom_8 : decode cX2_copyFrom 8 = .ok (.aload_n 0, 1) := by decide +kernel
theorem dX2_copyFrom_9 : decode cX2_copyFrom 9 = .ok (.getfield 9, 3) := by decide +kernel
theorem dX2_copyFrom_12 : decode cX2_copyFrom 12 = .ok (.iload_n 2, 1) := by decide +kernel
theorem dX2_copyFrom_13 : decode cX2_copyFrom 13 = .ok (.aload_n 1, 1) := by decide +kernel
theorem dX2_copyFrom_14 : decode cX2_copyFrom 14 = .ok (.getfield 9, 3) := by decide +kernel
theorem dX2_copyFrom_17 : decode cX2_copyFrom 17 = .ok (.iload_n 2, 1) := by decide +kernel
theorem dX2_copyFrom_18 : decode cX2_copyFrom 18 = .ok (.iaload, 1) := by decide +kernel
theorem dX2_copyFrom_19 : decode cX2_copyFrom 19 = .ok (.iastore, 1) := by decide +kernel
theorem dX2_copyFrom_20 : decode cX2_copyFrom 20 = .ok (.aload_n 0, 1) := by decide +kernel
theorem dX2_copyFrom_21 : decode cX2_copyFrom 21 = .ok (.getfield 15, 3) := by decide +kernel
theorem dX2_copyFrom_24 : decode cX2_copyFrom 24 = .ok (.iload_n 2, 1) := by decide +kernel
theorem dX2_copyFrom_25 : decode cX2_copyFrom 25 = .ok (.aload_n 1, 1) := by decide +kernel
theorem dX2_copyFrom_26 : decode cX2_copyFrom 26 = .ok (.getfield 15, 3) := by decide +kernel
theorem dX2_copyFrom_29 : decode cX2_copyFrom 29 = .ok (.iload_n 2, 1) := by decide +kernel
theorem dX2_copyFrom_30 : decode cX2_copyFrom 30 = .ok (.iaload, 1) := by decide +kernel
theorem dX2_copyFrom_31 : decode cX2_copyFrom 31 = .ok (.iastore, 1) := by decide +kernel
theorem dX2_copyFrom_32 : decode cX2_copyFrom 32 = .ok (.iinc 2 1, 3) := by decide +kernel
theorem dX2_copyFrom_35 : decode cX2_copyFrom 35 = .ok (.goto (-33), 3) := by decide +kernel
theorem dX2_copyFrom_38 : decode cX2_copyFrom 38 = .ok (.aload_n 0, 1) := by decide +kernel
theorem dX2_copyFrom_39 : decode cX2_copyFrom 39 = .ok (.getfield 21, 3) := by decide +kernel
theorem dX2_copyFrom_42 : decode cX2_copyFrom 42 = .ok (.aload_n 1, 1) := by decide +kernel
theorem dX2_copyFrom_43 : decode cX2_copyFrom 43 = .ok (.getfield 21, 3) := by decide +kernel
theorem dX2_copyFrom_46 : decode cX2_copyFrom 46 = .ok (.invokevirtual 79, 3) := by decide +kernel
theorem dX2_copyFrom_49 : decode cX2_copyFrom 49 = .ok (.aload_n 0, 1) := by decide +kernel
theorem dX2_copyFrom_50 : decode cX2_copyFrom 50 = .ok (.aload_n 1, 1) := by decide +kernel
theorem dX2_copyFrom_51 : decode cX2_copyFrom 51 = .ok (.getfield 29, 3) := by decide +kernel
theorem dX2_copyFrom_54 : decode cX2_copyFrom 54 = .ok (.putfield 29, 3) := by decide +kernel
theorem dX2_copyFrom_57 : decode cX2_copyFrom 57 = .ok (.aload_n 0, 1) := by decide +kernel
theorem dX2_copyFrom_58 : decode cX2_copyFrom 58 = .ok (.aload_n 1, 1) := by decide +kernel
theorem dX2_copyFrom_59 : decode cX2_copyFrom 59 = .ok (.getfield 32, 3) := by decide +kernel
theorem dX2_copyFrom_62 : decode cX2_copyFrom 62 = .ok (.putfield 32, 3) := by decide +kernel
theorem dX2_copyFrom_65 : decode cX2_copyFrom 65 = .ok (.aload_n 0, 1) := by decide +kernel
theorem dX2_copyFrom_66 : decode cX2_copyFrom 66 = .ok (.aload_n 1, 1) := by decide +kernel
theorem dX2_copyFrom_67 : decode cX2_copyFrom 67 = .ok (.getfield 25, 3) := by decide +kernel
theorem dX2_copyFrom_70 : decode cX2_copyFrom 70 = .ok (.putfield 25, 3) := by decide +kernel
theorem dX2_copyFrom_73 : decode cX2_copyFrom 73 = .ok (.aload_n 0, 1) := by decide +kernel
theorem dX2_copyFrom_74 : decode cX2_copyFrom 74 = .ok (.aload_n 1, 1) := by decide +kernel
theorem dX2_copyFrom_75 : decode cX2_copyFrom 75 = .ok (.getfield 45, 3) := by decide +kernel
theorem dX2_copyFrom_78 : decode cX2_copyFrom 78 = .ok (.putfield 45, 3) := by decide +kernel
theorem dX2_copyFrom_81 : decode cX2_copyFrom 81 = .ok (.aload_n 0, 1) := by decide +kernel
theorem dX2_copyFrom_82 : decode cX2_copyFrom 82 = .ok (.aload_n 1, 1) := by decide +kernel
theorem dX2_copyFrom_83 : decode cX2_copyFrom 83 = .ok (.getfield 62, 3) := by decide +kernel
theorem dX2_copyFrom_86 : decode cX2_copyFrom 86 = .ok (.putfield 62, 3) := by decide +kernel
theorem dX2_copyFrom_89 : decode cX2_copyFrom 89 = .ok (.return_, 1) := by decide +kernel
theorem dX3_init_0 : decode cX3_init 0 = .ok (.aload_n 0, 1) := by decide +kernel
theorem dX3_init_1 : decode cX3_init 1 = .ok (.invokespecial 3, 3) := by decide +kernel
theorem dX3_init_4 : decode cX3_init 4 = .ok (.aload_n 0, 1) := by decide +kernel
theorem dX3_init_5 : decode cX3_init 5 = .ok (.bipush 60, 2) := by decide +kernel
theorem dX3_init_7 : decode cX3_init 7 = .ok (.newarray .int, 2) := by decide +kernel
theorem dX3_init_9 : decode cX3_init 9 = .ok (.putfield 9, 3) := by decide +kernel
theorem dX3_init_12 : decode cX3_init 12 = .ok (.return_, 1) := by decide +kernel
theorem dX3_add_0 : decode cX3_add 0 = .ok (.aload_n 0, 1) := by decide +kernel
theorem dX3_add_1 : decode cX3_add 1 = .ok (.getfield 15, 3) := by decide +kernel
theorem dX3_add_4 : decode cX3_add 4 = .ok (.iconst 0, 1) := by decide +kernel
theorem dX3_add_5 : decode cX3_add 5 = .ok (.bipush 59, 2) := by decide +kernel
theorem dX3_add_7 : decode cX3_add 7 = .ok (.invokestatic 19, 3) := by decide +kernel
theorem dX3_add_10 : decode cX3_add 10 = .ok (.ifCond .eq 23, 3) := by decide +kernel
theorem dX3_add_13 : decode cX3_add 13 = .ok (.aload_n 0, 1) := by decide +kernel
theorem dX3_add_14 : decode cX3_add 14 = .ok (.getfield 9, 3) := by decide +kernel
theorem dX3_add_17 : decode cX3_add 17 = .ok (.aload_n 0, 1) := by decide +kernel
theorem dX3_add_18 : decode cX3_add 18 = .ok (.getfield 15, 3) := by decide +kernel
theorem dX3_add_21 : decode cX3_add 21 = .ok (.iload_n 1, 1) := by decide +kernel
theorem dX3_add_22 : decode cX3_add 22 = .ok (.iastore, 1) := by decide +kernel
theorem dX3_add_23 : decode cX3_add 23 = .ok (.aload_n 0, 1) := by decide +kernel
theorem dX3_add_24 : decode cX3_add 24 = .ok (.dup, 1) := by decide +kernel
theorem dX3_add_25 : decode cX3_add 25 = .ok (.getfield 15, 3) := by decide +kernel
theorem dX3_add_28 : decode cX3_add 28 = .ok (.iconst 1, 1) := by decide +kernel
theorem dX3_add_29 : decode cX3_add 29 = .ok (.iadd, 1) := by decide +kernel
theorem dX3_add_30 : decode cX3_add 30 = .ok (.putfield 15, 3) := by decide +kernel
theorem dX3_add_33 : decode cX3_add 33 = .ok (.return_, 1) := by decide +kernel
theorem dX3_signAt_0 : decode cX3_signAt 0 = .ok (.iload_n 1, 1) := by decide +kernel
theorem dX3_signAt_1 : decode cX3_signAt 1 = .ok (.iconst 0, 1) := by decide +kernel
theorem dX3_signAt_2 : decode cX3_signAt 2 = .ok (.bipush 59, 2) := by decide +kernel
theorem dX3_signAt_4 : decode cX3_signAt 4 = .ok (.invokestatic 19, 3) := by decide +kernel
theorem dX3_signAt_7 : decode cX3_signAt 7 = .ok (.ifCond .eq 12, 3) := by decide +kernel
theorem dX3_signAt_10 : decode cX3_signAt 10 = .ok (.aload_n 0, 1) := by decide +kernel
theorem dX3_signAt_11 : decode cX3_signAt 11 = .ok (.getfield 9, 3) := by decide +kernel
theorem dX3_signAt_14 : decode cX3_signAt 14 = .ok (.iload_n 1, 1) := by decide +kernel
theorem dX3_signAt_15 : decode cX3_signAt 15 = .ok (.iaload, 1) := by decide +kernel
theorem dX3_signAt_16 : decode cX3_signAt 16 = .ok (.goto 4, 3) := by decide +kernel
theorem dX3_signAt_19 : decode cX3_signAt 19 = .ok (.iconst 0, 1) := by decide +kernel
theorem dX3_signAt_20 : decode cX3_signAt 20 = .ok (.ireturn, 1) := by decide +kernel
theorem dX3_firstFault_0 : decode cX3_firstFault 0 = .ok (.iconst 0, 1) := by decide +kernel
theorem dX3_firstFault_1 : decode cX3_firstFault 1 = .ok (.istore_n 1, 1) := by decide +kernel
theorem dX3_firstFault_2 : decode cX3_firstFault 2 = .ok (.iload_n 1, 1) := by decide +kernel
theorem dX3_firstFault_3 : decode cX3_firstFault 3 = .ok (.aload_n 0, 1) := by decide +kernel
theorem dX3_firstFault_4 : decode cX3_firstFault 4 = .ok (.getfield 15, 3) := by decide +kernel
theorem dX3_firstFault_7 : decode cX3_firstFault 7 = .ok (.if_icmp .ge 79, 3) := by decide +kernel
theorem dX3_firstFault_10 : decode cX3_firstFault 10 = .ok (.aload_n 0, 1) := by decide +kernel
theorem dX3_firstFault_11 : decode cX3_firstFault 11 = .ok (.iload_n 1, 1) := by decide +kernel
theorem dX3_firstFault_12 : decode cX3_firstFault 12 = .ok (.invokevirtual 23, 3) := by decide +kernel
theorem dX3_firstFault_15 : decode cX3_firstFault 15 = .ok (.istore_n 2, 1) := by decide +kernel
theorem dX3_firstFault_16 : decode cX3_firstFault 16 = .ok (.iload_n 2, 1) := by decide +kernel
theorem dX3_firstFault_17 : decode cX3_firstFault 17 = .ok (.bipush 46, 2) := by decide +kernel
theorem dX3_firstFault_19 : decode cX3_firstFault 19 = .ok (.if_icmp .ne 9, 3) := by decide +kernel
theorem dX3_firstFault_22 : decode cX3_firstFault 22 = .ok (.iinc 1 1, 3) := by decide +kernel
theorem dX3_firstFault_25 : decode cX3_firstFault 25 = .ok (.goto (-23), 3) := by decide +kernel
theorem dX3_firstFault_28 : decode cX3_firstFault 28 = .ok (.iload_n 2, 1) := by decide +kernel
theorem dX3_firstFault_29 : decode cX3_firstFault 29 = .ok (.bipush 126, 2) := by decide +kernel
theorem dX3_firstFault_31 : decode cX3_firstFault 31 = .ok (.if_icmp .eq 16, 3) := by decide +kernel
theorem dX3_firstFault_34 : decode cX3_firstFault 34 = .ok (.iload_n 2, 1) := by decide +kernel
theorem dX3_firstFault_35 : decode cX3_firstFault 35 = .ok (.bipush 65, 2) := by decide +kernel
theorem dX3_firstFault_37 : decode cX3_firstFault 37 = .ok (.bipush 71, 2) := by decide +kernel
theorem dX3_firstFault_39 : decode cX3_firstFault 39 = .ok (.invokestatic 19, 3) := by decide +kernel
theorem dX3_firstFault_42 : decode cX3_firstFault 42 = .ok (.ifCond .ne 5, 3) := by decide +kernel
theorem dX3_firstFault_45 : decode cX3_firstFault 45 = .ok (.iload_n 1, 1) := by decide +kernel
theorem dX3_firstFault_46 : decode cX3_firstFault 46 = .ok (.ireturn, 1) := by decide +kernel
theorem dX3_firstFault_47 : decode cX3_firstFault 47 = .ok (.iload_n 1, 1) := by decide +kernel
theorem dX3_firstFault_48 : decode cX3_firstFault 48 = .ok (.iconst 1, 1) := by decide +kernel
theorem dX3_firstFault_49 : decode cX3_firstFault 49 = .ok (.iadd, 1) := by decide +kernel
theorem dX3_firstFault_50 : decode cX3_firstFault 50 = .ok (.aload_n 0, 1) := by decide +kernel
theorem dX3_firstFault_51 : decode cX3_firstFault 51 = .ok (.getfield 15, 3) := by decide +kernel
theorem dX3_firstFault_54 : decode cX3_firstFault 54 = .ok (.if_icmp .lt 8, 3) := by decide +kernel
theorem dX3_firstFault_57 : decode cX3_firstFault 57 = .ok (.aload_n 0, 1) := by decide +kernel
theorem dX3_firstFault_58 : decode cX3_firstFault 58 = .ok (.getfield 15, 3) := by decide +kernel
theorem dX3_firstFault_61 : decode cX3_firstFault 61 = .ok (.ireturn, 1) := by decide +kernel
theorem dX3_firstFault_62 : decode cX3_firstFault 62 = .ok (.iload_n 2, 1) := by decide +kernel
theorem dX3_firstFault_63 : decode cX3_firstFault 63 = .ok (.aload_n 0, 1) := by decide +kernel
theorem dX3_firstFault_64 : decode cX3_firstFault 64 = .ok (.iload_n 1, 1) := by decide +kernel
theorem dX3_firstFault_65 : decode cX3_firstFault 65 = .ok (.iconst 1, 1) := by decide +kernel
theorem dX3_firstFault_66 : decode cX3_firstFault 66 = .ok (.iadd, 1) := by decide +kernel
theorem dX3_firstFault_67 : decode cX3_firstFault 67 = .ok (.invokevirtual 23, 3) := by decide +kernel
theorem dX3_firstFault_70 : decode cX3_firstFault 70 = .ok (.invokestatic 27, 3) := by decide +kernel
theorem dX3_firstFault_73 : decode cX3_firstFault 73 = .ok (.ifCond .ne 7, 3) := by decide +kernel
theorem dX3_firstFault_76 : decode cX3_firstFault 76 = .ok (.iload_n 1, 1) := by decide +kernel
theorem dX3_firstFault_77 : decode cX3_firstFault 77 = .ok (.iconst 1, 1) := by decide +kernel
theorem dX3_firstFault_78 : decode cX3_firstFault 78 = .ok (.iadd, 1) := by decide +kernel
theorem dX3_firstFault_79 : decode cX3_firstFault 79 = .ok (.ireturn, 1) := by decide +kernel
theorem dX3_firstFault_80 : decode cX3_firstFault 80 = .ok (.iinc 1 2, 3) := by decide +kernel
theorem dX3_firstFault_83 : decode cX3_firstFault 83 = .ok (.goto (-81), 3) := by decide +kernel
theorem dX3_firstFault_86 : decode cX3_firstFault 86 = .ok (.bipush (-6), 2) := by decide +kernel
theorem dX3_firstFault_88 : decode cX3_firstFault 88 = .ok (.ireturn, 1) := by decide +kernel
theorem dX3_canFollow_0 : decode cX3_canFollow 0 = .ok (.iload_n 0, 1) := by decide +kernel
theorem dX3_canFollow_1 : decode cX3_canFollow 1 = .ok (.bipush 126, 2) := by decide +kernel
theorem dX3_canFollow_3 : decode cX3_canFollow 3 = .ok (.if_icmp .ne 12, 3) := by decide +kernel
theorem dX3_canFollow_6 : decode cX3_canFollow 6 = .ok (.iload_n 1, 1) := by decide +kernel
theorem dX3_canFollow_7 : decode cX3_canFollow 7 = .ok (.bipush 48, 2) := by decide +kernel
theorem dX3_canFollow_9 : decode cX3_canFollow 9 = .ok (.bipush 57, 2) := by decide +kernel
theorem dX3_canFollow_11 : decode cX3_canFollow 11 = .ok (.invokestatic 19, 3) := by decide +kernel
theorem dX3_canFollow_14 : decode cX3_canFollow 14 = .ok (.ireturn, 1) := by decide +kernel
theorem dX3_canFollow_15 : decode cX3_canFollow 15 = .ok (.iload_n 1, 1) := by decide +kernel
theorem dX3_canFollow_16 : decode cX3_canFollow 16 = .ok (.bipush 94, 2) := by decide +kernel
theorem dX3_canFollow_18 : decode cX3_canFollow 18 = .ok (.if_icmp .eq 14, 3) := by decide +kernel
theorem dX3_canFollow_21 : decode cX3_canFollow 21 = .ok (.iload_n 1, 1) := by decide +kernel
theorem dX3_canFollow_22 : decode cX3_canFollow 22 = .ok (.bipush 49, 2) := by decide +kernel
theorem dX3_canFollow_24 : decode cX3_canFollow 24 = .ok (.bipush 57, 2) := by decide +kernel
theorem dX3_canFollow_26 : decode cX3_canFollow 26 = .ok (.invokestatic 19, 3) := by decide +kernel
theorem dX3_canFollow_29 : decode cX3_canFollow 29 = .ok (.ifCond .eq 7, 3) := by decide +kernel
theorem dX3_canFollow_32 : decode cX3_canFollow 32 = .ok (.iconst 1, 1) := by decide +kernel
theorem dX3_canFollow_33 : decode cX3_canFollow 33 = .ok (.goto 4, 3) := by decide +kernel
theorem dX3_canFollow_36 : decode cX3_canFollow 36 = .ok (.iconst 0, 1) := by decide +kernel
theorem dX3_canFollow_37 : decode cX3_canFollow 37 = .ok (.ireturn, 1) := by decide +kernel
theorem dX4_init_0 : decode cX4_init 0 = .ok (.aload_n 0, 1) := by decide +kernel
theorem dX4_init_1 : decode cX4_init 1 = .ok (.invokespecial 3, 3) := by decide +kernel
theorem dX4_init_4 : decode cX4_init 4 = .ok (.aload_n 0, 1) := by decide +kernel
theorem dX4_init_5 : decode cX4_init 5 = .ok (.bipush 8, 2) := by decide +kernel
theorem dX4_init_7 : decode cX4_init 7 = .ok (.newarray .int, 2) := by decide +kernel
theorem dX4_init_9 : decode cX4_init 9 = .ok (.putfield 9, 3) := by decide +kernel
theorem dX4_init_12 : decode cX4_init 12 = .ok (.aload_n 0, 1) := by decide +kernel
theorem dX4_init_13 : decode cX4_init 13 = .ok (.bipush 8, 2) := by decide +kernel
theorem dX4_init_15 : decode cX4_init 15 = .ok (.newarray .int, 2) := by decide +kernel
theorem dX4_init_17 : decode cX4_init 17 = .ok (.putfield 15, 3) := by decide +kernel
theorem dX4_init_20 : decode cX4_init 20 = .ok (.aload_n 0, 1) := by decide +kernel
theorem dX4_init_21 : decode cX4_init 21 = .ok (.bipush 8, 2) := by decide +kernel
theorem dX4_init_23 : decode cX4_init 23 = .ok (.newarray .int, 2) := by decide +kernel
theorem dX4_init_25 : decode cX4_init 25 = .ok (.putfield 18, 3) := by decide +kernel
theorem dX4_init_28 : decode cX4_init 28 = .ok (.return_, 1) := by decide +kernel
theorem dX4_add_0 : decode cX4_add 0 = .ok (.aload_n 0, 1) := by decide +kernel
theorem dX4_add_1 : decode cX4_add 1 = .ok (.getfield 21, 3) := by decide +kernel
theorem dX4_add_4 : decode cX4_add 4 = .ok (.iconst 0, 1) := by decide +kernel
theorem dX4_add_5 : decode cX4_add 5 = .ok (.bipush 7, 2) := by decide +kernel
theorem dX4_add_7 : decode cX4_add 7 = .ok (.invokestatic 25, 3) := by decide +kernel
theorem dX4_add_10 : decode cX4_add 10 = .ok (.ifCond .ne 4, 3) := by decide +kernel
theorem dX4_add_13 : decode cX4_add 13 = .ok (.return_, 1) := by decide +kernel
theorem dX4_add_14 : decode cX4_add 14 = .ok (.aload_n 0, 1) := by decide +kernel
theorem dX4_add_15 : decode cX4_add 15 = .ok (.getfield 9, 3) := by decide +kernel
theorem dX4_add_18 : decode cX4_add 18 = .ok (.aload_n 0, 1) := by decide +kernel
theorem dX4_add_19 : decode cX4_add 19 = .ok (.getfield 21, 3) := by decide +kernel
theorem dX4_add_22 : decode cX4_add 22 = .ok (.iload_n 1, 1) := by decide +kernel
theorem dX4_add_23 : decode cX4_add 23 = .ok (.iastore, 1) := by decide +kernel
theorem dX4_add_24 : decode cX4_add 24 = .ok (.aload_n 0, 1) := by decide +kernel
theorem dX4_add_25 : decode cX4_add 25 = .ok (.getfield 15, 3) := by decide +kernel
theorem dX4_add_28 : decode cX4_add 28 = .ok (.aload_n 0, 1) := by decide +kernel
theorem dX4_add_29 : decode cX4_add 29 = .ok (.getfield 21, 3) := by decide +kernel
theorem dX4_add_32 : decode cX4_add 32 = .ok (.iload_n 2, 1) := by decide +kernel
theorem dX4_add_33 : decode cX4_add 33 = .ok (.iastore, 1) := by decide +kernel
theorem dX4_add_34 : decode cX4_add 34 = .ok (.aload_n 0, 1) := by decide +kernel
theorem dX4_add_35 : decode cX4_add 35 = .ok (.getfield 18, 3) := by decide +kernel
theorem dX4_add_38 : decode cX4_add 38 = .ok (.aload_n 0, 1) := by decide +kernel
theorem dX4_add_39 : decode cX4_add 39 = .ok (.getfield 21, 3) := by decide +kernel
theorem dX4_add_42 : decode cX4_add 42 = .ok (.iload_n 3, 1) := by decide +kernel
theorem dX4_add_43 : decode cX4_add 43 = .ok (.iastore, 1) := by decide +kernel
theorem dX4_add_44 : decode cX4_add 44 = .ok (.aload_n 0, 1) := by decide +kernel
theorem dX4_add_45 : decode cX4_add 45 = .ok (.dup, 1) := by decide +kernel
theorem dX4_add_46 : decode cX4_add 46 = .ok (.getfield 21, 3) := by decide +kernel
theorem dX4_add_49 : decode cX4_add 49 = .ok (.iconst 1, 1) := by decide +kernel
theorem dX4_add_50 : decode cX4_add 50 = .ok (.iadd, 1) := by decide +kernel
theorem dX4_add_51 : decode cX4_add 51 = .ok (.putfield 21, 3) := by decide +kernel
theorem dX4_add_54 : decode cX4_add 54 = .ok (.return_, 1) := by decide +kernel
theorem dX4_canBeOf_0 : decode cX4_canBeOf 0 = .ok (.iconst 0, 1) := by decide +kernel
theorem dX4_canBeOf_1 : decode cX4_canBeOf 1 = .ok (.istore_n 3, 1) := by decide +kernel
theorem dX4_canBeOf_2 : decode cX4_canBeOf 2 = .ok (.iload_n 3, 1) := by decide +kernel
theorem dX4_canBeOf_3 : decode cX4_canBeOf 3 = .ok (.aload_n 0, 1) := by decide +kernel
theorem dX4_canBeOf_4 : decode cX4_canBeOf 4 = .ok (.getfield 21, 3) := by decide +kernel
theorem dX4_canBeOf_7 : decode cX4_canBeOf 7 = .ok (.if_icmp .ge 68, 3) := by decide +kernel
theorem dX4_canBeOf_10 : decode cX4_canBeOf 10 = .ok (.iload_n 3, 1) := by decide +kernel
theorem dX4_canBeOf_11 : decode cX4_canBeOf 11 = .ok (.bipush 8, 2) := by decide +kernel
theorem dX4_canBeOf_13 : decode cX4_canBeOf 13 = .ok (.if_icmp .ge 62, 3) := by decide +kernel
theorem dX4_canBeOf_16 : decode cX4_canBeOf 16 = .ok (.aload_n 0, 1) := by decide +kernel
theorem dX4_canBeOf_17 : decode cX4_canBeOf 17 = .ok (.getfield 15, 3) := by decide +kernel
theorem dX4_canBeOf_20 : decode cX4_canBeOf 20 = .ok (.iload_n 3, 1) := by decide +kernel
theorem dX4_canBeOf_21 : decode cX4_canBeOf 21 = .ok (.iaload, 1) := by decide +kernel
theorem dX4_canBeOf_22 : decode cX4_canBeOf 22 = .ok (.aload_n 2, 1) := by decide +kernel
theorem dX4_canBeOf_23 : decode cX4_canBeOf 23 = .ok (.aload_n 0, 1) := by decide +kernel
theorem dX4_canBeOf_24 : decode cX4_canBeOf 24 = .ok (.getfield 9, 3) := by decide +kernel
theorem dX4_canBeOf_27 : decode cX4_canBeOf 27 = .ok (.iload_n 3, 1) := by decide +kernel
theorem dX4_canBeOf_28 : decode cX4_canBeOf 28 = .ok (.iaload, 1) := by decide +kernel
theorem dX4_canBeOf_29 : decode cX4_canBeOf 29 = .ok (.invokevirtual 29, 3) := by decide +kernel
theorem dX4_canBeOf_32 : decode cX4_canBeOf 32 = .ok (.if_icmp .lt 7, 3) := by decide +kernel
theorem dX4_canBeOf_35 : decode cX4_canBeOf 35 = .ok (.iconst 1, 1) := by decide +kernel
theorem dX4_canBeOf_36 : decode cX4_canBeOf 36 = .ok (.goto 4, 3) := by decide +kernel
theorem dX4_canBeOf_39 : decode cX4_canBeOf 39 = .ok (.iconst 0, 1) := by decide +kernel
theorem dX4_canBeOf_40 : decode cX4_canBeOf 40 = .ok (.istore 4, 2) := by decide +kernel
theorem dX4_canBeOf_42 : decode cX4_canBeOf 42 = .ok (.iload 4, 2) := by decide +kernel
theorem dX4_canBeOf_44 : decode cX4_canBeOf 44 = .ok (.ifCond .eq 23, 3) := by decide +kernel
theorem dX4_canBeOf_47 : decode cX4_canBeOf 47 = .ok (.aload_n 2, 1) := by decide +kernel
theorem dX4_canBeOf_48 : decode cX4_canBeOf 48 = .ok (.iload_n 1, 1) := by decide +kernel
theorem dX4_canBeOf_49 : decode cX4_canBeOf 49 = .ok (.aload_n 0, 1) := by decide +kernel
theorem dX4_canBeOf_50 : decode cX4_canBeOf 50 = .ok (.getfield 9, 3) := by decide +kernel
theorem dX4_canBeOf_53 : decode cX4_canBeOf 53 = .ok (.iload_n 3, 1) := by decide +kernel
theorem dX4_canBeOf_54 : decode cX4_canBeOf 54 = .ok (.iaload, 1) := by decide +kernel
theorem dX4_canBeOf_55 : decode cX4_canBeOf 55 = .ok (.invokevirtual 35, 3) := by decide +kernel
theorem dX4_canBeOf_58 : decode cX4_canBeOf 58 = .ok (.aload_n 0, 1) := by decide +kernel
theorem dX4_canBeOf_59 : decode cX4_canBeOf 59 = .ok (.getfield 18, 3) := by decide +kernel
theorem dX4_canBeOf_62 : decode cX4_canBeOf 62 = .ok (.iload_n 3, 1) := by decide +kernel
theorem dX4_canBeOf_63 : decode cX4_canBeOf 63 = .ok (.iaload, 1) := by decide +kernel
theorem dX4_canBeOf_64 : decode cX4_canBeOf 64 = .ok (.if_icmp .eq 5, 3) := by decide +kernel
theorem dX4_canBeOf_67 : decode cX4_canBeOf 67 = .ok (.iconst 0, 1) := by decide +kernel
theorem dX4_canBeOf_68 : decode cX4_canBeOf 68 = .ok (.ireturn, 1) := by decide +kernel
theorem dX4_canBeOf_69 : decode cX4_canBeOf 69 = .ok (.iinc 3 1, 3) := by decide +kernel
theorem dX4_canBeOf_72 : decode cX4_canBeOf 72 = .ok (.goto (-70), 3) := by decide +kernel
theorem dX4_canBeOf_75 : decode cX4_canBeOf 75 = .ok (.iconst 1, 1) := by decide +kernel
theorem dX4_canBeOf_76 : decode cX4_canBeOf 76 = .ok (.ireturn, 1) := by decide +kernel
theorem dX4_copyFrom_0 : decode cX4_copyFrom 0 = .ok (.iconst 0, 1) := by decide +kernel
theorem dX4_copyFrom_1 : decode cX4_copyFrom 1 = .ok (.istore_n 2, 1) := by decide +kernel
theorem dX4_copyFrom_2 : decode cX4_copyFrom 2 = .ok (.iload_n 2, 1) := by decide +kernel
theorem dX4_copyFrom_3 : decode cX4_copyFrom 3 = .ok (.bipush 8, 2) := by decide +kernel
theorem dX4_copyFrom_5 : decode cX4_copyFrom 5 = .ok (.if_icmp .ge 45, 3) := by decide +kernel
theorem dX4_copyFrom_8 : decode cX4_copyFrom 8 = .ok (.aload_n 0, 1) := by decide +kernel
theorem dX4_copyFrom_9 : decode cX4_copyFrom 9 = .ok (.getfield 9, 3) := by decide +kernel
theorem dX4_copyFrom_12 : decode cX4_copyFrom 12 = .ok (.iload_n 2, 1) := by decide +kernel
theorem dX4_copyFrom_13 : decode cX4_copyFrom 13 = .ok (.aload_n 1, 1) := by decide +kernel
theorem dX4_copyFrom_14 : decode cX4_copyFrom 14 = .ok (.getfield 9, 3) := by decide +kernel
theorem dX4_copyFrom_17 : decode cX4_copyFrom 17 = .ok (.iload_n 2, 1) := by decide +kernel
theorem dX4_copyFrom_18 : decode cX4_copyFrom 18 = .ok (.iaload, 1) := by decide +kernel
theorem dX4_copyFrom_19 : decode cX4_copyFrom 19 = .ok (.iastore, 1) := by decide +kernel
theorem dX4_copyFrom_20 : decode cX4_copyFrom 20 = .ok (.aload_n 0, 1) := by decide +kernel
theorem dX4_copyFrom_21 : decode cX4_copyFrom 21 = .ok (.getfield 15, 3) := by decide +kernel
theorem dX4_copyFrom_24 : decode cX4_copyFrom 24 = .ok (.iload_n 2, 1) := by decide +kernel
theorem dX4_copyFrom_25 : decode cX4_copyFrom 25 = .ok (.aload_n 1, 1) := by decide +kernel
theorem dX4_copyFrom_26 : decode cX4_copyFrom 26 = .ok (.getfield 15, 3) := by decide +kernel
theorem dX4_copyFrom_29 : decode cX4_copyFrom 29 = .ok (.iload_n 2, 1) := by decide +kernel
theorem dX4_copyFrom_30 : decode cX4_copyFrom 30 = .ok (.iaload, 1) := by decide +kernel
theorem dX4_copyFrom_31 : decode cX4_copyFrom 31 = .ok (.iastore, 1) := by decide +kernel
theorem dX4_copyFrom_32 : decode cX4_copyFrom 32 = .ok (.aload_n 0, 1) := by decide +kernel
theorem dX4_copyFrom_33 : decode cX4_copyFrom 33 = .ok (.getfield 18, 3) := by decide +kernel
theorem dX4_copyFrom_36 : decode cX4_copyFrom 36 = .ok (.iload_n 2, 1) := by decide +kernel
theorem dX4_copyFrom_37 : decode cX4_copyFrom 37 = .ok (.aload_n 1, 1) := by decide +kernel
theorem dX4_copyFrom_38 : decode cX4_copyFrom 38 = .ok (.getfield 18, 3) := by decide +kernel
theorem dX4_copyFrom_41 : decode cX4_copyFrom 41 = .ok (.iload_n 2, 1) := by decide +kernel
theorem dX4_copyFrom_42 : decode cX4_copyFrom 42 = .ok (.iaload, 1) := by decide +kernel
theorem dX4_copyFrom_43 : decode cX4_copyFrom 43 = .ok (.iastore, 1) := by decide +kernel
theorem dX4_copyFrom_44 : decode cX4_copyFrom 44 = .ok (.iinc 2 1, 3) := by decide +kernel
theorem dX4_copyFrom_47 : decode cX4_copyFrom 47 = .ok (.goto (-45), 3) := by decide +kernel
theorem dX4_copyFrom_50 : decode cX4_copyFrom 50 = .ok (.aload_n 0, 1) := by decide +kernel
theorem dX4_copyFrom_51 : decode cX4_copyFrom 51 = .ok (.aload_n 1, 1) := by decide +kernel
theorem dX4_copyFrom_52 : decode cX4_copyFrom 52 = .ok (.getfield 21, 3) := by decide +kernel
theorem dX4_copyFrom_55 : decode cX4_copyFrom 55 = .ok (.putfield 21, 3) := by decide +kernel
theorem dX4_copyFrom_58 : decode cX4_copyFrom 58 = .ok (.return_, 1) := by decide +kernel
theorem dX5_init_0 : decode cX5_init 0 = .ok (.aload_n 0, 1) := by decide +kernel
theorem dX5_init_1 : decode cX5_init 1 = .ok (.invokespecial 1, 3) := by decide +kernel
theorem dX5_init_4 : decode cX5_init 4 = .ok (.return_, 1) := by decide +kernel
theorem dX5_run_0 : decode cX5_run 0 = .ok (.aload_n 0, 1) := by decide +kernel
theorem dX5_run_1 : decode cX5_run 1 = .ok (.iconst 0, 1) := by decide +kernel
theorem dX5_run_2 : decode cX5_run 2 = .ok (.putfield 7, 3) := by decide +kernel
theorem dX5_run_5 : decode cX5_run 5 = .ok (.aload_n 0, 1) := by decide +kernel
theorem dX5_run_6 : decode cX5_run 6 = .ok (.iconst 0, 1) := by decide +kernel
theorem dX5_run_7 : decode cX5_run 7 = .ok (.putfield 13, 3) := by decide +kernel
theorem dX5_run_10 : decode cX5_run 10 = .ok (.iconst 0, 1) := by decide +kernel
theorem dX5_run_11 : decode cX5_run 11 = .ok (.istore_n 3, 1) := by decide +kernel
theorem dX5_run_12 : decode cX5_run 12 = .ok (.iload_n 3, 1) := by decide +kernel
theorem dX5_run_13 : decode cX5_run 13 = .ok (.aload_n 1, 1) := by decide +kernel
theorem dX5_run_14 : decode cX5_run 14 = .ok (.getfield 16, 3) := by decide +kernel
theorem dX5_run_17 : decode cX5_run 17 = .ok (.if_icmp .ge 63, 3) := by decide +kernel
theorem dX5_run_20 : decode cX5_run 20 = .ok (.aload_n 1, 1) := by decide +kernel
theorem dX5_run_21 : decode cX5_run 21 = .ok (.iload_n 3, 1) := by decide +kernel
theorem dX5_run_22 : decode cX5_run 22 = .ok (.invokevirtual 21, 3) := by decide +kernel
theorem dX5_run_25 : decode cX5_run 25 = .ok (.istore 4, 2) := by decide +kernel
theorem dX5_run_27 : decode cX5_run 27 = .ok (.aload_n 0, 1) := by decide +kernel
theorem dX5_run_28 : decode cX5_run 28 = .ok (.aload_n 2, 1) := by decide +kernel
theorem dX5_run_29 : decode cX5_run 29 = .ok (.iload 4, 2) := by decide +kernel
theorem dX5_run_31 : decode cX5_run 31 = .ok (.aload_n 1, 1) := by decide +kernel
theorem dX5_run_32 : decode cX5_run 32 = .ok (.iload_n 3, 1) := by decide +kernel
theorem dX5_run_33 : decode cX5_run 33 = .ok (.iconst 1, 1) := by decide +kernel
theorem dX5_run_34 : decode cX5_run 34 = .ok (.iadd, 1) := by decide +kernel
theorem dX5_run_35 : decode cX5_run 35 = .ok (.invokevirtual 21, 3) := by decide +kernel
theorem dX5_run_38 : decode cX5_run 38 = .ok (.invokestatic 25, 3) := by decide +kernel
theorem dX5_run_41 : decode cX5_run 41 = .ok (.putfield 13, 3) := by decide +kernel
theorem dX5_run_44 : decode cX5_run 44 = .ok (.aload_n 0, 1) := by decide +kernel
theorem dX5_run_45 : decode cX5_run 45 = .ok (.getfield 13, 3) := by decide +kernel
theorem dX5_run_48 : decode cX5_run 48 = .ok (.ifCond .eq 4, 3) := by decide +kernel
theorem dX5_run_51 : decode cX5_run 51 = .ok (.return_, 1) := by decide +kernel
theorem dX5_run_52 : decode cX5_run 52 = .ok (.aload_n 0, 1) := by decide +kernel
theorem dX5_run_53 : decode cX5_run 53 = .ok (.dup, 1) := by decide +kernel
theorem dX5_run_54 : decode cX5_run 54 = .ok (.getfield 7, 3) := by decide +kernel
theorem dX5_run_57 : decode cX5_run 57 = .ok (.iconst 1, 1) := by decide +kernel
theorem dX5_run_58 : decode cX5_run 58 = .ok (.iadd, 1) := by decide +kernel
theorem dX5_run_59 : decode cX5_run 59 = .ok (.putfield 7, 3) := by decide +kernel
theorem dX5_run_62 : decode cX5_run 62 = .ok (.iload_n 3, 1) := by decide +kernel
theorem dX5_run_63 : decode cX5_run 63 = .ok (.iload 4, 2) := by decide +kernel
theorem dX5_run_65 : decode cX5_run 65 = .ok (.bipush 46, 2) := by decide +kernel
theorem dX5_run_67 : decode cX5_run 67 = .ok (.if_icmp .ne 7, 3) := by decide +kernel
theorem dX5_run_70 : decode cX5_run 70 = .ok (.iconst 1, 1) := by decide +kernel
theorem dX5_run_71 : decode cX5_run 71 = .ok (.goto 4, 3) := by decide +kernel
theorem dX5_run_74 : decode cX5_run 74 = .ok (.iconst 2, 1) := by decide +kernel
theorem dX5_run_75 : decode cX5_run 75 = .ok (.iadd, 1) := by decide +kernel
theorem dX5_run_76 : decode cX5_run 76 = .ok (.istore_n 3, 1) := by decide +kernel
theorem dX5_run_77 : decode cX5_run 77 = .ok (.goto (-65), 3) := by decide +kernel
theorem dX5_run_80 : decode cX5_run 80 = .ok (.return_, 1) := by decide +kernel
theorem dX5_act_0 : decode cX5_act 0 = .ok (.iload_n 1, 1) := by decide +kernel
theorem dX5_act_1 : decode cX5_act 1 = .ok (.bipush 46, 2) := by decide +kernel
theorem dX5_act_3 : decode cX5_act 3 = .ok (.if_icmp .ne 8, 3) := by decide +kernel
theorem dX5_act_6 : decode cX5_act 6 = .ok (.aload_n 0, 1) := by decide +kernel
theorem dX5_act_7 : decode cX5_act 7 = .ok (.invokevirtual 29, 3) := by decide +kernel
theorem dX5_act_10 : decode cX5_act 10 = .ok (.ireturn, 1) := by decide +kernel
theorem dX5_act_11 : decode cX5_act 11 = .ok (.iload_n 1, 1) := by decide +kernel
theorem dX5_act_12 : decode cX5_act 12 = .ok (.bipush 126, 2) := by decide +kernel
theorem dX5_act_14 : decode cX5_act 14 = .ok (.if_icmp .ne 13, 3) := by decide +kernel
theorem dX5_act_17 : decode cX5_act 17 = .ok (.aload_n 0, 1) := by decide +kernel
theorem dX5_act_18 : decode cX5_act 18 = .ok (.iload_n 2, 1) := by decide +kernel
theorem dX5_act_19 : decode cX5_act 19 = .ok (.bipush 48, 2) := by decide +kernel
theorem dX5_act_21 : decode cX5_act 21 = .ok (.isub, 1) := by decide +kernel
theorem dX5_act_22 : decode cX5_act 22 = .ok (.putfield 35, 3) := by decide +kernel
theorem dX5_act_25 : decode cX5_act 25 = .ok (.iconst 0, 1) := by decide +kernel
theorem dX5_act_26 : decode cX5_act 26 = .ok (.ireturn, 1) := by decide +kernel
theorem dX5_act_27 : decode cX5_act 27 = .ok (.iload_n 2, 1) := by decide +kernel
theorem dX5_act_28 : decode cX5_act 28 = .ok (.bipush 94, 2) := by decide +kernel
theorem dX5_act_30 : decode cX5_act 30 = .ok (.if_icmp .ne 12, 3) := by decide +kernel
theorem dX5_act_33 : decode cX5_act 33 = .ok (.aload_n 0, 1) := by decide +kernel
theorem dX5_act_34 : decode cX5_act 34 = .ok (.iload_n 1, 1) := by decide +kernel
theorem dX5_act_35 : decode cX5_act 35 = .ok (.bipush 65, 2) := by decide +kernel
theorem dX5_act_37 : decode cX5_act 37 = .ok (.isub, 1) := by decide +kernel
theorem dX5_act_38 : decode cX5_act 38 = .ok (.invokevirtual 38, 3) := by decide +kernel
theorem dX5_act_41 : decode cX5_act 41 = .ok (.ireturn, 1) := by decide +kernel
theorem dX5_act_42 : decode cX5_act 42 = .ok (.aload_n 0, 1) := by decide +kernel
theorem dX5_act_43 : decode cX5_act 43 = .ok (.iload_n 1, 1) := by decide +kernel
theorem dX5_act_44 : decode cX5_act 44 = .ok (.bipush 65, 2) := by decide +kernel
theorem dX5_act_46 : decode cX5_act 46 = .ok (.isub, 1) := by decide +kernel
theorem dX5_act_47 : decode cX5_act 47 = .ok (.iload_n 2, 1) := by decide +kernel
theorem dX5_act_48 : decode cX5_act 48 = .ok (.bipush 48, 2) := by decide +kernel
theorem dX5_act_50 : decode cX5_act 50 = .ok (.isub, 1) := by decide +kernel
theorem dX5_act_51 : decode cX5_act 51 = .ok (.invokevirtual 41, 3) := by decide +kernel
theorem dX5_act_54 : decode cX5_act 54 = .ok (.ireturn, 1) := by decide +kernel
theorem dJ6_bitCount_0f7a4_0 : decode cJ6_bitCount_0f7a4 0 = .ok (.iload_n 0, 1) := by decide +kernel
theorem dJ6_bitCount_0f7a4_1 : decode cJ6_bitCount_0f7a4 1 = .ok (.iload_n 0, 1) := by decide +kernel
theorem dJ6_bitCount_0f7a4_2 : decode cJ6_bitCount_0f7a4 2 = .ok (.iconst 1, 1) := by decide +kernel
theorem dJ6_bitCount_0f7a4_3 : decode cJ6_bitCount_0f7a4 3 = .ok (.iushr, 1) := by decide +kernel
theorem dJ6_bitCount_0f7a4_4 : decode cJ6_bitCount_0f7a4 4 = .ok (.ldc_w 265, 3) := by decide +kernel
theorem dJ6_bitCount_0f7a4_7 : decode cJ6_bitCount_0f7a4 7 = .ok (.iand, 1) := by decide +kernel
theorem dJ6_bitCount_0f7a4_8 : decode cJ6_bitCount_0f7a4 8 = .ok (.isub, 1) := by decide +kernel
theorem dJ6_bitCount_0f7a4_9 : decode cJ6_bitCount_0f7a4 9 = .ok (.istore_n 0, 1) := by decide +kernel
theorem dJ6_bitCount_0f7a4_10 : decode cJ6_bitCount_0f7a4 10 = .ok (.iload_n 0, 1) := by decide +kernel
theorem dJ6_bitCount_0f7a4_11 : decode cJ6_bitCount_0f7a4 11 = .ok (.ldc_w 266, 3) := by decide +kernel
theorem dJ6_bitCount_0f7a4_14 : decode cJ6_bitCount_0f7a4 14 = .ok (.iand, 1) := by decide +kernel
theorem dJ6_bitCount_0f7a4_15 : decode cJ6_bitCount_0f7a4 15 = .ok (.iload_n 0, 1) := by decide +kernel
theorem dJ6_bitCount_0f7a4_16 : decode cJ6_bitCount_0f7a4 16 = .ok (.iconst 2, 1) := by decide +kernel
theorem dJ6_bitCount_0f7a4_17 : decode cJ6_bitCount_0f7a4 17 = .ok (.iushr, 1) := by decide +kernel
theorem dJ6_bitCount_0f7a4_18 : decode cJ6_bitCount_0f7a4 18 = .ok (.ldc_w 266, 3) := by decide +kernel
theorem dJ6_bitCount_0f7a4_21 : decode cJ6_bitCount_0f7a4 21 = .ok (.iand, 1) := by decide +kernel
theorem dJ6_bitCount_0f7a4_22 : decode cJ6_bitCount_0f7a4 22 = .ok (.iadd, 1) := by decide +kernel
theorem dJ6_bitCount_0f7a4_23 : decode cJ6_bitCount_0f7a4 23 = .ok (.istore_n 0, 1) := by decide +kernel
theorem dJ6_bitCount_0f7a4_24 : decode cJ6_bitCount_0f7a4 24 = .ok (.iload_n 0, 1) := by decide +kernel
theorem dJ6_bitCount_0f7a4_25 : decode cJ6_bitCount_0f7a4 25 = .ok (.iload_n 0, 1) := by decide +kernel
theorem dJ6_bitCount_0f7a4_26 : decode cJ6_bitCount_0f7a4 26 = .ok (.iconst 4, 1) := by decide +kernel
theorem dJ6_bitCount_0f7a4_27 : decode cJ6_bitCount_0f7a4 27 = .ok (.iushr, 1) := by decide +kernel
theorem dJ6_bitCount_0f7a4_28 : decode cJ6_bitCount_0f7a4 28 = .ok (.iadd, 1) := by decide +kernel
theorem dJ6_bitCount_0f7a4_29 : decode cJ6_bitCount_0f7a4 29 = .ok (.ldc_w 267, 3) := by decide +kernel
theorem dJ6_bitCount_0f7a4_32 : decode cJ6_bitCount_0f7a4 32 = .ok (.iand, 1) := by decide +kernel
theorem dJ6_bitCount_0f7a4_33 : decode cJ6_bitCount_0f7a4 33 = .ok (.istore_n 0, 1) := by decide +kernel
theorem dJ6_bitCount_0f7a4_34 : decode cJ6_bitCount_0f7a4 34 = .ok (.iload_n 0, 1) := by decide +kernel
theorem dJ6_bitCount_0f7a4_35 : decode cJ6_bitCount_0f7a4 35 = .ok (.iload_n 0, 1) := by decide +kernel
theorem dJ6_bitCount_0f7a4_36 : decode cJ6_bitCount_0f7a4 36 = .ok (.bipush 8, 2) := by decide +kernel
theorem dJ6_bitCount_0f7a4_38 : decode cJ6_bitCount_0f7a4 38 = .ok (.iushr, 1) := by decide +kernel
theorem dJ6_bitCount_0f7a4_39 : decode cJ6_bitCount_0f7a4 39 = .ok (.iadd, 1) := by decide +kernel
theorem dJ6_bitCount_0f7a4_40 : decode cJ6_bitCount_0f7a4 40 = .ok (.istore_n 0, 1) := by decide +kernel
theorem dJ6_bitCount_0f7a4_41 : decode cJ6_bitCount_0f7a4 41 = .ok (.iload_n 0, 1) := by decide +kernel
theorem dJ6_bitCount_0f7a4_42 : decode cJ6_bitCount_0f7a4 42 = .ok (.iload_n 0, 1) := by decide +kernel
theorem dJ6_bitCount_0f7a4_43 : decode cJ6_bitCount_0f7a4 43 = .ok (.bipush 16, 2) := by decide +kernel
theorem dJ6_bitCount_0f7a4_45 : decode cJ6_bitCount_0f7a4 45 = .ok (.iushr, 1) := by decide +kernel
theorem dJ6_bitCount_0f7a4_46 : decode cJ6_bitCount_0f7a4 46 = .ok (.iadd, 1) := by decide +kernel
theorem dJ6_bitCount_0f7a4_47 : decode cJ6_bitCount_0f7a4 47 = .ok (.istore_n 0, 1) := by decide +kernel
theorem dJ6_bitCount_0f7a4_48 : decode cJ6_bitCount_0f7a4 48 = .ok (.iload_n 0, 1) := by decide +kernel
theorem dJ6_bitCount_0f7a4_49 : decode cJ6_bitCount_0f7a4 49 = .ok (.bipush 63, 2) := by decide +kernel
theorem dJ6_bitCount_0f7a4_51 : decode cJ6_bitCount_0f7a4 51 = .ok (.iand, 1) := by decide +kernel
theorem dJ6_bitCount_0f7a4_52 : decode cJ6_bitCount_0f7a4 52 = .ok (.ireturn, 1) := by decide +kernel
theorem dJ9_max_7cf53_0 : decode cJ9_max_7cf53 0 = .ok (.iload_n 0, 1) := by decide +kernel
theorem dJ9_max_7cf53_1 : decode cJ9_max_7cf53 1 = .ok (.iload_n 1, 1) := by decide +kernel
theorem dJ9_max_7cf53_2 : decode cJ9_max_7cf53 2 = .ok (.if_icmp .lt 7, 3) := by decide +kernel
theorem dJ9_max_7cf53_5 : decode cJ9_max_7cf53 5 = .ok (.iload_n 0, 1) := by decide +kernel
theorem dJ9_max_7cf53_6 : decode cJ9_max_7cf53 6 = .ok (.goto 4, 3) := by decide +kernel
theorem dJ9_max_7cf53_9 : decode cJ9_max_7cf53 9 = .ok (.iload_n 1, 1) := by decide +kernel
theorem dJ9_max_7cf53_10 : decode cJ9_max_7cf53 10 = .ok (.ireturn, 1) := by decide +kernel
theorem dJ9_min_7cf53_0 : decode cJ9_min_7cf53 0 = .ok (.iload_n 0, 1) := by decide +kernel
theorem dJ9_min_7cf53_1 : decode cJ9_min_7cf53 1 = .ok (.iload_n 1, 1) := by decide +kernel
theorem dJ9_min_7cf53_2 : decode cJ9_min_7cf53 2 = .ok (.if_icmp .gt 7, 3) := by decide +kernel
theorem dJ9_min_7cf53_5 : decode cJ9_min_7cf53 5 = .ok (.iload_n 0, 1) := by decide +kernel
theorem dJ9_min_7cf53_6 : decode cJ9_min_7cf53 6 = .ok (.goto 4, 3) := by decide +kernel
theorem dJ9_min_7cf53_9 : decode cJ9_min_7cf53 9 = .ok (.iload_n 1, 1) := by decide +kernel
theorem dJ9_min_7cf53_10 : decode cJ9_min_7cf53 10 = .ok (.ireturn, 1) := by decide +kernel
