theorem dX7_init_0 : decode cX7_init 0 = .ok (.aload_n 0, 1) := by decide +kernel
theorem dX7_init_1 : decode cX7_init 1 = .ok (.invokespecial 1, 3) := by decide +kernel
theorem dX7_init_4 : decode cX7_init 4 = .ok (.aload_n 0, 1) := by decide +kernel
theorem dX7_init_5 : decode cX7_init 5 = .ok (.sipush 150, 3) := by decide +kernel
theorem dX7_init_8 : decode cX7_init 8 = .ok (.newarray .int, 2) := by decide +kernel
theorem dX7_init_10 : decode cX7_init 10 = .ok (.putfield 7, 3) := by decide +kernel
theorem dX7_init_13 : decode cX7_init 13 = .ok (.aload_n 0, 1) := by decide +kernel
theorem dX7_init_14 : decode cX7_init 14 = .ok (.sipush 900, 3) := by decide +kernel
theorem dX7_init_17 : decode cX7_init 17 = .ok (.newarray .int, 2) := by decide +kernel
theorem dX7_init_19 : decode cX7_init 19 = .ok (.putfield 13, 3) := by decide +kernel
theorem dX7_init_22 : decode cX7_init 22 = .ok (.aload_n 0, 1) := by decide +kernel
theorem dX7_init_23 : decode cX7_init 23 = .ok (.sipush 300, 3) := by decide +kernel
theorem dX7_init_26 : decode cX7_init 26 = .ok (.newarray .int, 2) := by decide +kernel
theorem dX7_init_28 : decode cX7_init 28 = .ok (.putfield 16, 3) := by decide +kernel
theorem dX7_init_31 : decode cX7_init 31 = .ok (.aload_n 0, 1) := by decide +kernel
theorem dX7_init_32 : decode cX7_init 32 = .ok (.iconst 2, 1) := by decide +kernel
theorem dX7_init_33 : decode cX7_init 33 = .ok (.newarray .boolean, 2) := by decide +kernel
theorem dX7_init_35 : decode cX7_init 35 = .ok (.putfield 19, 3) := by decide +kernel
theorem dX7_init_38 : decode cX7_init 38 = .ok (.aload_n 0, 1) := by decide +kernel
theorem dX7_init_39 : decode cX7_init 39 = .ok (.bipush 80, 2) := by decide +kernel
theorem dX7_init_41 : decode cX7_init 41 = .ok (.newarray .int, 2) := by decide +kernel
theorem dX7_init_43 : decode cX7_init 43 = .ok (.putfield 23, 3) := by decide +kernel
theorem dX7_init_46 : decode cX7_init 46 = .ok (.aload_n 0, 1) := by decide +kernel
theorem dX7_init_47 : decode cX7_init 47 = .ok (.sipush 132, 3) := by decide +kernel
theorem dX7_init_50 : decode cX7_init 50 = .ok (.newarray .int, 2) := by decide +kernel
theorem dX7_init_52 : decode cX7_init 52 = .ok (.putfield 26, 3) := by decide +kernel
theorem dX7_init_55 : decode cX7_init 55 = .ok (.aload_n 0, 1) := by decide +kernel
theorem dX7_init_56 : decode cX7_init 56 = .ok (.iconst 0, 1) := by decide +kernel
theorem dX7_init_57 : decode cX7_init 57 = .ok (.putfield 29, 3) := by decide +kernel
theorem dX7_init_60 : decode cX7_init 60 = .ok (.aload_n 0, 1) := by decide +kernel
theorem dX7_init_61 : decode cX7_init 61 = .ok (.getfield 7, 3) := by decide +kernel
theorem dX7_init_64 : decode cX7_init 64 = .ok (.iconst 0, 1) := by decide +kernel
theorem dX7_init_65 : decode cX7_init 65 = .ok (.iconst 3, 1) := by decide +kernel
theorem dX7_init_66 : decode cX7_init 66 = .ok (.iastore, 1) := by decide +kernel
theorem dX7_init_67 : decode cX7_init 67 = .ok (.aload_n 0, 1) := by decide +kernel
theorem dX7_init_68 : decode cX7_init 68 = .ok (.getfield 7, 3) := by decide +kernel
theorem dX7_init_71 : decode cX7_init 71 = .ok (.iconst 1, 1) := by decide +kernel
theorem dX7_init_72 : decode cX7_init 72 = .ok (.iconst 4, 1) := by decide +kernel
theorem dX7_init_73 : decode cX7_init 73 = .ok (.iastore, 1) := by decide +kernel
theorem dX7_init_74 : decode cX7_init 74 = .ok (.aload_n 0, 1) := by decide +kernel
theorem dX7_init_75 : decode cX7_init 75 = .ok (.getfield 7, 3) := by decide +kernel
theorem dX7_init_78 : decode cX7_init 78 = .ok (.iconst 2, 1) := by decide +kernel
theorem dX7_init_79 : decode cX7_init 79 = .ok (.iconst 2, 1) := by decide +kernel
theorem dX7_init_80 : decode cX7_init 80 = .ok (.iastore, 1) := by decide +kernel
theorem dX7_init_81 : decode cX7_init 81 = .ok (.aload_n 0, 1) := by decide +kernel
theorem dX7_init_82 : decode cX7_init 82 = .ok (.getfield 7, 3) := by decide +kernel
theorem dX7_init_85 : decode cX7_init 85 = .ok (.iconst 3, 1) := by decide +kernel
theorem dX7_init_86 : decode cX7_init 86 = .ok (.iconst 1, 1) := by decide +kernel
theorem dX7_init_87 : decode cX7_init 87 = .ok (.iastore, 1) := by decide +kernel
theorem dX7_init_88 : decode cX7_init 88 = .ok (.iconst 0, 1) := by decide +kernel
theorem dX7_init_89 : decode cX7_init 89 = .ok (.istore_n 1, 1) := by decide +kernel
theorem dX7_init_90 : decode cX7_init 90 = .ok (.iload_n 1, 1) := by decide +kernel
theorem dX7_init_91 : decode cX7_init 91 = .ok (.iconst 3, 1) := by decide +kernel
theorem dX7_init_92 : decode cX7_init 92 = .ok (.if_icmp .ge 20, 3) := by decide +kernel
theorem dX7_init_95 : decode cX7_init 95 = .ok (.aload_n 0, 1) := by decide +kernel
theorem dX7_init_96 : decode cX7_init 96 = .ok (.getfield 7, 3) := by decide +kernel
theorem dX7_init_99 : decode cX7_init 99 = .ok (.bipush 10, 2) := by decide +kernel
theorem dX7_init_101 : decode cX7_init 101 = .ok (.iload_n 1, 1) := by decide +kernel
theorem dX7_init_102 : decode cX7_init 102 = .ok (.iadd, 1) := by decide +kernel
theorem dX7_init_103 : decode cX7_init 103 = .ok (.bipush (-6), 2) := by decide +kernel
theorem dX7_init_105 : decode cX7_init 105 = .ok (.iastore, 1) := by decide +kernel
theorem dX7_init_106 : decode cX7_init 106 = .ok (.iinc 1 1, 3) := by decide +kernel
theorem dX7_init_109 : decode cX7_init 109 = .ok (.goto (-19), 3) := by decide +kernel
theorem dX7_init_112 : decode cX7_init 112 = .ok (.return_, 1) := by decide +kernel
theorem dX7_in_0 : decode cX7_in 0 = .ok (.iload_n 0, 1) := by decide +kernel
theorem dX7_in_1 : decode cX7_in 1 = .ok (.iload_n 1, 1) := by decide +kernel
theorem dX7_in_2 : decode cX7_in 2 = .ok (.if_icmp .lt 12, 3) := by decide +kernel
theorem dX7_in_5 : decode cX7_in 5 = .ok (.iload_n 0, 1) := by decide +kernel
theorem dX7_in_6 : decode cX7_in 6 = .ok (.iload_n 2, 1) := by decide +kernel
theorem dX7_in_7 : decode cX7_in 7 = .ok (.if_icmp .gt 7, 3) := by decide +kernel
theorem dX7_in_10 : decode cX7_in 10 = .ok (.iconst 1, 1) := by decide +kernel
theorem dX7_in_11 : decode cX7_in 11 = .ok (.goto 4, 3) := by decide +kernel
theorem dX7_in_14 : decode cX7_in 14 = .ok (.iconst 0, 1) := by decide +kernel
theorem dX7_in_15 : decode cX7_in 15 = .ok (.ireturn, 1) := by decide +kernel
theorem dX7_isTable_0 : decode cX7_isTable 0 = .ok (.iload_n 0, 1) := by decide +kernel
theorem dX7_isTable_1 : decode cX7_isTable 1 = .ok (.iconst 0, 1) := by decide +kernel
theorem dX7_isTable_2 : decode cX7_isTable 2 = .ok (.iconst 2, 1) := by decide +kernel
theorem dX7_isTable_3 : decode cX7_isTable 3 = .ok (.invokestatic 33, 3) := by decide +kernel
theorem dX7_isTable_6 : decode cX7_isTable 6 = .ok (.ireturn, 1) := by decide +kernel
theorem dX7_isGuest_0 : decode cX7_isGuest 0 = .ok (.iload_n 1, 1) := by decide +kernel
theorem dX7_isGuest_1 : decode cX7_isGuest 1 = .ok (.iconst 0, 1) := by decide +kernel
theorem dX7_isGuest_2 : decode cX7_isGuest 2 = .ok (.aload_n 0, 1) := by decide +kernel
theorem dX7_isGuest_3 : decode cX7_isGuest 3 = .ok (.getfield 7, 3) := by decide +kernel
theorem dX7_isGuest_6 : decode cX7_isGuest 6 = .ok (.iconst 5, 1) := by decide +kernel
theorem dX7_isGuest_7 : decode cX7_isGuest 7 = .ok (.iaload, 1) := by decide +kernel
theorem dX7_isGuest_8 : decode cX7_isGuest 8 = .ok (.iconst 1, 1) := by decide +kernel
theorem dX7_isGuest_9 : decode cX7_isGuest 9 = .ok (.isub, 1) := by decide +kernel
theorem dX7_isGuest_10 : decode cX7_isGuest 10 = .ok (.invokestatic 33, 3) := by decide +kernel
theorem dX7_isGuest_13 : decode cX7_isGuest 13 = .ok (.ireturn, 1) := by decide +kernel
theorem dX7_has_0 : decode cX7_has 0 = .ok (.aload_n 0, 1) := by decide +kernel
theorem dX7_has_1 : decode cX7_has 1 = .ok (.getfield 7, 3) := by decide +kernel
theorem dX7_has_4 : decode cX7_has 4 = .ok (.bipush 88, 2) := by decide +kernel
theorem dX7_has_6 : decode cX7_has 6 = .ok (.bipush 6, 2) := by decide +kernel
theorem dX7_has_8 : decode cX7_has 8 = .ok (.iload_n 1, 1) := by decide +kernel
theorem dX7_has_9 : decode cX7_has 9 = .ok (.imul, 1) := by decide +kernel
theorem dX7_has_10 : decode cX7_has 10 = .ok (.iadd, 1) := by decide +kernel
theorem dX7_has_11 : decode cX7_has 11 = .ok (.iload_n 2, 1) := by decide +kernel
theorem dX7_has_12 : decode cX7_has 12 = .ok (.iadd, 1) := by decide +kernel
theorem dX7_has_13 : decode cX7_has 13 = .ok (.iaload, 1) := by decide +kernel
theorem dX7_has_14 : decode cX7_has 14 = .ok (.ireturn, 1) := by decide +kernel
theorem dX7_lay_0 : decode cX7_lay 0 = .ok (.aload_n 0, 1) := by decide +kernel
theorem dX7_lay_1 : decode cX7_lay 1 = .ok (.getfield 7, 3) := by decide +kernel
theorem dX7_lay_4 : decode cX7_lay 4 = .ok (.bipush 88, 2) := by decide +kernel
theorem dX7_lay_6 : decode cX7_lay 6 = .ok (.bipush 6, 2) := by decide +kernel
theorem dX7_lay_8 : decode cX7_lay 8 = .ok (.iload_n 1, 1) := by decide +kernel
theorem dX7_lay_9 : decode cX7_lay 9 = .ok (.imul, 1) := by decide +kernel
theorem dX7_lay_10 : decode cX7_lay 10 = .ok (.iadd, 1) := by decide +kernel
theorem dX7_lay_11 : decode cX7_lay 11 = .ok (.iload_n 2, 1) := by decide +kernel
theorem dX7_lay_12 : decode cX7_lay 12 = .ok (.iadd, 1) := by decide +kernel
theorem dX7_lay_13 : decode cX7_lay 13 = .ok (.iload_n 3, 1) := by decide +kernel
theorem dX7_lay_14 : decode cX7_lay 14 = .ok (.iastore, 1) := by decide +kernel
theorem dX7_lay_15 : decode cX7_lay 15 = .ok (.return_, 1) := by decide +kernel
theorem dX7_records_0 : decode cX7_records 0 = .ok (.aload_n 0, 1) := by decide +kernel
theorem dX7_records_1 : decode cX7_records 1 = .ok (.getfield 37, 3) := by decide +kernel
theorem dX7_records_4 : decode cX7_records 4 = .ok (.bipush 6, 2) := by decide +kernel
theorem dX7_records_6 : decode cX7_records 6 = .ok (.if_icmp .ne 44, 3) := by decide +kernel
theorem dX7_records_9 : decode cX7_records 9 = .ok (.iconst 0, 1) := by decide +kernel
theorem dX7_records_10 : decode cX7_records 10 = .ok (.istore_n 1, 1) := by decide +kernel
theorem dX7_records_11 : decode cX7_records 11 = .ok (.iload_n 1, 1) := by decide +kernel
theorem dX7_records_12 : decode cX7_records 12 = .ok (.sipush 750, 3) := by decide +kernel
theorem dX7_records_15 : decode cX7_records 15 = .ok (.if_icmp .ge 25, 3) := by decide +kernel
theorem dX7_records_18 : decode cX7_records 18 = .ok (.aload_n 0, 1) := by decide +kernel
theorem dX7_records_19 : decode cX7_records 19 = .ok (.getfield 13, 3) := by decide +kernel
theorem dX7_records_22 : decode cX7_records 22 = .ok (.iload_n 1, 1) := by decide +kernel
theorem dX7_records_23 : decode cX7_records 23 = .ok (.aload_n 0, 1) := by decide +kernel
theorem dX7_records_24 : decode cX7_records 24 = .ok (.getfield 13, 3) := by decide +kernel
theorem dX7_records_27 : decode cX7_records 27 = .ok (.iload_n 1, 1) := by decide +kernel
theorem dX7_records_28 : decode cX7_records 28 = .ok (.sipush 150, 3) := by decide +kernel
theorem dX7_records_31 : decode cX7_records 31 = .ok (.iadd, 1) := by decide +kernel
theorem dX7_records_32 : decode cX7_records 32 = .ok (.iaload, 1) := by decide +kernel
theorem dX7_records_33 : decode cX7_records 33 = .ok (.iastore, 1) := by decide +kernel
theorem dX7_records_34 : decode cX7_records 34 = .ok (.iinc 1 1, 3) := by decide +kernel
theorem dX7_records_37 : decode cX7_records 37 = .ok (.goto (-26), 3) := by decide +kernel
theorem dX7_records_40 : decode cX7_records 40 = .ok (.aload_n 0, 1) := by decide +kernel
theorem dX7_records_41 : decode cX7_records 41 = .ok (.dup, 1) := by decide +kernel
theorem dX7_records_42 : decode cX7_records 42 = .ok (.getfield 37, 3) := by decide +kernel
theorem dX7_records_45 : decode cX7_records 45 = .ok (.iconst 1, 1) := by decide +kernel
theorem dX7_records_46 : decode cX7_records 46 = .ok (.isub, 1) := by decide +kernel
theorem dX7_records_47 : decode cX7_records 47 = .ok (.putfield 37, 3) := by decide +kernel
theorem dX7_records_50 : decode cX7_records 50 = .ok (.iconst 0, 1) := by decide +kernel
theorem dX7_records_51 : decode cX7_records 51 = .ok (.istore_n 1, 1) := by decide +kernel
theorem dX7_records_52 : decode cX7_records 52 = .ok (.iload_n 1, 1) := by decide +kernel
theorem dX7_records_53 : decode cX7_records 53 = .ok (.sipush 150, 3) := by decide +kernel
theorem dX7_records_56 : decode cX7_records 56 = .ok (.if_icmp .ge 30, 3) := by decide +kernel
theorem dX7_records_59 : decode cX7_records 59 = .ok (.aload_n 0, 1) := by decide +kernel
theorem dX7_records_60 : decode cX7_records 60 = .ok (.getfield 13, 3) := by decide +kernel
theorem dX7_records_63 : decode cX7_records 63 = .ok (.sipush 150, 3) := by decide +kernel
theorem dX7_records_66 : decode cX7_records 66 = .ok (.aload_n 0, 1) := by decide +kernel
theorem dX7_records_67 : decode cX7_records 67 = .ok (.getfield 37, 3) := by decide +kernel
theorem dX7_records_70 : decode cX7_records 70 = .ok (.imul, 1) := by decide +kernel
theorem dX7_records_71 : decode cX7_records 71 = .ok (.iload_n 1, 1) := by decide +kernel
theorem dX7_records_72 : decode cX7_records 72 = .ok (.iadd, 1) := by decide +kernel
theorem dX7_records_73 : decode cX7_records 73 = .ok (.aload_n 0, 1) := by decide +kernel
theorem dX7_records_74 : decode cX7_records 74 = .ok (.getfield 7, 3) := by decide +kernel
theorem dX7_records_77 : decode cX7_records 77 = .ok (.iload_n 1, 1) := by decide +kernel
theorem dX7_records_78 : decode cX7_records 78 = .ok (.iaload, 1) := by decide +kernel
theorem dX7_records_79 : decode cX7_records 79 = .ok (.iastore, 1) := by decide +kernel
theorem dX7_records_80 : decode cX7_records 80 = .ok (.iinc 1 1, 3) := by decide +kernel
theorem dX7_records_83 : decode cX7_records 83 = .ok (.goto (-31), 3) := by decide +kernel
theorem dX7_records_86 : decode cX7_records 86 = .ok (.aload_n 0, 1) := by decide +kernel
theorem dX7_records_87 : decode cX7_records 87 = .ok (.dup, 1) := by decide +kernel
theorem dX7_records_88 : decode cX7_records 88 = .ok (.getfield 37, 3) := by decide +kernel
theorem dX7_records_91 : decode cX7_records 91 = .ok (.iconst 1, 1) := by decide +kernel
theorem dX7_records_92 : decode cX7_records 92 = .ok (.iadd, 1) := by decide +kernel
theorem dX7_records_93 : decode cX7_records 93 = .ok (.putfield 37, 3) := by decide +kernel
theorem dX7_records_96 : decode cX7_records 96 = .ok (.return_, 1) := by decide +kernel
theorem dX7_guestsAt_0 : decode cX7_guestsAt 0 = .ok (.iconst 0, 1) := by decide +kernel
theorem dX7_guestsAt_1 : decode cX7_guestsAt 1 = .ok (.istore_n 2, 1) := by decide +kernel
theorem dX7_guestsAt_2 : decode cX7_guestsAt 2 = .ok (.iconst 0, 1) := by decide +kernel
theorem dX7_guestsAt_3 : decode cX7_guestsAt 3 = .ok (.istore_n 3, 1) := by decide +kernel
theorem dX7_guestsAt_4 : decode cX7_guestsAt 4 = .ok (.iload_n 3, 1) := by decide +kernel
theorem dX7_guestsAt_5 : decode cX7_guestsAt 5 = .ok (.aload_n 0, 1) := by decide +kernel
theorem dX7_guestsAt_6 : decode cX7_guestsAt 6 = .ok (.getfield 7, 3) := by decide +kernel
theorem dX7_guestsAt_9 : decode cX7_guestsAt 9 = .ok (.iconst 5, 1) := by decide +kernel
theorem dX7_guestsAt_10 : decode cX7_guestsAt 10 = .ok (.iaload, 1) := by decide +kernel
theorem dX7_guestsAt_11 : decode cX7_guestsAt 11 = .ok (.if_icmp .ge 29, 3) := by decide +kernel
theorem dX7_guestsAt_14 : decode cX7_guestsAt 14 = .ok (.iload_n 2, 1) := by decide +kernel
theorem dX7_guestsAt_15 : decode cX7_guestsAt 15 = .ok (.aload_n 0, 1) := by decide +kernel
theorem dX7_guestsAt_16 : decode cX7_guestsAt 16 = .ok (.iload_n 3, 1) := by decide +kernel
theorem dX7_guestsAt_17 : decode cX7_guestsAt 17 = .ok (.iconst 0, 1) := by decide +kernel
theorem dX7_guestsAt_18 : decode cX7_guestsAt 18 = .ok (.invokevirtual 40, 3) := by decide +kernel
theorem dX7_guestsAt_21 : decode cX7_guestsAt 21 = .ok (.iload_n 1, 1) := by decide +kernel
theorem dX7_guestsAt_22 : decode cX7_guestsAt 22 = .ok (.if_icmp .ne 9, 3) := by decide +kernel
theorem dX7_guestsAt_25 : decode cX7_guestsAt 25 = .ok (.iconst 1, 1) := by decide +kernel
theorem dX7_guestsAt_26 : decode cX7_guestsAt 26 = .ok (.iload_n 3, 1) := by decide +kernel
theorem dX7_guestsAt_27 : decode cX7_guestsAt 27 = .ok (.ishl, 1) := by decide +kernel
theorem dX7_guestsAt_28 : decode cX7_guestsAt 28 = .ok (.goto 4, 3) := by decide +kernel
theorem dX7_guestsAt_31 : decode cX7_guestsAt 31 = .ok (.iconst 0, 1) := by decide +kernel
theorem dX7_guestsAt_32 : decode cX7_guestsAt 32 = .ok (.ior, 1) := by decide +kernel
theorem dX7_guestsAt_33 : decode cX7_guestsAt 33 = .ok (.istore_n 2, 1) := by decide +kernel
theorem dX7_guestsAt_34 : decode cX7_guestsAt 34 = .ok (.iinc 3 1, 3) := by decide +kernel
theorem dX7_guestsAt_37 : decode cX7_guestsAt 37 = .ok (.goto (-33), 3) := by decide +kernel
theorem dX7_guestsAt_40 : decode cX7_guestsAt 40 = .ok (.iload_n 2, 1) := by decide +kernel
theorem dX7_guestsAt_41 : decode cX7_guestsAt 41 = .ok (.ireturn, 1) := by decide +kernel
theorem dX7_ones_0 : decode cX7_ones 0 = .ok (.iconst 0, 1) := by decide +kernel
theorem dX7_ones_1 : decode cX7_ones 1 = .ok (.istore_n 1, 1) := by decide +kernel
theorem dX7_ones_2 : decode cX7_ones 2 = .ok (.iconst 0, 1) := by decide +kernel
theorem dX7_ones_3 : decode cX7_ones 3 = .ok (.istore_n 2, 1) := by decide +kernel
theorem dX7_ones_4 : decode cX7_ones 4 = .ok (.iload_n 2, 1) := by decide +kernel
theorem dX7_ones_5 : decode cX7_ones 5 = .ok (.bipush 10, 2) := by decide +kernel
theorem dX7_ones_7 : decode cX7_ones 7 = .ok (.if_icmp .ge 17, 3) := by decide +kernel
theorem dX7_ones_10 : decode cX7_ones 10 = .ok (.iload_n 1, 1) := by decide +kernel
theorem dX7_ones_11 : decode cX7_ones 11 = .ok (.iload_n 0, 1) := by decide +kernel
theorem dX7_ones_12 : decode cX7_ones 12 = .ok (.iload_n 2, 1) := by decide +kernel
theorem dX7_ones_13 : decode cX7_ones 13 = .ok (.ishr, 1) := by decide +kernel
theorem dX7_ones_14 : decode cX7_ones 14 = .ok (.iconst 1, 1) := by decide +kernel
theorem dX7_ones_15 : decode cX7_ones 15 = .ok (.iand, 1) := by decide +kernel
theorem dX7_ones_16 : decode cX7_ones 16 = .ok (.iadd, 1) := by decide +kernel
theorem dX7_ones_17 : decode cX7_ones 17 = .ok (.istore_n 1, 1) := by decide +kernel
theorem dX7_ones_18 : decode cX7_ones 18 = .ok (.iinc 2 1, 3) := by decide +kernel
theorem dX7_ones_21 : decode cX7_ones 21 = .ok (.goto (-17), 3) := by decide +kernel
theorem dX7_ones_24 : decode cX7_ones 24 = .ok (.iload_n 1, 1) := by decide +kernel
theorem dX7_ones_25 : decode cX7_ones 25 = .ok (.ireturn, 1) := by decide +kernel
theorem dX7_hostOf_0 : decode cX7_hostOf 0 = .ok (.bipush (-6), 2) := by decide +kernel
theorem dX7_hostOf_2 : decode cX7_hostOf 2 = .ok (.istore_n 2, 1) := by decide +kernel
theorem dX7_hostOf_3 : decode cX7_hostOf 3 = .ok (.iconst 0, 1) := by decide +kernel
theorem dX7_hostOf_4 : decode cX7_hostOf 4 = .ok (.istore_n 3, 1) := by decide +kernel
theorem dX7_hostOf_5 : decode cX7_hostOf 5 = .ok (.iload_n 3, 1) := by decide +kernel
theorem dX7_hostOf_6 : decode cX7_hostOf 6 = .ok (.aload_n 0, 1) := by decide +kernel
theorem dX7_hostOf_7 : decode cX7_hostOf 7 = .ok (.getfield 7, 3) := by decide +kernel
theorem dX7_hostOf_10 : decode cX7_hostOf 10 = .ok (.iconst 5, 1) := by decide +kernel
theorem dX7_hostOf_11 : decode cX7_hostOf 11 = .ok (.iaload, 1) := by decide +kernel
theorem dX7_hostOf_12 : decode cX7_hostOf 12 = .ok (.if_icmp .ge 58, 3) := by decide +kernel
theorem dX7_hostOf_15 : decode cX7_hostOf 15 = .ok (.aload_n 0, 1) := by decide +kernel
theorem dX7_hostOf_16 : decode cX7_hostOf 16 = .ok (.iload_n 3, 1) := by decide +kernel
theorem dX7_hostOf_17 : decode cX7_hostOf 17 = .ok (.iconst 0, 1) := by decide +kernel
theorem dX7_hostOf_18 : decode cX7_hostOf 18 = .ok (.invokevirtual 40, 3) := by decide +kernel
theorem dX7_hostOf_21 : decode cX7_hostOf 21 = .ok (.iload_n 1, 1) := by decide +kernel
theorem dX7_hostOf_22 : decode cX7_hostOf 22 = .ok (.if_icmp .ne 28, 3) := by decide +kernel
theorem dX7_hostOf_25 : decode cX7_hostOf 25 = .ok (.iload_n 2, 1) := by decide +kernel
theorem dX7_hostOf_26 : decode cX7_hostOf 26 = .ok (.bipush (-6), 2) := by decide +kernel
theorem dX7_hostOf_28 : decode cX7_hostOf 28 = .ok (.if_icmp .eq 18, 3) := by decide +kernel
theorem dX7_hostOf_31 : decode cX7_hostOf 31 = .ok (.aload_n 0, 1) := by decide +kernel
theorem dX7_hostOf_32 : decode cX7_hostOf 32 = .ok (.iload_n 3, 1) := by decide +kernel
theorem dX7_hostOf_33 : decode cX7_hostOf 33 = .ok (.iconst 1, 1) := by decide +kernel
theorem dX7_hostOf_34 : decode cX7_hostOf 34 = .ok (.invokevirtual 40, 3) := by decide +kernel
theorem dX7_hostOf_37 : decode cX7_hostOf 37 = .ok (.aload_n 0, 1) := by decide +kernel
theorem dX7_hostOf_38 : decode cX7_hostOf 38 = .ok (.iload_n 2, 1) := by decide +kernel
theorem dX7_hostOf_39 : decode cX7_hostOf 39 = .ok (.iconst 1, 1) := by decide +kernel
theorem dX7_hostOf_40 : decode cX7_hostOf 40 = .ok (.invokevirtual 40, 3) := by decide +kernel
theorem dX7_hostOf_43 : decode cX7_hostOf 43 = .ok (.if_icmp .le 7, 3) := by decide +kernel
theorem dX7_hostOf_46 : decode cX7_hostOf 46 = .ok (.iconst 1, 1) := by decide +kernel
theorem dX7_hostOf_47 : decode cX7_hostOf 47 = .ok (.goto 4, 3) := by decide +kernel
theorem dX7_hostOf_50 : decode cX7_hostOf 50 = .ok (.iconst 0, 1) := by decide +kernel
theorem dX7_hostOf_51 : decode cX7_hostOf 51 = .ok (.istore 4, 2) := by decide +kernel
theorem dX7_hostOf_53 : decode cX7_hostOf 53 = .ok (.iload 4, 2) := by decide +kernel
theorem dX7_hostOf_55 : decode cX7_hostOf 55 = .ok (.ifCond .eq 7, 3) := by decide +kernel
theorem dX7_hostOf_58 : decode cX7_hostOf 58 = .ok (.iload_n 3, 1) := by decide +kernel
theorem dX7_hostOf_59 : decode cX7_hostOf 59 = .ok (.goto 4, 3) := by decide +kernel
theorem dX7_hostOf_62 : decode cX7_hostOf 62 = .ok (.iload_n 2, 1) := by decide +kernel
theorem dX7_hostOf_63 : decode cX7_hostOf 63 = .ok (.istore_n 2, 1) := by decide +kernel
theorem dX7_hostOf_64 : decode cX7_hostOf 64 = .ok (.iinc 3 1, 3) := by decide +kernel
theorem dX7_hostOf_67 : decode cX7_hostOf 67 = .ok (.goto (-62), 3) := by decide +kernel
theorem dX7_hostOf_70 : decode cX7_hostOf 70 = .ok (.iload_n 2, 1) := by decide +kernel
theorem dX7_hostOf_71 : decode cX7_hostOf 71 = .ok (.ireturn, 1) := by decide +kernel
theorem dX7_companyOf_0 : decode cX7_companyOf 0 = .ok (.iload_n 1, 1) := by decide +kernel
theorem dX7_companyOf_1 : decode cX7_companyOf 1 = .ok (.invokestatic 44, 3) := by decide +kernel
theorem dX7_companyOf_4 : decode cX7_companyOf 4 = .ok (.istore_n 2, 1) := by decide +kernel
theorem dX7_companyOf_5 : decode cX7_companyOf 5 = .ok (.iload_n 2, 1) := by decide +kernel
theorem dX7_companyOf_6 : decode cX7_companyOf 6 = .ok (.iconst 3, 1) := by decide +kernel
theorem dX7_companyOf_7 : decode cX7_companyOf 7 = .ok (.if_icmp .ge 5, 3) := by decide +kernel
theorem dX7_companyOf_10 : decode cX7_companyOf 10 = .ok (.iload_n 2, 1) := by decide +kernel
theorem dX7_companyOf_11 : decode cX7_companyOf 11 = .ok (.ireturn, 1) := by decide +kernel
theorem dX7_companyOf_12 : decode cX7_companyOf 12 = .ok (.bipush 9, 2) := by decide +kernel
theorem dX7_companyOf_14 : decode cX7_companyOf 14 = .ok (.istore_n 3, 1) := by decide +kernel
theorem dX7_companyOf_15 : decode cX7_companyOf 15 = .ok (.iconst 1, 1) := by decide +kernel
theorem dX7_companyOf_16 : decode cX7_companyOf 16 = .ok (.istore 4, 2) := by decide +kernel
theorem dX7_companyOf_18 : decode cX7_companyOf 18 = .ok (.iconst 0, 1) := by decide +kernel
theorem dX7_companyOf_19 : decode cX7_companyOf 19 = .ok (.istore 5, 2) := by decide +kernel
theorem dX7_companyOf_21 : decode cX7_companyOf 21 = .ok (.iload 5, 2) := by decide +kernel
theorem dX7_companyOf_23 : decode cX7_companyOf 23 = .ok (.aload_n 0, 1) := by decide +kernel
theorem dX7_companyOf_24 : decode cX7_companyOf 24 = .ok (.getfield 7, 3) := by decide +kernel
theorem dX7_companyOf_27 : decode cX7_companyOf 27 = .ok (.iconst 5, 1) := by decide +kernel
theorem dX7_companyOf_28 : decode cX7_companyOf 28 = .ok (.iaload, 1) := by decide +kernel
theorem dX7_companyOf_29 : decode cX7_companyOf 29 = .ok (.if_icmp .ge 85, 3) := by decide +kernel
theorem dX7_companyOf_32 : decode cX7_companyOf 32 = .ok (.iload_n 1, 1) := by decide +kernel
theorem dX7_companyOf_33 : decode cX7_companyOf 33 = .ok (.iload 5, 2) := by decide +kernel
theorem dX7_companyOf_35 : decode cX7_companyOf 35 = .ok (.ishr, 1) := by decide +kernel
theorem dX7_companyOf_36 : decode cX7_companyOf 36 = .ok (.iconst 1, 1) := by decide +kernel
theorem dX7_companyOf_37 : decode cX7_companyOf 37 = .ok (.iand, 1) := by decide +kernel
theorem dX7_companyOf_38 : decode cX7_companyOf 38 = .ok (.iconst 1, 1) := by decide +kernel
theorem dX7_companyOf_39 : decode cX7_companyOf 39 = .ok (.if_icmp .ne 7, 3) := by decide +kernel
theorem dX7_companyOf_42 : decode cX7_companyOf 42 = .ok (.iconst 1, 1) := by decide +kernel
theorem dX7_companyOf_43 : decode cX7_companyOf 43 = .ok (.goto 4, 3) := by decide +kernel
theorem dX7_companyOf_46 : decode cX7_companyOf 46 = .ok (.iconst 0, 1) := by decide +kernel
theorem dX7_companyOf_47 : decode cX7_companyOf 47 = .ok (.istore 6, 2) := by decide +kernel
theorem dX7_companyOf_49 : decode cX7_companyOf 49 = .ok (.iload 6, 2) := by decide +kernel
theorem dX7_companyOf_51 : decode cX7_companyOf 51 = .ok (.ifCond .eq 24, 3) := by decide +kernel
theorem dX7_companyOf_54 : decode cX7_companyOf 54 = .ok (.aload_n 0, 1) := by decide +kernel
theorem dX7_companyOf_55 : decode cX7_companyOf 55 = .ok (.iload 5, 2) := by decide +kernel
theorem dX7_companyOf_57 : decode cX7_companyOf 57 = .ok (.iconst 1, 1) := by decide +kernel
theorem dX7_companyOf_58 : decode cX7_companyOf 58 = .ok (.invokevirtual 40, 3) := by decide +kernel
theorem dX7_companyOf_61 : decode cX7_companyOf 61 = .ok (.iload_n 3, 1) := by decide +kernel
theorem dX7_companyOf_62 : decode cX7_companyOf 62 = .ok (.if_icmp .ge 13, 3) := by decide +kernel
theorem dX7_companyOf_65 : decode cX7_companyOf 65 = .ok (.aload_n 0, 1) := by decide +kernel
theorem dX7_companyOf_66 : decode cX7_companyOf 66 = .ok (.iload 5, 2) := by decide +kernel
theorem dX7_companyOf_68 : decode cX7_companyOf 68 = .ok (.iconst 1, 1) := by decide +kernel
theorem dX7_companyOf_69 : decode cX7_companyOf 69 = .ok (.invokevirtual 40, 3) := by decide +kernel
theorem dX7_companyOf_72 : decode cX7_companyOf 72 = .ok (.goto 4, 3) := by decide +kernel
theorem dX7_companyOf_75 : decode cX7_companyOf 75 = .ok (.iload_n 3, 1) := by decide +kernel
theorem dX7_companyOf_76 : decode cX7_companyOf 76 = .ok (.istore_n 3, 1) := by decide +kernel
theorem dX7_companyOf_77 : decode cX7_companyOf 77 = .ok (.iload 6, 2) := by decide +kernel
theorem dX7_companyOf_79 : decode cX7_companyOf 79 = .ok (.ifCond .eq 25, 3) := by decide +kernel
theorem dX7_companyOf_82 : decode cX7_companyOf 82 = .ok (.aload_n 0, 1) := by decide +kernel
theorem dX7_companyOf_83 : decode cX7_companyOf 83 = .ok (.iload 5, 2) := by decide +kernel
theorem dX7_companyOf_85 : decode cX7_companyOf 85 = .ok (.iconst 1, 1) := by decide +kernel
theorem dX7_companyOf_86 : decode cX7_companyOf 86 = .ok (.invokevirtual 40, 3) := by decide +kernel
theorem dX7_companyOf_89 : decode cX7_companyOf 89 = .ok (.iload 4, 2) := by decide +kernel
theorem dX7_companyOf_91 : decode cX7_companyOf 91 = .ok (.if_icmp .le 13, 3) := by decide +kernel
theorem dX7_companyOf_94 : decode cX7_companyOf 94 = .ok (.aload_n 0, 1) := by decide +kernel
theorem dX7_companyOf_95 : decode cX7_companyOf 95 = .ok (.iload 5, 2) := by decide +kernel
theorem dX7_companyOf_97 : decode cX7_companyOf 97 = .ok (.iconst 1, 1) := by decide +kernel
theorem dX7_companyOf_98 : decode cX7_companyOf 98 = .ok (.invokevirtual 40, 3) := by decide +kernel
theorem dX7_companyOf_101 : decode cX7_companyOf 101 = .ok (.goto 5, 3) := by decide +kernel
theorem dX7_companyOf_104 : decode cX7_companyOf 104 = .ok (.iload 4, 2) := by decide +kernel
theorem dX7_companyOf_106 : decode cX7_companyOf 106 = .ok (.istore 4, 2) := by decide +kernel
theorem dX7_companyOf_108 : decode cX7_companyOf 108 = .ok (.iinc 5 1, 3) := by decide +kernel
theorem dX7_companyOf_111 : decode cX7_companyOf 111 = .ok (.goto (-90), 3) := by decide +kernel
theorem dX7_companyOf_114 : decode cX7_companyOf 114 = .ok (.iload_n 3, 1) := by decide +kernel
theorem dX7_companyOf_115 : decode cX7_companyOf 115 = .ok (.iload 4, 2) := by decide +kernel
theorem dX7_companyOf_117 : decode cX7_companyOf 117 = .ok (.if_icmp .ne 7, 3) := by decide +kernel
theorem dX7_companyOf_120 : decode cX7_companyOf 120 = .ok (.iconst 3, 1) := by decide +kernel
theorem dX7_companyOf_121 : decode cX7_companyOf 121 = .ok (.goto 4, 3) := by decide +kernel
theorem dX7_companyOf_124 : decode cX7_companyOf 124 = .ok (.iconst 4, 1) := by decide +kernel
theorem dX7_companyOf_125 : decode cX7_companyOf 125 = .ok (.ireturn, 1) := by decide +kernel
theorem dX7_means_0 : decode cX7_means 0 = .ok (.iload_n 2, 1) := by decide +kernel
theorem dX7_means_1 : decode cX7_means 1 = .ok (.aload_n 0, 1) := by decide +kernel
theorem dX7_means_2 : decode cX7_means 2 = .ok (.getfield 7, 3) := by decide +kernel
theorem dX7_means_5 : decode cX7_means 5 = .ok (.iconst 0, 1) := by decide +kernel
theorem dX7_means_6 : decode cX7_means 6 = .ok (.iaload, 1) := by decide +kernel
theorem dX7_means_7 : decode cX7_means 7 = .ok (.if_icmp .ge 5, 3) := by decide +kernel
theorem dX7_means_10 : decode cX7_means 10 = .ok (.iconst 0, 1) := by decide +kernel
theorem dX7_means_11 : decode cX7_means 11 = .ok (.ireturn, 1) := by decide +kernel
theorem dX7_means_12 : decode cX7_means 12 = .ok (.iload_n 2, 1) := by decide +kernel
theorem dX7_means_13 : decode cX7_means 13 = .ok (.aload_n 0, 1) := by decide +kernel
theorem dX7_means_14 : decode cX7_means 14 = .ok (.getfield 7, 3) := by decide +kernel
theorem dX7_means_17 : decode cX7_means 17 = .ok (.iconst 0, 1) := by decide +kernel
theorem dX7_means_18 : decode cX7_means 18 = .ok (.iaload, 1) := by decide +kernel
theorem dX7_means_19 : decode cX7_means 19 = .ok (.isub, 1) := by decide +kernel
theorem dX7_means_20 : decode cX7_means 20 = .ok (.aload_n 0, 1) := by decide +kernel
theorem dX7_means_21 : decode cX7_means 21 = .ok (.getfield 7, 3) := by decide +kernel
theorem dX7_means_24 : decode cX7_means 24 = .ok (.iconst 1, 1) := by decide +kernel
theorem dX7_means_25 : decode cX7_means 25 = .ok (.iaload, 1) := by decide +kernel
theorem dX7_means_26 : decode cX7_means 26 = .ok (.idiv, 1) := by decide +kernel
theorem dX7_means_27 : decode cX7_means 27 = .ok (.istore_n 3, 1) := by decide +kernel
theorem dX7_means_28 : decode cX7_means 28 = .ok (.iload_n 3, 1) := by decide +kernel
theorem dX7_means_29 : decode cX7_means 29 = .ok (.iconst 3, 1) := by decide +kernel
theorem dX7_means_30 : decode cX7_means 30 = .ok (.if_icmp .le 7, 3) := by decide +kernel
theorem dX7_means_33 : decode cX7_means 33 = .ok (.iconst 3, 1) := by decide +kernel
theorem dX7_means_34 : decode cX7_means 34 = .ok (.goto 4, 3) := by decide +kernel
theorem dX7_means_37 : decode cX7_means 37 = .ok (.iload_n 3, 1) := by decide +kernel
theorem dX7_means_38 : decode cX7_means 38 = .ok (.istore_n 3, 1) := by decide +kernel
theorem dX7_means_39 : decode cX7_means 39 = .ok (.iload_n 1, 1) := by decide +kernel
theorem dX7_means_40 : decode cX7_means 40 = .ok (.tableswitch 80 0 3 #[32, 34, 45, 58], 32) := by decide +kernel
theorem dX7_means_72 : decode cX7_means 72 = .ok (.iconst 0, 1) := by decide +kernel
theorem dX7_means_73 : decode cX7_means 73 = .ok (.ireturn, 1) := by decide +kernel
theorem dX7_means_74 : decode cX7_means 74 = .ok (.iload_n 3, 1) := by decide +kernel
theorem dX7_means_75 : decode cX7_means 75 = .ok (.iconst 2, 1) := by decide +kernel
theorem dX7_means_76 : decode cX7_means 76 = .ok (.if_icmp .ge 7, 3) := by decide +kernel
theorem dX7_means_79 : decode cX7_means 79 = .ok (.iconst 1, 1) := by decide +kernel
theorem dX7_means_80 : decode cX7_means 80 = .ok (.goto 4, 3) := by decide +kernel
theorem dX7_means_83 : decode cX7_means 83 = .ok (.iconst 2, 1) := by decide +kernel
theorem dX7_means_84 : decode cX7_means 84 = .ok (.ireturn, 1) := by decide +kernel
theorem dX7_means_85 : decode cX7_means 85 = .ok (.iload_n 3, 1) := by decide +kernel
theorem dX7_means_86 : decode cX7_means 86 = .ok (.iconst 2, 1) := by decide +kernel
theorem dX7_means_87 : decode cX7_means 87 = .ok (.if_icmp .ge 9, 3) := by decide +kernel
theorem dX7_means_90 : decode cX7_means 90 = .ok (.iconst 3, 1) := by decide +kernel
theorem dX7_means_91 : decode cX7_means 91 = .ok (.iload_n 3, 1) := by decide +kernel
theorem dX7_means_92 : decode cX7_means 92 = .ok (.iadd, 1) := by decide +kernel
theorem dX7_means_93 : decode cX7_means 93 = .ok (.goto 4, 3) := by decide +kernel
theorem dX7_means_96 : decode cX7_means 96 = .ok (.iconst 5, 1) := by decide +kernel
theorem dX7_means_97 : decode cX7_means 97 = .ok (.ireturn, 1) := by decide +kernel
theorem dX7_means_98 : decode cX7_means 98 = .ok (.iload_n 3, 1) := by decide +kernel
theorem dX7_means_99 : decode cX7_means 99 = .ok (.ifCond .ne 8, 3) := by decide +kernel
theorem dX7_means_102 : decode cX7_means 102 = .ok (.bipush 6, 2) := by decide +kernel
theorem dX7_means_104 : decode cX7_means 104 = .ok (.goto 15, 3) := by decide +kernel
theorem dX7_means_107 : decode cX7_means 107 = .ok (.iload_n 3, 1) := by decide +kernel
theorem dX7_means_108 : decode cX7_means 108 = .ok (.iconst 3, 1) := by decide +kernel
theorem dX7_means_109 : decode cX7_means 109 = .ok (.if_icmp .ge 8, 3) := by decide +kernel
theorem dX7_means_112 : decode cX7_means 112 = .ok (.bipush 7, 2) := by decide +kernel
theorem dX7_means_114 : decode cX7_means 114 = .ok (.goto 5, 3) := by decide +kernel
theorem dX7_means_117 : decode cX7_means 117 = .ok (.bipush 8, 2) := by decide +kernel
theorem dX7_means_119 : decode cX7_means 119 = .ok (.ireturn, 1) := by decide +kernel
theorem dX7_means_120 : decode cX7_means 120 = .ok (.iload_n 3, 1) := by decide +kernel
theorem dX7_means_121 : decode cX7_means 121 = .ok (.iconst 2, 1) := by decide +kernel
theorem dX7_means_122 : decode cX7_means 122 = .ok (.if_icmp .ge 8, 3) := by decide +kernel
theorem dX7_means_125 : decode cX7_means 125 = .ok (.bipush 9, 2) := by decide +kernel
theorem dX7_means_127 : decode cX7_means 127 = .ok (.goto 15, 3) := by decide +kernel
theorem dX7_means_130 : decode cX7_means 130 = .ok (.iload_n 3, 1) := by decide +kernel
theorem dX7_means_131 : decode cX7_means 131 = .ok (.iconst 2, 1) := by decide +kernel
theorem dX7_means_132 : decode cX7_means 132 = .ok (.if_icmp .ne 8, 3) := by decide +kernel
theorem dX7_means_135 : decode cX7_means 135 = .ok (.bipush 10, 2) := by decide +kernel
theorem dX7_means_137 : decode cX7_means 137 = .ok (.goto 5, 3) := by decide +kernel
theorem dX7_means_140 : decode cX7_means 140 = .ok (.bipush 11, 2) := by decide +kernel
theorem dX7_means_142 : decode cX7_means 142 = .ok (.ireturn, 1) := by decide +kernel
theorem dX7_isPause_0 : decode cX7_isPause 0 = .ok (.aload_n 0, 1) := by decide +kernel
theorem dX7_isPause_1 : decode cX7_isPause 1 = .ok (.getfield 7, 3) := by decide +kernel
theorem dX7_isPause_4 : decode cX7_isPause 4 = .ok (.bipush 10, 2) := by decide +kernel
theorem dX7_isPause_6 : decode cX7_isPause 6 = .ok (.iload_n 1, 1) := by decide +kernel
theorem dX7_isPause_7 : decode cX7_isPause 7 = .ok (.iadd, 1) := by decide +kernel
theorem dX7_isPause_8 : decode cX7_isPause 8 = .ok (.iaload, 1) := by decide +kernel
theorem dX7_isPause_9 : decode cX7_isPause 9 = .ok (.bipush (-6), 2) := by decide +kernel
theorem dX7_isPause_11 : decode cX7_isPause 11 = .ok (.if_icmp .eq 7, 3) := by decide +kernel
theorem dX7_isPause_14 : decode cX7_isPause 14 = .ok (.iconst 1, 1) := by decide +kernel
theorem dX7_isPause_15 : decode cX7_isPause 15 = .ok (.goto 4, 3) := by decide +kernel
theorem dX7_isPause_18 : decode cX7_isPause 18 = .ok (.iconst 0, 1) := by decide +kernel
theorem dX7_isPause_19 : decode cX7_isPause 19 = .ok (.ireturn, 1) := by decide +kernel
theorem dX7_meansNow_0 : decode cX7_meansNow 0 = .ok (.aload_n 0, 1) := by decide +kernel
theorem dX7_meansNow_1 : decode cX7_meansNow 1 = .ok (.aload_n 0, 1) := by decide +kernel
theorem dX7_meansNow_2 : decode cX7_meansNow 2 = .ok (.aload_n 0, 1) := by decide +kernel
theorem dX7_meansNow_3 : decode cX7_meansNow 3 = .ok (.iload_n 1, 1) := by decide +kernel
theorem dX7_meansNow_4 : decode cX7_meansNow 4 = .ok (.invokevirtual 48, 3) := by decide +kernel
theorem dX7_meansNow_7 : decode cX7_meansNow 7 = .ok (.invokevirtual 51, 3) := by decide +kernel
theorem dX7_meansNow_10 : decode cX7_meansNow 10 = .ok (.aload_n 0, 1) := by decide +kernel
theorem dX7_meansNow_11 : decode cX7_meansNow 11 = .ok (.getfield 7, 3) := by decide +kernel
theorem dX7_meansNow_14 : decode cX7_meansNow 14 = .ok (.bipush 10, 2) := by decide +kernel
theorem dX7_meansNow_16 : decode cX7_meansNow 16 = .ok (.iload_n 1, 1) := by decide +kernel
theorem dX7_meansNow_17 : decode cX7_meansNow 17 = .ok (.iadd, 1) := by decide +kernel
theorem dX7_meansNow_18 : decode cX7_meansNow 18 = .ok (.iaload, 1) := by decide +kernel
theorem dX7_meansNow_19 : decode cX7_meansNow 19 = .ok (.invokevirtual 54, 3) := by decide +kernel
theorem dX7_meansNow_22 : decode cX7_meansNow 22 = .ok (.ireturn, 1) := by decide +kernel
theorem dX7_mostOf_0 : decode cX7_mostOf 0 = .ok (.iload_n 0, 1) := by decide +kernel
theorem dX7_mostOf_1 : decode cX7_mostOf 1 = .ok (.iconst 2, 1) := by decide +kernel
theorem dX7_mostOf_2 : decode cX7_mostOf 2 = .ok (.if_icmp .ge 8, 3) := by decide +kernel
theorem dX7_mostOf_5 : decode cX7_mostOf 5 = .ok (.bipush 20, 2) := by decide +kernel
theorem dX7_mostOf_7 : decode cX7_mostOf 7 = .ok (.goto 5, 3) := by decide +kernel
theorem dX7_mostOf_10 : decode cX7_mostOf 10 = .ok (.bipush 9, 2) := by decide +kernel
theorem dX7_mostOf_12 : decode cX7_mostOf 12 = .ok (.ireturn, 1) := by decide +kernel
theorem dX7_set_0 : decode cX7_set 0 = .ok (.aload_n 0, 1) := by decide +kernel
theorem dX7_set_1 : decode cX7_set 1 = .ok (.iconst 0, 1) := by decide +kernel
theorem dX7_set_2 : decode cX7_set 2 = .ok (.putfield 29, 3) := by decide +kernel
theorem dX7_set_5 : decode cX7_set 5 = .ok (.iload_n 1, 1) := by decide +kernel
theorem dX7_set_6 : decode cX7_set 6 = .ok (.iconst 0, 1) := by decide +kernel
theorem dX7_set_7 : decode cX7_set 7 = .ok (.iconst 3, 1) := by decide +kernel
theorem dX7_set_8 : decode cX7_set 8 = .ok (.invokestatic 33, 3) := by decide +kernel
theorem dX7_set_11 : decode cX7_set 11 = .ok (.ifCond .eq 15, 3) := by decide +kernel
theorem dX7_set_14 : decode cX7_set 14 = .ok (.iload_n 2, 1) := by decide +kernel
theorem dX7_set_15 : decode cX7_set 15 = .ok (.iconst 1, 1) := by decide +kernel
theorem dX7_set_16 : decode cX7_set 16 = .ok (.iload_n 1, 1) := by decide +kernel
theorem dX7_set_17 : decode cX7_set 17 = .ok (.invokestatic 57, 3) := by decide +kernel
theorem dX7_set_20 : decode cX7_set 20 = .ok (.invokestatic 33, 3) := by decide +kernel
theorem dX7_set_23 : decode cX7_set 23 = .ok (.ifCond .ne 6, 3) := by decide +kernel
theorem dX7_set_26 : decode cX7_set 26 = .ok (.bipush (-2), 2) := by decide +kernel
theorem dX7_set_28 : decode cX7_set 28 = .ok (.ireturn, 1) := by decide +kernel
theorem dX7_set_29 : decode cX7_set 29 = .ok (.aload_n 0, 1) := by decide +kernel
theorem dX7_set_30 : decode cX7_set 30 = .ok (.invokevirtual 60, 3) := by decide +kernel
theorem dX7_set_33 : decode cX7_set 33 = .ok (.aload_n 0, 1) := by decide +kernel
theorem dX7_set_34 : decode cX7_set 34 = .ok (.getfield 7, 3) := by decide +kernel
theorem dX7_set_37 : decode cX7_set 37 = .ok (.iload_n 1, 1) := by decide +kernel
theorem dX7_set_38 : decode cX7_set 38 = .ok (.iaload, 1) := by decide +kernel
theorem dX7_set_39 : decode cX7_set 39 = .ok (.istore_n 3, 1) := by decide +kernel
theorem dX7_set_40 : decode cX7_set 40 = .ok (.aload_n 0, 1) := by decide +kernel
theorem dX7_set_41 : decode cX7_set 41 = .ok (.getfield 7, 3) := by decide +kernel
theorem dX7_set_44 : decode cX7_set 44 = .ok (.iload_n 1, 1) := by decide +kernel
theorem dX7_set_45 : decode cX7_set 45 = .ok (.iload_n 2, 1) := by decide +kernel
theorem dX7_set_46 : decode cX7_set 46 = .ok (.iastore, 1) := by decide +kernel
theorem dX7_set_47 : decode cX7_set 47 = .ok (.iload_n 3, 1) := by decide +kernel
theorem dX7_set_48 : decode cX7_set 48 = .ok (.ireturn, 1) := by decide +kernel
theorem dX7_refusesGuest_0 : decode cX7_refusesGuest 0 = .ok (.iload_n 1, 1) := by decide +kernel
theorem dX7_refusesGuest_1 : decode cX7_refusesGuest 1 = .ok (.invokestatic 63, 3) := by decide +kernel
theorem dX7_refusesGuest_4 : decode cX7_refusesGuest 4 = .ok (.ifCond .ne 7, 3) := by decide +kernel
theorem dX7_refusesGuest_7 : decode cX7_refusesGuest 7 = .ok (.iconst (-1), 1) := by decide +kernel
theorem dX7_refusesGuest_8 : decode cX7_refusesGuest 8 = .ok (.goto 35, 3) := by decide +kernel
theorem dX7_refusesGuest_11 : decode cX7_refusesGuest 11 = .ok (.iload_n 2, 1) := by decide +kernel
theorem dX7_refusesGuest_12 : decode cX7_refusesGuest 12 = .ok (.iconst 1, 1) := by decide +kernel
theorem dX7_refusesGuest_13 : decode cX7_refusesGuest 13 = .ok (.bipush 9, 2) := by decide +kernel
theorem dX7_refusesGuest_15 : decode cX7_refusesGuest 15 = .ok (.invokestatic 33, 3) := by decide +kernel
theorem dX7_refusesGuest_18 : decode cX7_refusesGuest 18 = .ok (.ifCond .ne 8, 3) := by decide +kernel
theorem dX7_refusesGuest_21 : decode cX7_refusesGuest 21 = .ok (.bipush (-2), 2) := by decide +kernel
theorem dX7_refusesGuest_23 : decode cX7_refusesGuest 23 = .ok (.goto 20, 3) := by decide +kernel
theorem dX7_refusesGuest_26 : decode cX7_refusesGuest 26 = .ok (.aload_n 0, 1) := by decide +kernel
theorem dX7_refusesGuest_27 : decode cX7_refusesGuest 27 = .ok (.getfield 7, 3) := by decide +kernel
theorem dX7_refusesGuest_30 : decode cX7_refusesGuest 30 = .ok (.iconst 5, 1) := by decide +kernel
theorem dX7_refusesGuest_31 : decode cX7_refusesGuest 31 = .ok (.iaload, 1) := by decide +kernel
theorem dX7_refusesGuest_32 : decode cX7_refusesGuest 32 = .ok (.bipush 10, 2) := by decide +kernel
theorem dX7_refusesGuest_34 : decode cX7_refusesGuest 34 = .ok (.if_icmp .ne 8, 3) := by decide +kernel
theorem dX7_refusesGuest_37 : decode cX7_refusesGuest 37 = .ok (.bipush (-4), 2) := by decide +kernel
theorem dX7_refusesGuest_39 : decode cX7_refusesGuest 39 = .ok (.goto 4, 3) := by decide +kernel
theorem dX7_refusesGuest_42 : decode cX7_refusesGuest 42 = .ok (.iconst 0, 1) := by decide +kernel
theorem dX7_refusesGuest_43 : decode cX7_refusesGuest 43 = .ok (.ireturn, 1) := by decide +kernel
theorem dX7_comes_0 : decode cX7_comes 0 = .ok (.aload_n 0, 1) := by decide +kernel
theorem dX7_comes_1 : decode cX7_comes 1 = .ok (.getfield 7, 3) := by decide +kernel
theorem dX7_comes_4 : decode cX7_comes 4 = .ok (.iconst 5, 1) := by decide +kernel
theorem dX7_comes_5 : decode cX7_comes 5 = .ok (.iaload, 1) := by decide +kernel
theorem dX7_comes_6 : decode cX7_comes 6 = .ok (.istore_n 3, 1) := by decide +kernel
theorem dX7_comes_7 : decode cX7_comes 7 = .ok (.aload_n 0, 1) := by decide +kernel
theorem dX7_comes_8 : decode cX7_comes 8 = .ok (.getfield 7, 3) := by decide +kernel
theorem dX7_comes_11 : decode cX7_comes 11 = .ok (.iconst 5, 1) := by decide +kernel
theorem dX7_comes_12 : decode cX7_comes 12 = .ok (.dup2, 1) := by decide +kernel
theorem dX7_comes_13 : decode cX7_comes 13 = .ok (.iaload, 1) := by decide +kernel
theorem dX7_comes_14 : decode cX7_comes 14 = .ok (.iconst 1, 1) := by decide +kernel
theorem dX7_comes_15 : decode cX7_comes 15 = .ok (.iadd, 1) := by decide +kernel
theorem dX7_comes_16 : decode cX7_comes 16 = .ok (.iastore, 1) := by decide +kernel
theorem dX7_comes_17 : decode cX7_comes 17 = .ok (.aload_n 0, 1) := by decide +kernel
theorem dX7_comes_18 : decode cX7_comes 18 = .ok (.iload_n 3, 1) := by decide +kernel
theorem dX7_comes_19 : decode cX7_comes 19 = .ok (.iconst 0, 1) := by decide +kernel
theorem dX7_comes_20 : decode cX7_comes 20 = .ok (.iload_n 1, 1) := by decide +kernel
theorem dX7_comes_21 : decode cX7_comes 21 = .ok (.invokevirtual 67, 3) := by decide +kernel
theorem dX7_comes_24 : decode cX7_comes 24 = .ok (.aload_n 0, 1) := by decide +kernel
theorem dX7_comes_25 : decode cX7_comes 25 = .ok (.iload_n 3, 1) := by decide +kernel
theorem dX7_comes_26 : decode cX7_comes 26 = .ok (.iconst 1, 1) := by decide +kernel
theorem dX7_comes_27 : decode cX7_comes 27 = .ok (.iload_n 2, 1) := by decide +kernel
theorem dX7_comes_28 : decode cX7_comes 28 = .ok (.invokevirtual 67, 3) := by decide +kernel
theorem dX7_comes_31 : decode cX7_comes 31 = .ok (.aload_n 0, 1) := by decide +kernel
theorem dX7_comes_32 : decode cX7_comes 32 = .ok (.iload_n 3, 1) := by decide +kernel
theorem dX7_comes_33 : decode cX7_comes 33 = .ok (.iconst 3, 1) := by decide +kernel
theorem dX7_comes_34 : decode cX7_comes 34 = .ok (.aload_n 0, 1) := by decide +kernel
theorem dX7_comes_35 : decode cX7_comes 35 = .ok (.getfield 7, 3) := by decide +kernel
theorem dX7_comes_38 : decode cX7_comes 38 = .ok (.iconst 2, 1) := by decide +kernel
theorem dX7_comes_39 : decode cX7_comes 39 = .ok (.iaload, 1) := by decide +kernel
theorem dX7_comes_40 : decode cX7_comes 40 = .ok (.invokevirtual 67, 3) := by decide +kernel
theorem dX7_comes_43 : decode cX7_comes 43 = .ok (.iload_n 3, 1) := by decide +kernel
theorem dX7_comes_44 : decode cX7_comes 44 = .ok (.ireturn, 1) := by decide +kernel
theorem dX7_guest_0 : decode cX7_guest 0 = .ok (.aload_n 0, 1) := by decide +kernel
theorem dX7_guest_1 : decode cX7_guest 1 = .ok (.iconst 0, 1) := by decide +kernel
theorem dX7_guest_2 : decode cX7_guest 2 = .ok (.putfield 29, 3) := by decide +kernel
theorem dX7_guest_5 : decode cX7_guest 5 = .ok (.aload_n 0, 1) := by decide +kernel
theorem dX7_guest_6 : decode cX7_guest 6 = .ok (.iload_n 1, 1) := by decide +kernel
theorem dX7_guest_7 : decode cX7_guest 7 = .ok (.iload_n 2, 1) := by decide +kernel
theorem dX7_guest_8 : decode cX7_guest 8 = .ok (.invokevirtual 71, 3) := by decide +kernel
theorem dX7_guest_11 : decode cX7_guest 11 = .ok (.istore_n 3, 1) := by decide +kernel
theorem dX7_guest_12 : decode cX7_guest 12 = .ok (.iload_n 3, 1) := by decide +kernel
theorem dX7_guest_13 : decode cX7_guest 13 = .ok (.ifCond .eq 5, 3) := by decide +kernel
theorem dX7_guest_16 : decode cX7_guest 16 = .ok (.iload_n 3, 1) := by decide +kernel
theorem dX7_guest_17 : decode cX7_guest 17 = .ok (.ireturn, 1) := by decide +kernel
theorem dX7_guest_18 : decode cX7_guest 18 = .ok (.aload_n 0, 1) := by decide +kernel
theorem dX7_guest_19 : decode cX7_guest 19 = .ok (.invokevirtual 60, 3) := by decide +kernel
theorem dX7_guest_22 : decode cX7_guest 22 = .ok (.aload_n 0, 1) := by decide +kernel
theorem dX7_guest_23 : decode cX7_guest 23 = .ok (.iload_n 1, 1) := by decide +kernel
theorem dX7_guest_24 : decode cX7_guest 24 = .ok (.iload_n 2, 1) := by decide +kernel
theorem dX7_guest_25 : decode cX7_guest 25 = .ok (.invokevirtual 74, 3) := by decide +kernel
theorem dX7_guest_28 : decode cX7_guest 28 = .ok (.ireturn, 1) := by decide +kernel
theorem dX7_refusesLeaving_0 : decode cX7_refusesLeaving 0 = .ok (.aload_n 0, 1) := by decide +kernel
theorem dX7_refusesLeaving_1 : decode cX7_refusesLeaving 1 = .ok (.iload_n 1, 1) := by decide +kernel
theorem dX7_refusesLeaving_2 : decode cX7_refusesLeaving 2 = .ok (.invokevirtual 77, 3) := by decide +kernel
theorem dX7_refusesLeaving_5 : decode cX7_refusesLeaving 5 = .ok (.ifCond .ne 7, 3) := by decide +kernel
theorem dX7_refusesLeaving_8 : decode cX7_refusesLeaving 8 = .ok (.iconst (-1), 1) := by decide +kernel
theorem dX7_refusesLeaving_9 : decode cX7_refusesLeaving 9 = .ok (.goto 20, 3) := by decide +kernel
theorem dX7_refusesLeaving_12 : decode cX7_refusesLeaving 12 = .ok (.aload_n 0, 1) := by decide +kernel
theorem dX7_refusesLeaving_13 : decode cX7_refusesLeaving 13 = .ok (.iload_n 1, 1) := by decide +kernel
theorem dX7_refusesLeaving_14 : decode cX7_refusesLeaving 14 = .ok (.iconst 0, 1) := by decide +kernel
theorem dX7_refusesLeaving_15 : decode cX7_refusesLeaving 15 = .ok (.invokevirtual 40, 3) := by decide +kernel
theorem dX7_refusesLeaving_18 : decode cX7_refusesLeaving 18 = .ok (.bipush (-6), 2) := by decide +kernel
theorem dX7_refusesLeaving_20 : decode cX7_refusesLeaving 20 = .ok (.if_icmp .ne 8, 3) := by decide +kernel
theorem dX7_refusesLeaving_23 : decode cX7_refusesLeaving 23 = .ok (.bipush (-5), 2) := by decide +kernel
theorem dX7_refusesLeaving_25 : decode cX7_refusesLeaving 25 = .ok (.goto 4, 3) := by decide +kernel
theorem dX7_refusesLeaving_28 : decode cX7_refusesLeaving 28 = .ok (.iconst 0, 1) := by decide +kernel
theorem dX7_refusesLeaving_29 : decode cX7_refusesLeaving 29 = .ok (.ireturn, 1) := by decide +kernel
theorem dX7_goes_0 : decode cX7_goes 0 = .ok (.aload_n 0, 1) := by decide +kernel
theorem dX7_goes_1 : decode cX7_goes 1 = .ok (.iload_n 1, 1) := by decide +kernel
theorem dX7_goes_2 : decode cX7_goes 2 = .ok (.iconst 0, 1) := by decide +kernel
theorem dX7_goes_3 : decode cX7_goes 3 = .ok (.invokevirtual 40, 3) := by decide +kernel
theorem dX7_goes_6 : decode cX7_goes 6 = .ok (.istore_n 3, 1) := by decide +kernel
theorem dX7_goes_7 : decode cX7_goes 7 = .ok (.aload_n 0, 1) := by decide +kernel
theorem dX7_goes_8 : decode cX7_goes 8 = .ok (.iload_n 1, 1) := by decide +kernel
theorem dX7_goes_9 : decode cX7_goes 9 = .ok (.iconst 0, 1) := by decide +kernel
theorem dX7_goes_10 : decode cX7_goes 10 = .ok (.iload_n 2, 1) := by decide +kernel
theorem dX7_goes_11 : decode cX7_goes 11 = .ok (.invokevirtual 67, 3) := by decide +kernel
theorem dX7_goes_14 : decode cX7_goes 14 = .ok (.aload_n 0, 1) := by decide +kernel
theorem dX7_goes_15 : decode cX7_goes 15 = .ok (.iload_n 3, 1) := by decide +kernel
theorem dX7_goes_16 : decode cX7_goes 16 = .ok (.invokevirtual 48, 3) := by decide +kernel
theorem dX7_goes_19 : decode cX7_goes 19 = .ok (.invokestatic 44, 3) := by decide +kernel
theorem dX7_goes_22 : decode cX7_goes 22 = .ok (.istore 4, 2) := by decide +kernel
theorem dX7_goes_24 : decode cX7_goes 24 = .ok (.aload_n 0, 1) := by decide +kernel
theorem dX7_goes_25 : decode cX7_goes 25 = .ok (.getfield 7, 3) := by decide +kernel
theorem dX7_goes_28 : decode cX7_goes 28 = .ok (.bipush 10, 2) := by decide +kernel
theorem dX7_goes_30 : decode cX7_goes 30 = .ok (.iload_n 3, 1) := by decide +kernel
theorem dX7_goes_31 : decode cX7_goes 31 = .ok (.iadd, 1) := by decide +kernel
theorem dX7_goes_32 : decode cX7_goes 32 = .ok (.iload 4, 2) := by decide +kernel
theorem dX7_goes_34 : decode cX7_goes 34 = .ok (.ifCond .ne 8, 3) := by decide +kernel
theorem dX7_goes_37 : decode cX7_goes 37 = .ok (.bipush (-6), 2) := by decide +kernel
theorem dX7_goes_39 : decode cX7_goes 39 = .ok (.goto 12, 3) := by decide +kernel
theorem dX7_goes_42 : decode cX7_goes 42 = .ok (.aload_n 0, 1) := by decide +kernel
theorem dX7_goes_43 : decode cX7_goes 43 = .ok (.getfield 7, 3) := by decide +kernel
theorem dX7_goes_46 : decode cX7_goes 46 = .ok (.bipush 10, 2) := by decide +kernel
theorem dX7_goes_48 : decode cX7_goes 48 = .ok (.iload_n 3, 1) := by decide +kernel
theorem dX7_goes_49 : decode cX7_goes 49 = .ok (.iadd, 1) := by decide +kernel
theorem dX7_goes_50 : decode cX7_goes 50 = .ok (.iaload, 1) := by decide +kernel
theorem dX7_goes_51 : decode cX7_goes 51 = .ok (.iastore, 1) := by decide +kernel
theorem dX7_goes_52 : decode cX7_goes 52 = .ok (.iload 4, 2) := by decide +kernel
theorem dX7_goes_54 : decode cX7_goes 54 = .ok (.ireturn, 1) := by decide +kernel
theorem dX7_leave_0 : decode cX7_leave 0 = .ok (.aload_n 0, 1) := by decide +kernel
theorem dX7_leave_1 : decode cX7_leave 1 = .ok (.iconst 0, 1) := by decide +kernel
theorem dX7_leave_2 : decode cX7_leave 2 = .ok (.putfield 29, 3) := by decide +kernel
theorem dX7_leave_5 : decode cX7_leave 5 = .ok (.aload_n 0, 1) := by decide +kernel
theorem dX7_leave_6 : decode cX7_leave 6 = .ok (.iload_n 1, 1) := by decide +kernel
theorem dX7_leave_7 : decode cX7_leave 7 = .ok (.invokevirtual 80, 3) := by decide +kernel
theorem dX7_leave_10 : decode cX7_leave 10 = .ok (.istore_n 2, 1) := by decide +kernel
theorem dX7_leave_11 : decode cX7_leave 11 = .ok (.iload_n 2, 1) := by decide +kernel
theorem dX7_leave_12 : decode cX7_leave 12 = .ok (.ifCond .eq 5, 3) := by decide +kernel
theorem dX7_leave_15 : decode cX7_leave 15 = .ok (.iload_n 2, 1) := by decide +kernel
theorem dX7_leave_16 : decode cX7_leave 16 = .ok (.ireturn, 1) := by decide +kernel
theorem dX7_leave_17 : decode cX7_leave 17 = .ok (.aload_n 0, 1) := by decide +kernel
theorem dX7_leave_18 : decode cX7_leave 18 = .ok (.invokevirtual 60, 3) := by decide +kernel
theorem dX7_leave_21 : decode cX7_leave 21 = .ok (.aload_n 0, 1) := by decide +kernel
theorem dX7_leave_22 : decode cX7_leave 22 = .ok (.iload_n 1, 1) := by decide +kernel
theorem dX7_leave_23 : decode cX7_leave 23 = .ok (.bipush (-6), 2) := by decide +kernel
theorem dX7_leave_25 : decode cX7_leave 25 = .ok (.invokevirtual 83, 3) := by decide +kernel
theorem dX7_leave_28 : decode cX7_leave 28 = .ok (.ireturn, 1) := by decide +kernel
theorem dX7_move_0 : decode cX7_move 0 = .ok (.aload_n 0, 1) := by decide +kernel
theorem dX7_move_1 : decode cX7_move 1 = .ok (.iconst 0, 1) := by decide +kernel
theorem dX7_move_2 : decode cX7_move 2 = .ok (.putfield 29, 3) := by decide +kernel
theorem dX7_move_5 : decode cX7_move 5 = .ok (.aload_n 0, 1) := by decide +kernel
theorem dX7_move_6 : decode cX7_move 6 = .ok (.iload_n 1, 1) := by decide +kernel
theorem dX7_move_7 : decode cX7_move 7 = .ok (.invokevirtual 77, 3) := by decide +kernel
theorem dX7_move_10 : decode cX7_move 10 = .ok (.ifCond .eq 10, 3) := by decide +kernel
theorem dX7_move_13 : decode cX7_move 13 = .ok (.iload_n 2, 1) := by decide +kernel
theorem dX7_move_14 : decode cX7_move 14 = .ok (.invokestatic 63, 3) := by decide +kernel
theorem dX7_move_17 : decode cX7_move 17 = .ok (.ifCond .ne 5, 3) := by decide +kernel
theorem dX7_move_20 : decode cX7_move 20 = .ok (.iconst (-1), 1) := by decide +kernel
theorem dX7_move_21 : decode cX7_move 21 = .ok (.ireturn, 1) := by decide +kernel
theorem dX7_move_22 : decode cX7_move 22 = .ok (.aload_n 0, 1) := by decide +kernel
theorem dX7_move_23 : decode cX7_move 23 = .ok (.iload_n 1, 1) := by decide +kernel
theorem dX7_move_24 : decode cX7_move 24 = .ok (.iconst 0, 1) := by decide +kernel
theorem dX7_move_25 : decode cX7_move 25 = .ok (.invokevirtual 40, 3) := by decide +kernel
theorem dX7_move_28 : decode cX7_move 28 = .ok (.istore_n 3, 1) := by decide +kernel
theorem dX7_move_29 : decode cX7_move 29 = .ok (.iload_n 3, 1) := by decide +kernel
theorem dX7_move_30 : decode cX7_move 30 = .ok (.bipush (-6), 2) := by decide +kernel
theorem dX7_move_32 : decode cX7_move 32 = .ok (.if_icmp .eq 8, 3) := by decide +kernel
theorem dX7_move_35 : decode cX7_move 35 = .ok (.iload_n 3, 1) := by decide +kernel
theorem dX7_move_36 : decode cX7_move 36 = .ok (.iload_n 2, 1) := by decide +kernel
theorem dX7_move_37 : decode cX7_move 37 = .ok (.if_icmp .ne 6, 3) := by decide +kernel
theorem dX7_move_40 : decode cX7_move 40 = .ok (.bipush (-5), 2) := by decide +kernel
theorem dX7_move_42 : decode cX7_move 42 = .ok (.ireturn, 1) := by decide +kernel
theorem dX7_move_43 : decode cX7_move 43 = .ok (.aload_n 0, 1) := by decide +kernel
theorem dX7_move_44 : decode cX7_move 44 = .ok (.invokevirtual 60, 3) := by decide +kernel
theorem dX7_move_47 : decode cX7_move 47 = .ok (.aload_n 0, 1) := by decide +kernel
theorem dX7_move_48 : decode cX7_move 48 = .ok (.iload_n 1, 1) := by decide +kernel
theorem dX7_move_49 : decode cX7_move 49 = .ok (.iload_n 2, 1) := by decide +kernel
theorem dX7_move_50 : decode cX7_move 50 = .ok (.invokevirtual 83, 3) := by decide +kernel
theorem dX7_move_53 : decode cX7_move 53 = .ok (.pop, 1) := by decide +kernel
theorem dX7_move_54 : decode cX7_move 54 = .ok (.iload_n 3, 1) := by decide +kernel
theorem dX7_move_55 : decode cX7_move 55 = .ok (.ireturn, 1) := by decide +kernel
theorem dX7_refusesPause_0 : decode cX7_refusesPause 0 = .ok (.iload_n 1, 1) := by decide +kernel
theorem dX7_refusesPause_1 : decode cX7_refusesPause 1 = .ok (.invokestatic 63, 3) := by decide +kernel
theorem dX7_refusesPause_4 : decode cX7_refusesPause 4 = .ok (.ifCond .ne 7, 3) := by decide +kernel
theorem dX7_refusesPause_7 : decode cX7_refusesPause 7 = .ok (.iconst (-1), 1) := by decide +kernel
theorem dX7_refusesPause_8 : decode cX7_refusesPause 8 = .ok (.goto 25, 3) := by decide +kernel
theorem dX7_refusesPause_11 : decode cX7_refusesPause 11 = .ok (.aload_n 0, 1) := by decide +kernel
theorem dX7_refusesPause_12 : decode cX7_refusesPause 12 = .ok (.iload_n 1, 1) := by decide +kernel
theorem dX7_refusesPause_13 : decode cX7_refusesPause 13 = .ok (.invokevirtual 86, 3) := by decide +kernel
theorem dX7_refusesPause_16 : decode cX7_refusesPause 16 = .ok (.ifCond .ne 11, 3) := by decide +kernel
theorem dX7_refusesPause_19 : decode cX7_refusesPause 19 = .ok (.aload_n 0, 1) := by decide +kernel
theorem dX7_refusesPause_20 : decode cX7_refusesPause 20 = .ok (.iload_n 1, 1) := by decide +kernel
theorem dX7_refusesPause_21 : decode cX7_refusesPause 21 = .ok (.invokevirtual 48, 3) := by decide +kernel
theorem dX7_refusesPause_24 : decode cX7_refusesPause 24 = .ok (.ifCond .ne 8, 3) := by decide +kernel
theorem dX7_refusesPause_27 : decode cX7_refusesPause 27 = .ok (.bipush (-5), 2) := by decide +kernel
theorem dX7_refusesPause_29 : decode cX7_refusesPause 29 = .ok (.goto 4, 3) := by decide +kernel
theorem dX7_refusesPause_32 : decode cX7_refusesPause 32 = .ok (.iconst 0, 1) := by decide +kernel
theorem dX7_refusesPause_33 : decode cX7_refusesPause 33 = .ok (.ireturn, 1) := by decide +kernel
theorem dX7_begins_0 : decode cX7_begins 0 = .ok (.aload_n 0, 1) := by decide +kernel
theorem dX7_begins_1 : decode cX7_begins 1 = .ok (.getfield 7, 3) := by decide +kernel
theorem dX7_begins_4 : decode cX7_begins 4 = .ok (.bipush 10, 2) := by decide +kernel
theorem dX7_begins_6 : decode cX7_begins 6 = .ok (.iload_n 1, 1) := by decide +kernel
theorem dX7_begins_7 : decode cX7_begins 7 = .ok (.iadd, 1) := by decide +kernel
theorem dX7_begins_8 : decode cX7_begins 8 = .ok (.iconst 0, 1) := by decide +kernel
theorem dX7_begins_9 : decode cX7_begins 9 = .ok (.iastore, 1) := by decide +kernel
theorem dX7_begins_10 : decode cX7_begins 10 = .ok (.aload_n 0, 1) := by decide +kernel
theorem dX7_begins_11 : decode cX7_begins 11 = .ok (.aload_n 0, 1) := by decide +kernel
theorem dX7_begins_12 : decode cX7_begins 12 = .ok (.iload_n 1, 1) := by decide +kernel
theorem dX7_begins_13 : decode cX7_begins 13 = .ok (.invokevirtual 48, 3) := by decide +kernel
theorem dX7_begins_16 : decode cX7_begins 16 = .ok (.invokevirtual 51, 3) := by decide +kernel
theorem dX7_begins_19 : decode cX7_begins 19 = .ok (.ireturn, 1) := by decide +kernel
theorem dX7_pause_0 : decode cX7_pause 0 = .ok (.aload_n 0, 1) := by decide +kernel
theorem dX7_pause_1 : decode cX7_pause 1 = .ok (.iconst 0, 1) := by decide +kernel
theorem dX7_pause_2 : decode cX7_pause 2 = .ok (.putfield 29, 3) := by decide +kernel
theorem dX7_pause_5 : decode cX7_pause 5 = .ok (.aload_n 0, 1) := by decide +kernel
theorem dX7_pause_6 : decode cX7_pause 6 = .ok (.iload_n 1, 1) := by decide +kernel
theorem dX7_pause_7 : decode cX7_pause 7 = .ok (.invokevirtual 89, 3) := by decide +kernel
theorem dX7_pause_10 : decode cX7_pause 10 = .ok (.istore_n 2, 1) := by decide +kernel
theorem dX7_pause_11 : decode cX7_pause 11 = .ok (.iload_n 2, 1) := by decide +kernel
theorem dX7_pause_12 : decode cX7_pause 12 = .ok (.ifCond .eq 5, 3) := by decide +kernel
theorem dX7_pause_15 : decode cX7_pause 15 = .ok (.iload_n 2, 1) := by decide +kernel
theorem dX7_pause_16 : decode cX7_pause 16 = .ok (.ireturn, 1) := by decide +kernel
theorem dX7_pause_17 : decode cX7_pause 17 = .ok (.aload_n 0, 1) := by decide +kernel
theorem dX7_pause_18 : decode cX7_pause 18 = .ok (.invokevirtual 60, 3) := by decide +kernel
theorem dX7_pause_21 : decode cX7_pause 21 = .ok (.aload_n 0, 1) := by decide +kernel
theorem dX7_pause_22 : decode cX7_pause 22 = .ok (.iload_n 1, 1) := by decide +kernel
theorem dX7_pause_23 : decode cX7_pause 23 = .ok (.invokevirtual 92, 3) := by decide +kernel
theorem dX7_pause_26 : decode cX7_pause 26 = .ok (.ireturn, 1) := by decide +kernel
theorem dX7_ends_0 : decode cX7_ends 0 = .ok (.aload_n 0, 1) := by decide +kernel
theorem dX7_ends_1 : decode cX7_ends 1 = .ok (.getfield 7, 3) := by decide +kernel
theorem dX7_ends_4 : decode cX7_ends 4 = .ok (.bipush 9, 2) := by decide +kernel
theorem dX7_ends_6 : decode cX7_ends 6 = .ok (.iaload, 1) := by decide +kernel
theorem dX7_ends_7 : decode cX7_ends 7 = .ok (.bipush 10, 2) := by decide +kernel
theorem dX7_ends_9 : decode cX7_ends 9 = .ok (.if_icmp .ne 59, 3) := by decide +kernel
theorem dX7_ends_12 : decode cX7_ends 12 = .ok (.aload_n 0, 1) := by decide +kernel
theorem dX7_ends_13 : decode cX7_ends 13 = .ok (.getfield 7, 3) := by decide +kernel
theorem dX7_ends_16 : decode cX7_ends 16 = .ok (.bipush 9, 2) := by decide +kernel
theorem dX7_ends_18 : decode cX7_ends 18 = .ok (.dup2, 1) := by decide +kernel
theorem dX7_ends_19 : decode cX7_ends 19 = .ok (.iaload, 1) := by decide +kernel
theorem dX7_ends_20 : decode cX7_ends 20 = .ok (.iconst 1, 1) := by decide +kernel
theorem dX7_ends_21 : decode cX7_ends 21 = .ok (.isub, 1) := by decide +kernel
theorem dX7_ends_22 : decode cX7_ends 22 = .ok (.iastore, 1) := by decide +kernel
theorem dX7_ends_23 : decode cX7_ends 23 = .ok (.iconst 0, 1) := by decide +kernel
theorem dX7_ends_24 : decode cX7_ends 24 = .ok (.istore 5, 2) := by decide +kernel
theorem dX7_ends_26 : decode cX7_ends 26 = .ok (.iload 5, 2) := by decide +kernel
theorem dX7_ends_28 : decode cX7_ends 28 = .ok (.iconst 5, 1) := by decide +kernel
theorem dX7_ends_29 : decode cX7_ends 29 = .ok (.aload_n 0, 1) := by decide +kernel
theorem dX7_ends_30 : decode cX7_ends 30 = .ok (.getfield 7, 3) := by decide +kernel
theorem dX7_ends_33 : decode cX7_ends 33 = .ok (.bipush 9, 2) := by decide +kernel
theorem dX7_ends_35 : decode cX7_ends 35 = .ok (.iaload, 1) := by decide +kernel
theorem dX7_ends_36 : decode cX7_ends 36 = .ok (.imul, 1) := by decide +kernel
theorem dX7_ends_37 : decode cX7_ends 37 = .ok (.if_icmp .ge 31, 3) := by decide +kernel
theorem dX7_ends_40 : decode cX7_ends 40 = .ok (.aload_n 0, 1) := by decide +kernel
theorem dX7_ends_41 : decode cX7_ends 41 = .ok (.getfield 7, 3) := by decide +kernel
theorem dX7_ends_44 : decode cX7_ends 44 = .ok (.bipush 38, 2) := by decide +kernel
theorem dX7_ends_46 : decode cX7_ends 46 = .ok (.iload 5, 2) := by decide +kernel
theorem dX7_ends_48 : decode cX7_ends 48 = .ok (.iadd, 1) := by decide +kernel
theorem dX7_ends_49 : decode cX7_ends 49 = .ok (.aload_n 0, 1) := by decide +kernel
theorem dX7_ends_50 : decode cX7_ends 50 = .ok (.getfield 7, 3) := by decide +kernel
theorem dX7_ends_53 : decode cX7_ends 53 = .ok (.bipush 38, 2) := by decide +kernel
theorem dX7_ends_55 : decode cX7_ends 55 = .ok (.iload 5, 2) := by decide +kernel
theorem dX7_ends_57 : decode cX7_ends 57 = .ok (.iadd, 1) := by decide +kernel
theorem dX7_ends_58 : decode cX7_ends 58 = .ok (.iconst 5, 1) := by decide +kernel
theorem dX7_ends_59 : decode cX7_ends 59 = .ok (.iadd, 1) := by decide +kernel
theorem dX7_ends_60 : decode cX7_ends 60 = .ok (.iaload, 1) := by decide +kernel
theorem dX7_ends_61 : decode cX7_ends 61 = .ok (.iastore, 1) := by decide +kernel
theorem dX7_ends_62 : decode cX7_ends 62 = .ok (.iinc 5 1, 3) := by decide +kernel
theorem dX7_ends_65 : decode cX7_ends 65 = .ok (.goto (-39), 3) := by decide +kernel
theorem dX7_ends_68 : decode cX7_ends 68 = .ok (.bipush 38, 2) := by decide +kernel
theorem dX7_ends_70 : decode cX7_ends 70 = .ok (.iconst 5, 1) := by decide +kernel
theorem dX7_ends_71 : decode cX7_ends 71 = .ok (.aload_n 0, 1) := by decide +kernel
theorem dX7_ends_72 : decode cX7_ends 72 = .ok (.getfield 7, 3) := by decide +kernel
theorem dX7_ends_75 : decode cX7_ends 75 = .ok (.bipush 9, 2) := by decide +kernel
theorem dX7_ends_77 : decode cX7_ends 77 = .ok (.iaload, 1) := by decide +kernel
theorem dX7_ends_78 : decode cX7_ends 78 = .ok (.imul, 1) := by decide +kernel
theorem dX7_ends_79 : decode cX7_ends 79 = .ok (.iadd, 1) := by decide +kernel
theorem dX7_ends_80 : decode cX7_ends 80 = .ok (.istore 5, 2) := by decide +kernel
theorem dX7_ends_82 : decode cX7_ends 82 = .ok (.aload_n 0, 1) := by decide +kernel
theorem dX7_ends_83 : decode cX7_ends 83 = .ok (.getfield 7, 3) := by decide +kernel
theorem dX7_ends_86 : decode cX7_ends 86 = .ok (.iload 5, 2) := by decide +kernel
theorem dX7_ends_88 : decode cX7_ends 88 = .ok (.iload_n 2, 1) := by decide +kernel
theorem dX7_ends_89 : decode cX7_ends 89 = .ok (.iastore, 1) := by decide +kernel
theorem dX7_ends_90 : decode cX7_ends 90 = .ok (.aload_n 0, 1) := by decide +kernel
theorem dX7_ends_91 : decode cX7_ends 91 = .ok (.getfield 7, 3) := by decide +kernel
theorem dX7_ends_94 : decode cX7_ends 94 = .ok (.iload 5, 2) := by decide +kernel
theorem dX7_ends_96 : decode cX7_ends 96 = .ok (.iconst 1, 1) := by decide +kernel
theorem dX7_ends_97 : decode cX7_ends 97 = .ok (.iadd, 1) := by decide +kernel
theorem dX7_ends_98 : decode cX7_ends 98 = .ok (.iload_n 1, 1) := by decide +kernel
theorem dX7_ends_99 : decode cX7_ends 99 = .ok (.iastore, 1) := by decide +kernel
theorem dX7_ends_100 : decode cX7_ends 100 = .ok (.aload_n 0, 1) := by decide +kernel
theorem dX7_ends_101 : decode cX7_ends 101 = .ok (.getfield 7, 3) := by decide +kernel
theorem dX7_ends_104 : decode cX7_ends 104 = .ok (.iload 5, 2) := by decide +kernel
theorem dX7_ends_106 : decode cX7_ends 106 = .ok (.iconst 2, 1) := by decide +kernel
theorem dX7_ends_107 : decode cX7_ends 107 = .ok (.iadd, 1) := by decide +kernel
theorem dX7_ends_108 : decode cX7_ends 108 = .ok (.aload_n 0, 1) := by decide +kernel
theorem dX7_ends_109 : decode cX7_ends 109 = .ok (.getfield 7, 3) := by decide +kernel
theorem dX7_ends_112 : decode cX7_ends 112 = .ok (.bipush 10, 2) := by decide +kernel
theorem dX7_ends_114 : decode cX7_ends 114 = .ok (.iload_n 1, 1) := by decide +kernel
theorem dX7_ends_115 : decode cX7_ends 115 = .ok (.iadd, 1) := by decide +kernel
theorem dX7_ends_116 : decode cX7_ends 116 = .ok (.iaload, 1) := by decide +kernel
theorem dX7_ends_117 : decode cX7_ends 117 = .ok (.iastore, 1) := by decide +kernel
theorem dX7_ends_118 : decode cX7_ends 118 = .ok (.aload_n 0, 1) := by decide +kernel
theorem dX7_ends_119 : decode cX7_ends 119 = .ok (.getfield 7, 3) := by decide +kernel
theorem dX7_ends_122 : decode cX7_ends 122 = .ok (.iload 5, 2) := by decide +kernel
theorem dX7_ends_124 : decode cX7_ends 124 = .ok (.iconst 3, 1) := by decide +kernel
theorem dX7_ends_125 : decode cX7_ends 125 = .ok (.iadd, 1) := by decide +kernel
theorem dX7_ends_126 : decode cX7_ends 126 = .ok (.iload_n 3, 1) := by decide +kernel
theorem dX7_ends_127 : decode cX7_ends 127 = .ok (.iastore, 1) := by decide +kernel
theorem dX7_ends_128 : decode cX7_ends 128 = .ok (.aload_n 0, 1) := by decide +kernel
theorem dX7_ends_129 : decode cX7_ends 129 = .ok (.getfield 7, 3) := by decide +kernel
theorem dX7_ends_132 : decode cX7_ends 132 = .ok (.iload 5, 2) := by decide +kernel
theorem dX7_ends_134 : decode cX7_ends 134 = .ok (.iconst 4, 1) := by decide +kernel
theorem dX7_ends_135 : decode cX7_ends 135 = .ok (.iadd, 1) := by decide +kernel
theorem dX7_ends_136 : decode cX7_ends 136 = .ok (.iload 4, 2) := by decide +kernel
theorem dX7_ends_138 : decode cX7_ends 138 = .ok (.iastore, 1) := by decide +kernel
theorem dX7_ends_139 : decode cX7_ends 139 = .ok (.aload_n 0, 1) := by decide +kernel
theorem dX7_ends_140 : decode cX7_ends 140 = .ok (.getfield 7, 3) := by decide +kernel
theorem dX7_ends_143 : decode cX7_ends 143 = .ok (.bipush 9, 2) := by decide +kernel
theorem dX7_ends_145 : decode cX7_ends 145 = .ok (.dup2, 1) := by decide +kernel
theorem dX7_ends_146 : decode cX7_ends 146 = .ok (.iaload, 1) := by decide +kernel
theorem dX7_ends_147 : decode cX7_ends 147 = .ok (.iconst 1, 1) := by decide +kernel
theorem dX7_ends_148 : decode cX7_ends 148 = .ok (.iadd, 1) := by decide +kernel
theorem dX7_ends_149 : decode cX7_ends 149 = .ok (.iastore, 1) := by decide +kernel
theorem dX7_ends_150 : decode cX7_ends 150 = .ok (.aload_n 0, 1) := by decide +kernel
theorem dX7_ends_151 : decode cX7_ends 151 = .ok (.getfield 7, 3) := by decide +kernel
theorem dX7_ends_154 : decode cX7_ends 154 = .ok (.bipush 6, 2) := by decide +kernel
theorem dX7_ends_156 : decode cX7_ends 156 = .ok (.iload_n 2, 1) := by decide +kernel
theorem dX7_ends_157 : decode cX7_ends 157 = .ok (.iadd, 1) := by decide +kernel
theorem dX7_ends_158 : decode cX7_ends 158 = .ok (.dup2, 1) := by decide +kernel
theorem dX7_ends_159 : decode cX7_ends 159 = .ok (.iaload, 1) := by decide +kernel
theorem dX7_ends_160 : decode cX7_ends 160 = .ok (.iconst 1, 1) := by decide +kernel
theorem dX7_ends_161 : decode cX7_ends 161 = .ok (.iadd, 1) := by decide +kernel
theorem dX7_ends_162 : decode cX7_ends 162 = .ok (.iastore, 1) := by decide +kernel
theorem dX7_ends_163 : decode cX7_ends 163 = .ok (.aload_n 0, 1) := by decide +kernel
theorem dX7_ends_164 : decode cX7_ends 164 = .ok (.getfield 7, 3) := by decide +kernel
theorem dX7_ends_167 : decode cX7_ends 167 = .ok (.bipush 13, 2) := by decide +kernel
theorem dX7_ends_169 : decode cX7_ends 169 = .ok (.iload_n 1, 1) := by decide +kernel
theorem dX7_ends_170 : decode cX7_ends 170 = .ok (.iadd, 1) := by decide +kernel
theorem dX7_ends_171 : decode cX7_ends 171 = .ok (.dup2, 1) := by decide +kernel
theorem dX7_ends_172 : decode cX7_ends 172 = .ok (.iaload, 1) := by decide +kernel
theorem dX7_ends_173 : decode cX7_ends 173 = .ok (.iconst 1, 1) := by decide +kernel
theorem dX7_ends_174 : decode cX7_ends 174 = .ok (.iadd, 1) := by decide +kernel
theorem dX7_ends_175 : decode cX7_ends 175 = .ok (.iastore, 1) := by decide +kernel
theorem dX7_ends_176 : decode cX7_ends 176 = .ok (.aload_n 0, 1) := by decide +kernel
theorem dX7_ends_177 : decode cX7_ends 177 = .ok (.getfield 7, 3) := by decide +kernel
theorem dX7_ends_180 : decode cX7_ends 180 = .ok (.bipush 10, 2) := by decide +kernel
theorem dX7_ends_182 : decode cX7_ends 182 = .ok (.iload_n 1, 1) := by decide +kernel
theorem dX7_ends_183 : decode cX7_ends 183 = .ok (.iadd, 1) := by decide +kernel
theorem dX7_ends_184 : decode cX7_ends 184 = .ok (.bipush (-6), 2) := by decide +kernel
theorem dX7_ends_186 : decode cX7_ends 186 = .ok (.iastore, 1) := by decide +kernel
theorem dX7_ends_187 : decode cX7_ends 187 = .ok (.return_, 1) := by decide +kernel
theorem dX7_refusesClosing_0 : decode cX7_refusesClosing 0 = .ok (.iload_n 1, 1) := by decide +kernel
theorem dX7_refusesClosing_1 : decode cX7_refusesClosing 1 = .ok (.invokestatic 63, 3) := by decide +kernel
theorem dX7_refusesClosing_4 : decode cX7_refusesClosing 4 = .ok (.ifCond .ne 7, 3) := by decide +kernel
theorem dX7_refusesClosing_7 : decode cX7_refusesClosing 7 = .ok (.iconst (-1), 1) := by decide +kernel
theorem dX7_refusesClosing_8 : decode cX7_refusesClosing 8 = .ok (.goto 17, 3) := by decide +kernel
theorem dX7_refusesClosing_11 : decode cX7_refusesClosing 11 = .ok (.aload_n 0, 1) := by decide +kernel
theorem dX7_refusesClosing_12 : decode cX7_refusesClosing 12 = .ok (.iload_n 1, 1) := by decide +kernel
theorem dX7_refusesClosing_13 : decode cX7_refusesClosing 13 = .ok (.invokevirtual 86, 3) := by decide +kernel
theorem dX7_refusesClosing_16 : decode cX7_refusesClosing 16 = .ok (.ifCond .ne 8, 3) := by decide +kernel
theorem dX7_refusesClosing_19 : decode cX7_refusesClosing 19 = .ok (.bipush (-5), 2) := by decide +kernel
theorem dX7_refusesClosing_21 : decode cX7_refusesClosing 21 = .ok (.goto 4, 3) := by decide +kernel
theorem dX7_refusesClosing_24 : decode cX7_refusesClosing 24 = .ok (.iconst 0, 1) := by decide +kernel
theorem dX7_refusesClosing_25 : decode cX7_refusesClosing 25 = .ok (.ireturn, 1) := by decide +kernel
theorem dX7_closes_0 : decode cX7_closes 0 = .ok (.aload_n 0, 1) := by decide +kernel
theorem dX7_closes_1 : decode cX7_closes 1 = .ok (.iload_n 1, 1) := by decide +kernel
theorem dX7_closes_2 : decode cX7_closes 2 = .ok (.invokevirtual 95, 3) := by decide +kernel
theorem dX7_closes_5 : decode cX7_closes 5 = .ok (.istore_n 2, 1) := by decide +kernel
theorem dX7_closes_6 : decode cX7_closes 6 = .ok (.aload_n 0, 1) := by decide +kernel
theorem dX7_closes_7 : decode cX7_closes 7 = .ok (.getfield 7, 3) := by decide +kernel
theorem dX7_closes_10 : decode cX7_closes 10 = .ok (.bipush 10, 2) := by decide +kernel
theorem dX7_closes_12 : decode cX7_closes 12 = .ok (.iload_n 1, 1) := by decide +kernel
theorem dX7_closes_13 : decode cX7_closes 13 = .ok (.iadd, 1) := by decide +kernel
theorem dX7_closes_14 : decode cX7_closes 14 = .ok (.iaload, 1) := by decide +kernel
theorem dX7_closes_15 : decode cX7_closes 15 = .ok (.istore_n 3, 1) := by decide +kernel
theorem dX7_closes_16 : decode cX7_closes 16 = .ok (.iload_n 2, 1) := by decide +kernel
theorem dX7_closes_17 : decode cX7_closes 17 = .ok (.ifCond .le 59, 3) := by decide +kernel
theorem dX7_closes_20 : decode cX7_closes 20 = .ok (.bipush 16, 2) := by decide +kernel
theorem dX7_closes_22 : decode cX7_closes 22 = .ok (.iconst 2, 1) := by decide +kernel
theorem dX7_closes_23 : decode cX7_closes 23 = .ok (.iload_n 2, 1) := by decide +kernel
theorem dX7_closes_24 : decode cX7_closes 24 = .ok (.iconst 1, 1) := by decide +kernel
theorem dX7_closes_25 : decode cX7_closes 25 = .ok (.isub, 1) := by decide +kernel
theorem dX7_closes_26 : decode cX7_closes 26 = .ok (.imul, 1) := by decide +kernel
theorem dX7_closes_27 : decode cX7_closes 27 = .ok (.iadd, 1) := by decide +kernel
theorem dX7_closes_28 : decode cX7_closes 28 = .ok (.istore 4, 2) := by decide +kernel
theorem dX7_closes_30 : decode cX7_closes 30 = .ok (.aload_n 0, 1) := by decide +kernel
theorem dX7_closes_31 : decode cX7_closes 31 = .ok (.getfield 7, 3) := by decide +kernel
theorem dX7_closes_34 : decode cX7_closes 34 = .ok (.iload 4, 2) := by decide +kernel
theorem dX7_closes_36 : decode cX7_closes 36 = .ok (.dup2, 1) := by decide +kernel
theorem dX7_closes_37 : decode cX7_closes 37 = .ok (.iaload, 1) := by decide +kernel
theorem dX7_closes_38 : decode cX7_closes 38 = .ok (.iconst 1, 1) := by decide +kernel
theorem dX7_closes_39 : decode cX7_closes 39 = .ok (.iadd, 1) := by decide +kernel
theorem dX7_closes_40 : decode cX7_closes 40 = .ok (.iastore, 1) := by decide +kernel
theorem dX7_closes_41 : decode cX7_closes 41 = .ok (.aload_n 0, 1) := by decide +kernel
theorem dX7_closes_42 : decode cX7_closes 42 = .ok (.getfield 7, 3) := by decide +kernel
theorem dX7_closes_45 : decode cX7_closes 45 = .ok (.iload 4, 2) := by decide +kernel
theorem dX7_closes_47 : decode cX7_closes 47 = .ok (.iconst 1, 1) := by decide +kernel
theorem dX7_closes_48 : decode cX7_closes 48 = .ok (.iadd, 1) := by decide +kernel
theorem dX7_closes_49 : decode cX7_closes 49 = .ok (.iload_n 3, 1) := by decide +kernel
theorem dX7_closes_50 : decode cX7_closes 50 = .ok (.aload_n 0, 1) := by decide +kernel
theorem dX7_closes_51 : decode cX7_closes 51 = .ok (.getfield 7, 3) := by decide +kernel
theorem dX7_closes_54 : decode cX7_closes 54 = .ok (.iload 4, 2) := by decide +kernel
theorem dX7_closes_56 : decode cX7_closes 56 = .ok (.iconst 1, 1) := by decide +kernel
theorem dX7_closes_57 : decode cX7_closes 57 = .ok (.iadd, 1) := by decide +kernel
theorem dX7_closes_58 : decode cX7_closes 58 = .ok (.iaload, 1) := by decide +kernel
theorem dX7_closes_59 : decode cX7_closes 59 = .ok (.if_icmp .le 7, 3) := by decide +kernel
theorem dX7_closes_62 : decode cX7_closes 62 = .ok (.iload_n 3, 1) := by decide +kernel
theorem dX7_closes_63 : decode cX7_closes 63 = .ok (.goto 12, 3) := by decide +kernel
theorem dX7_closes_66 : decode cX7_closes 66 = .ok (.aload_n 0, 1) := by decide +kernel
theorem dX7_closes_67 : decode cX7_closes 67 = .ok (.getfield 7, 3) := by decide +kernel
theorem dX7_closes_70 : decode cX7_closes 70 = .ok (.iload 4, 2) := by decide +kernel
theorem dX7_closes_72 : decode cX7_closes 72 = .ok (.iconst 1, 1) := by decide +kernel
theorem dX7_closes_73 : decode cX7_closes 73 = .ok (.iadd, 1) := by decide +kernel
theorem dX7_closes_74 : decode cX7_closes 74 = .ok (.iaload, 1) := by decide +kernel
theorem dX7_closes_75 : decode cX7_closes 75 = .ok (.iastore, 1) := by decide +kernel
theorem dX7_closes_76 : decode cX7_closes 76 = .ok (.aload_n 0, 1) := by decide +kernel
theorem dX7_closes_77 : decode cX7_closes 77 = .ok (.iload_n 1, 1) := by decide +kernel
theorem dX7_closes_78 : decode cX7_closes 78 = .ok (.iconst 0, 1) := by decide +kernel
theorem dX7_closes_79 : decode cX7_closes 79 = .ok (.iload_n 2, 1) := by decide +kernel
theorem dX7_closes_80 : decode cX7_closes 80 = .ok (.bipush (-6), 2) := by decide +kernel
theorem dX7_closes_82 : decode cX7_closes 82 = .ok (.invokevirtual 98, 3) := by decide +kernel
theorem dX7_closes_85 : decode cX7_closes 85 = .ok (.iload_n 2, 1) := by decide +kernel
theorem dX7_closes_86 : decode cX7_closes 86 = .ok (.ireturn, 1) := by decide +kernel
theorem dX7_close_0 : decode cX7_close 0 = .ok (.aload_n 0, 1) := by decide +kernel
theorem dX7_close_1 : decode cX7_close 1 = .ok (.iconst 0, 1) := by decide +kernel
theorem dX7_close_2 : decode cX7_close 2 = .ok (.putfield 29, 3) := by decide +kernel
theorem dX7_close_5 : decode cX7_close 5 = .ok (.aload_n 0, 1) := by decide +kernel
theorem dX7_close_6 : decode cX7_close 6 = .ok (.iload_n 1, 1) := by decide +kernel
theorem dX7_close_7 : decode cX7_close 7 = .ok (.invokevirtual 102, 3) := by decide +kernel
theorem dX7_close_10 : decode cX7_close 10 = .ok (.istore_n 2, 1) := by decide +kernel
theorem dX7_close_11 : decode cX7_close 11 = .ok (.iload_n 2, 1) := by decide +kernel
theorem dX7_close_12 : decode cX7_close 12 = .ok (.ifCond .eq 5, 3) := by decide +kernel
theorem dX7_close_15 : decode cX7_close 15 = .ok (.iload_n 2, 1) := by decide +kernel
theorem dX7_close_16 : decode cX7_close 16 = .ok (.ireturn, 1) := by decide +kernel
theorem dX7_close_17 : decode cX7_close 17 = .ok (.aload_n 0, 1) := by decide +kernel
theorem dX7_close_18 : decode cX7_close 18 = .ok (.invokevirtual 60, 3) := by decide +kernel
theorem dX7_close_21 : decode cX7_close 21 = .ok (.aload_n 0, 1) := by decide +kernel
theorem dX7_close_22 : decode cX7_close 22 = .ok (.iload_n 1, 1) := by decide +kernel
theorem dX7_close_23 : decode cX7_close 23 = .ok (.invokevirtual 105, 3) := by decide +kernel
theorem dX7_close_26 : decode cX7_close 26 = .ok (.ireturn, 1) := by decide +kernel
theorem dX7_refusesBreak_0 : decode cX7_refusesBreak 0 = .ok (.aload_n 0, 1) := by decide +kernel
theorem dX7_refusesBreak_1 : decode cX7_refusesBreak 1 = .ok (.iload_n 1, 1) := by decide +kernel
theorem dX7_refusesBreak_2 : decode cX7_refusesBreak 2 = .ok (.invokevirtual 77, 3) := by decide +kernel
theorem dX7_refusesBreak_5 : decode cX7_refusesBreak 5 = .ok (.ifCond .ne 5, 3) := by decide +kernel
theorem dX7_refusesBreak_8 : decode cX7_refusesBreak 8 = .ok (.iconst (-1), 1) := by decide +kernel
theorem dX7_refusesBreak_9 : decode cX7_refusesBreak 9 = .ok (.ireturn, 1) := by decide +kernel
theorem dX7_refusesBreak_10 : decode cX7_refusesBreak 10 = .ok (.aload_n 0, 1) := by decide +kernel
theorem dX7_refusesBreak_11 : decode cX7_refusesBreak 11 = .ok (.iload_n 1, 1) := by decide +kernel
theorem dX7_refusesBreak_12 : decode cX7_refusesBreak 12 = .ok (.iconst 0, 1) := by decide +kernel
theorem dX7_refusesBreak_13 : decode cX7_refusesBreak 13 = .ok (.invokevirtual 40, 3) := by decide +kernel
theorem dX7_refusesBreak_16 : decode cX7_refusesBreak 16 = .ok (.bipush (-6), 2) := by decide +kernel
theorem dX7_refusesBreak_18 : decode cX7_refusesBreak 18 = .ok (.if_icmp .eq 16, 3) := by decide +kernel
theorem dX7_refusesBreak_21 : decode cX7_refusesBreak 21 = .ok (.aload_n 0, 1) := by decide +kernel
theorem dX7_refusesBreak_22 : decode cX7_refusesBreak 22 = .ok (.aload_n 0, 1) := by decide +kernel
theorem dX7_refusesBreak_23 : decode cX7_refusesBreak 23 = .ok (.iload_n 1, 1) := by decide +kernel
theorem dX7_refusesBreak_24 : decode cX7_refusesBreak 24 = .ok (.iconst 0, 1) := by decide +kernel
theorem dX7_refusesBreak_25 : decode cX7_refusesBreak 25 = .ok (.invokevirtual 40, 3) := by decide +kernel
theorem dX7_refusesBreak_28 : decode cX7_refusesBreak 28 = .ok (.invokevirtual 86, 3) := by decide +kernel
theorem dX7_refusesBreak_31 : decode cX7_refusesBreak 31 = .ok (.ifCond .ne 8, 3) := by decide +kernel
theorem dX7_refusesBreak_34 : decode cX7_refusesBreak 34 = .ok (.bipush (-5), 2) := by decide +kernel
theorem dX7_refusesBreak_36 : decode cX7_refusesBreak 36 = .ok (.goto 4, 3) := by decide +kernel
theorem dX7_refusesBreak_39 : decode cX7_refusesBreak 39 = .ok (.iconst 0, 1) := by decide +kernel
theorem dX7_refusesBreak_40 : decode cX7_refusesBreak 40 = .ok (.ireturn, 1) := by decide +kernel
theorem dX7_speaks_0 : decode cX7_speaks 0 = .ok (.aload_n 0, 1) := by decide +kernel
theorem dX7_speaks_1 : decode cX7_speaks 1 = .ok (.iload_n 1, 1) := by decide +kernel
theorem dX7_speaks_2 : decode cX7_speaks 2 = .ok (.iconst 0, 1) := by decide +kernel
theorem dX7_speaks_3 : decode cX7_speaks 3 = .ok (.invokevirtual 40, 3) := by decide +kernel
theorem dX7_speaks_6 : decode cX7_speaks 6 = .ok (.istore_n 2, 1) := by decide +kernel
theorem dX7_speaks_7 : decode cX7_speaks 7 = .ok (.aload_n 0, 1) := by decide +kernel
theorem dX7_speaks_8 : decode cX7_speaks 8 = .ok (.iload_n 2, 1) := by decide +kernel
theorem dX7_speaks_9 : decode cX7_speaks 9 = .ok (.invokevirtual 108, 3) := by decide +kernel
theorem dX7_speaks_12 : decode cX7_speaks 12 = .ok (.istore_n 3, 1) := by decide +kernel
theorem dX7_speaks_13 : decode cX7_speaks 13 = .ok (.aload_n 0, 1) := by decide +kernel
theorem dX7_speaks_14 : decode cX7_speaks 14 = .ok (.iload_n 1, 1) := by decide +kernel
theorem dX7_speaks_15 : decode cX7_speaks 15 = .ok (.iconst 2, 1) := by decide +kernel
theorem dX7_speaks_16 : decode cX7_speaks 16 = .ok (.aload_n 0, 1) := by decide +kernel
theorem dX7_speaks_17 : decode cX7_speaks 17 = .ok (.iload_n 1, 1) := by decide +kernel
theorem dX7_speaks_18 : decode cX7_speaks 18 = .ok (.iconst 2, 1) := by decide +kernel
theorem dX7_speaks_19 : decode cX7_speaks 19 = .ok (.invokevirtual 40, 3) := by decide +kernel
theorem dX7_speaks_22 : decode cX7_speaks 22 = .ok (.aload_n 0, 1) := by decide +kernel
theorem dX7_speaks_23 : decode cX7_speaks 23 = .ok (.getfield 7, 3) := by decide +kernel
theorem dX7_speaks_26 : decode cX7_speaks 26 = .ok (.iconst 3, 1) := by decide +kernel
theorem dX7_speaks_27 : decode cX7_speaks 27 = .ok (.iaload, 1) := by decide +kernel
theorem dX7_speaks_28 : decode cX7_speaks 28 = .ok (.iadd, 1) := by decide +kernel
theorem dX7_speaks_29 : decode cX7_speaks 29 = .ok (.invokevirtual 67, 3) := by decide +kernel
theorem dX7_speaks_32 : decode cX7_speaks 32 = .ok (.aload_n 0, 1) := by decide +kernel
theorem dX7_speaks_33 : decode cX7_speaks 33 = .ok (.iload_n 3, 1) := by decide +kernel
theorem dX7_speaks_34 : decode cX7_speaks 34 = .ok (.iconst 2, 1) := by decide +kernel
theorem dX7_speaks_35 : decode cX7_speaks 35 = .ok (.aload_n 0, 1) := by decide +kernel
theorem dX7_speaks_36 : decode cX7_speaks 36 = .ok (.iload_n 3, 1) := by decide +kernel
theorem dX7_speaks_37 : decode cX7_speaks 37 = .ok (.iconst 2, 1) := by decide +kernel
theorem dX7_speaks_38 : decode cX7_speaks 38 = .ok (.invokevirtual 40, 3) := by decide +kernel
theorem dX7_speaks_41 : decode cX7_speaks 41 = .ok (.iload_n 3, 1) := by decide +kernel
theorem dX7_speaks_42 : decode cX7_speaks 42 = .ok (.iload_n 1, 1) := by decide +kernel
theorem dX7_speaks_43 : decode cX7_speaks 43 = .ok (.if_icmp .ne 7, 3) := by decide +kernel
theorem dX7_speaks_46 : decode cX7_speaks 46 = .ok (.iconst 0, 1) := by decide +kernel
theorem dX7_speaks_47 : decode cX7_speaks 47 = .ok (.goto 4, 3) := by decide +kernel
theorem dX7_speaks_50 : decode cX7_speaks 50 = .ok (.iconst 1, 1) := by decide +kernel
theorem dX7_speaks_51 : decode cX7_speaks 51 = .ok (.iadd, 1) := by decide +kernel
theorem dX7_speaks_52 : decode cX7_speaks 52 = .ok (.invokevirtual 67, 3) := by decide +kernel
theorem dX7_speaks_55 : decode cX7_speaks 55 = .ok (.aload_n 0, 1) := by decide +kernel
theorem dX7_speaks_56 : decode cX7_speaks 56 = .ok (.iload_n 1, 1) := by decide +kernel
theorem dX7_speaks_57 : decode cX7_speaks 57 = .ok (.iconst 4, 1) := by decide +kernel
theorem dX7_speaks_58 : decode cX7_speaks 58 = .ok (.aload_n 0, 1) := by decide +kernel
theorem dX7_speaks_59 : decode cX7_speaks 59 = .ok (.iload_n 1, 1) := by decide +kernel
theorem dX7_speaks_60 : decode cX7_speaks 60 = .ok (.iconst 4, 1) := by decide +kernel
theorem dX7_speaks_61 : decode cX7_speaks 61 = .ok (.invokevirtual 40, 3) := by decide +kernel
theorem dX7_speaks_64 : decode cX7_speaks 64 = .ok (.iconst 1, 1) := by decide +kernel
theorem dX7_speaks_65 : decode cX7_speaks 65 = .ok (.iadd, 1) := by decide +kernel
theorem dX7_speaks_66 : decode cX7_speaks 66 = .ok (.invokevirtual 67, 3) := by decide +kernel
theorem dX7_speaks_69 : decode cX7_speaks 69 = .ok (.aload_n 0, 1) := by decide +kernel
theorem dX7_speaks_70 : decode cX7_speaks 70 = .ok (.iload_n 2, 1) := by decide +kernel
theorem dX7_speaks_71 : decode cX7_speaks 71 = .ok (.iconst 1, 1) := by decide +kernel
theorem dX7_speaks_72 : decode cX7_speaks 72 = .ok (.iconst 0, 1) := by decide +kernel
theorem dX7_speaks_73 : decode cX7_speaks 73 = .ok (.iload_n 1, 1) := by decide +kernel
theorem dX7_speaks_74 : decode cX7_speaks 74 = .ok (.invokevirtual 98, 3) := by decide +kernel
theorem dX7_speaks_77 : decode cX7_speaks 77 = .ok (.aload_n 0, 1) := by decide +kernel
theorem dX7_speaks_78 : decode cX7_speaks 78 = .ok (.iload_n 1, 1) := by decide +kernel
theorem dX7_speaks_79 : decode cX7_speaks 79 = .ok (.iconst 2, 1) := by decide +kernel
theorem dX7_speaks_80 : decode cX7_speaks 80 = .ok (.invokevirtual 40, 3) := by decide +kernel
theorem dX7_speaks_83 : decode cX7_speaks 83 = .ok (.ireturn, 1) := by decide +kernel
theorem dX7_word_0 : decode cX7_word 0 = .ok (.aload_n 0, 1) := by decide +kernel
theorem dX7_word_1 : decode cX7_word 1 = .ok (.iconst 0, 1) := by decide +kernel
theorem dX7_word_2 : decode cX7_word 2 = .ok (.putfield 29, 3) := by decide +kernel
theorem dX7_word_5 : decode cX7_word 5 = .ok (.aload_n 0, 1) := by decide +kernel
theorem dX7_word_6 : decode cX7_word 6 = .ok (.iload_n 1, 1) := by decide +kernel
theorem dX7_word_7 : decode cX7_word 7 = .ok (.invokevirtual 111, 3) := by decide +kernel
theorem dX7_word_10 : decode cX7_word 10 = .ok (.istore_n 2, 1) := by decide +kernel
theorem dX7_word_11 : decode cX7_word 11 = .ok (.iload_n 2, 1) := by decide +kernel
theorem dX7_word_12 : decode cX7_word 12 = .ok (.ifCond .eq 5, 3) := by decide +kernel
theorem dX7_word_15 : decode cX7_word 15 = .ok (.iload_n 2, 1) := by decide +kernel
theorem dX7_word_16 : decode cX7_word 16 = .ok (.ireturn, 1) := by decide +kernel
theorem dX7_word_17 : decode cX7_word 17 = .ok (.aload_n 0, 1) := by decide +kernel
theorem dX7_word_18 : decode cX7_word 18 = .ok (.invokevirtual 60, 3) := by decide +kernel
theorem dX7_word_21 : decode cX7_word 21 = .ok (.aload_n 0, 1) := by decide +kernel
theorem dX7_word_22 : decode cX7_word 22 = .ok (.iload_n 1, 1) := by decide +kernel
theorem dX7_word_23 : decode cX7_word 23 = .ok (.invokevirtual 114, 3) := by decide +kernel
theorem dX7_word_26 : decode cX7_word 26 = .ok (.ireturn, 1) := by decide +kernel
theorem dX7_lenderFor_0 : decode cX7_lenderFor 0 = .ok (.bipush (-6), 2) := by decide +kernel
theorem dX7_lenderFor_2 : decode cX7_lenderFor 2 = .ok (.istore_n 2, 1) := by decide +kernel
theorem dX7_lenderFor_3 : decode cX7_lenderFor 3 = .ok (.iconst 0, 1) := by decide +kernel
theorem dX7_lenderFor_4 : decode cX7_lenderFor 4 = .ok (.istore_n 3, 1) := by decide +kernel
theorem dX7_lenderFor_5 : decode cX7_lenderFor 5 = .ok (.iload_n 3, 1) := by decide +kernel
theorem dX7_lenderFor_6 : decode cX7_lenderFor 6 = .ok (.aload_n 0, 1) := by decide +kernel
theorem dX7_lenderFor_7 : decode cX7_lenderFor 7 = .ok (.getfield 7, 3) := by decide +kernel
theorem dX7_lenderFor_10 : decode cX7_lenderFor 10 = .ok (.iconst 5, 1) := by decide +kernel
theorem dX7_lenderFor_11 : decode cX7_lenderFor 11 = .ok (.iaload, 1) := by decide +kernel
theorem dX7_lenderFor_12 : decode cX7_lenderFor 12 = .ok (.if_icmp .ge 77, 3) := by decide +kernel
theorem dX7_lenderFor_15 : decode cX7_lenderFor 15 = .ok (.iload_n 3, 1) := by decide +kernel
theorem dX7_lenderFor_16 : decode cX7_lenderFor 16 = .ok (.iload_n 1, 1) := by decide +kernel
theorem dX7_lenderFor_17 : decode cX7_lenderFor 17 = .ok (.if_icmp .eq 31, 3) := by decide +kernel
theorem dX7_lenderFor_20 : decode cX7_lenderFor 20 = .ok (.aload_n 0, 1) := by decide +kernel
theorem dX7_lenderFor_21 : decode cX7_lenderFor 21 = .ok (.iload_n 3, 1) := by decide +kernel
theorem dX7_lenderFor_22 : decode cX7_lenderFor 22 = .ok (.iconst 0, 1) := by decide +kernel
theorem dX7_lenderFor_23 : decode cX7_lenderFor 23 = .ok (.invokevirtual 40, 3) := by decide +kernel
theorem dX7_lenderFor_26 : decode cX7_lenderFor 26 = .ok (.aload_n 0, 1) := by decide +kernel
theorem dX7_lenderFor_27 : decode cX7_lenderFor 27 = .ok (.iload_n 1, 1) := by decide +kernel
theorem dX7_lenderFor_28 : decode cX7_lenderFor 28 = .ok (.iconst 0, 1) := by decide +kernel
theorem dX7_lenderFor_29 : decode cX7_lenderFor 29 = .ok (.invokevirtual 40, 3) := by decide +kernel
theorem dX7_lenderFor_32 : decode cX7_lenderFor 32 = .ok (.if_icmp .ne 16, 3) := by decide +kernel
theorem dX7_lenderFor_35 : decode cX7_lenderFor 35 = .ok (.aload_n 0, 1) := by decide +kernel
theorem dX7_lenderFor_36 : decode cX7_lenderFor 36 = .ok (.iload_n 3, 1) := by decide +kernel
theorem dX7_lenderFor_37 : decode cX7_lenderFor 37 = .ok (.iconst 3, 1) := by decide +kernel
theorem dX7_lenderFor_38 : decode cX7_lenderFor 38 = .ok (.invokevirtual 40, 3) := by decide +kernel
theorem dX7_lenderFor_41 : decode cX7_lenderFor 41 = .ok (.ifCond .le 7, 3) := by decide +kernel
theorem dX7_lenderFor_44 : decode cX7_lenderFor 44 = .ok (.iconst 1, 1) := by decide +kernel
theorem dX7_lenderFor_45 : decode cX7_lenderFor 45 = .ok (.goto 4, 3) := by decide +kernel
theorem dX7_lenderFor_48 : decode cX7_lenderFor 48 = .ok (.iconst 0, 1) := by decide +kernel
theorem dX7_lenderFor_49 : decode cX7_lenderFor 49 = .ok (.istore 4, 2) := by decide +kernel
theorem dX7_lenderFor_51 : decode cX7_lenderFor 51 = .ok (.iload 4, 2) := by decide +kernel
theorem dX7_lenderFor_53 : decode cX7_lenderFor 53 = .ok (.ifCond .eq 28, 3) := by decide +kernel
theorem dX7_lenderFor_56 : decode cX7_lenderFor 56 = .ok (.iload_n 2, 1) := by decide +kernel
theorem dX7_lenderFor_57 : decode cX7_lenderFor 57 = .ok (.bipush (-6), 2) := by decide +kernel
theorem dX7_lenderFor_59 : decode cX7_lenderFor 59 = .ok (.if_icmp .eq 18, 3) := by decide +kernel
theorem dX7_lenderFor_62 : decode cX7_lenderFor 62 = .ok (.aload_n 0, 1) := by decide +kernel
theorem dX7_lenderFor_63 : decode cX7_lenderFor 63 = .ok (.iload_n 3, 1) := by decide +kernel
theorem dX7_lenderFor_64 : decode cX7_lenderFor 64 = .ok (.iconst 1, 1) := by decide +kernel
theorem dX7_lenderFor_65 : decode cX7_lenderFor 65 = .ok (.invokevirtual 40, 3) := by decide +kernel
theorem dX7_lenderFor_68 : decode cX7_lenderFor 68 = .ok (.aload_n 0, 1) := by decide +kernel
theorem dX7_lenderFor_69 : decode cX7_lenderFor 69 = .ok (.iload_n 2, 1) := by decide +kernel
theorem dX7_lenderFor_70 : decode cX7_lenderFor 70 = .ok (.iconst 1, 1) := by decide +kernel
theorem dX7_lenderFor_71 : decode cX7_lenderFor 71 = .ok (.invokevirtual 40, 3) := by decide +kernel
theorem dX7_lenderFor_74 : decode cX7_lenderFor 74 = .ok (.if_icmp .ge 7, 3) := by decide +kernel
theorem dX7_lenderFor_77 : decode cX7_lenderFor 77 = .ok (.iload_n 3, 1) := by decide +kernel
theorem dX7_lenderFor_78 : decode cX7_lenderFor 78 = .ok (.goto 4, 3) := by decide +kernel
theorem dX7_lenderFor_81 : decode cX7_lenderFor 81 = .ok (.iload_n 2, 1) := by decide +kernel
theorem dX7_lenderFor_82 : decode cX7_lenderFor 82 = .ok (.istore_n 2, 1) := by decide +kernel
theorem dX7_lenderFor_83 : decode cX7_lenderFor 83 = .ok (.iinc 3 1, 3) := by decide +kernel
theorem dX7_lenderFor_86 : decode cX7_lenderFor 86 = .ok (.goto (-81), 3) := by decide +kernel
theorem dX7_lenderFor_89 : decode cX7_lenderFor 89 = .ok (.iload_n 2, 1) := by decide +kernel
theorem dX7_lenderFor_90 : decode cX7_lenderFor 90 = .ok (.ireturn, 1) := by decide +kernel
theorem dX7_coughs_0 : decode cX7_coughs 0 = .ok (.aload_n 0, 1) := by decide +kernel
theorem dX7_coughs_1 : decode cX7_coughs 1 = .ok (.iload_n 1, 1) := by decide +kernel
theorem dX7_coughs_2 : decode cX7_coughs 2 = .ok (.invokevirtual 117, 3) := by decide +kernel
theorem dX7_coughs_5 : decode cX7_coughs 5 = .ok (.istore_n 2, 1) := by decide +kernel
theorem dX7_coughs_6 : decode cX7_coughs 6 = .ok (.iload_n 2, 1) := by decide +kernel
theorem dX7_coughs_7 : decode cX7_coughs 7 = .ok (.bipush (-6), 2) := by decide +kernel
theorem dX7_coughs_9 : decode cX7_coughs 9 = .ok (.if_icmp .ne 25, 3) := by decide +kernel
theorem dX7_coughs_12 : decode cX7_coughs 12 = .ok (.aload_n 0, 1) := by decide +kernel
theorem dX7_coughs_13 : decode cX7_coughs 13 = .ok (.iload_n 1, 1) := by decide +kernel
theorem dX7_coughs_14 : decode cX7_coughs 14 = .ok (.iconst 2, 1) := by decide +kernel
theorem dX7_coughs_15 : decode cX7_coughs 15 = .ok (.aload_n 0, 1) := by decide +kernel
theorem dX7_coughs_16 : decode cX7_coughs 16 = .ok (.iload_n 1, 1) := by decide +kernel
theorem dX7_coughs_17 : decode cX7_coughs 17 = .ok (.iconst 2, 1) := by decide +kernel
theorem dX7_coughs_18 : decode cX7_coughs 18 = .ok (.invokevirtual 40, 3) := by decide +kernel
theorem dX7_coughs_21 : decode cX7_coughs 21 = .ok (.aload_n 0, 1) := by decide +kernel
theorem dX7_coughs_22 : decode cX7_coughs 22 = .ok (.getfield 7, 3) := by decide +kernel
theorem dX7_coughs_25 : decode cX7_coughs 25 = .ok (.iconst 3, 1) := by decide +kernel
theorem dX7_coughs_26 : decode cX7_coughs 26 = .ok (.iaload, 1) := by decide +kernel
theorem dX7_coughs_27 : decode cX7_coughs 27 = .ok (.iadd, 1) := by decide +kernel
theorem dX7_coughs_28 : decode cX7_coughs 28 = .ok (.invokevirtual 67, 3) := by decide +kernel
theorem dX7_coughs_31 : decode cX7_coughs 31 = .ok (.goto 31, 3) := by decide +kernel
theorem dX7_coughs_34 : decode cX7_coughs 34 = .ok (.aload_n 0, 1) := by decide +kernel
theorem dX7_coughs_35 : decode cX7_coughs 35 = .ok (.iload_n 2, 1) := by decide +kernel
theorem dX7_coughs_36 : decode cX7_coughs 36 = .ok (.iconst 3, 1) := by decide +kernel
theorem dX7_coughs_37 : decode cX7_coughs 37 = .ok (.aload_n 0, 1) := by decide +kernel
theorem dX7_coughs_38 : decode cX7_coughs 38 = .ok (.iload_n 2, 1) := by decide +kernel
theorem dX7_coughs_39 : decode cX7_coughs 39 = .ok (.iconst 3, 1) := by decide +kernel
theorem dX7_coughs_40 : decode cX7_coughs 40 = .ok (.invokevirtual 40, 3) := by decide +kernel
theorem dX7_coughs_43 : decode cX7_coughs 43 = .ok (.iconst 1, 1) := by decide +kernel
theorem dX7_coughs_44 : decode cX7_coughs 44 = .ok (.isub, 1) := by decide +kernel
theorem dX7_coughs_45 : decode cX7_coughs 45 = .ok (.invokevirtual 67, 3) := by decide +kernel
theorem dX7_coughs_48 : decode cX7_coughs 48 = .ok (.aload_n 0, 1) := by decide +kernel
theorem dX7_coughs_49 : decode cX7_coughs 49 = .ok (.iload_n 2, 1) := by decide +kernel
theorem dX7_coughs_50 : decode cX7_coughs 50 = .ok (.iconst 5, 1) := by decide +kernel
theorem dX7_coughs_51 : decode cX7_coughs 51 = .ok (.aload_n 0, 1) := by decide +kernel
theorem dX7_coughs_52 : decode cX7_coughs 52 = .ok (.iload_n 2, 1) := by decide +kernel
theorem dX7_coughs_53 : decode cX7_coughs 53 = .ok (.iconst 5, 1) := by decide +kernel
theorem dX7_coughs_54 : decode cX7_coughs 54 = .ok (.invokevirtual 40, 3) := by decide +kernel
theorem dX7_coughs_57 : decode cX7_coughs 57 = .ok (.iconst 1, 1) := by decide +kernel
theorem dX7_coughs_58 : decode cX7_coughs 58 = .ok (.iadd, 1) := by decide +kernel
theorem dX7_coughs_59 : decode cX7_coughs 59 = .ok (.invokevirtual 67, 3) := by decide +kernel
theorem dX7_coughs_62 : decode cX7_coughs 62 = .ok (.aload_n 0, 1) := by decide +kernel
theorem dX7_coughs_63 : decode cX7_coughs 63 = .ok (.iload_n 1, 1) := by decide +kernel
theorem dX7_coughs_64 : decode cX7_coughs 64 = .ok (.iconst 4, 1) := by decide +kernel
theorem dX7_coughs_65 : decode cX7_coughs 65 = .ok (.aload_n 0, 1) := by decide +kernel
theorem dX7_coughs_66 : decode cX7_coughs 66 = .ok (.iload_n 1, 1) := by decide +kernel
theorem dX7_coughs_67 : decode cX7_coughs 67 = .ok (.iconst 4, 1) := by decide +kernel
theorem dX7_coughs_68 : decode cX7_coughs 68 = .ok (.invokevirtual 40, 3) := by decide +kernel
theorem dX7_coughs_71 : decode cX7_coughs 71 = .ok (.iconst 1, 1) := by decide +kernel
theorem dX7_coughs_72 : decode cX7_coughs 72 = .ok (.iadd, 1) := by decide +kernel
theorem dX7_coughs_73 : decode cX7_coughs 73 = .ok (.invokevirtual 67, 3) := by decide +kernel
theorem dX7_coughs_76 : decode cX7_coughs 76 = .ok (.aload_n 0, 1) := by decide +kernel
theorem dX7_coughs_77 : decode cX7_coughs 77 = .ok (.aload_n 0, 1) := by decide +kernel
theorem dX7_coughs_78 : decode cX7_coughs 78 = .ok (.iload_n 1, 1) := by decide +kernel
theorem dX7_coughs_79 : decode cX7_coughs 79 = .ok (.iconst 0, 1) := by decide +kernel
theorem dX7_coughs_80 : decode cX7_coughs 80 = .ok (.invokevirtual 40, 3) := by decide +kernel
theorem dX7_coughs_83 : decode cX7_coughs 83 = .ok (.iconst 2, 1) := by decide +kernel
theorem dX7_coughs_84 : decode cX7_coughs 84 = .ok (.iconst 0, 1) := by decide +kernel
theorem dX7_coughs_85 : decode cX7_coughs 85 = .ok (.iload_n 1, 1) := by decide +kernel
theorem dX7_coughs_86 : decode cX7_coughs 86 = .ok (.invokevirtual 98, 3) := by decide +kernel
theorem dX7_coughs_89 : decode cX7_coughs 89 = .ok (.iload_n 2, 1) := by decide +kernel
theorem dX7_coughs_90 : decode cX7_coughs 90 = .ok (.ireturn, 1) := by decide +kernel
theorem dX7_cough_0 : decode cX7_cough 0 = .ok (.aload_n 0, 1) := by decide +kernel
theorem dX7_cough_1 : decode cX7_cough 1 = .ok (.iconst 0, 1) := by decide +kernel
theorem dX7_cough_2 : decode cX7_cough 2 = .ok (.putfield 29, 3) := by decide +kernel
theorem dX7_cough_5 : decode cX7_cough 5 = .ok (.aload_n 0, 1) := by decide +kernel
theorem dX7_cough_6 : decode cX7_cough 6 = .ok (.iload_n 1, 1) := by decide +kernel
theorem dX7_cough_7 : decode cX7_cough 7 = .ok (.invokevirtual 111, 3) := by decide +kernel
theorem dX7_cough_10 : decode cX7_cough 10 = .ok (.istore_n 2, 1) := by decide +kernel
theorem dX7_cough_11 : decode cX7_cough 11 = .ok (.iload_n 2, 1) := by decide +kernel
theorem dX7_cough_12 : decode cX7_cough 12 = .ok (.ifCond .eq 5, 3) := by decide +kernel
theorem dX7_cough_15 : decode cX7_cough 15 = .ok (.iload_n 2, 1) := by decide +kernel
theorem dX7_cough_16 : decode cX7_cough 16 = .ok (.ireturn, 1) := by decide +kernel
theorem dX7_cough_17 : decode cX7_cough 17 = .ok (.aload_n 0, 1) := by decide +kernel
theorem dX7_cough_18 : decode cX7_cough 18 = .ok (.invokevirtual 60, 3) := by decide +kernel
theorem dX7_cough_21 : decode cX7_cough 21 = .ok (.aload_n 0, 1) := by decide +kernel
theorem dX7_cough_22 : decode cX7_cough 22 = .ok (.iload_n 1, 1) := by decide +kernel
theorem dX7_cough_23 : decode cX7_cough 23 = .ok (.invokevirtual 120, 3) := by decide +kernel
theorem dX7_cough_26 : decode cX7_cough 26 = .ok (.ireturn, 1) := by decide +kernel
theorem dX7_refusesSeconds_0 : decode cX7_refusesSeconds 0 = .ok (.iload_n 1, 1) := by decide +kernel
theorem dX7_refusesSeconds_1 : decode cX7_refusesSeconds 1 = .ok (.iconst 1, 1) := by decide +kernel
theorem dX7_refusesSeconds_2 : decode cX7_refusesSeconds 2 = .ok (.bipush 99, 2) := by decide +kernel
theorem dX7_refusesSeconds_4 : decode cX7_refusesSeconds 4 = .ok (.invokestatic 33, 3) := by decide +kernel
theorem dX7_refusesSeconds_7 : decode cX7_refusesSeconds 7 = .ok (.ifCond .ne 8, 3) := by decide +kernel
theorem dX7_refusesSeconds_10 : decode cX7_refusesSeconds 10 = .ok (.bipush (-2), 2) := by decide +kernel
theorem dX7_refusesSeconds_12 : decode cX7_refusesSeconds 12 = .ok (.goto 23, 3) := by decide +kernel
theorem dX7_refusesSeconds_15 : decode cX7_refusesSeconds 15 = .ok (.aload_n 0, 1) := by decide +kernel
theorem dX7_refusesSeconds_16 : decode cX7_refusesSeconds 16 = .ok (.getfield 7, 3) := by decide +kernel
theorem dX7_refusesSeconds_19 : decode cX7_refusesSeconds 19 = .ok (.iconst 4, 1) := by decide +kernel
theorem dX7_refusesSeconds_20 : decode cX7_refusesSeconds 20 = .ok (.iaload, 1) := by decide +kernel
theorem dX7_refusesSeconds_21 : decode cX7_refusesSeconds 21 = .ok (.iload_n 1, 1) := by decide +kernel
theorem dX7_refusesSeconds_22 : decode cX7_refusesSeconds 22 = .ok (.iadd, 1) := by decide +kernel
theorem dX7_refusesSeconds_23 : decode cX7_refusesSeconds 23 = .ok (.sipush 9999, 3) := by decide +kernel
theorem dX7_refusesSeconds_26 : decode cX7_refusesSeconds 26 = .ok (.if_icmp .le 8, 3) := by decide +kernel
theorem dX7_refusesSeconds_29 : decode cX7_refusesSeconds 29 = .ok (.bipush (-5), 2) := by decide +kernel
theorem dX7_refusesSeconds_31 : decode cX7_refusesSeconds 31 = .ok (.goto 4, 3) := by decide +kernel
theorem dX7_refusesSeconds_34 : decode cX7_refusesSeconds 34 = .ok (.iconst 0, 1) := by decide +kernel
theorem dX7_refusesSeconds_35 : decode cX7_refusesSeconds 35 = .ok (.ireturn, 1) := by decide +kernel
theorem dX7_passes_0 : decode cX7_passes 0 = .ok (.iconst 0, 1) := by decide +kernel
theorem dX7_passes_1 : decode cX7_passes 1 = .ok (.istore_n 2, 1) := by decide +kernel
theorem dX7_passes_2 : decode cX7_passes 2 = .ok (.aload_n 0, 1) := by decide +kernel
theorem dX7_passes_3 : decode cX7_passes 3 = .ok (.getfield 7, 3) := by decide +kernel
theorem dX7_passes_6 : decode cX7_passes 6 = .ok (.iconst 4, 1) := by decide +kernel
theorem dX7_passes_7 : decode cX7_passes 7 = .ok (.dup2, 1) := by decide +kernel
theorem dX7_passes_8 : decode cX7_passes 8 = .ok (.iaload, 1) := by decide +kernel
theorem dX7_passes_9 : decode cX7_passes 9 = .ok (.iload_n 1, 1) := by decide +kernel
theorem dX7_passes_10 : decode cX7_passes 10 = .ok (.iadd, 1) := by decide +kernel
theorem dX7_passes_11 : decode cX7_passes 11 = .ok (.iastore, 1) := by decide +kernel
theorem dX7_passes_12 : decode cX7_passes 12 = .ok (.iconst 0, 1) := by decide +kernel
theorem dX7_passes_13 : decode cX7_passes 13 = .ok (.istore_n 3, 1) := by decide +kernel
theorem dX7_passes_14 : decode cX7_passes 14 = .ok (.iload_n 3, 1) := by decide +kernel
theorem dX7_passes_15 : decode cX7_passes 15 = .ok (.iconst 3, 1) := by decide +kernel
theorem dX7_passes_16 : decode cX7_passes 16 = .ok (.if_icmp .ge 58, 3) := by decide +kernel
theorem dX7_passes_19 : decode cX7_passes 19 = .ok (.aload_n 0, 1) := by decide +kernel
theorem dX7_passes_20 : decode cX7_passes 20 = .ok (.getfield 7, 3) := by decide +kernel
theorem dX7_passes_23 : decode cX7_passes 23 = .ok (.bipush 10, 2) := by decide +kernel
theorem dX7_passes_25 : decode cX7_passes 25 = .ok (.iload_n 3, 1) := by decide +kernel
theorem dX7_passes_26 : decode cX7_passes 26 = .ok (.iadd, 1) := by decide +kernel
theorem dX7_passes_27 : decode cX7_passes 27 = .ok (.dup2, 1) := by decide +kernel
theorem dX7_passes_28 : decode cX7_passes 28 = .ok (.iaload, 1) := by decide +kernel
theorem dX7_passes_29 : decode cX7_passes 29 = .ok (.aload_n 0, 1) := by decide +kernel
theorem dX7_passes_30 : decode cX7_passes 30 = .ok (.iload_n 3, 1) := by decide +kernel
theorem dX7_passes_31 : decode cX7_passes 31 = .ok (.invokevirtual 86, 3) := by decide +kernel
theorem dX7_passes_34 : decode cX7_passes 34 = .ok (.ifCond .eq 7, 3) := by decide +kernel
theorem dX7_passes_37 : decode cX7_passes 37 = .ok (.iload_n 1, 1) := by decide +kernel
theorem dX7_passes_38 : decode cX7_passes 38 = .ok (.goto 4, 3) := by decide +kernel
theorem dX7_passes_41 : decode cX7_passes 41 = .ok (.iconst 0, 1) := by decide +kernel
theorem dX7_passes_42 : decode cX7_passes 42 = .ok (.iadd, 1) := by decide +kernel
theorem dX7_passes_43 : decode cX7_passes 43 = .ok (.iastore, 1) := by decide +kernel
theorem dX7_passes_44 : decode cX7_passes 44 = .ok (.iload_n 2, 1) := by decide +kernel
theorem dX7_passes_45 : decode cX7_passes 45 = .ok (.aload_n 0, 1) := by decide +kernel
theorem dX7_passes_46 : decode cX7_passes 46 = .ok (.iload_n 3, 1) := by decide +kernel
theorem dX7_passes_47 : decode cX7_passes 47 = .ok (.invokevirtual 86, 3) := by decide +kernel
theorem dX7_passes_50 : decode cX7_passes 50 = .ok (.ifCond .eq 15, 3) := by decide +kernel
theorem dX7_passes_53 : decode cX7_passes 53 = .ok (.aload_n 0, 1) := by decide +kernel
theorem dX7_passes_54 : decode cX7_passes 54 = .ok (.iload_n 3, 1) := by decide +kernel
theorem dX7_passes_55 : decode cX7_passes 55 = .ok (.invokevirtual 95, 3) := by decide +kernel
theorem dX7_passes_58 : decode cX7_passes 58 = .ok (.ifCond .le 7, 3) := by decide +kernel
theorem dX7_passes_61 : decode cX7_passes 61 = .ok (.iconst 1, 1) := by decide +kernel
theorem dX7_passes_62 : decode cX7_passes 62 = .ok (.goto 4, 3) := by decide +kernel
theorem dX7_passes_65 : decode cX7_passes 65 = .ok (.iconst 0, 1) := by decide +kernel
theorem dX7_passes_66 : decode cX7_passes 66 = .ok (.iadd, 1) := by decide +kernel
theorem dX7_passes_67 : decode cX7_passes 67 = .ok (.istore_n 2, 1) := by decide +kernel
theorem dX7_passes_68 : decode cX7_passes 68 = .ok (.iinc 3 1, 3) := by decide +kernel
theorem dX7_passes_71 : decode cX7_passes 71 = .ok (.goto (-57), 3) := by decide +kernel
theorem dX7_passes_74 : decode cX7_passes 74 = .ok (.iload_n 2, 1) := by decide +kernel
theorem dX7_passes_75 : decode cX7_passes 75 = .ok (.ireturn, 1) := by decide +kernel
theorem dX7_pass_0 : decode cX7_pass 0 = .ok (.aload_n 0, 1) := by decide +kernel
theorem dX7_pass_1 : decode cX7_pass 1 = .ok (.iconst 0, 1) := by decide +kernel
theorem dX7_pass_2 : decode cX7_pass 2 = .ok (.putfield 29, 3) := by decide +kernel
theorem dX7_pass_5 : decode cX7_pass 5 = .ok (.aload_n 0, 1) := by decide +kernel
theorem dX7_pass_6 : decode cX7_pass 6 = .ok (.iload_n 1, 1) := by decide +kernel
theorem dX7_pass_7 : decode cX7_pass 7 = .ok (.invokevirtual 123, 3) := by decide +kernel
theorem dX7_pass_10 : decode cX7_pass 10 = .ok (.istore_n 2, 1) := by decide +kernel
theorem dX7_pass_11 : decode cX7_pass 11 = .ok (.iload_n 2, 1) := by decide +kernel
theorem dX7_pass_12 : decode cX7_pass 12 = .ok (.ifCond .eq 5, 3) := by decide +kernel
theorem dX7_pass_15 : decode cX7_pass 15 = .ok (.iload_n 2, 1) := by decide +kernel
theorem dX7_pass_16 : decode cX7_pass 16 = .ok (.ireturn, 1) := by decide +kernel
theorem dX7_pass_17 : decode cX7_pass 17 = .ok (.aload_n 0, 1) := by decide +kernel
theorem dX7_pass_18 : decode cX7_pass 18 = .ok (.invokevirtual 60, 3) := by decide +kernel
theorem dX7_pass_21 : decode cX7_pass 21 = .ok (.aload_n 0, 1) := by decide +kernel
theorem dX7_pass_22 : decode cX7_pass 22 = .ok (.iload_n 1, 1) := by decide +kernel
theorem dX7_pass_23 : decode cX7_pass 23 = .ok (.invokevirtual 126, 3) := by decide +kernel
theorem dX7_pass_26 : decode cX7_pass 26 = .ok (.ireturn, 1) := by decide +kernel
theorem dX7_tellsGuest_0 : decode cX7_tellsGuest 0 = .ok (.iload_n 2, 1) := by decide +kernel
theorem dX7_tellsGuest_1 : decode cX7_tellsGuest 1 = .ok (.iconst 4, 1) := by decide +kernel
theorem dX7_tellsGuest_2 : decode cX7_tellsGuest 2 = .ok (.if_icmp .ge 10, 3) := by decide +kernel
theorem dX7_tellsGuest_5 : decode cX7_tellsGuest 5 = .ok (.aload_n 0, 1) := by decide +kernel
theorem dX7_tellsGuest_6 : decode cX7_tellsGuest 6 = .ok (.iload_n 1, 1) := by decide +kernel
theorem dX7_tellsGuest_7 : decode cX7_tellsGuest 7 = .ok (.iload_n 2, 1) := by decide +kernel
theorem dX7_tellsGuest_8 : decode cX7_tellsGuest 8 = .ok (.invokevirtual 40, 3) := by decide +kernel
theorem dX7_tellsGuest_11 : decode cX7_tellsGuest 11 = .ok (.ireturn, 1) := by decide +kernel
theorem dX7_tellsGuest_12 : decode cX7_tellsGuest 12 = .ok (.aload_n 0, 1) := by decide +kernel
theorem dX7_tellsGuest_13 : decode cX7_tellsGuest 13 = .ok (.iload_n 1, 1) := by decide +kernel
theorem dX7_tellsGuest_14 : decode cX7_tellsGuest 14 = .ok (.iconst 0, 1) := by decide +kernel
theorem dX7_tellsGuest_15 : decode cX7_tellsGuest 15 = .ok (.invokevirtual 40, 3) := by decide +kernel
theorem dX7_tellsGuest_18 : decode cX7_tellsGuest 18 = .ok (.istore_n 3, 1) := by decide +kernel
theorem dX7_tellsGuest_19 : decode cX7_tellsGuest 19 = .ok (.iload_n 2, 1) := by decide +kernel
theorem dX7_tellsGuest_20 : decode cX7_tellsGuest 20 = .ok (.iconst 4, 1) := by decide +kernel
theorem dX7_tellsGuest_21 : decode cX7_tellsGuest 21 = .ok (.if_icmp .ne 26, 3) := by decide +kernel
theorem dX7_tellsGuest_24 : decode cX7_tellsGuest 24 = .ok (.iload_n 3, 1) := by decide +kernel
theorem dX7_tellsGuest_25 : decode cX7_tellsGuest 25 = .ok (.bipush (-6), 2) := by decide +kernel
theorem dX7_tellsGuest_27 : decode cX7_tellsGuest 27 = .ok (.if_icmp .eq 16, 3) := by decide +kernel
theorem dX7_tellsGuest_30 : decode cX7_tellsGuest 30 = .ok (.aload_n 0, 1) := by decide +kernel
theorem dX7_tellsGuest_31 : decode cX7_tellsGuest 31 = .ok (.iload_n 3, 1) := by decide +kernel
theorem dX7_tellsGuest_32 : decode cX7_tellsGuest 32 = .ok (.invokevirtual 108, 3) := by decide +kernel
theorem dX7_tellsGuest_35 : decode cX7_tellsGuest 35 = .ok (.iload_n 1, 1) := by decide +kernel
theorem dX7_tellsGuest_36 : decode cX7_tellsGuest 36 = .ok (.if_icmp .ne 7, 3) := by decide +kernel
theorem dX7_tellsGuest_39 : decode cX7_tellsGuest 39 = .ok (.iconst 1, 1) := by decide +kernel
theorem dX7_tellsGuest_40 : decode cX7_tellsGuest 40 = .ok (.goto 15, 3) := by decide +kernel
theorem dX7_tellsGuest_43 : decode cX7_tellsGuest 43 = .ok (.iconst 0, 1) := by decide +kernel
theorem dX7_tellsGuest_44 : decode cX7_tellsGuest 44 = .ok (.goto 11, 3) := by decide +kernel
theorem dX7_tellsGuest_47 : decode cX7_tellsGuest 47 = .ok (.aload_n 0, 1) := by decide +kernel
theorem dX7_tellsGuest_48 : decode cX7_tellsGuest 48 = .ok (.iload_n 1, 1) := by decide +kernel
theorem dX7_tellsGuest_49 : decode cX7_tellsGuest 49 = .ok (.iload_n 2, 1) := by decide +kernel
theorem dX7_tellsGuest_50 : decode cX7_tellsGuest 50 = .ok (.iconst 1, 1) := by decide +kernel
theorem dX7_tellsGuest_51 : decode cX7_tellsGuest 51 = .ok (.isub, 1) := by decide +kernel
theorem dX7_tellsGuest_52 : decode cX7_tellsGuest 52 = .ok (.invokevirtual 40, 3) := by decide +kernel
theorem dX7_tellsGuest_55 : decode cX7_tellsGuest 55 = .ok (.ireturn, 1) := by decide +kernel
theorem dX7_of_0 : decode cX7_of 0 = .ok (.aload_n 0, 1) := by decide +kernel
theorem dX7_of_1 : decode cX7_of 1 = .ok (.iconst 0, 1) := by decide +kernel
theorem dX7_of_2 : decode cX7_of 2 = .ok (.putfield 29, 3) := by decide +kernel
theorem dX7_of_5 : decode cX7_of 5 = .ok (.aload_n 0, 1) := by decide +kernel
theorem dX7_of_6 : decode cX7_of 6 = .ok (.iload_n 1, 1) := by decide +kernel
theorem dX7_of_7 : decode cX7_of 7 = .ok (.invokevirtual 77, 3) := by decide +kernel
theorem dX7_of_10 : decode cX7_of 10 = .ok (.ifCond .ne 7, 3) := by decide +kernel
theorem dX7_of_13 : decode cX7_of 13 = .ok (.iconst (-1), 1) := by decide +kernel
theorem dX7_of_14 : decode cX7_of 14 = .ok (.goto 24, 3) := by decide +kernel
theorem dX7_of_17 : decode cX7_of 17 = .ok (.iload_n 2, 1) := by decide +kernel
theorem dX7_of_18 : decode cX7_of 18 = .ok (.iconst 0, 1) := by decide +kernel
theorem dX7_of_19 : decode cX7_of 19 = .ok (.bipush 6, 2) := by decide +kernel
theorem dX7_of_21 : decode cX7_of 21 = .ok (.invokestatic 33, 3) := by decide +kernel
theorem dX7_of_24 : decode cX7_of 24 = .ok (.ifCond .eq 12, 3) := by decide +kernel
theorem dX7_of_27 : decode cX7_of 27 = .ok (.aload_n 0, 1) := by decide +kernel
theorem dX7_of_28 : decode cX7_of 28 = .ok (.iload_n 1, 1) := by decide +kernel
theorem dX7_of_29 : decode cX7_of 29 = .ok (.iload_n 2, 1) := by decide +kernel
theorem dX7_of_30 : decode cX7_of 30 = .ok (.invokevirtual 129, 3) := by decide +kernel
theorem dX7_of_33 : decode cX7_of 33 = .ok (.goto 5, 3) := by decide +kernel
theorem dX7_of_36 : decode cX7_of 36 = .ok (.bipush (-2), 2) := by decide +kernel
theorem dX7_of_38 : decode cX7_of 38 = .ok (.ireturn, 1) := by decide +kernel
theorem dX7_table_0 : decode cX7_table 0 = .ok (.aload_n 0, 1) := by decide +kernel
theorem dX7_table_1 : decode cX7_table 1 = .ok (.iconst 0, 1) := by decide +kernel
theorem dX7_table_2 : decode cX7_table 2 = .ok (.putfield 29, 3) := by decide +kernel
theorem dX7_table_5 : decode cX7_table 5 = .ok (.iload_n 1, 1) := by decide +kernel
theorem dX7_table_6 : decode cX7_table 6 = .ok (.invokestatic 63, 3) := by decide +kernel
theorem dX7_table_9 : decode cX7_table 9 = .ok (.ifCond .ne 5, 3) := by decide +kernel
theorem dX7_table_12 : decode cX7_table 12 = .ok (.iconst (-1), 1) := by decide +kernel
theorem dX7_table_13 : decode cX7_table 13 = .ok (.ireturn, 1) := by decide +kernel
theorem dX7_table_14 : decode cX7_table 14 = .ok (.iload_n 2, 1) := by decide +kernel
theorem dX7_table_15 : decode cX7_table 15 = .ok (.tableswitch 98 0 5 #[37, 43, 49, 59, 69, 88], 37) := by decide +kernel
theorem dX7_table_52 : decode cX7_table 52 = .ok (.aload_n 0, 1) := by decide +kernel
theorem dX7_table_53 : decode cX7_table 53 = .ok (.iload_n 1, 1) := by decide +kernel
theorem dX7_table_54 : decode cX7_table 54 = .ok (.invokevirtual 48, 3) := by decide +kernel
theorem dX7_table_57 : decode cX7_table 57 = .ok (.ireturn, 1) := by decide +kernel
theorem dX7_table_58 : decode cX7_table 58 = .ok (.aload_n 0, 1) := by decide +kernel
theorem dX7_table_59 : decode cX7_table 59 = .ok (.iload_n 1, 1) := by decide +kernel
theorem dX7_table_60 : decode cX7_table 60 = .ok (.invokevirtual 108, 3) := by decide +kernel
theorem dX7_table_63 : decode cX7_table 63 = .ok (.ireturn, 1) := by decide +kernel
theorem dX7_table_64 : decode cX7_table 64 = .ok (.aload_n 0, 1) := by decide +kernel
theorem dX7_table_65 : decode cX7_table 65 = .ok (.aload_n 0, 1) := by decide +kernel
theorem dX7_table_66 : decode cX7_table 66 = .ok (.iload_n 1, 1) := by decide +kernel
theorem dX7_table_67 : decode cX7_table 67 = .ok (.invokevirtual 48, 3) := by decide +kernel
theorem dX7_table_70 : decode cX7_table 70 = .ok (.invokevirtual 51, 3) := by decide +kernel
theorem dX7_table_73 : decode cX7_table 73 = .ok (.ireturn, 1) := by decide +kernel
theorem dX7_table_74 : decode cX7_table 74 = .ok (.aload_n 0, 1) := by decide +kernel
theorem dX7_table_75 : decode cX7_table 75 = .ok (.getfield 7, 3) := by decide +kernel
theorem dX7_table_78 : decode cX7_table 78 = .ok (.bipush 10, 2) := by decide +kernel
theorem dX7_table_80 : decode cX7_table 80 = .ok (.iload_n 1, 1) := by decide +kernel
theorem dX7_table_81 : decode cX7_table 81 = .ok (.iadd, 1) := by decide +kernel
theorem dX7_table_82 : decode cX7_table 82 = .ok (.iaload, 1) := by decide +kernel
theorem dX7_table_83 : decode cX7_table 83 = .ok (.ireturn, 1) := by decide +kernel
theorem dX7_table_84 : decode cX7_table 84 = .ok (.aload_n 0, 1) := by decide +kernel
theorem dX7_table_85 : decode cX7_table 85 = .ok (.iload_n 1, 1) := by decide +kernel
theorem dX7_table_86 : decode cX7_table 86 = .ok (.invokevirtual 86, 3) := by decide +kernel
theorem dX7_table_89 : decode cX7_table 89 = .ok (.ifCond .eq 11, 3) := by decide +kernel
theorem dX7_table_92 : decode cX7_table 92 = .ok (.aload_n 0, 1) := by decide +kernel
theorem dX7_table_93 : decode cX7_table 93 = .ok (.iload_n 1, 1) := by decide +kernel
theorem dX7_table_94 : decode cX7_table 94 = .ok (.invokevirtual 95, 3) := by decide +kernel
theorem dX7_table_97 : decode cX7_table 97 = .ok (.goto 5, 3) := by decide +kernel
theorem dX7_table_100 : decode cX7_table 100 = .ok (.bipush (-6), 2) := by decide +kernel
theorem dX7_table_102 : decode cX7_table 102 = .ok (.ireturn, 1) := by decide +kernel
theorem dX7_table_103 : decode cX7_table 103 = .ok (.aload_n 0, 1) := by decide +kernel
theorem dX7_table_104 : decode cX7_table 104 = .ok (.getfield 7, 3) := by decide +kernel
theorem dX7_table_107 : decode cX7_table 107 = .ok (.bipush 13, 2) := by decide +kernel
theorem dX7_table_109 : decode cX7_table 109 = .ok (.iload_n 1, 1) := by decide +kernel
theorem dX7_table_110 : decode cX7_table 110 = .ok (.iadd, 1) := by decide +kernel
theorem dX7_table_111 : decode cX7_table 111 = .ok (.iaload, 1) := by decide +kernel
theorem dX7_table_112 : decode cX7_table 112 = .ok (.ireturn, 1) := by decide +kernel
theorem dX7_table_113 : decode cX7_table 113 = .ok (.bipush (-2), 2) := by decide +kernel
theorem dX7_table_115 : decode cX7_table 115 = .ok (.ireturn, 1) := by decide +kernel
theorem dX7_meaning_0 : decode cX7_meaning 0 = .ok (.aload_n 0, 1) := by decide +kernel
theorem dX7_meaning_1 : decode cX7_meaning 1 = .ok (.iconst 0, 1) := by decide +kernel
theorem dX7_meaning_2 : decode cX7_meaning 2 = .ok (.putfield 29, 3) := by decide +kernel
theorem dX7_meaning_5 : decode cX7_meaning 5 = .ok (.iload_n 1, 1) := by decide +kernel
theorem dX7_meaning_6 : decode cX7_meaning 6 = .ok (.iconst 1, 1) := by decide +kernel
theorem dX7_meaning_7 : decode cX7_meaning 7 = .ok (.bipush 11, 2) := by decide +kernel
theorem dX7_meaning_9 : decode cX7_meaning 9 = .ok (.invokestatic 33, 3) := by decide +kernel
theorem dX7_meaning_12 : decode cX7_meaning 12 = .ok (.ifCond .ne 5, 3) := by decide +kernel
theorem dX7_meaning_15 : decode cX7_meaning 15 = .ok (.iconst (-1), 1) := by decide +kernel
theorem dX7_meaning_16 : decode cX7_meaning 16 = .ok (.ireturn, 1) := by decide +kernel
theorem dX7_meaning_17 : decode cX7_meaning 17 = .ok (.iload_n 2, 1) := by decide +kernel
theorem dX7_meaning_18 : decode cX7_meaning 18 = .ok (.iconst 0, 1) := by decide +kernel
theorem dX7_meaning_19 : decode cX7_meaning 19 = .ok (.iconst 1, 1) := by decide +kernel
theorem dX7_meaning_20 : decode cX7_meaning 20 = .ok (.invokestatic 33, 3) := by decide +kernel
theorem dX7_meaning_23 : decode cX7_meaning 23 = .ok (.ifCond .eq 21, 3) := by decide +kernel
theorem dX7_meaning_26 : decode cX7_meaning 26 = .ok (.aload_n 0, 1) := by decide +kernel
theorem dX7_meaning_27 : decode cX7_meaning 27 = .ok (.getfield 7, 3) := by decide +kernel
theorem dX7_meaning_30 : decode cX7_meaning 30 = .ok (.bipush 16, 2) := by decide +kernel
theorem dX7_meaning_32 : decode cX7_meaning 32 = .ok (.iconst 2, 1) := by decide +kernel
theorem dX7_meaning_33 : decode cX7_meaning 33 = .ok (.iload_n 1, 1) := by decide +kernel
theorem dX7_meaning_34 : decode cX7_meaning 34 = .ok (.iconst 1, 1) := by decide +kernel
theorem dX7_meaning_35 : decode cX7_meaning 35 = .ok (.isub, 1) := by decide +kernel
theorem dX7_meaning_36 : decode cX7_meaning 36 = .ok (.imul, 1) := by decide +kernel
theorem dX7_meaning_37 : decode cX7_meaning 37 = .ok (.iadd, 1) := by decide +kernel
theorem dX7_meaning_38 : decode cX7_meaning 38 = .ok (.iload_n 2, 1) := by decide +kernel
theorem dX7_meaning_39 : decode cX7_meaning 39 = .ok (.iadd, 1) := by decide +kernel
theorem dX7_meaning_40 : decode cX7_meaning 40 = .ok (.iaload, 1) := by decide +kernel
theorem dX7_meaning_41 : decode cX7_meaning 41 = .ok (.goto 5, 3) := by decide +kernel
theorem dX7_meaning_44 : decode cX7_meaning 44 = .ok (.bipush (-2), 2) := by decide +kernel
theorem dX7_meaning_46 : decode cX7_meaning 46 = .ok (.ireturn, 1) := by decide +kernel
theorem dX7_end_0 : decode cX7_end 0 = .ok (.aload_n 0, 1) := by decide +kernel
theorem dX7_end_1 : decode cX7_end 1 = .ok (.iconst 0, 1) := by decide +kernel
theorem dX7_end_2 : decode cX7_end 2 = .ok (.putfield 29, 3) := by decide +kernel
theorem dX7_end_5 : decode cX7_end 5 = .ok (.iload_n 1, 1) := by decide +kernel
theorem dX7_end_6 : decode cX7_end 6 = .ok (.iconst 0, 1) := by decide +kernel
theorem dX7_end_7 : decode cX7_end 7 = .ok (.aload_n 0, 1) := by decide +kernel
theorem dX7_end_8 : decode cX7_end 8 = .ok (.getfield 7, 3) := by decide +kernel
theorem dX7_end_11 : decode cX7_end 11 = .ok (.bipush 9, 2) := by decide +kernel
theorem dX7_end_13 : decode cX7_end 13 = .ok (.iaload, 1) := by decide +kernel
theorem dX7_end_14 : decode cX7_end 14 = .ok (.iconst 1, 1) := by decide +kernel
theorem dX7_end_15 : decode cX7_end 15 = .ok (.isub, 1) := by decide +kernel
theorem dX7_end_16 : decode cX7_end 16 = .ok (.invokestatic 33, 3) := by decide +kernel
theorem dX7_end_19 : decode cX7_end 19 = .ok (.ifCond .ne 5, 3) := by decide +kernel
theorem dX7_end_22 : decode cX7_end 22 = .ok (.iconst (-1), 1) := by decide +kernel
theorem dX7_end_23 : decode cX7_end 23 = .ok (.ireturn, 1) := by decide +kernel
theorem dX7_end_24 : decode cX7_end 24 = .ok (.iload_n 2, 1) := by decide +kernel
theorem dX7_end_25 : decode cX7_end 25 = .ok (.iconst 0, 1) := by decide +kernel
theorem dX7_end_26 : decode cX7_end 26 = .ok (.iconst 4, 1) := by decide +kernel
theorem dX7_end_27 : decode cX7_end 27 = .ok (.invokestatic 33, 3) := by decide +kernel
theorem dX7_end_30 : decode cX7_end 30 = .ok (.ifCond .eq 29, 3) := by decide +kernel
theorem dX7_end_33 : decode cX7_end 33 = .ok (.aload_n 0, 1) := by decide +kernel
theorem dX7_end_34 : decode cX7_end 34 = .ok (.getfield 7, 3) := by decide +kernel
theorem dX7_end_37 : decode cX7_end 37 = .ok (.bipush 38, 2) := by decide +kernel
theorem dX7_end_39 : decode cX7_end 39 = .ok (.iconst 5, 1) := by decide +kernel
theorem dX7_end_40 : decode cX7_end 40 = .ok (.aload_n 0, 1) := by decide +kernel
theorem dX7_end_41 : decode cX7_end 41 = .ok (.getfield 7, 3) := by decide +kernel
theorem dX7_end_44 : decode cX7_end 44 = .ok (.bipush 9, 2) := by decide +kernel
theorem dX7_end_46 : decode cX7_end 46 = .ok (.iaload, 1) := by decide +kernel
theorem dX7_end_47 : decode cX7_end 47 = .ok (.iconst 1, 1) := by decide +kernel
theorem dX7_end_48 : decode cX7_end 48 = .ok (.isub, 1) := by decide +kernel
theorem dX7_end_49 : decode cX7_end 49 = .ok (.iload_n 1, 1) := by decide +kernel
theorem dX7_end_50 : decode cX7_end 50 = .ok (.isub, 1) := by decide +kernel
theorem dX7_end_51 : decode cX7_end 51 = .ok (.imul, 1) := by decide +kernel
theorem dX7_end_52 : decode cX7_end 52 = .ok (.iadd, 1) := by decide +kernel
theorem dX7_end_53 : decode cX7_end 53 = .ok (.iload_n 2, 1) := by decide +kernel
theorem dX7_end_54 : decode cX7_end 54 = .ok (.iadd, 1) := by decide +kernel
theorem dX7_end_55 : decode cX7_end 55 = .ok (.iaload, 1) := by decide +kernel
theorem dX7_end_56 : decode cX7_end 56 = .ok (.goto 5, 3) := by decide +kernel
theorem dX7_end_59 : decode cX7_end 59 = .ok (.bipush (-2), 2) := by decide +kernel
theorem dX7_end_61 : decode cX7_end 61 = .ok (.ireturn, 1) := by decide +kernel
theorem dX7_there_0 : decode cX7_there 0 = .ok (.aload_n 0, 1) := by decide +kernel
theorem dX7_there_1 : decode cX7_there 1 = .ok (.iconst 0, 1) := by decide +kernel
theorem dX7_there_2 : decode cX7_there 2 = .ok (.invokevirtual 48, 3) := by decide +kernel
theorem dX7_there_5 : decode cX7_there 5 = .ok (.aload_n 0, 1) := by decide +kernel
theorem dX7_there_6 : decode cX7_there 6 = .ok (.iconst 1, 1) := by decide +kernel
theorem dX7_there_7 : decode cX7_there 7 = .ok (.invokevirtual 48, 3) := by decide +kernel
theorem dX7_there_10 : decode cX7_there 10 = .ok (.ior, 1) := by decide +kernel
theorem dX7_there_11 : decode cX7_there 11 = .ok (.aload_n 0, 1) := by decide +kernel
theorem dX7_there_12 : decode cX7_there 12 = .ok (.iconst 2, 1) := by decide +kernel
theorem dX7_there_13 : decode cX7_there 13 = .ok (.invokevirtual 48, 3) := by decide +kernel
theorem dX7_there_16 : decode cX7_there 16 = .ok (.ior, 1) := by decide +kernel
theorem dX7_there_17 : decode cX7_there 17 = .ok (.ireturn, 1) := by decide +kernel
theorem dX7_pauses_0 : decode cX7_pauses 0 = .ok (.iconst 0, 1) := by decide +kernel
theorem dX7_pauses_1 : decode cX7_pauses 1 = .ok (.istore_n 1, 1) := by decide +kernel
theorem dX7_pauses_2 : decode cX7_pauses 2 = .ok (.iconst 0, 1) := by decide +kernel
theorem dX7_pauses_3 : decode cX7_pauses 3 = .ok (.istore_n 2, 1) := by decide +kernel
theorem dX7_pauses_4 : decode cX7_pauses 4 = .ok (.iload_n 2, 1) := by decide +kernel
theorem dX7_pauses_5 : decode cX7_pauses 5 = .ok (.iconst 3, 1) := by decide +kernel
theorem dX7_pauses_6 : decode cX7_pauses 6 = .ok (.if_icmp .ge 25, 3) := by decide +kernel
theorem dX7_pauses_9 : decode cX7_pauses 9 = .ok (.iload_n 1, 1) := by decide +kernel
theorem dX7_pauses_10 : decode cX7_pauses 10 = .ok (.aload_n 0, 1) := by decide +kernel
theorem dX7_pauses_11 : decode cX7_pauses 11 = .ok (.iload_n 2, 1) := by decide +kernel
theorem dX7_pauses_12 : decode cX7_pauses 12 = .ok (.invokevirtual 86, 3) := by decide +kernel
theorem dX7_pauses_15 : decode cX7_pauses 15 = .ok (.ifCond .eq 7, 3) := by decide +kernel
theorem dX7_pauses_18 : decode cX7_pauses 18 = .ok (.iconst 1, 1) := by decide +kernel
theorem dX7_pauses_19 : decode cX7_pauses 19 = .ok (.goto 4, 3) := by decide +kernel
theorem dX7_pauses_22 : decode cX7_pauses 22 = .ok (.iconst 0, 1) := by decide +kernel
theorem dX7_pauses_23 : decode cX7_pauses 23 = .ok (.iadd, 1) := by decide +kernel
theorem dX7_pauses_24 : decode cX7_pauses 24 = .ok (.istore_n 1, 1) := by decide +kernel
theorem dX7_pauses_25 : decode cX7_pauses 25 = .ok (.iinc 2 1, 3) := by decide +kernel
theorem dX7_pauses_28 : decode cX7_pauses 28 = .ok (.goto (-24), 3) := by decide +kernel
theorem dX7_pauses_31 : decode cX7_pauses 31 = .ok (.iload_n 1, 1) := by decide +kernel
theorem dX7_pauses_32 : decode cX7_pauses 32 = .ok (.ireturn, 1) := by decide +kernel
theorem dX7_sumOf_0 : decode cX7_sumOf 0 = .ok (.iconst 0, 1) := by decide +kernel
theorem dX7_sumOf_1 : decode cX7_sumOf 1 = .ok (.istore_n 3, 1) := by decide +kernel
theorem dX7_sumOf_2 : decode cX7_sumOf 2 = .ok (.iconst 0, 1) := by decide +kernel
theorem dX7_sumOf_3 : decode cX7_sumOf 3 = .ok (.istore 4, 2) := by decide +kernel
theorem dX7_sumOf_5 : decode cX7_sumOf 5 = .ok (.iload 4, 2) := by decide +kernel
theorem dX7_sumOf_7 : decode cX7_sumOf 7 = .ok (.aload_n 0, 1) := by decide +kernel
theorem dX7_sumOf_8 : decode cX7_sumOf 8 = .ok (.getfield 7, 3) := by decide +kernel
theorem dX7_sumOf_11 : decode cX7_sumOf 11 = .ok (.iconst 5, 1) := by decide +kernel
theorem dX7_sumOf_12 : decode cX7_sumOf 12 = .ok (.iaload, 1) := by decide +kernel
theorem dX7_sumOf_13 : decode cX7_sumOf 13 = .ok (.if_icmp .ge 39, 3) := by decide +kernel
theorem dX7_sumOf_16 : decode cX7_sumOf 16 = .ok (.iload_n 3, 1) := by decide +kernel
theorem dX7_sumOf_17 : decode cX7_sumOf 17 = .ok (.iload_n 2, 1) := by decide +kernel
theorem dX7_sumOf_18 : decode cX7_sumOf 18 = .ok (.ifCond .ne 15, 3) := by decide +kernel
theorem dX7_sumOf_21 : decode cX7_sumOf 21 = .ok (.aload_n 0, 1) := by decide +kernel
theorem dX7_sumOf_22 : decode cX7_sumOf 22 = .ok (.iload 4, 2) := by decide +kernel
theorem dX7_sumOf_24 : decode cX7_sumOf 24 = .ok (.iconst 0, 1) := by decide +kernel
theorem dX7_sumOf_25 : decode cX7_sumOf 25 = .ok (.invokevirtual 40, 3) := by decide +kernel
theorem dX7_sumOf_28 : decode cX7_sumOf 28 = .ok (.bipush (-6), 2) := by decide +kernel
theorem dX7_sumOf_30 : decode cX7_sumOf 30 = .ok (.if_icmp .eq 13, 3) := by decide +kernel
theorem dX7_sumOf_33 : decode cX7_sumOf 33 = .ok (.aload_n 0, 1) := by decide +kernel
theorem dX7_sumOf_34 : decode cX7_sumOf 34 = .ok (.iload 4, 2) := by decide +kernel
theorem dX7_sumOf_36 : decode cX7_sumOf 36 = .ok (.iload_n 1, 1) := by decide +kernel
theorem dX7_sumOf_37 : decode cX7_sumOf 37 = .ok (.invokevirtual 40, 3) := by decide +kernel
theorem dX7_sumOf_40 : decode cX7_sumOf 40 = .ok (.goto 4, 3) := by decide +kernel
theorem dX7_sumOf_43 : decode cX7_sumOf 43 = .ok (.iconst 0, 1) := by decide +kernel
theorem dX7_sumOf_44 : decode cX7_sumOf 44 = .ok (.iadd, 1) := by decide +kernel
theorem dX7_sumOf_45 : decode cX7_sumOf 45 = .ok (.istore_n 3, 1) := by decide +kernel
theorem dX7_sumOf_46 : decode cX7_sumOf 46 = .ok (.iinc 4 1, 3) := by decide +kernel
theorem dX7_sumOf_49 : decode cX7_sumOf 49 = .ok (.goto (-44), 3) := by decide +kernel
theorem dX7_sumOf_52 : decode cX7_sumOf 52 = .ok (.iload_n 3, 1) := by decide +kernel
theorem dX7_sumOf_53 : decode cX7_sumOf 53 = .ok (.ireturn, 1) := by decide +kernel
theorem dX7_meantSet_0 : decode cX7_meantSet 0 = .ok (.iconst 0, 1) := by decide +kernel
theorem dX7_meantSet_1 : decode cX7_meantSet 1 = .ok (.istore_n 1, 1) := by decide +kernel
theorem dX7_meantSet_2 : decode cX7_meantSet 2 = .ok (.iconst 1, 1) := by decide +kernel
theorem dX7_meantSet_3 : decode cX7_meantSet 3 = .ok (.istore_n 2, 1) := by decide +kernel
theorem dX7_meantSet_4 : decode cX7_meantSet 4 = .ok (.iload_n 2, 1) := by decide +kernel
theorem dX7_meantSet_5 : decode cX7_meantSet 5 = .ok (.bipush 11, 2) := by decide +kernel
theorem dX7_meantSet_7 : decode cX7_meantSet 7 = .ok (.if_icmp .gt 35, 3) := by decide +kernel
theorem dX7_meantSet_10 : decode cX7_meantSet 10 = .ok (.iload_n 1, 1) := by decide +kernel
theorem dX7_meantSet_11 : decode cX7_meantSet 11 = .ok (.aload_n 0, 1) := by decide +kernel
theorem dX7_meantSet_12 : decode cX7_meantSet 12 = .ok (.getfield 7, 3) := by decide +kernel
theorem dX7_meantSet_15 : decode cX7_meantSet 15 = .ok (.bipush 16, 2) := by decide +kernel
theorem dX7_meantSet_17 : decode cX7_meantSet 17 = .ok (.iconst 2, 1) := by decide +kernel
theorem dX7_meantSet_18 : decode cX7_meantSet 18 = .ok (.iload_n 2, 1) := by decide +kernel
theorem dX7_meantSet_19 : decode cX7_meantSet 19 = .ok (.iconst 1, 1) := by decide +kernel
theorem dX7_meantSet_20 : decode cX7_meantSet 20 = .ok (.isub, 1) := by decide +kernel
theorem dX7_meantSet_21 : decode cX7_meantSet 21 = .ok (.imul, 1) := by decide +kernel
theorem dX7_meantSet_22 : decode cX7_meantSet 22 = .ok (.iadd, 1) := by decide +kernel
theorem dX7_meantSet_23 : decode cX7_meantSet 23 = .ok (.iaload, 1) := by decide +kernel
theorem dX7_meantSet_24 : decode cX7_meantSet 24 = .ok (.ifCond .le 9, 3) := by decide +kernel
theorem dX7_meantSet_27 : decode cX7_meantSet 27 = .ok (.iconst 1, 1) := by decide +kernel
theorem dX7_meantSet_28 : decode cX7_meantSet 28 = .ok (.iload_n 2, 1) := by decide +kernel
theorem dX7_meantSet_29 : decode cX7_meantSet 29 = .ok (.ishl, 1) := by decide +kernel
theorem dX7_meantSet_30 : decode cX7_meantSet 30 = .ok (.goto 4, 3) := by decide +kernel
theorem dX7_meantSet_33 : decode cX7_meantSet 33 = .ok (.iconst 0, 1) := by decide +kernel
theorem dX7_meantSet_34 : decode cX7_meantSet 34 = .ok (.ior, 1) := by decide +kernel
theorem dX7_meantSet_35 : decode cX7_meantSet 35 = .ok (.istore_n 1, 1) := by decide +kernel
theorem dX7_meantSet_36 : decode cX7_meantSet 36 = .ok (.iinc 2 1, 3) := by decide +kernel
theorem dX7_meantSet_39 : decode cX7_meantSet 39 = .ok (.goto (-35), 3) := by decide +kernel
theorem dX7_meantSet_42 : decode cX7_meantSet 42 = .ok (.iload_n 1, 1) := by decide +kernel
theorem dX7_meantSet_43 : decode cX7_meantSet 43 = .ok (.ireturn, 1) := by decide +kernel
theorem dX7_count_0 : decode cX7_count 0 = .ok (.aload_n 0, 1) := by decide +kernel
theorem dX7_count_1 : decode cX7_count 1 = .ok (.iconst 0, 1) := by decide +kernel
theorem dX7_count_2 : decode cX7_count 2 = .ok (.putfield 29, 3) := by decide +kernel
theorem dX7_count_5 : decode cX7_count 5 = .ok (.iload_n 1, 1) := by decide +kernel
theorem dX7_count_6 : decode cX7_count 6 = .ok (.tableswitch 142 0 14 #[74, 81, 86, 91, 91, 91, 103, 110, 115, 122, 122, 122, 122, 132, 137], 74) := by decide +kernel
theorem dX7_count_80 : decode cX7_count 80 = .ok (.aload_n 0, 1) := by decide +kernel
theorem dX7_count_81 : decode cX7_count 81 = .ok (.getfield 7, 3) := by decide +kernel
theorem dX7_count_84 : decode cX7_count 84 = .ok (.iconst 4, 1) := by decide +kernel
theorem dX7_count_85 : decode cX7_count 85 = .ok (.iaload, 1) := by decide +kernel
theorem dX7_count_86 : decode cX7_count 86 = .ok (.ireturn, 1) := by decide +kernel
theorem dX7_count_87 : decode cX7_count 87 = .ok (.aload_n 0, 1) := by decide +kernel
theorem dX7_count_88 : decode cX7_count 88 = .ok (.invokevirtual 132, 3) := by decide +kernel
theorem dX7_count_91 : decode cX7_count 91 = .ok (.ireturn, 1) := by decide +kernel
theorem dX7_count_92 : decode cX7_count 92 = .ok (.aload_n 0, 1) := by decide +kernel
theorem dX7_count_93 : decode cX7_count 93 = .ok (.invokevirtual 136, 3) := by decide +kernel
theorem dX7_count_96 : decode cX7_count 96 = .ok (.ireturn, 1) := by decide +kernel
theorem dX7_count_97 : decode cX7_count 97 = .ok (.aload_n 0, 1) := by decide +kernel
theorem dX7_count_98 : decode cX7_count 98 = .ok (.getfield 7, 3) := by decide +kernel
theorem dX7_count_101 : decode cX7_count 101 = .ok (.bipush 6, 2) := by decide +kernel
theorem dX7_count_103 : decode cX7_count 103 = .ok (.iload_n 1, 1) := by decide +kernel
theorem dX7_count_104 : decode cX7_count 104 = .ok (.iadd, 1) := by decide +kernel
theorem dX7_count_105 : decode cX7_count 105 = .ok (.iconst 3, 1) := by decide +kernel
theorem dX7_count_106 : decode cX7_count 106 = .ok (.isub, 1) := by decide +kernel
theorem dX7_count_107 : decode cX7_count 107 = .ok (.iaload, 1) := by decide +kernel
theorem dX7_count_108 : decode cX7_count 108 = .ok (.ireturn, 1) := by decide +kernel
theorem dX7_count_109 : decode cX7_count 109 = .ok (.aload_n 0, 1) := by decide +kernel
theorem dX7_count_110 : decode cX7_count 110 = .ok (.iconst 2, 1) := by decide +kernel
theorem dX7_count_111 : decode cX7_count 111 = .ok (.iconst 1, 1) := by decide +kernel
theorem dX7_count_112 : decode cX7_count 112 = .ok (.invokevirtual 139, 3) := by decide +kernel
theorem dX7_count_115 : decode cX7_count 115 = .ok (.ireturn, 1) := by decide +kernel
theorem dX7_count_116 : decode cX7_count 116 = .ok (.aload_n 0, 1) := by decide +kernel
theorem dX7_count_117 : decode cX7_count 117 = .ok (.invokevirtual 143, 3) := by decide +kernel
theorem dX7_count_120 : decode cX7_count 120 = .ok (.ireturn, 1) := by decide +kernel
theorem dX7_count_121 : decode cX7_count 121 = .ok (.aload_n 0, 1) := by decide +kernel
theorem dX7_count_122 : decode cX7_count 122 = .ok (.iconst 3, 1) := by decide +kernel
theorem dX7_count_123 : decode cX7_count 123 = .ok (.iconst 0, 1) := by decide +kernel
theorem dX7_count_124 : decode cX7_count 124 = .ok (.invokevirtual 139, 3) := by decide +kernel
theorem dX7_count_127 : decode cX7_count 127 = .ok (.ireturn, 1) := by decide +kernel
theorem dX7_count_128 : decode cX7_count 128 = .ok (.aload_n 0, 1) := by decide +kernel
theorem dX7_count_129 : decode cX7_count 129 = .ok (.getfield 7, 3) := by decide +kernel
theorem dX7_count_132 : decode cX7_count 132 = .ok (.iload_n 1, 1) := by decide +kernel
theorem dX7_count_133 : decode cX7_count 133 = .ok (.bipush 9, 2) := by decide +kernel
theorem dX7_count_135 : decode cX7_count 135 = .ok (.isub, 1) := by decide +kernel
theorem dX7_count_136 : decode cX7_count 136 = .ok (.iaload, 1) := by decide +kernel
theorem dX7_count_137 : decode cX7_count 137 = .ok (.ireturn, 1) := by decide +kernel
theorem dX7_count_138 : decode cX7_count 138 = .ok (.aload_n 0, 1) := by decide +kernel
theorem dX7_count_139 : decode cX7_count 139 = .ok (.getfield 146, 3) := by decide +kernel
theorem dX7_count_142 : decode cX7_count 142 = .ok (.ireturn, 1) := by decide +kernel
theorem dX7_count_143 : decode cX7_count 143 = .ok (.aload_n 0, 1) := by decide +kernel
theorem dX7_count_144 : decode cX7_count 144 = .ok (.getfield 37, 3) := by decide +kernel
theorem dX7_count_147 : decode cX7_count 147 = .ok (.ireturn, 1) := by decide +kernel
theorem dX7_count_148 : decode cX7_count 148 = .ok (.bipush (-2), 2) := by decide +kernel
theorem dX7_count_150 : decode cX7_count 150 = .ok (.ireturn, 1) := by decide +kernel
theorem dX7_wouldMean_0 : decode cX7_wouldMean 0 = .ok (.aload_n 0, 1) := by decide +kernel
theorem dX7_wouldMean_1 : decode cX7_wouldMean 1 = .ok (.iconst 0, 1) := by decide +kernel
theorem dX7_wouldMean_2 : decode cX7_wouldMean 2 = .ok (.putfield 29, 3) := by decide +kernel
theorem dX7_wouldMean_5 : decode cX7_wouldMean 5 = .ok (.iload_n 1, 1) := by decide +kernel
theorem dX7_wouldMean_6 : decode cX7_wouldMean 6 = .ok (.invokestatic 63, 3) := by decide +kernel
theorem dX7_wouldMean_9 : decode cX7_wouldMean 9 = .ok (.ifCond .ne 5, 3) := by decide +kernel
theorem dX7_wouldMean_12 : decode cX7_wouldMean 12 = .ok (.iconst (-1), 1) := by decide +kernel
theorem dX7_wouldMean_13 : decode cX7_wouldMean 13 = .ok (.ireturn, 1) := by decide +kernel
theorem dX7_wouldMean_14 : decode cX7_wouldMean 14 = .ok (.iload_n 2, 1) := by decide +kernel
theorem dX7_wouldMean_15 : decode cX7_wouldMean 15 = .ok (.iconst 0, 1) := by decide +kernel
theorem dX7_wouldMean_16 : decode cX7_wouldMean 16 = .ok (.sipush 999, 3) := by decide +kernel
theorem dX7_wouldMean_19 : decode cX7_wouldMean 19 = .ok (.invokestatic 33, 3) := by decide +kernel
theorem dX7_wouldMean_22 : decode cX7_wouldMean 22 = .ok (.ifCond .eq 20, 3) := by decide +kernel
theorem dX7_wouldMean_25 : decode cX7_wouldMean 25 = .ok (.aload_n 0, 1) := by decide +kernel
theorem dX7_wouldMean_26 : decode cX7_wouldMean 26 = .ok (.aload_n 0, 1) := by decide +kernel
theorem dX7_wouldMean_27 : decode cX7_wouldMean 27 = .ok (.aload_n 0, 1) := by decide +kernel
theorem dX7_wouldMean_28 : decode cX7_wouldMean 28 = .ok (.iload_n 1, 1) := by decide +kernel
theorem dX7_wouldMean_29 : decode cX7_wouldMean 29 = .ok (.invokevirtual 48, 3) := by decide +kernel
theorem dX7_wouldMean_32 : decode cX7_wouldMean 32 = .ok (.invokevirtual 51, 3) := by decide +kernel
theorem dX7_wouldMean_35 : decode cX7_wouldMean 35 = .ok (.iload_n 2, 1) := by decide +kernel
theorem dX7_wouldMean_36 : decode cX7_wouldMean 36 = .ok (.invokevirtual 54, 3) := by decide +kernel
theorem dX7_wouldMean_39 : decode cX7_wouldMean 39 = .ok (.goto 5, 3) := by decide +kernel
theorem dX7_wouldMean_42 : decode cX7_wouldMean 42 = .ok (.bipush (-2), 2) := by decide +kernel
theorem dX7_wouldMean_44 : decode cX7_wouldMean 44 = .ok (.ireturn, 1) := by decide +kernel
theorem dX7_turnsIn_0 : decode cX7_turnsIn 0 = .ok (.aload_n 0, 1) := by decide +kernel
theorem dX7_turnsIn_1 : decode cX7_turnsIn 1 = .ok (.iconst 0, 1) := by decide +kernel
theorem dX7_turnsIn_2 : decode cX7_turnsIn 2 = .ok (.putfield 29, 3) := by decide +kernel
theorem dX7_turnsIn_5 : decode cX7_turnsIn 5 = .ok (.aload_n 0, 1) := by decide +kernel
theorem dX7_turnsIn_6 : decode cX7_turnsIn 6 = .ok (.iload_n 1, 1) := by decide +kernel
theorem dX7_turnsIn_7 : decode cX7_turnsIn 7 = .ok (.invokevirtual 102, 3) := by decide +kernel
theorem dX7_turnsIn_10 : decode cX7_turnsIn 10 = .ok (.istore_n 2, 1) := by decide +kernel
theorem dX7_turnsIn_11 : decode cX7_turnsIn 11 = .ok (.iload_n 2, 1) := by decide +kernel
theorem dX7_turnsIn_12 : decode cX7_turnsIn 12 = .ok (.ifCond .eq 5, 3) := by decide +kernel
theorem dX7_turnsIn_15 : decode cX7_turnsIn 15 = .ok (.iload_n 2, 1) := by decide +kernel
theorem dX7_turnsIn_16 : decode cX7_turnsIn 16 = .ok (.ireturn, 1) := by decide +kernel
theorem dX7_turnsIn_17 : decode cX7_turnsIn 17 = .ok (.aload_n 0, 1) := by decide +kernel
theorem dX7_turnsIn_18 : decode cX7_turnsIn 18 = .ok (.aload_n 0, 1) := by decide +kernel
theorem dX7_turnsIn_19 : decode cX7_turnsIn 19 = .ok (.iload_n 1, 1) := by decide +kernel
theorem dX7_turnsIn_20 : decode cX7_turnsIn 20 = .ok (.invokevirtual 48, 3) := by decide +kernel
theorem dX7_turnsIn_23 : decode cX7_turnsIn 23 = .ok (.invokevirtual 51, 3) := by decide +kernel
theorem dX7_turnsIn_26 : decode cX7_turnsIn 26 = .ok (.istore_n 3, 1) := by decide +kernel
theorem dX7_turnsIn_27 : decode cX7_turnsIn 27 = .ok (.aload_n 0, 1) := by decide +kernel
theorem dX7_turnsIn_28 : decode cX7_turnsIn 28 = .ok (.iload_n 1, 1) := by decide +kernel
theorem dX7_turnsIn_29 : decode cX7_turnsIn 29 = .ok (.invokevirtual 95, 3) := by decide +kernel
theorem dX7_turnsIn_32 : decode cX7_turnsIn 32 = .ok (.istore 4, 2) := by decide +kernel
theorem dX7_turnsIn_34 : decode cX7_turnsIn 34 = .ok (.iconst 1, 1) := by decide +kernel
theorem dX7_turnsIn_35 : decode cX7_turnsIn 35 = .ok (.istore 5, 2) := by decide +kernel
theorem dX7_turnsIn_37 : decode cX7_turnsIn 37 = .ok (.iload 5, 2) := by decide +kernel
theorem dX7_turnsIn_39 : decode cX7_turnsIn 39 = .ok (.sipush 200, 3) := by decide +kernel
theorem dX7_turnsIn_42 : decode cX7_turnsIn 42 = .ok (.if_icmp .gt 34, 3) := by decide +kernel
theorem dX7_turnsIn_45 : decode cX7_turnsIn 45 = .ok (.aload_n 0, 1) := by decide +kernel
theorem dX7_turnsIn_46 : decode cX7_turnsIn 46 = .ok (.iload_n 3, 1) := by decide +kernel
theorem dX7_turnsIn_47 : decode cX7_turnsIn 47 = .ok (.aload_n 0, 1) := by decide +kernel
theorem dX7_turnsIn_48 : decode cX7_turnsIn 48 = .ok (.getfield 7, 3) := by decide +kernel
theorem dX7_turnsIn_51 : decode cX7_turnsIn 51 = .ok (.bipush 10, 2) := by decide +kernel
theorem dX7_turnsIn_53 : decode cX7_turnsIn 53 = .ok (.iload_n 1, 1) := by decide +kernel
theorem dX7_turnsIn_54 : decode cX7_turnsIn 54 = .ok (.iadd, 1) := by decide +kernel
theorem dX7_turnsIn_55 : decode cX7_turnsIn 55 = .ok (.iaload, 1) := by decide +kernel
theorem dX7_turnsIn_56 : decode cX7_turnsIn 56 = .ok (.iload 5, 2) := by decide +kernel
theorem dX7_turnsIn_58 : decode cX7_turnsIn 58 = .ok (.iadd, 1) := by decide +kernel
theorem dX7_turnsIn_59 : decode cX7_turnsIn 59 = .ok (.invokevirtual 54, 3) := by decide +kernel
theorem dX7_turnsIn_62 : decode cX7_turnsIn 62 = .ok (.iload 4, 2) := by decide +kernel
theorem dX7_turnsIn_64 : decode cX7_turnsIn 64 = .ok (.if_icmp .eq 6, 3) := by decide +kernel
theorem dX7_turnsIn_67 : decode cX7_turnsIn 67 = .ok (.iload 5, 2) := by decide +kernel
theorem dX7_turnsIn_69 : decode cX7_turnsIn 69 = .ok (.ireturn, 1) := by decide +kernel
theorem dX7_turnsIn_70 : decode cX7_turnsIn 70 = .ok (.iinc 5 1, 3) := by decide +kernel
theorem dX7_turnsIn_73 : decode cX7_turnsIn 73 = .ok (.goto (-36), 3) := by decide +kernel
theorem dX7_turnsIn_76 : decode cX7_turnsIn 76 = .ok (.bipush (-6), 2) := by decide +kernel
theorem dX7_turnsIn_78 : decode cX7_turnsIn 78 = .ok (.ireturn, 1) := by decide +kernel
theorem dX7_lender_0 : decode cX7_lender 0 = .ok (.aload_n 0, 1) := by decide +kernel
theorem dX7_lender_1 : decode cX7_lender 1 = .ok (.iconst 0, 1) := by decide +kernel
theorem dX7_lender_2 : decode cX7_lender 2 = .ok (.putfield 29, 3) := by decide +kernel
theorem dX7_lender_5 : decode cX7_lender 5 = .ok (.aload_n 0, 1) := by decide +kernel
theorem dX7_lender_6 : decode cX7_lender 6 = .ok (.iload_n 1, 1) := by decide +kernel
theorem dX7_lender_7 : decode cX7_lender 7 = .ok (.invokevirtual 80, 3) := by decide +kernel
theorem dX7_lender_10 : decode cX7_lender 10 = .ok (.istore_n 2, 1) := by decide +kernel
theorem dX7_lender_11 : decode cX7_lender 11 = .ok (.iload_n 2, 1) := by decide +kernel
theorem dX7_lender_12 : decode cX7_lender 12 = .ok (.ifCond .eq 7, 3) := by decide +kernel
theorem dX7_lender_15 : decode cX7_lender 15 = .ok (.iload_n 2, 1) := by decide +kernel
theorem dX7_lender_16 : decode cX7_lender 16 = .ok (.goto 8, 3) := by decide +kernel
theorem dX7_lender_19 : decode cX7_lender 19 = .ok (.aload_n 0, 1) := by decide +kernel
theorem dX7_lender_20 : decode cX7_lender 20 = .ok (.iload_n 1, 1) := by decide +kernel
theorem dX7_lender_21 : decode cX7_lender 21 = .ok (.invokevirtual 117, 3) := by decide +kernel
theorem dX7_lender_24 : decode cX7_lender 24 = .ok (.ireturn, 1) := by decide +kernel
theorem dX7_without_0 : decode cX7_without 0 = .ok (.aload_n 0, 1) := by decide +kernel
theorem dX7_without_1 : decode cX7_without 1 = .ok (.iconst 0, 1) := by decide +kernel
theorem dX7_without_2 : decode cX7_without 2 = .ok (.putfield 29, 3) := by decide +kernel
theorem dX7_without_5 : decode cX7_without 5 = .ok (.aload_n 0, 1) := by decide +kernel
theorem dX7_without_6 : decode cX7_without 6 = .ok (.iload_n 1, 1) := by decide +kernel
theorem dX7_without_7 : decode cX7_without 7 = .ok (.invokevirtual 111, 3) := by decide +kernel
theorem dX7_without_10 : decode cX7_without 10 = .ok (.istore_n 2, 1) := by decide +kernel
theorem dX7_without_11 : decode cX7_without 11 = .ok (.iload_n 2, 1) := by decide +kernel
theorem dX7_without_12 : decode cX7_without 12 = .ok (.ifCond .eq 5, 3) := by decide +kernel
theorem dX7_without_15 : decode cX7_without 15 = .ok (.iload_n 2, 1) := by decide +kernel
theorem dX7_without_16 : decode cX7_without 16 = .ok (.ireturn, 1) := by decide +kernel
theorem dX7_without_17 : decode cX7_without 17 = .ok (.aload_n 0, 1) := by decide +kernel
theorem dX7_without_18 : decode cX7_without 18 = .ok (.iload_n 1, 1) := by decide +kernel
theorem dX7_without_19 : decode cX7_without 19 = .ok (.iconst 0, 1) := by decide +kernel
theorem dX7_without_20 : decode cX7_without 20 = .ok (.invokevirtual 40, 3) := by decide +kernel
theorem dX7_without_23 : decode cX7_without 23 = .ok (.istore_n 3, 1) := by decide +kernel
theorem dX7_without_24 : decode cX7_without 24 = .ok (.aload_n 0, 1) := by decide +kernel
theorem dX7_without_25 : decode cX7_without 25 = .ok (.aload_n 0, 1) := by decide +kernel
theorem dX7_without_26 : decode cX7_without 26 = .ok (.aload_n 0, 1) := by decide +kernel
theorem dX7_without_27 : decode cX7_without 27 = .ok (.iload_n 3, 1) := by decide +kernel
theorem dX7_without_28 : decode cX7_without 28 = .ok (.invokevirtual 48, 3) := by decide +kernel
theorem dX7_without_31 : decode cX7_without 31 = .ok (.iconst 1, 1) := by decide +kernel
theorem dX7_without_32 : decode cX7_without 32 = .ok (.iload_n 1, 1) := by decide +kernel
theorem dX7_without_33 : decode cX7_without 33 = .ok (.ishl, 1) := by decide +kernel
theorem dX7_without_34 : decode cX7_without 34 = .ok (.iconst (-1), 1) := by decide +kernel
theorem dX7_without_35 : decode cX7_without 35 = .ok (.ixor, 1) := by decide +kernel
theorem dX7_without_36 : decode cX7_without 36 = .ok (.iand, 1) := by decide +kernel
theorem dX7_without_37 : decode cX7_without 37 = .ok (.invokevirtual 51, 3) := by decide +kernel
theorem dX7_without_40 : decode cX7_without 40 = .ok (.aload_n 0, 1) := by decide +kernel
theorem dX7_without_41 : decode cX7_without 41 = .ok (.getfield 7, 3) := by decide +kernel
theorem dX7_without_44 : decode cX7_without 44 = .ok (.bipush 10, 2) := by decide +kernel
theorem dX7_without_46 : decode cX7_without 46 = .ok (.iload_n 3, 1) := by decide +kernel
theorem dX7_without_47 : decode cX7_without 47 = .ok (.iadd, 1) := by decide +kernel
theorem dX7_without_48 : decode cX7_without 48 = .ok (.iaload, 1) := by decide +kernel
theorem dX7_without_49 : decode cX7_without 49 = .ok (.invokevirtual 54, 3) := by decide +kernel
theorem dX7_without_52 : decode cX7_without 52 = .ok (.ireturn, 1) := by decide +kernel
theorem dX7_usual_0 : decode cX7_usual 0 = .ok (.aload_n 0, 1) := by decide +kernel
theorem dX7_usual_1 : decode cX7_usual 1 = .ok (.iconst 0, 1) := by decide +kernel
theorem dX7_usual_2 : decode cX7_usual 2 = .ok (.putfield 29, 3) := by decide +kernel
theorem dX7_usual_5 : decode cX7_usual 5 = .ok (.bipush (-6), 2) := by decide +kernel
theorem dX7_usual_7 : decode cX7_usual 7 = .ok (.istore_n 1, 1) := by decide +kernel
theorem dX7_usual_8 : decode cX7_usual 8 = .ok (.iconst 0, 1) := by decide +kernel
theorem dX7_usual_9 : decode cX7_usual 9 = .ok (.istore_n 2, 1) := by decide +kernel
theorem dX7_usual_10 : decode cX7_usual 10 = .ok (.iconst 1, 1) := by decide +kernel
theorem dX7_usual_11 : decode cX7_usual 11 = .ok (.istore_n 3, 1) := by decide +kernel
theorem dX7_usual_12 : decode cX7_usual 12 = .ok (.iload_n 3, 1) := by decide +kernel
theorem dX7_usual_13 : decode cX7_usual 13 = .ok (.bipush 11, 2) := by decide +kernel
theorem dX7_usual_15 : decode cX7_usual 15 = .ok (.if_icmp .gt 49, 3) := by decide +kernel
theorem dX7_usual_18 : decode cX7_usual 18 = .ok (.aload_n 0, 1) := by decide +kernel
theorem dX7_usual_19 : decode cX7_usual 19 = .ok (.getfield 7, 3) := by decide +kernel
theorem dX7_usual_22 : decode cX7_usual 22 = .ok (.bipush 16, 2) := by decide +kernel
theorem dX7_usual_24 : decode cX7_usual 24 = .ok (.iconst 2, 1) := by decide +kernel
theorem dX7_usual_25 : decode cX7_usual 25 = .ok (.iload_n 3, 1) := by decide +kernel
theorem dX7_usual_26 : decode cX7_usual 26 = .ok (.iconst 1, 1) := by decide +kernel
theorem dX7_usual_27 : decode cX7_usual 27 = .ok (.isub, 1) := by decide +kernel
theorem dX7_usual_28 : decode cX7_usual 28 = .ok (.imul, 1) := by decide +kernel
theorem dX7_usual_29 : decode cX7_usual 29 = .ok (.iadd, 1) := by decide +kernel
theorem dX7_usual_30 : decode cX7_usual 30 = .ok (.iaload, 1) := by decide +kernel
theorem dX7_usual_31 : decode cX7_usual 31 = .ok (.istore 4, 2) := by decide +kernel
theorem dX7_usual_33 : decode cX7_usual 33 = .ok (.iload 4, 2) := by decide +kernel
theorem dX7_usual_35 : decode cX7_usual 35 = .ok (.iload_n 2, 1) := by decide +kernel
theorem dX7_usual_36 : decode cX7_usual 36 = .ok (.if_icmp .le 7, 3) := by decide +kernel
theorem dX7_usual_39 : decode cX7_usual 39 = .ok (.iload_n 3, 1) := by decide +kernel
theorem dX7_usual_40 : decode cX7_usual 40 = .ok (.goto 4, 3) := by decide +kernel
theorem dX7_usual_43 : decode cX7_usual 43 = .ok (.iload_n 1, 1) := by decide +kernel
theorem dX7_usual_44 : decode cX7_usual 44 = .ok (.istore_n 1, 1) := by decide +kernel
theorem dX7_usual_45 : decode cX7_usual 45 = .ok (.iload 4, 2) := by decide +kernel
theorem dX7_usual_47 : decode cX7_usual 47 = .ok (.iload_n 2, 1) := by decide +kernel
theorem dX7_usual_48 : decode cX7_usual 48 = .ok (.if_icmp .le 8, 3) := by decide +kernel
theorem dX7_usual_51 : decode cX7_usual 51 = .ok (.iload 4, 2) := by decide +kernel
theorem dX7_usual_53 : decode cX7_usual 53 = .ok (.goto 4, 3) := by decide +kernel
theorem dX7_usual_56 : decode cX7_usual 56 = .ok (.iload_n 2, 1) := by decide +kernel
theorem dX7_usual_57 : decode cX7_usual 57 = .ok (.istore_n 2, 1) := by decide +kernel
theorem dX7_usual_58 : decode cX7_usual 58 = .ok (.iinc 3 1, 3) := by decide +kernel
theorem dX7_usual_61 : decode cX7_usual 61 = .ok (.goto (-49), 3) := by decide +kernel
theorem dX7_usual_64 : decode cX7_usual 64 = .ok (.iload_n 1, 1) := by decide +kernel
theorem dX7_usual_65 : decode cX7_usual 65 = .ok (.ireturn, 1) := by decide +kernel
theorem dX7_put_0 : decode cX7_put 0 = .ok (.aload_n 0, 1) := by decide +kernel
theorem dX7_put_1 : decode cX7_put 1 = .ok (.iconst 0, 1) := by decide +kernel
theorem dX7_put_2 : decode cX7_put 2 = .ok (.putfield 29, 3) := by decide +kernel
theorem dX7_put_5 : decode cX7_put 5 = .ok (.iconst 0, 1) := by decide +kernel
theorem dX7_put_6 : decode cX7_put 6 = .ok (.istore_n 3, 1) := by decide +kernel
theorem dX7_put_7 : decode cX7_put 7 = .ok (.iconst 0, 1) := by decide +kernel
theorem dX7_put_8 : decode cX7_put 8 = .ok (.istore 4, 2) := by decide +kernel
theorem dX7_put_10 : decode cX7_put 10 = .ok (.iconst 1, 1) := by decide +kernel
theorem dX7_put_11 : decode cX7_put 11 = .ok (.istore 5, 2) := by decide +kernel
theorem dX7_put_13 : decode cX7_put 13 = .ok (.iconst 0, 1) := by decide +kernel
theorem dX7_put_14 : decode cX7_put 14 = .ok (.istore 6, 2) := by decide +kernel
theorem dX7_put_16 : decode cX7_put 16 = .ok (.iload 6, 2) := by decide +kernel
theorem dX7_put_18 : decode cX7_put 18 = .ok (.bipush 8, 2) := by decide +kernel
theorem dX7_put_20 : decode cX7_put 20 = .ok (.if_icmp .ge 90, 3) := by decide +kernel
theorem dX7_put_23 : decode cX7_put 23 = .ok (.lload_n 1, 1) := by decide +kernel
theorem dX7_put_24 : decode cX7_put 24 = .ok (.bipush 8, 2) := by decide +kernel
theorem dX7_put_26 : decode cX7_put 26 = .ok (.iload 6, 2) := by decide +kernel
theorem dX7_put_28 : decode cX7_put 28 = .ok (.imul, 1) := by decide +kernel
theorem dX7_put_29 : decode cX7_put 29 = .ok (.lshr, 1) := by decide +kernel
theorem dX7_put_30 : decode cX7_put 30 = .ok (.ldc2_w 149, 3) := by decide +kernel
theorem dX7_put_33 : decode cX7_put 33 = .ok (.land, 1) := by decide +kernel
theorem dX7_put_34 : decode cX7_put 34 = .ok (.l2i, 1) := by decide +kernel
theorem dX7_put_35 : decode cX7_put 35 = .ok (.istore 7, 2) := by decide +kernel
theorem dX7_put_37 : decode cX7_put 37 = .ok (.iload 4, 2) := by decide +kernel
theorem dX7_put_39 : decode cX7_put 39 = .ok (.ifCond .ne 8, 3) := by decide +kernel
theorem dX7_put_42 : decode cX7_put 42 = .ok (.iload 7, 2) := by decide +kernel
theorem dX7_put_44 : decode cX7_put 44 = .ok (.ifCond .ne 7, 3) := by decide +kernel
theorem dX7_put_47 : decode cX7_put 47 = .ok (.iconst 1, 1) := by decide +kernel
theorem dX7_put_48 : decode cX7_put 48 = .ok (.goto 4, 3) := by decide +kernel
theorem dX7_put_51 : decode cX7_put 51 = .ok (.iconst 0, 1) := by decide +kernel
theorem dX7_put_52 : decode cX7_put 52 = .ok (.istore 4, 2) := by decide +kernel
theorem dX7_put_54 : decode cX7_put 54 = .ok (.iload 5, 2) := by decide +kernel
theorem dX7_put_56 : decode cX7_put 56 = .ok (.ifCond .eq 32, 3) := by decide +kernel
theorem dX7_put_59 : decode cX7_put 59 = .ok (.iload 4, 2) := by decide +kernel
theorem dX7_put_61 : decode cX7_put 61 = .ok (.ifCond .eq 11, 3) := by decide +kernel
theorem dX7_put_64 : decode cX7_put 64 = .ok (.iload 7, 2) := by decide +kernel
theorem dX7_put_66 : decode cX7_put 66 = .ok (.ifCond .ne 22, 3) := by decide +kernel
theorem dX7_put_69 : decode cX7_put 69 = .ok (.goto 15, 3) := by decide +kernel
theorem dX7_put_72 : decode cX7_put 72 = .ok (.iload 7, 2) := by decide +kernel
theorem dX7_put_74 : decode cX7_put 74 = .ok (.bipush 33, 2) := by decide +kernel
theorem dX7_put_76 : decode cX7_put 76 = .ok (.bipush 126, 2) := by decide +kernel
theorem dX7_put_78 : decode cX7_put 78 = .ok (.invokestatic 33, 3) := by decide +kernel
theorem dX7_put_81 : decode cX7_put 81 = .ok (.ifCond .eq 7, 3) := by decide +kernel
theorem dX7_put_84 : decode cX7_put 84 = .ok (.iconst 1, 1) := by decide +kernel
theorem dX7_put_85 : decode cX7_put 85 = .ok (.goto 4, 3) := by decide +kernel
theorem dX7_put_88 : decode cX7_put 88 = .ok (.iconst 0, 1) := by decide +kernel
theorem dX7_put_89 : decode cX7_put 89 = .ok (.istore 5, 2) := by decide +kernel
theorem dX7_put_91 : decode cX7_put 91 = .ok (.iload_n 3, 1) := by decide +kernel
theorem dX7_put_92 : decode cX7_put 92 = .ok (.iload 4, 2) := by decide +kernel
theorem dX7_put_94 : decode cX7_put 94 = .ok (.ifCond .eq 7, 3) := by decide +kernel
theorem dX7_put_97 : decode cX7_put 97 = .ok (.iconst 0, 1) := by decide +kernel
theorem dX7_put_98 : decode cX7_put 98 = .ok (.goto 4, 3) := by decide +kernel
theorem dX7_put_101 : decode cX7_put 101 = .ok (.iconst 1, 1) := by decide +kernel
theorem dX7_put_102 : decode cX7_put 102 = .ok (.iadd, 1) := by decide +kernel
theorem dX7_put_103 : decode cX7_put 103 = .ok (.istore_n 3, 1) := by decide +kernel
theorem dX7_put_104 : decode cX7_put 104 = .ok (.iinc 6 1, 3) := by decide +kernel
theorem dX7_put_107 : decode cX7_put 107 = .ok (.goto (-91), 3) := by decide +kernel
theorem dX7_put_110 : decode cX7_put 110 = .ok (.iload 5, 2) := by decide +kernel
theorem dX7_put_112 : decode cX7_put 112 = .ok (.ifCond .eq 7, 3) := by decide +kernel
theorem dX7_put_115 : decode cX7_put 115 = .ok (.iload_n 3, 1) := by decide +kernel
theorem dX7_put_116 : decode cX7_put 116 = .ok (.ifCond .ne 6, 3) := by decide +kernel
theorem dX7_put_119 : decode cX7_put 119 = .ok (.bipush (-2), 2) := by decide +kernel
theorem dX7_put_121 : decode cX7_put 121 = .ok (.ireturn, 1) := by decide +kernel
theorem dX7_put_122 : decode cX7_put 122 = .ok (.aload_n 0, 1) := by decide +kernel
theorem dX7_put_123 : decode cX7_put 123 = .ok (.getfield 146, 3) := by decide +kernel
theorem dX7_put_126 : decode cX7_put 126 = .ok (.iload_n 3, 1) := by decide +kernel
theorem dX7_put_127 : decode cX7_put 127 = .ok (.iadd, 1) := by decide +kernel
theorem dX7_put_128 : decode cX7_put 128 = .ok (.bipush 80, 2) := by decide +kernel
theorem dX7_put_130 : decode cX7_put 130 = .ok (.if_icmp .le 6, 3) := by decide +kernel
theorem dX7_put_133 : decode cX7_put 133 = .ok (.bipush (-4), 2) := by decide +kernel
theorem dX7_put_135 : decode cX7_put 135 = .ok (.ireturn, 1) := by decide +kernel
theorem dX7_put_136 : decode cX7_put 136 = .ok (.iload_n 3, 1) := by decide +kernel
theorem dX7_put_137 : decode cX7_put 137 = .ok (.iconst 1, 1) := by decide +kernel
theorem dX7_put_138 : decode cX7_put 138 = .ok (.isub, 1) := by decide +kernel
theorem dX7_put_139 : decode cX7_put 139 = .ok (.istore 6, 2) := by decide +kernel
theorem dX7_put_141 : decode cX7_put 141 = .ok (.iload 6, 2) := by decide +kernel
theorem dX7_put_143 : decode cX7_put 143 = .ok (.ifCond .lt 40, 3) := by decide +kernel
theorem dX7_put_146 : decode cX7_put 146 = .ok (.aload_n 0, 1) := by decide +kernel
theorem dX7_put_147 : decode cX7_put 147 = .ok (.getfield 23, 3) := by decide +kernel
theorem dX7_put_150 : decode cX7_put 150 = .ok (.aload_n 0, 1) := by decide +kernel
theorem dX7_put_151 : decode cX7_put 151 = .ok (.getfield 146, 3) := by decide +kernel
theorem dX7_put_154 : decode cX7_put 154 = .ok (.lload_n 1, 1) := by decide +kernel
theorem dX7_put_155 : decode cX7_put 155 = .ok (.bipush 8, 2) := by decide +kernel
theorem dX7_put_157 : decode cX7_put 157 = .ok (.iload 6, 2) := by decide +kernel
theorem dX7_put_159 : decode cX7_put 159 = .ok (.imul, 1) := by decide +kernel
theorem dX7_put_160 : decode cX7_put 160 = .ok (.lshr, 1) := by decide +kernel
theorem dX7_put_161 : decode cX7_put 161 = .ok (.ldc2_w 149, 3) := by decide +kernel
theorem dX7_put_164 : decode cX7_put 164 = .ok (.land, 1) := by decide +kernel
theorem dX7_put_165 : decode cX7_put 165 = .ok (.l2i, 1) := by decide +kernel
theorem dX7_put_166 : decode cX7_put 166 = .ok (.iastore, 1) := by decide +kernel
theorem dX7_put_167 : decode cX7_put 167 = .ok (.aload_n 0, 1) := by decide +kernel
theorem dX7_put_168 : decode cX7_put 168 = .ok (.dup, 1) := by decide +kernel
theorem dX7_put_169 : decode cX7_put 169 = .ok (.getfield 146, 3) := by decide +kernel
theorem dX7_put_172 : decode cX7_put 172 = .ok (.iconst 1, 1) := by decide +kernel
theorem dX7_put_173 : decode cX7_put 173 = .ok (.iadd, 1) := by decide +kernel
theorem dX7_put_174 : decode cX7_put 174 = .ok (.putfield 146, 3) := by decide +kernel
theorem dX7_put_177 : decode cX7_put 177 = .ok (.iinc 6 (-1), 3) := by decide +kernel
theorem dX7_put_180 : decode cX7_put 180 = .ok (.goto (-39), 3) := by decide +kernel
theorem dX7_put_183 : decode cX7_put 183 = .ok (.aload_n 0, 1) := by decide +kernel
theorem dX7_put_184 : decode cX7_put 184 = .ok (.getfield 146, 3) := by decide +kernel
theorem dX7_put_187 : decode cX7_put 187 = .ok (.ireturn, 1) := by decide +kernel
theorem dX7_wipe_0 : decode cX7_wipe 0 = .ok (.aload_n 0, 1) := by decide +kernel
theorem dX7_wipe_1 : decode cX7_wipe 1 = .ok (.iconst 0, 1) := by decide +kernel
theorem dX7_wipe_2 : decode cX7_wipe 2 = .ok (.putfield 29, 3) := by decide +kernel
theorem dX7_wipe_5 : decode cX7_wipe 5 = .ok (.aload_n 0, 1) := by decide +kernel
theorem dX7_wipe_6 : decode cX7_wipe 6 = .ok (.getfield 146, 3) := by decide +kernel
theorem dX7_wipe_9 : decode cX7_wipe 9 = .ok (.istore_n 1, 1) := by decide +kernel
theorem dX7_wipe_10 : decode cX7_wipe 10 = .ok (.aload_n 0, 1) := by decide +kernel
theorem dX7_wipe_11 : decode cX7_wipe 11 = .ok (.iconst 0, 1) := by decide +kernel
theorem dX7_wipe_12 : decode cX7_wipe 12 = .ok (.putfield 146, 3) := by decide +kernel
theorem dX7_wipe_15 : decode cX7_wipe 15 = .ok (.iload_n 1, 1) := by decide +kernel
theorem dX7_wipe_16 : decode cX7_wipe 16 = .ok (.ireturn, 1) := by decide +kernel
theorem dX7_sign_0 : decode cX7_sign 0 = .ok (.aload_n 0, 1) := by decide +kernel
theorem dX7_sign_1 : decode cX7_sign 1 = .ok (.getfield 151, 3) := by decide +kernel
theorem dX7_sign_4 : decode cX7_sign 4 = .ok (.aload_n 0, 1) := by decide +kernel
theorem dX7_sign_5 : decode cX7_sign 5 = .ok (.getfield 146, 3) := by decide +kernel
theorem dX7_sign_8 : decode cX7_sign 8 = .ok (.if_icmp .ge 15, 3) := by decide +kernel
theorem dX7_sign_11 : decode cX7_sign 11 = .ok (.aload_n 0, 1) := by decide +kernel
theorem dX7_sign_12 : decode cX7_sign 12 = .ok (.getfield 23, 3) := by decide +kernel
theorem dX7_sign_15 : decode cX7_sign 15 = .ok (.aload_n 0, 1) := by decide +kernel
theorem dX7_sign_16 : decode cX7_sign 16 = .ok (.getfield 151, 3) := by decide +kernel
theorem dX7_sign_19 : decode cX7_sign 19 = .ok (.iaload, 1) := by decide +kernel
theorem dX7_sign_20 : decode cX7_sign 20 = .ok (.goto 4, 3) := by decide +kernel
theorem dX7_sign_23 : decode cX7_sign 23 = .ok (.iconst 0, 1) := by decide +kernel
theorem dX7_sign_24 : decode cX7_sign 24 = .ok (.ireturn, 1) := by decide +kernel
theorem dX7_digit_0 : decode cX7_digit 0 = .ok (.aload_n 0, 1) := by decide +kernel
theorem dX7_digit_1 : decode cX7_digit 1 = .ok (.aload_n 0, 1) := by decide +kernel
theorem dX7_digit_2 : decode cX7_digit 2 = .ok (.getfield 154, 3) := by decide +kernel
theorem dX7_digit_5 : decode cX7_digit 5 = .ok (.ifCond .eq 21, 3) := by decide +kernel
theorem dX7_digit_8 : decode cX7_digit 8 = .ok (.aload_n 0, 1) := by decide +kernel
theorem dX7_digit_9 : decode cX7_digit 9 = .ok (.invokevirtual 158, 3) := by decide +kernel
theorem dX7_digit_12 : decode cX7_digit 12 = .ok (.bipush 48, 2) := by decide +kernel
theorem dX7_digit_14 : decode cX7_digit 14 = .ok (.bipush 57, 2) := by decide +kernel
theorem dX7_digit_16 : decode cX7_digit 16 = .ok (.invokestatic 33, 3) := by decide +kernel
theorem dX7_digit_19 : decode cX7_digit 19 = .ok (.ifCond .eq 7, 3) := by decide +kernel
theorem dX7_digit_22 : decode cX7_digit 22 = .ok (.iconst 1, 1) := by decide +kernel
theorem dX7_digit_23 : decode cX7_digit 23 = .ok (.goto 4, 3) := by decide +kernel
theorem dX7_digit_26 : decode cX7_digit 26 = .ok (.iconst 0, 1) := by decide +kernel
theorem dX7_digit_27 : decode cX7_digit 27 = .ok (.putfield 154, 3) := by decide +kernel
theorem dX7_digit_30 : decode cX7_digit 30 = .ok (.aload_n 0, 1) := by decide +kernel
theorem dX7_digit_31 : decode cX7_digit 31 = .ok (.invokevirtual 158, 3) := by decide +kernel
theorem dX7_digit_34 : decode cX7_digit 34 = .ok (.bipush 48, 2) := by decide +kernel
theorem dX7_digit_36 : decode cX7_digit 36 = .ok (.isub, 1) := by decide +kernel
theorem dX7_digit_37 : decode cX7_digit 37 = .ok (.istore_n 1, 1) := by decide +kernel
theorem dX7_digit_38 : decode cX7_digit 38 = .ok (.aload_n 0, 1) := by decide +kernel
theorem dX7_digit_39 : decode cX7_digit 39 = .ok (.dup, 1) := by decide +kernel
theorem dX7_digit_40 : decode cX7_digit 40 = .ok (.getfield 151, 3) := by decide +kernel
theorem dX7_digit_43 : decode cX7_digit 43 = .ok (.aload_n 0, 1) := by decide +kernel
theorem dX7_digit_44 : decode cX7_digit 44 = .ok (.getfield 154, 3) := by decide +kernel
theorem dX7_digit_47 : decode cX7_digit 47 = .ok (.ifCond .eq 7, 3) := by decide +kernel
theorem dX7_digit_50 : decode cX7_digit 50 = .ok (.iconst 1, 1) := by decide +kernel
theorem dX7_digit_51 : decode cX7_digit 51 = .ok (.goto 4, 3) := by decide +kernel
theorem dX7_digit_54 : decode cX7_digit 54 = .ok (.iconst 0, 1) := by decide +kernel
theorem dX7_digit_55 : decode cX7_digit 55 = .ok (.iadd, 1) := by decide +kernel
theorem dX7_digit_56 : decode cX7_digit 56 = .ok (.putfield 151, 3) := by decide +kernel
theorem dX7_digit_59 : decode cX7_digit 59 = .ok (.iload_n 1, 1) := by decide +kernel
theorem dX7_digit_60 : decode cX7_digit 60 = .ok (.ireturn, 1) := by decide +kernel
theorem dX7_number_0 : decode cX7_number 0 = .ok (.aload_n 0, 1) := by decide +kernel
theorem dX7_number_1 : decode cX7_number 1 = .ok (.invokevirtual 161, 3) := by decide +kernel
theorem dX7_number_4 : decode cX7_number 4 = .ok (.istore_n 1, 1) := by decide +kernel
theorem dX7_number_5 : decode cX7_number 5 = .ok (.aload_n 0, 1) := by decide +kernel
theorem dX7_number_6 : decode cX7_number 6 = .ok (.getfield 154, 3) := by decide +kernel
theorem dX7_number_9 : decode cX7_number 9 = .ok (.ifCond .eq 44, 3) := by decide +kernel
theorem dX7_number_12 : decode cX7_number 12 = .ok (.iload_n 1, 1) := by decide +kernel
theorem dX7_number_13 : decode cX7_number 13 = .ok (.ifCond .le 40, 3) := by decide +kernel
theorem dX7_number_16 : decode cX7_number 16 = .ok (.aload_n 0, 1) := by decide +kernel
theorem dX7_number_17 : decode cX7_number 17 = .ok (.invokevirtual 158, 3) := by decide +kernel
theorem dX7_number_20 : decode cX7_number 20 = .ok (.bipush 48, 2) := by decide +kernel
theorem dX7_number_22 : decode cX7_number 22 = .ok (.bipush 57, 2) := by decide +kernel
theorem dX7_number_24 : decode cX7_number 24 = .ok (.invokestatic 33, 3) := by decide +kernel
theorem dX7_number_27 : decode cX7_number 27 = .ok (.ifCond .eq 26, 3) := by decide +kernel
theorem dX7_number_30 : decode cX7_number 30 = .ok (.bipush 10, 2) := by decide +kernel
theorem dX7_number_32 : decode cX7_number 32 = .ok (.iload_n 1, 1) := by decide +kernel
theorem dX7_number_33 : decode cX7_number 33 = .ok (.imul, 1) := by decide +kernel
theorem dX7_number_34 : decode cX7_number 34 = .ok (.aload_n 0, 1) := by decide +kernel
theorem dX7_number_35 : decode cX7_number 35 = .ok (.invokevirtual 158, 3) := by decide +kernel
theorem dX7_number_38 : decode cX7_number 38 = .ok (.iadd, 1) := by decide +kernel
theorem dX7_number_39 : decode cX7_number 39 = .ok (.bipush 48, 2) := by decide +kernel
theorem dX7_number_41 : decode cX7_number 41 = .ok (.isub, 1) := by decide +kernel
theorem dX7_number_42 : decode cX7_number 42 = .ok (.istore_n 1, 1) := by decide +kernel
theorem dX7_number_43 : decode cX7_number 43 = .ok (.aload_n 0, 1) := by decide +kernel
theorem dX7_number_44 : decode cX7_number 44 = .ok (.dup, 1) := by decide +kernel
theorem dX7_number_45 : decode cX7_number 45 = .ok (.getfield 151, 3) := by decide +kernel
theorem dX7_number_48 : decode cX7_number 48 = .ok (.iconst 1, 1) := by decide +kernel
theorem dX7_number_49 : decode cX7_number 49 = .ok (.iadd, 1) := by decide +kernel
theorem dX7_number_50 : decode cX7_number 50 = .ok (.putfield 151, 3) := by decide +kernel
theorem dX7_number_53 : decode cX7_number 53 = .ok (.iload_n 1, 1) := by decide +kernel
theorem dX7_number_54 : decode cX7_number 54 = .ok (.ireturn, 1) := by decide +kernel
theorem dX7_readsOrder_0 : decode cX7_readsOrder 0 = .ok (.iconst 3, 1) := by decide +kernel
theorem dX7_readsOrder_1 : decode cX7_readsOrder 1 = .ok (.aload_n 0, 1) := by decide +kernel
theorem dX7_readsOrder_2 : decode cX7_readsOrder 2 = .ok (.getfield 164, 3) := by decide +kernel
theorem dX7_readsOrder_5 : decode cX7_readsOrder 5 = .ok (.imul, 1) := by decide +kernel
theorem dX7_readsOrder_6 : decode cX7_readsOrder 6 = .ok (.istore_n 1, 1) := by decide +kernel
theorem dX7_readsOrder_7 : decode cX7_readsOrder 7 = .ok (.aload_n 0, 1) := by decide +kernel
theorem dX7_readsOrder_8 : decode cX7_readsOrder 8 = .ok (.invokevirtual 158, 3) := by decide +kernel
theorem dX7_readsOrder_11 : decode cX7_readsOrder 11 = .ok (.istore_n 2, 1) := by decide +kernel
theorem dX7_readsOrder_12 : decode cX7_readsOrder 12 = .ok (.aload_n 0, 1) := by decide +kernel
theorem dX7_readsOrder_13 : decode cX7_readsOrder 13 = .ok (.iload_n 2, 1) := by decide +kernel
theorem dX7_readsOrder_14 : decode cX7_readsOrder 14 = .ok (.bipush 103, 2) := by decide +kernel
theorem dX7_readsOrder_16 : decode cX7_readsOrder 16 = .ok (.if_icmp .eq 39, 3) := by decide +kernel
theorem dX7_readsOrder_19 : decode cX7_readsOrder 19 = .ok (.iload_n 2, 1) := by decide +kernel
theorem dX7_readsOrder_20 : decode cX7_readsOrder 20 = .ok (.bipush 120, 2) := by decide +kernel
theorem dX7_readsOrder_22 : decode cX7_readsOrder 22 = .ok (.if_icmp .eq 33, 3) := by decide +kernel
theorem dX7_readsOrder_25 : decode cX7_readsOrder 25 = .ok (.iload_n 2, 1) := by decide +kernel
theorem dX7_readsOrder_26 : decode cX7_readsOrder 26 = .ok (.bipush 112, 2) := by decide +kernel
theorem dX7_readsOrder_28 : decode cX7_readsOrder 28 = .ok (.if_icmp .eq 27, 3) := by decide +kernel
theorem dX7_readsOrder_31 : decode cX7_readsOrder 31 = .ok (.iload_n 2, 1) := by decide +kernel
theorem dX7_readsOrder_32 : decode cX7_readsOrder 32 = .ok (.bipush 101, 2) := by decide +kernel
theorem dX7_readsOrder_34 : decode cX7_readsOrder 34 = .ok (.if_icmp .eq 21, 3) := by decide +kernel
theorem dX7_readsOrder_37 : decode cX7_readsOrder 37 = .ok (.iload_n 2, 1) := by decide +kernel
theorem dX7_readsOrder_38 : decode cX7_readsOrder 38 = .ok (.bipush 119, 2) := by decide +kernel
theorem dX7_readsOrder_40 : decode cX7_readsOrder 40 = .ok (.if_icmp .eq 15, 3) := by decide +kernel
theorem dX7_readsOrder_43 : decode cX7_readsOrder 43 = .ok (.iload_n 2, 1) := by decide +kernel
theorem dX7_readsOrder_44 : decode cX7_readsOrder 44 = .ok (.bipush 99, 2) := by decide +kernel
theorem dX7_readsOrder_46 : decode cX7_readsOrder 46 = .ok (.if_icmp .eq 9, 3) := by decide +kernel
theorem dX7_readsOrder_49 : decode cX7_readsOrder 49 = .ok (.iload_n 2, 1) := by decide +kernel
theorem dX7_readsOrder_50 : decode cX7_readsOrder 50 = .ok (.bipush 116, 2) := by decide +kernel
theorem dX7_readsOrder_52 : decode cX7_readsOrder 52 = .ok (.if_icmp .ne 7, 3) := by decide +kernel
theorem dX7_readsOrder_55 : decode cX7_readsOrder 55 = .ok (.iconst 1, 1) := by decide +kernel
theorem dX7_readsOrder_56 : decode cX7_readsOrder 56 = .ok (.goto 4, 3) := by decide +kernel
theorem dX7_readsOrder_59 : decode cX7_readsOrder 59 = .ok (.iconst 0, 1) := by decide +kernel
theorem dX7_readsOrder_60 : decode cX7_readsOrder 60 = .ok (.putfield 154, 3) := by decide +kernel
theorem dX7_readsOrder_63 : decode cX7_readsOrder 63 = .ok (.aload_n 0, 1) := by decide +kernel
theorem dX7_readsOrder_64 : decode cX7_readsOrder 64 = .ok (.dup, 1) := by decide +kernel
theorem dX7_readsOrder_65 : decode cX7_readsOrder 65 = .ok (.getfield 151, 3) := by decide +kernel
theorem dX7_readsOrder_68 : decode cX7_readsOrder 68 = .ok (.aload_n 0, 1) := by decide +kernel
theorem dX7_readsOrder_69 : decode cX7_readsOrder 69 = .ok (.getfield 154, 3) := by decide +kernel
theorem dX7_readsOrder_72 : decode cX7_readsOrder 72 = .ok (.ifCond .eq 7, 3) := by decide +kernel
theorem dX7_readsOrder_75 : decode cX7_readsOrder 75 = .ok (.iconst 1, 1) := by decide +kernel
theorem dX7_readsOrder_76 : decode cX7_readsOrder 76 = .ok (.goto 4, 3) := by decide +kernel
theorem dX7_readsOrder_79 : decode cX7_readsOrder 79 = .ok (.iconst 0, 1) := by decide +kernel
theorem dX7_readsOrder_80 : decode cX7_readsOrder 80 = .ok (.iadd, 1) := by decide +kernel
theorem dX7_readsOrder_81 : decode cX7_readsOrder 81 = .ok (.putfield 151, 3) := by decide +kernel
theorem dX7_readsOrder_84 : decode cX7_readsOrder 84 = .ok (.aload_n 0, 1) := by decide +kernel
theorem dX7_readsOrder_85 : decode cX7_readsOrder 85 = .ok (.getfield 26, 3) := by decide +kernel
theorem dX7_readsOrder_88 : decode cX7_readsOrder 88 = .ok (.iload_n 1, 1) := by decide +kernel
theorem dX7_readsOrder_89 : decode cX7_readsOrder 89 = .ok (.iload_n 2, 1) := by decide +kernel
theorem dX7_readsOrder_90 : decode cX7_readsOrder 90 = .ok (.iastore, 1) := by decide +kernel
theorem dX7_readsOrder_91 : decode cX7_readsOrder 91 = .ok (.aload_n 0, 1) := by decide +kernel
theorem dX7_readsOrder_92 : decode cX7_readsOrder 92 = .ok (.getfield 26, 3) := by decide +kernel
theorem dX7_readsOrder_95 : decode cX7_readsOrder 95 = .ok (.iload_n 1, 1) := by decide +kernel
theorem dX7_readsOrder_96 : decode cX7_readsOrder 96 = .ok (.iconst 1, 1) := by decide +kernel
theorem dX7_readsOrder_97 : decode cX7_readsOrder 97 = .ok (.iadd, 1) := by decide +kernel
theorem dX7_readsOrder_98 : decode cX7_readsOrder 98 = .ok (.iload_n 2, 1) := by decide +kernel
theorem dX7_readsOrder_99 : decode cX7_readsOrder 99 = .ok (.bipush 103, 2) := by decide +kernel
theorem dX7_readsOrder_101 : decode cX7_readsOrder 101 = .ok (.if_icmp .eq 15, 3) := by decide +kernel
theorem dX7_readsOrder_104 : decode cX7_readsOrder 104 = .ok (.iload_n 2, 1) := by decide +kernel
theorem dX7_readsOrder_105 : decode cX7_readsOrder 105 = .ok (.bipush 112, 2) := by decide +kernel
theorem dX7_readsOrder_107 : decode cX7_readsOrder 107 = .ok (.if_icmp .eq 9, 3) := by decide +kernel
theorem dX7_readsOrder_110 : decode cX7_readsOrder 110 = .ok (.iload_n 2, 1) := by decide +kernel
theorem dX7_readsOrder_111 : decode cX7_readsOrder 111 = .ok (.bipush 101, 2) := by decide +kernel
theorem dX7_readsOrder_113 : decode cX7_readsOrder 113 = .ok (.if_icmp .ne 10, 3) := by decide +kernel
theorem dX7_readsOrder_116 : decode cX7_readsOrder 116 = .ok (.aload_n 0, 1) := by decide +kernel
theorem dX7_readsOrder_117 : decode cX7_readsOrder 117 = .ok (.invokevirtual 161, 3) := by decide +kernel
theorem dX7_readsOrder_120 : decode cX7_readsOrder 120 = .ok (.goto 7, 3) := by decide +kernel
theorem dX7_readsOrder_123 : decode cX7_readsOrder 123 = .ok (.aload_n 0, 1) := by decide +kernel
theorem dX7_readsOrder_124 : decode cX7_readsOrder 124 = .ok (.invokevirtual 167, 3) := by decide +kernel
theorem dX7_readsOrder_127 : decode cX7_readsOrder 127 = .ok (.iastore, 1) := by decide +kernel
theorem dX7_readsOrder_128 : decode cX7_readsOrder 128 = .ok (.iload_n 2, 1) := by decide +kernel
theorem dX7_readsOrder_129 : decode cX7_readsOrder 129 = .ok (.bipush 103, 2) := by decide +kernel
theorem dX7_readsOrder_131 : decode cX7_readsOrder 131 = .ok (.if_icmp .ne 61, 3) := by decide +kernel
theorem dX7_readsOrder_134 : decode cX7_readsOrder 134 = .ok (.aload_n 0, 1) := by decide +kernel
theorem dX7_readsOrder_135 : decode cX7_readsOrder 135 = .ok (.aload_n 0, 1) := by decide +kernel
theorem dX7_readsOrder_136 : decode cX7_readsOrder 136 = .ok (.getfield 154, 3) := by decide +kernel
theorem dX7_readsOrder_139 : decode cX7_readsOrder 139 = .ok (.ifCond .eq 16, 3) := by decide +kernel
theorem dX7_readsOrder_142 : decode cX7_readsOrder 142 = .ok (.aload_n 0, 1) := by decide +kernel
theorem dX7_readsOrder_143 : decode cX7_readsOrder 143 = .ok (.invokevirtual 158, 3) := by decide +kernel
theorem dX7_readsOrder_146 : decode cX7_readsOrder 146 = .ok (.bipush 46, 2) := by decide +kernel
theorem dX7_readsOrder_148 : decode cX7_readsOrder 148 = .ok (.if_icmp .ne 7, 3) := by decide +kernel
theorem dX7_readsOrder_151 : decode cX7_readsOrder 151 = .ok (.iconst 1, 1) := by decide +kernel
theorem dX7_readsOrder_152 : decode cX7_readsOrder 152 = .ok (.goto 4, 3) := by decide +kernel
theorem dX7_readsOrder_155 : decode cX7_readsOrder 155 = .ok (.iconst 0, 1) := by decide +kernel
theorem dX7_readsOrder_156 : decode cX7_readsOrder 156 = .ok (.putfield 154, 3) := by decide +kernel
theorem dX7_readsOrder_159 : decode cX7_readsOrder 159 = .ok (.aload_n 0, 1) := by decide +kernel
theorem dX7_readsOrder_160 : decode cX7_readsOrder 160 = .ok (.dup, 1) := by decide +kernel
theorem dX7_readsOrder_161 : decode cX7_readsOrder 161 = .ok (.getfield 151, 3) := by decide +kernel
theorem dX7_readsOrder_164 : decode cX7_readsOrder 164 = .ok (.aload_n 0, 1) := by decide +kernel
theorem dX7_readsOrder_165 : decode cX7_readsOrder 165 = .ok (.getfield 154, 3) := by decide +kernel
theorem dX7_readsOrder_168 : decode cX7_readsOrder 168 = .ok (.ifCond .eq 7, 3) := by decide +kernel
theorem dX7_readsOrder_171 : decode cX7_readsOrder 171 = .ok (.iconst 1, 1) := by decide +kernel
theorem dX7_readsOrder_172 : decode cX7_readsOrder 172 = .ok (.goto 4, 3) := by decide +kernel
theorem dX7_readsOrder_175 : decode cX7_readsOrder 175 = .ok (.iconst 0, 1) := by decide +kernel
theorem dX7_readsOrder_176 : decode cX7_readsOrder 176 = .ok (.iadd, 1) := by decide +kernel
theorem dX7_readsOrder_177 : decode cX7_readsOrder 177 = .ok (.putfield 151, 3) := by decide +kernel
theorem dX7_readsOrder_180 : decode cX7_readsOrder 180 = .ok (.aload_n 0, 1) := by decide +kernel
theorem dX7_readsOrder_181 : decode cX7_readsOrder 181 = .ok (.getfield 26, 3) := by decide +kernel
theorem dX7_readsOrder_184 : decode cX7_readsOrder 184 = .ok (.iload_n 1, 1) := by decide +kernel
theorem dX7_readsOrder_185 : decode cX7_readsOrder 185 = .ok (.iconst 2, 1) := by decide +kernel
theorem dX7_readsOrder_186 : decode cX7_readsOrder 186 = .ok (.iadd, 1) := by decide +kernel
theorem dX7_readsOrder_187 : decode cX7_readsOrder 187 = .ok (.aload_n 0, 1) := by decide +kernel
theorem dX7_readsOrder_188 : decode cX7_readsOrder 188 = .ok (.invokevirtual 161, 3) := by decide +kernel
theorem dX7_readsOrder_191 : decode cX7_readsOrder 191 = .ok (.iastore, 1) := by decide +kernel
theorem dX7_readsOrder_192 : decode cX7_readsOrder 192 = .ok (.aload_n 0, 1) := by decide +kernel
theorem dX7_readsOrder_193 : decode cX7_readsOrder 193 = .ok (.dup, 1) := by decide +kernel
theorem dX7_readsOrder_194 : decode cX7_readsOrder 194 = .ok (.getfield 164, 3) := by decide +kernel
theorem dX7_readsOrder_197 : decode cX7_readsOrder 197 = .ok (.aload_n 0, 1) := by decide +kernel
theorem dX7_readsOrder_198 : decode cX7_readsOrder 198 = .ok (.getfield 154, 3) := by decide +kernel
theorem dX7_readsOrder_201 : decode cX7_readsOrder 201 = .ok (.ifCond .eq 7, 3) := by decide +kernel
theorem dX7_readsOrder_204 : decode cX7_readsOrder 204 = .ok (.iconst 1, 1) := by decide +kernel
theorem dX7_readsOrder_205 : decode cX7_readsOrder 205 = .ok (.goto 4, 3) := by decide +kernel
theorem dX7_readsOrder_208 : decode cX7_readsOrder 208 = .ok (.iconst 0, 1) := by decide +kernel
theorem dX7_readsOrder_209 : decode cX7_readsOrder 209 = .ok (.iadd, 1) := by decide +kernel
theorem dX7_readsOrder_210 : decode cX7_readsOrder 210 = .ok (.putfield 164, 3) := by decide +kernel
theorem dX7_readsOrder_213 : decode cX7_readsOrder 213 = .ok (.return_, 1) := by decide +kernel
theorem dX7_reads_0 : decode cX7_reads 0 = .ok (.aload_n 0, 1) := by decide +kernel
theorem dX7_reads_1 : decode cX7_reads 1 = .ok (.iconst 0, 1) := by decide +kernel
theorem dX7_reads_2 : decode cX7_reads 2 = .ok (.putfield 151, 3) := by decide +kernel
theorem dX7_reads_5 : decode cX7_reads 5 = .ok (.aload_n 0, 1) := by decide +kernel
theorem dX7_reads_6 : decode cX7_reads 6 = .ok (.iconst 0, 1) := by decide +kernel
theorem dX7_reads_7 : decode cX7_reads 7 = .ok (.putfield 164, 3) := by decide +kernel
theorem dX7_reads_10 : decode cX7_reads 10 = .ok (.aload_n 0, 1) := by decide +kernel
theorem dX7_reads_11 : decode cX7_reads 11 = .ok (.invokevirtual 170, 3) := by decide +kernel
theorem dX7_reads_14 : decode cX7_reads 14 = .ok (.aload_n 0, 1) := by decide +kernel
theorem dX7_reads_15 : decode cX7_reads 15 = .ok (.getfield 154, 3) := by decide +kernel
theorem dX7_reads_18 : decode cX7_reads 18 = .ok (.ifCond .eq 67, 3) := by decide +kernel
theorem dX7_reads_21 : decode cX7_reads 21 = .ok (.aload_n 0, 1) := by decide +kernel
theorem dX7_reads_22 : decode cX7_reads 22 = .ok (.getfield 151, 3) := by decide +kernel
theorem dX7_reads_25 : decode cX7_reads 25 = .ok (.aload_n 0, 1) := by decide +kernel
theorem dX7_reads_26 : decode cX7_reads 26 = .ok (.getfield 146, 3) := by decide +kernel
theorem dX7_reads_29 : decode cX7_reads 29 = .ok (.if_icmp .ge 56, 3) := by decide +kernel
theorem dX7_reads_32 : decode cX7_reads 32 = .ok (.aload_n 0, 1) := by decide +kernel
theorem dX7_reads_33 : decode cX7_reads 33 = .ok (.aload_n 0, 1) := by decide +kernel
theorem dX7_reads_34 : decode cX7_reads 34 = .ok (.invokevirtual 158, 3) := by decide +kernel
theorem dX7_reads_37 : decode cX7_reads 37 = .ok (.bipush 59, 2) := by decide +kernel
theorem dX7_reads_39 : decode cX7_reads 39 = .ok (.if_icmp .ne 7, 3) := by decide +kernel
theorem dX7_reads_42 : decode cX7_reads 42 = .ok (.iconst 1, 1) := by decide +kernel
theorem dX7_reads_43 : decode cX7_reads 43 = .ok (.goto 4, 3) := by decide +kernel
theorem dX7_reads_46 : decode cX7_reads 46 = .ok (.iconst 0, 1) := by decide +kernel
theorem dX7_reads_47 : decode cX7_reads 47 = .ok (.putfield 154, 3) := by decide +kernel
theorem dX7_reads_50 : decode cX7_reads 50 = .ok (.aload_n 0, 1) := by decide +kernel
theorem dX7_reads_51 : decode cX7_reads 51 = .ok (.dup, 1) := by decide +kernel
theorem dX7_reads_52 : decode cX7_reads 52 = .ok (.getfield 151, 3) := by decide +kernel
theorem dX7_reads_55 : decode cX7_reads 55 = .ok (.aload_n 0, 1) := by decide +kernel
theorem dX7_reads_56 : decode cX7_reads 56 = .ok (.getfield 154, 3) := by decide +kernel
theorem dX7_reads_59 : decode cX7_reads 59 = .ok (.ifCond .eq 7, 3) := by decide +kernel
theorem dX7_reads_62 : decode cX7_reads 62 = .ok (.iconst 1, 1) := by decide +kernel
theorem dX7_reads_63 : decode cX7_reads 63 = .ok (.goto 4, 3) := by decide +kernel
theorem dX7_reads_66 : decode cX7_reads 66 = .ok (.iconst 0, 1) := by decide +kernel
theorem dX7_reads_67 : decode cX7_reads 67 = .ok (.iadd, 1) := by decide +kernel
theorem dX7_reads_68 : decode cX7_reads 68 = .ok (.putfield 151, 3) := by decide +kernel
theorem dX7_reads_71 : decode cX7_reads 71 = .ok (.aload_n 0, 1) := by decide +kernel
theorem dX7_reads_72 : decode cX7_reads 72 = .ok (.getfield 154, 3) := by decide +kernel
theorem dX7_reads_75 : decode cX7_reads 75 = .ok (.ifCond .eq (-61), 3) := by decide +kernel
theorem dX7_reads_78 : decode cX7_reads 78 = .ok (.aload_n 0, 1) := by decide +kernel
theorem dX7_reads_79 : decode cX7_reads 79 = .ok (.invokevirtual 170, 3) := by decide +kernel
theorem dX7_reads_82 : decode cX7_reads 82 = .ok (.goto (-68), 3) := by decide +kernel
theorem dX7_reads_85 : decode cX7_reads 85 = .ok (.aload_n 0, 1) := by decide +kernel
theorem dX7_reads_86 : decode cX7_reads 86 = .ok (.getfield 154, 3) := by decide +kernel
theorem dX7_reads_89 : decode cX7_reads 89 = .ok (.ifCond .eq 8, 3) := by decide +kernel
theorem dX7_reads_92 : decode cX7_reads 92 = .ok (.bipush (-6), 2) := by decide +kernel
theorem dX7_reads_94 : decode cX7_reads 94 = .ok (.goto 7, 3) := by decide +kernel
theorem dX7_reads_97 : decode cX7_reads 97 = .ok (.aload_n 0, 1) := by decide +kernel
theorem dX7_reads_98 : decode cX7_reads 98 = .ok (.getfield 151, 3) := by decide +kernel
theorem dX7_reads_101 : decode cX7_reads 101 = .ok (.ireturn, 1) := by decide +kernel
theorem dX7_fault_0 : decode cX7_fault 0 = .ok (.aload_n 0, 1) := by decide +kernel
theorem dX7_fault_1 : decode cX7_fault 1 = .ok (.iconst 0, 1) := by decide +kernel
theorem dX7_fault_2 : decode cX7_fault 2 = .ok (.putfield 29, 3) := by decide +kernel
theorem dX7_fault_5 : decode cX7_fault 5 = .ok (.aload_n 0, 1) := by decide +kernel
theorem dX7_fault_6 : decode cX7_fault 6 = .ok (.invokevirtual 173, 3) := by decide +kernel
theorem dX7_fault_9 : decode cX7_fault 9 = .ok (.ireturn, 1) := by decide +kernel
theorem dX7_refuses_0 : decode cX7_refuses 0 = .ok (.iload_n 1, 1) := by decide +kernel
theorem dX7_refuses_1 : decode cX7_refuses 1 = .ok (.lookupswitch 82 #[(101, 70), (103, 51), (112, 64), (116, 76), (120, 58)], 51) := by decide +kernel
theorem dX7_refuses_52 : decode cX7_refuses 52 = .ok (.aload_n 0, 1) := by decide +kernel
theorem dX7_refuses_53 : decode cX7_refuses 53 = .ok (.iload_n 2, 1) := by decide +kernel
theorem dX7_refuses_54 : decode cX7_refuses 54 = .ok (.iload_n 3, 1) := by decide +kernel
theorem dX7_refuses_55 : decode cX7_refuses 55 = .ok (.invokevirtual 71, 3) := by decide +kernel
theorem dX7_refuses_58 : decode cX7_refuses 58 = .ok (.ireturn, 1) := by decide +kernel
theorem dX7_refuses_59 : decode cX7_refuses 59 = .ok (.aload_n 0, 1) := by decide +kernel
theorem dX7_refuses_60 : decode cX7_refuses 60 = .ok (.iload_n 2, 1) := by decide +kernel
theorem dX7_refuses_61 : decode cX7_refuses 61 = .ok (.invokevirtual 80, 3) := by decide +kernel
theorem dX7_refuses_64 : decode cX7_refuses 64 = .ok (.ireturn, 1) := by decide +kernel
theorem dX7_refuses_65 : decode cX7_refuses 65 = .ok (.aload_n 0, 1) := by decide +kernel
theorem dX7_refuses_66 : decode cX7_refuses 66 = .ok (.iload_n 2, 1) := by decide +kernel
theorem dX7_refuses_67 : decode cX7_refuses 67 = .ok (.invokevirtual 89, 3) := by decide +kernel
theorem dX7_refuses_70 : decode cX7_refuses 70 = .ok (.ireturn, 1) := by decide +kernel
theorem dX7_refuses_71 : decode cX7_refuses 71 = .ok (.aload_n 0, 1) := by decide +kernel
theorem dX7_refuses_72 : decode cX7_refuses 72 = .ok (.iload_n 2, 1) := by decide +kernel
theorem dX7_refuses_73 : decode cX7_refuses 73 = .ok (.invokevirtual 102, 3) := by decide +kernel
theorem dX7_refuses_76 : decode cX7_refuses 76 = .ok (.ireturn, 1) := by decide +kernel
theorem dX7_refuses_77 : decode cX7_refuses 77 = .ok (.aload_n 0, 1) := by decide +kernel
theorem dX7_refuses_78 : decode cX7_refuses 78 = .ok (.iload_n 2, 1) := by decide +kernel
theorem dX7_refuses_79 : decode cX7_refuses 79 = .ok (.invokevirtual 123, 3) := by decide +kernel
theorem dX7_refuses_82 : decode cX7_refuses 82 = .ok (.ireturn, 1) := by decide +kernel
theorem dX7_refuses_83 : decode cX7_refuses 83 = .ok (.aload_n 0, 1) := by decide +kernel
theorem dX7_refuses_84 : decode cX7_refuses 84 = .ok (.iload_n 2, 1) := by decide +kernel
theorem dX7_refuses_85 : decode cX7_refuses 85 = .ok (.invokevirtual 111, 3) := by decide +kernel
theorem dX7_refuses_88 : decode cX7_refuses 88 = .ok (.ireturn, 1) := by decide +kernel
theorem dX7_does_0 : decode cX7_does 0 = .ok (.iload_n 1, 1) := by decide +kernel
theorem dX7_does_1 : decode cX7_does 1 = .ok (.tableswitch 152 101 120 #[125, 152, 95, 152, 152, 152, 152, 152, 152, 152, 152, 116, 152, 152, 152, 134, 152, 152, 143, 105], 95) := by decide +kernel
theorem dX7_does_96 : decode cX7_does 96 = .ok (.aload_n 0, 1) := by decide +kernel
theorem dX7_does_97 : decode cX7_does 97 = .ok (.iload_n 2, 1) := by decide +kernel
theorem dX7_does_98 : decode cX7_does 98 = .ok (.iload_n 3, 1) := by decide +kernel
theorem dX7_does_99 : decode cX7_does 99 = .ok (.invokevirtual 74, 3) := by decide +kernel
theorem dX7_does_102 : decode cX7_does 102 = .ok (.pop, 1) := by decide +kernel
theorem dX7_does_103 : decode cX7_does 103 = .ok (.goto 56, 3) := by decide +kernel
theorem dX7_does_106 : decode cX7_does 106 = .ok (.aload_n 0, 1) := by decide +kernel
theorem dX7_does_107 : decode cX7_does 107 = .ok (.iload_n 2, 1) := by decide +kernel
theorem dX7_does_108 : decode cX7_does 108 = .ok (.bipush (-6), 2) := by decide +kernel
theorem dX7_does_110 : decode cX7_does 110 = .ok (.invokevirtual 83, 3) := by decide +kernel
theorem dX7_does_113 : decode cX7_does 113 = .ok (.pop, 1) := by decide +kernel
theorem dX7_does_114 : decode cX7_does 114 = .ok (.goto 45, 3) := by decide +kernel
theorem dX7_does_117 : decode cX7_does 117 = .ok (.aload_n 0, 1) := by decide +kernel
theorem dX7_does_118 : decode cX7_does 118 = .ok (.iload_n 2, 1) := by decide +kernel
theorem dX7_does_119 : decode cX7_does 119 = .ok (.invokevirtual 92, 3) := by decide +kernel
theorem dX7_does_122 : decode cX7_does 122 = .ok (.pop, 1) := by decide +kernel
theorem dX7_does_123 : decode cX7_does 123 = .ok (.goto 36, 3) := by decide +kernel
theorem dX7_does_126 : decode cX7_does 126 = .ok (.aload_n 0, 1) := by decide +kernel
theorem dX7_does_127 : decode cX7_does 127 = .ok (.iload_n 2, 1) := by decide +kernel
theorem dX7_does_128 : decode cX7_does 128 = .ok (.invokevirtual 105, 3) := by decide +kernel
theorem dX7_does_131 : decode cX7_does 131 = .ok (.pop, 1) := by decide +kernel
theorem dX7_does_132 : decode cX7_does 132 = .ok (.goto 27, 3) := by decide +kernel
theorem dX7_does_135 : decode cX7_does 135 = .ok (.aload_n 0, 1) := by decide +kernel
theorem dX7_does_136 : decode cX7_does 136 = .ok (.iload_n 2, 1) := by decide +kernel
theorem dX7_does_137 : decode cX7_does 137 = .ok (.invokevirtual 126, 3) := by decide +kernel
theorem dX7_does_140 : decode cX7_does 140 = .ok (.pop, 1) := by decide +kernel
theorem dX7_does_141 : decode cX7_does 141 = .ok (.goto 18, 3) := by decide +kernel
theorem dX7_does_144 : decode cX7_does 144 = .ok (.aload_n 0, 1) := by decide +kernel
theorem dX7_does_145 : decode cX7_does 145 = .ok (.iload_n 2, 1) := by decide +kernel
theorem dX7_does_146 : decode cX7_does 146 = .ok (.invokevirtual 114, 3) := by decide +kernel
theorem dX7_does_149 : decode cX7_does 149 = .ok (.pop, 1) := by decide +kernel
theorem dX7_does_150 : decode cX7_does 150 = .ok (.goto 9, 3) := by decide +kernel
theorem dX7_does_153 : decode cX7_does 153 = .ok (.aload_n 0, 1) := by decide +kernel
theorem dX7_does_154 : decode cX7_does 154 = .ok (.iload_n 2, 1) := by decide +kernel
theorem dX7_does_155 : decode cX7_does 155 = .ok (.invokevirtual 120, 3) := by decide +kernel
theorem dX7_does_158 : decode cX7_does 158 = .ok (.pop, 1) := by decide +kernel
theorem dX7_does_159 : decode cX7_does 159 = .ok (.return_, 1) := by decide +kernel
theorem dX7_carryOut_0 : decode cX7_carryOut 0 = .ok (.aload_n 0, 1) := by decide +kernel
theorem dX7_carryOut_1 : decode cX7_carryOut 1 = .ok (.iconst 0, 1) := by decide +kernel
theorem dX7_carryOut_2 : decode cX7_carryOut 2 = .ok (.putfield 29, 3) := by decide +kernel
theorem dX7_carryOut_5 : decode cX7_carryOut 5 = .ok (.aload_n 0, 1) := by decide +kernel
theorem dX7_carryOut_6 : decode cX7_carryOut 6 = .ok (.invokevirtual 173, 3) := by decide +kernel
theorem dX7_carryOut_9 : decode cX7_carryOut 9 = .ok (.bipush (-6), 2) := by decide +kernel
theorem dX7_carryOut_11 : decode cX7_carryOut 11 = .ok (.if_icmp .eq 6, 3) := by decide +kernel
theorem dX7_carryOut_14 : decode cX7_carryOut 14 = .ok (.bipush (-3), 2) := by decide +kernel
theorem dX7_carryOut_16 : decode cX7_carryOut 16 = .ok (.ireturn, 1) := by decide +kernel
theorem dX7_carryOut_17 : decode cX7_carryOut 17 = .ok (.aload_n 0, 1) := by decide +kernel
theorem dX7_carryOut_18 : decode cX7_carryOut 18 = .ok (.invokevirtual 60, 3) := by decide +kernel
theorem dX7_carryOut_21 : decode cX7_carryOut 21 = .ok (.aload_n 0, 1) := by decide +kernel
theorem dX7_carryOut_22 : decode cX7_carryOut 22 = .ok (.iconst 0, 1) := by decide +kernel
theorem dX7_carryOut_23 : decode cX7_carryOut 23 = .ok (.putfield 146, 3) := by decide +kernel
theorem dX7_carryOut_26 : decode cX7_carryOut 26 = .ok (.iconst 0, 1) := by decide +kernel
theorem dX7_carryOut_27 : decode cX7_carryOut 27 = .ok (.istore_n 1, 1) := by decide +kernel
theorem dX7_carryOut_28 : decode cX7_carryOut 28 = .ok (.iload_n 1, 1) := by decide +kernel
theorem dX7_carryOut_29 : decode cX7_carryOut 29 = .ok (.aload_n 0, 1) := by decide +kernel
theorem dX7_carryOut_30 : decode cX7_carryOut 30 = .ok (.getfield 164, 3) := by decide +kernel
theorem dX7_carryOut_33 : decode cX7_carryOut 33 = .ok (.if_icmp .ge 76, 3) := by decide +kernel
theorem dX7_carryOut_36 : decode cX7_carryOut 36 = .ok (.aload_n 0, 1) := by decide +kernel
theorem dX7_carryOut_37 : decode cX7_carryOut 37 = .ok (.aload_n 0, 1) := by decide +kernel
theorem dX7_carryOut_38 : decode cX7_carryOut 38 = .ok (.getfield 26, 3) := by decide +kernel
theorem dX7_carryOut_41 : decode cX7_carryOut 41 = .ok (.iconst 3, 1) := by decide +kernel
theorem dX7_carryOut_42 : decode cX7_carryOut 42 = .ok (.iload_n 1, 1) := by decide +kernel
theorem dX7_carryOut_43 : decode cX7_carryOut 43 = .ok (.imul, 1) := by decide +kernel
theorem dX7_carryOut_44 : decode cX7_carryOut 44 = .ok (.iaload, 1) := by decide +kernel
theorem dX7_carryOut_45 : decode cX7_carryOut 45 = .ok (.aload_n 0, 1) := by decide +kernel
theorem dX7_carryOut_46 : decode cX7_carryOut 46 = .ok (.getfield 26, 3) := by decide +kernel
theorem dX7_carryOut_49 : decode cX7_carryOut 49 = .ok (.iconst 3, 1) := by decide +kernel
theorem dX7_carryOut_50 : decode cX7_carryOut 50 = .ok (.iload_n 1, 1) := by decide +kernel
theorem dX7_carryOut_51 : decode cX7_carryOut 51 = .ok (.imul, 1) := by decide +kernel
theorem dX7_carryOut_52 : decode cX7_carryOut 52 = .ok (.iconst 1, 1) := by decide +kernel
theorem dX7_carryOut_53 : decode cX7_carryOut 53 = .ok (.iadd, 1) := by decide +kernel
theorem dX7_carryOut_54 : decode cX7_carryOut 54 = .ok (.iaload, 1) := by decide +kernel
theorem dX7_carryOut_55 : decode cX7_carryOut 55 = .ok (.aload_n 0, 1) := by decide +kernel
theorem dX7_carryOut_56 : decode cX7_carryOut 56 = .ok (.getfield 26, 3) := by decide +kernel
theorem dX7_carryOut_59 : decode cX7_carryOut 59 = .ok (.iconst 3, 1) := by decide +kernel
theorem dX7_carryOut_60 : decode cX7_carryOut 60 = .ok (.iload_n 1, 1) := by decide +kernel
theorem dX7_carryOut_61 : decode cX7_carryOut 61 = .ok (.imul, 1) := by decide +kernel
theorem dX7_carryOut_62 : decode cX7_carryOut 62 = .ok (.iconst 2, 1) := by decide +kernel
theorem dX7_carryOut_63 : decode cX7_carryOut 63 = .ok (.iadd, 1) := by decide +kernel
theorem dX7_carryOut_64 : decode cX7_carryOut 64 = .ok (.iaload, 1) := by decide +kernel
theorem dX7_carryOut_65 : decode cX7_carryOut 65 = .ok (.invokevirtual 176, 3) := by decide +kernel
theorem dX7_carryOut_68 : decode cX7_carryOut 68 = .ok (.ifCond .ne 41, 3) := by decide +kernel
theorem dX7_carryOut_71 : decode cX7_carryOut 71 = .ok (.aload_n 0, 1) := by decide +kernel
theorem dX7_carryOut_72 : decode cX7_carryOut 72 = .ok (.aload_n 0, 1) := by decide +kernel
theorem dX7_carryOut_73 : decode cX7_carryOut 73 = .ok (.getfield 26, 3) := by decide +kernel
theorem dX7_carryOut_76 : decode cX7_carryOut 76 = .ok (.iconst 3, 1) := by decide +kernel
theorem dX7_carryOut_77 : decode cX7_carryOut 77 = .ok (.iload_n 1, 1) := by decide +kernel
theorem dX7_carryOut_78 : decode cX7_carryOut 78 = .ok (.imul, 1) := by decide +kernel
theorem dX7_carryOut_79 : decode cX7_carryOut 79 = .ok (.iaload, 1) := by decide +kernel
theorem dX7_carryOut_80 : decode cX7_carryOut 80 = .ok (.aload_n 0, 1) := by decide +kernel
theorem dX7_carryOut_81 : decode cX7_carryOut 81 = .ok (.getfield 26, 3) := by decide +kernel
theorem dX7_carryOut_84 : decode cX7_carryOut 84 = .ok (.iconst 3, 1) := by decide +kernel
theorem dX7_carryOut_85 : decode cX7_carryOut 85 = .ok (.iload_n 1, 1) := by decide +kernel
theorem dX7_carryOut_86 : decode cX7_carryOut 86 = .ok (.imul, 1) := by decide +kernel
theorem dX7_carryOut_87 : decode cX7_carryOut 87 = .ok (.iconst 1, 1) := by decide +kernel
theorem dX7_carryOut_88 : decode cX7_carryOut 88 = .ok (.iadd, 1) := by decide +kernel
theorem dX7_carryOut_89 : decode cX7_carryOut 89 = .ok (.iaload, 1) := by decide +kernel
theorem dX7_carryOut_90 : decode cX7_carryOut 90 = .ok (.aload_n 0, 1) := by decide +kernel
theorem dX7_carryOut_91 : decode cX7_carryOut 91 = .ok (.getfield 26, 3) := by decide +kernel
theorem dX7_carryOut_94 : decode cX7_carryOut 94 = .ok (.iconst 3, 1) := by decide +kernel
theorem dX7_carryOut_95 : decode cX7_carryOut 95 = .ok (.iload_n 1, 1) := by decide +kernel
theorem dX7_carryOut_96 : decode cX7_carryOut 96 = .ok (.imul, 1) := by decide +kernel
theorem dX7_carryOut_97 : decode cX7_carryOut 97 = .ok (.iconst 2, 1) := by decide +kernel
theorem dX7_carryOut_98 : decode cX7_carryOut 98 = .ok (.iadd, 1) := by decide +kernel
theorem dX7_carryOut_99 : decode cX7_carryOut 99 = .ok (.iaload, 1) := by decide +kernel
theorem dX7_carryOut_100 : decode cX7_carryOut 100 = .ok (.invokevirtual 180, 3) := by decide +kernel
theorem dX7_carryOut_103 : decode cX7_carryOut 103 = .ok (.iinc 1 1, 3) := by decide +kernel
theorem dX7_carryOut_106 : decode cX7_carryOut 106 = .ok (.goto (-78), 3) := by decide +kernel
theorem dX7_carryOut_109 : decode cX7_carryOut 109 = .ok (.iload_n 1, 1) := by decide +kernel
theorem dX7_carryOut_110 : decode cX7_carryOut 110 = .ok (.ireturn, 1) := by decide +kernel
theorem dX7_undo_0 : decode cX7_undo 0 = .ok (.aload_n 0, 1) := by decide +kernel
theorem dX7_undo_1 : decode cX7_undo 1 = .ok (.iconst 0, 1) := by decide +kernel
theorem dX7_undo_2 : decode cX7_undo 2 = .ok (.putfield 29, 3) := by decide +kernel
theorem dX7_undo_5 : decode cX7_undo 5 = .ok (.aload_n 0, 1) := by decide +kernel
theorem dX7_undo_6 : decode cX7_undo 6 = .ok (.getfield 37, 3) := by decide +kernel
theorem dX7_undo_9 : decode cX7_undo 9 = .ok (.ifCond .ne 6, 3) := by decide +kernel
theorem dX7_undo_12 : decode cX7_undo 12 = .ok (.bipush (-5), 2) := by decide +kernel
theorem dX7_undo_14 : decode cX7_undo 14 = .ok (.ireturn, 1) := by decide +kernel
theorem dX7_undo_15 : decode cX7_undo 15 = .ok (.aload_n 0, 1) := by decide +kernel
theorem dX7_undo_16 : decode cX7_undo 16 = .ok (.dup, 1) := by decide +kernel
theorem dX7_undo_17 : decode cX7_undo 17 = .ok (.getfield 37, 3) := by decide +kernel
theorem dX7_undo_20 : decode cX7_undo 20 = .ok (.iconst 1, 1) := by decide +kernel
theorem dX7_undo_21 : decode cX7_undo 21 = .ok (.isub, 1) := by decide +kernel
theorem dX7_undo_22 : decode cX7_undo 22 = .ok (.putfield 37, 3) := by decide +kernel
theorem dX7_undo_25 : decode cX7_undo 25 = .ok (.iconst 0, 1) := by decide +kernel
theorem dX7_undo_26 : decode cX7_undo 26 = .ok (.istore_n 1, 1) := by decide +kernel
theorem dX7_undo_27 : decode cX7_undo 27 = .ok (.iload_n 1, 1) := by decide +kernel
theorem dX7_undo_28 : decode cX7_undo 28 = .ok (.sipush 150, 3) := by decide +kernel
theorem dX7_undo_31 : decode cX7_undo 31 = .ok (.if_icmp .ge 30, 3) := by decide +kernel
theorem dX7_undo_34 : decode cX7_undo 34 = .ok (.aload_n 0, 1) := by decide +kernel
theorem dX7_undo_35 : decode cX7_undo 35 = .ok (.getfield 7, 3) := by decide +kernel
theorem dX7_undo_38 : decode cX7_undo 38 = .ok (.iload_n 1, 1) := by decide +kernel
theorem dX7_undo_39 : decode cX7_undo 39 = .ok (.aload_n 0, 1) := by decide +kernel
theorem dX7_undo_40 : decode cX7_undo 40 = .ok (.getfield 13, 3) := by decide +kernel
theorem dX7_undo_43 : decode cX7_undo 43 = .ok (.sipush 150, 3) := by decide +kernel
theorem dX7_undo_46 : decode cX7_undo 46 = .ok (.aload_n 0, 1) := by decide +kernel
theorem dX7_undo_47 : decode cX7_undo 47 = .ok (.getfield 37, 3) := by decide +kernel
theorem dX7_undo_50 : decode cX7_undo 50 = .ok (.imul, 1) := by decide +kernel
theorem dX7_undo_51 : decode cX7_undo 51 = .ok (.iload_n 1, 1) := by decide +kernel
theorem dX7_undo_52 : decode cX7_undo 52 = .ok (.iadd, 1) := by decide +kernel
theorem dX7_undo_53 : decode cX7_undo 53 = .ok (.iaload, 1) := by decide +kernel
theorem dX7_undo_54 : decode cX7_undo 54 = .ok (.iastore, 1) := by decide +kernel
theorem dX7_undo_55 : decode cX7_undo 55 = .ok (.iinc 1 1, 3) := by decide +kernel
theorem dX7_undo_58 : decode cX7_undo 58 = .ok (.goto (-31), 3) := by decide +kernel
theorem dX7_undo_61 : decode cX7_undo 61 = .ok (.aload_n 0, 1) := by decide +kernel
theorem dX7_undo_62 : decode cX7_undo 62 = .ok (.getfield 37, 3) := by decide +kernel
theorem dX7_undo_65 : decode cX7_undo 65 = .ok (.ireturn, 1) := by decide +kernel
theorem dX7_save_0 : decode cX7_save 0 = .ok (.aload_n 0, 1) := by decide +kernel
theorem dX7_save_1 : decode cX7_save 1 = .ok (.iconst 0, 1) := by decide +kernel
theorem dX7_save_2 : decode cX7_save 2 = .ok (.putfield 29, 3) := by decide +kernel
theorem dX7_save_5 : decode cX7_save 5 = .ok (.iload_n 1, 1) := by decide +kernel
theorem dX7_save_6 : decode cX7_save 6 = .ok (.iconst 0, 1) := by decide +kernel
theorem dX7_save_7 : decode cX7_save 7 = .ok (.iconst 1, 1) := by decide +kernel
theorem dX7_save_8 : decode cX7_save 8 = .ok (.invokestatic 33, 3) := by decide +kernel
theorem dX7_save_11 : decode cX7_save 11 = .ok (.ifCond .ne 6, 3) := by decide +kernel
theorem dX7_save_14 : decode cX7_save 14 = .ok (.bipush (-2), 2) := by decide +kernel
theorem dX7_save_16 : decode cX7_save 16 = .ok (.ireturn, 1) := by decide +kernel
theorem dX7_save_17 : decode cX7_save 17 = .ok (.iconst 0, 1) := by decide +kernel
theorem dX7_save_18 : decode cX7_save 18 = .ok (.istore_n 2, 1) := by decide +kernel
theorem dX7_save_19 : decode cX7_save 19 = .ok (.iload_n 2, 1) := by decide +kernel
theorem dX7_save_20 : decode cX7_save 20 = .ok (.sipush 150, 3) := by decide +kernel
theorem dX7_save_23 : decode cX7_save 23 = .ok (.if_icmp .ge 27, 3) := by decide +kernel
theorem dX7_save_26 : decode cX7_save 26 = .ok (.aload_n 0, 1) := by decide +kernel
theorem dX7_save_27 : decode cX7_save 27 = .ok (.getfield 16, 3) := by decide +kernel
theorem dX7_save_30 : decode cX7_save 30 = .ok (.sipush 150, 3) := by decide +kernel
theorem dX7_save_33 : decode cX7_save 33 = .ok (.iload_n 1, 1) := by decide +kernel
theorem dX7_save_34 : decode cX7_save 34 = .ok (.imul, 1) := by decide +kernel
theorem dX7_save_35 : decode cX7_save 35 = .ok (.iload_n 2, 1) := by decide +kernel
theorem dX7_save_36 : decode cX7_save 36 = .ok (.iadd, 1) := by decide +kernel
theorem dX7_save_37 : decode cX7_save 37 = .ok (.aload_n 0, 1) := by decide +kernel
theorem dX7_save_38 : decode cX7_save 38 = .ok (.getfield 7, 3) := by decide +kernel
theorem dX7_save_41 : decode cX7_save 41 = .ok (.iload_n 2, 1) := by decide +kernel
theorem dX7_save_42 : decode cX7_save 42 = .ok (.iaload, 1) := by decide +kernel
theorem dX7_save_43 : decode cX7_save 43 = .ok (.iastore, 1) := by decide +kernel
theorem dX7_save_44 : decode cX7_save 44 = .ok (.iinc 2 1, 3) := by decide +kernel
theorem dX7_save_47 : decode cX7_save 47 = .ok (.goto (-28), 3) := by decide +kernel
theorem dX7_save_50 : decode cX7_save 50 = .ok (.aload_n 0, 1) := by decide +kernel
theorem dX7_save_51 : decode cX7_save 51 = .ok (.getfield 19, 3) := by decide +kernel
theorem dX7_save_54 : decode cX7_save 54 = .ok (.iload_n 1, 1) := by decide +kernel
theorem dX7_save_55 : decode cX7_save 55 = .ok (.iconst 1, 1) := by decide +kernel
theorem dX7_save_56 : decode cX7_save 56 = .ok (.bastore, 1) := by decide +kernel
theorem dX7_save_57 : decode cX7_save 57 = .ok (.aload_n 0, 1) := by decide +kernel
theorem dX7_save_58 : decode cX7_save 58 = .ok (.getfield 7, 3) := by decide +kernel
theorem dX7_save_61 : decode cX7_save 61 = .ok (.iconst 5, 1) := by decide +kernel
theorem dX7_save_62 : decode cX7_save 62 = .ok (.iaload, 1) := by decide +kernel
theorem dX7_save_63 : decode cX7_save 63 = .ok (.ireturn, 1) := by decide +kernel
theorem dX7_restore_0 : decode cX7_restore 0 = .ok (.aload_n 0, 1) := by decide +kernel
theorem dX7_restore_1 : decode cX7_restore 1 = .ok (.iconst 0, 1) := by decide +kernel
theorem dX7_restore_2 : decode cX7_restore 2 = .ok (.putfield 29, 3) := by decide +kernel
theorem dX7_restore_5 : decode cX7_restore 5 = .ok (.iload_n 1, 1) := by decide +kernel
theorem dX7_restore_6 : decode cX7_restore 6 = .ok (.iconst 0, 1) := by decide +kernel
theorem dX7_restore_7 : decode cX7_restore 7 = .ok (.iconst 1, 1) := by decide +kernel
theorem dX7_restore_8 : decode cX7_restore 8 = .ok (.invokestatic 33, 3) := by decide +kernel
theorem dX7_restore_11 : decode cX7_restore 11 = .ok (.ifCond .ne 6, 3) := by decide +kernel
theorem dX7_restore_14 : decode cX7_restore 14 = .ok (.bipush (-2), 2) := by decide +kernel
theorem dX7_restore_16 : decode cX7_restore 16 = .ok (.ireturn, 1) := by decide +kernel
theorem dX7_restore_17 : decode cX7_restore 17 = .ok (.aload_n 0, 1) := by decide +kernel
theorem dX7_restore_18 : decode cX7_restore 18 = .ok (.getfield 19, 3) := by decide +kernel
theorem dX7_restore_21 : decode cX7_restore 21 = .ok (.iload_n 1, 1) := by decide +kernel
theorem dX7_restore_22 : decode cX7_restore 22 = .ok (.baload, 1) := by decide +kernel
theorem dX7_restore_23 : decode cX7_restore 23 = .ok (.ifCond .ne 6, 3) := by decide +kernel
theorem dX7_restore_26 : decode cX7_restore 26 = .ok (.bipush (-5), 2) := by decide +kernel
theorem dX7_restore_28 : decode cX7_restore 28 = .ok (.ireturn, 1) := by decide +kernel
theorem dX7_restore_29 : decode cX7_restore 29 = .ok (.aload_n 0, 1) := by decide +kernel
theorem dX7_restore_30 : decode cX7_restore 30 = .ok (.invokevirtual 60, 3) := by decide +kernel
theorem dX7_restore_33 : decode cX7_restore 33 = .ok (.iconst 0, 1) := by decide +kernel
theorem dX7_restore_34 : decode cX7_restore 34 = .ok (.istore_n 2, 1) := by decide +kernel
theorem dX7_restore_35 : decode cX7_restore 35 = .ok (.iload_n 2, 1) := by decide +kernel
theorem dX7_restore_36 : decode cX7_restore 36 = .ok (.sipush 150, 3) := by decide +kernel
theorem dX7_restore_39 : decode cX7_restore 39 = .ok (.if_icmp .ge 27, 3) := by decide +kernel
theorem dX7_restore_42 : decode cX7_restore 42 = .ok (.aload_n 0, 1) := by decide +kernel
theorem dX7_restore_43 : decode cX7_restore 43 = .ok (.getfield 7, 3) := by decide +kernel
theorem dX7_restore_46 : decode cX7_restore 46 = .ok (.iload_n 2, 1) := by decide +kernel
theorem dX7_restore_47 : decode cX7_restore 47 = .ok (.aload_n 0, 1) := by decide +kernel
theorem dX7_restore_48 : decode cX7_restore 48 = .ok (.getfield 16, 3) := by decide +kernel
theorem dX7_restore_51 : decode cX7_restore 51 = .ok (.sipush 150, 3) := by decide +kernel
theorem dX7_restore_54 : decode cX7_restore 54 = .ok (.iload_n 1, 1) := by decide +kernel
theorem dX7_restore_55 : decode cX7_restore 55 = .ok (.imul, 1) := by decide +kernel
theorem dX7_restore_56 : decode cX7_restore 56 = .ok (.iload_n 2, 1) := by decide +kernel
theorem dX7_restore_57 : decode cX7_restore 57 = .ok (.iadd, 1) := by decide +kernel
theorem dX7_restore_58 : decode cX7_restore 58 = .ok (.iaload, 1) := by decide +kernel
theorem dX7_restore_59 : decode cX7_restore 59 = .ok (.iastore, 1) := by decide +kernel
theorem dX7_restore_60 : decode cX7_restore 60 = .ok (.iinc 2 1, 3) := by decide +kernel
theorem dX7_restore_63 : decode cX7_restore 63 = .ok (.goto (-28), 3) := by decide +kernel
theorem dX7_restore_66 : decode cX7_restore 66 = .ok (.aload_n 0, 1) := by decide +kernel
theorem dX7_restore_67 : decode cX7_restore 67 = .ok (.getfield 7, 3) := by decide +kernel
theorem dX7_restore_70 : decode cX7_restore 70 = .ok (.iconst 5, 1) := by decide +kernel
theorem dX7_restore_71 : decode cX7_restore 71 = .ok (.iaload, 1) := by decide +kernel
theorem dX7_restore_72 : decode cX7_restore 72 = .ok (.ireturn, 1) := by decide +kernel
