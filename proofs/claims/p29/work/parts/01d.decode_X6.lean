theorem dX6_init_0 : decode cX6_init 0 = .ok (.aload_n 0, 1) := by decide +kernel
theorem dX6_init_1 : decode cX6_init 1 = .ok (.invokespecial 1, 3) := by decide +kernel
theorem dX6_init_4 : decode cX6_init 4 = .ok (.aload_n 0, 1) := by decide +kernel
theorem dX6_init_5 : decode cX6_init 5 = .ok (.new 7, 3) := by decide +kernel
theorem dX6_init_8 : decode cX6_init 8 = .ok (.dup, 1) := by decide +kernel
theorem dX6_init_9 : decode cX6_init 9 = .ok (.invokespecial 9, 3) := by decide +kernel
theorem dX6_init_12 : decode cX6_init 12 = .ok (.putfield 10, 3) := by decide +kernel
theorem dX6_init_15 : decode cX6_init 15 = .ok (.aload_n 0, 1) := by decide +kernel
theorem dX6_init_16 : decode cX6_init 16 = .ok (.new 16, 3) := by decide +kernel
theorem dX6_init_19 : decode cX6_init 19 = .ok (.dup, 1) := by decide +kernel
theorem dX6_init_20 : decode cX6_init 20 = .ok (.invokespecial 18, 3) := by decide +kernel
theorem dX6_init_23 : decode cX6_init 23 = .ok (.putfield 19, 3) := by decide +kernel
theorem dX6_init_26 : decode cX6_init 26 = .ok (.aload_n 0, 1) := by decide +kernel
theorem dX6_init_27 : decode cX6_init 27 = .ok (.new 23, 3) := by decide +kernel
theorem dX6_init_30 : decode cX6_init 30 = .ok (.dup, 1) := by decide +kernel
theorem dX6_init_31 : decode cX6_init 31 = .ok (.invokespecial 25, 3) := by decide +kernel
theorem dX6_init_34 : decode cX6_init 34 = .ok (.putfield 26, 3) := by decide +kernel
theorem dX6_init_37 : decode cX6_init 37 = .ok (.aload_n 0, 1) := by decide +kernel
theorem dX6_init_38 : decode cX6_init 38 = .ok (.new 30, 3) := by decide +kernel
theorem dX6_init_41 : decode cX6_init 41 = .ok (.dup, 1) := by decide +kernel
theorem dX6_init_42 : decode cX6_init 42 = .ok (.invokespecial 32, 3) := by decide +kernel
theorem dX6_init_45 : decode cX6_init 45 = .ok (.putfield 33, 3) := by decide +kernel
theorem dX6_init_48 : decode cX6_init 48 = .ok (.return_, 1) := by decide +kernel
theorem dX6_set_0 : decode cX6_set 0 = .ok (.aload_n 0, 1) := by decide +kernel
theorem dX6_set_1 : decode cX6_set 1 = .ok (.getfield 19, 3) := by decide +kernel
theorem dX6_set_4 : decode cX6_set 4 = .ok (.aload_n 0, 1) := by decide +kernel
theorem dX6_set_5 : decode cX6_set 5 = .ok (.getfield 10, 3) := by decide +kernel
theorem dX6_set_8 : decode cX6_set 8 = .ok (.invokevirtual 37, 3) := by decide +kernel
theorem dX6_set_11 : decode cX6_set 11 = .ok (.aload_n 0, 1) := by decide +kernel
theorem dX6_set_12 : decode cX6_set 12 = .ok (.aload_n 0, 1) := by decide +kernel
theorem dX6_set_13 : decode cX6_set 13 = .ok (.getfield 10, 3) := by decide +kernel
theorem dX6_set_16 : decode cX6_set 16 = .ok (.iload_n 1, 1) := by decide +kernel
theorem dX6_set_17 : decode cX6_set 17 = .ok (.iload_n 2, 1) := by decide +kernel
theorem dX6_set_18 : decode cX6_set 18 = .ok (.invokevirtual 41, 3) := by decide +kernel
theorem dX6_set_21 : decode cX6_set 21 = .ok (.invokevirtual 45, 3) := by decide +kernel
theorem dX6_set_24 : decode cX6_set 24 = .ok (.ireturn, 1) := by decide +kernel
theorem dX6_guest_0 : decode cX6_guest 0 = .ok (.aload_n 0, 1) := by decide +kernel
theorem dX6_guest_1 : decode cX6_guest 1 = .ok (.getfield 19, 3) := by decide +kernel
theorem dX6_guest_4 : decode cX6_guest 4 = .ok (.aload_n 0, 1) := by decide +kernel
theorem dX6_guest_5 : decode cX6_guest 5 = .ok (.getfield 10, 3) := by decide +kernel
theorem dX6_guest_8 : decode cX6_guest 8 = .ok (.invokevirtual 37, 3) := by decide +kernel
theorem dX6_guest_11 : decode cX6_guest 11 = .ok (.aload_n 0, 1) := by decide +kernel
theorem dX6_guest_12 : decode cX6_guest 12 = .ok (.aload_n 0, 1) := by decide +kernel
theorem dX6_guest_13 : decode cX6_guest 13 = .ok (.getfield 10, 3) := by decide +kernel
theorem dX6_guest_16 : decode cX6_guest 16 = .ok (.iload_n 1, 1) := by decide +kernel
theorem dX6_guest_17 : decode cX6_guest 17 = .ok (.iload_n 2, 1) := by decide +kernel
theorem dX6_guest_18 : decode cX6_guest 18 = .ok (.invokevirtual 49, 3) := by decide +kernel
theorem dX6_guest_21 : decode cX6_guest 21 = .ok (.invokevirtual 45, 3) := by decide +kernel
theorem dX6_guest_24 : decode cX6_guest 24 = .ok (.ireturn, 1) := by decide +kernel
theorem dX6_leave_0 : decode cX6_leave 0 = .ok (.aload_n 0, 1) := by decide +kernel
theorem dX6_leave_1 : decode cX6_leave 1 = .ok (.getfield 19, 3) := by decide +kernel
theorem dX6_leave_4 : decode cX6_leave 4 = .ok (.aload_n 0, 1) := by decide +kernel
theorem dX6_leave_5 : decode cX6_leave 5 = .ok (.getfield 10, 3) := by decide +kernel
theorem dX6_leave_8 : decode cX6_leave 8 = .ok (.invokevirtual 37, 3) := by decide +kernel
theorem dX6_leave_11 : decode cX6_leave 11 = .ok (.aload_n 0, 1) := by decide +kernel
theorem dX6_leave_12 : decode cX6_leave 12 = .ok (.aload_n 0, 1) := by decide +kernel
theorem dX6_leave_13 : decode cX6_leave 13 = .ok (.getfield 10, 3) := by decide +kernel
theorem dX6_leave_16 : decode cX6_leave 16 = .ok (.iload_n 1, 1) := by decide +kernel
theorem dX6_leave_17 : decode cX6_leave 17 = .ok (.invokevirtual 52, 3) := by decide +kernel
theorem dX6_leave_20 : decode cX6_leave 20 = .ok (.invokevirtual 45, 3) := by decide +kernel
theorem dX6_leave_23 : decode cX6_leave 23 = .ok (.ireturn, 1) := by decide +kernel
theorem dX6_move_0 : decode cX6_move 0 = .ok (.aload_n 0, 1) := by decide +kernel
theorem dX6_move_1 : decode cX6_move 1 = .ok (.getfield 19, 3) := by decide +kernel
theorem dX6_move_4 : decode cX6_move 4 = .ok (.aload_n 0, 1) := by decide +kernel
theorem dX6_move_5 : decode cX6_move 5 = .ok (.getfield 10, 3) := by decide +kernel
theorem dX6_move_8 : decode cX6_move 8 = .ok (.invokevirtual 37, 3) := by decide +kernel
theorem dX6_move_11 : decode cX6_move 11 = .ok (.aload_n 0, 1) := by decide +kernel
theorem dX6_move_12 : decode cX6_move 12 = .ok (.aload_n 0, 1) := by decide +kernel
theorem dX6_move_13 : decode cX6_move 13 = .ok (.getfield 10, 3) := by decide +kernel
theorem dX6_move_16 : decode cX6_move 16 = .ok (.iload_n 1, 1) := by decide +kernel
theorem dX6_move_17 : decode cX6_move 17 = .ok (.iload_n 2, 1) := by decide +kernel
theorem dX6_move_18 : decode cX6_move 18 = .ok (.invokevirtual 55, 3) := by decide +kernel
theorem dX6_move_21 : decode cX6_move 21 = .ok (.invokevirtual 45, 3) := by decide +kernel
theorem dX6_move_24 : decode cX6_move 24 = .ok (.ireturn, 1) := by decide +kernel
theorem dX6_pause_0 : decode cX6_pause 0 = .ok (.aload_n 0, 1) := by decide +kernel
theorem dX6_pause_1 : decode cX6_pause 1 = .ok (.getfield 19, 3) := by decide +kernel
theorem dX6_pause_4 : decode cX6_pause 4 = .ok (.aload_n 0, 1) := by decide +kernel
theorem dX6_pause_5 : decode cX6_pause 5 = .ok (.getfield 10, 3) := by decide +kernel
theorem dX6_pause_8 : decode cX6_pause 8 = .ok (.invokevirtual 37, 3) := by decide +kernel
theorem dX6_pause_11 : decode cX6_pause 11 = .ok (.aload_n 0, 1) := by decide +kernel
theorem dX6_pause_12 : decode cX6_pause 12 = .ok (.aload_n 0, 1) := by decide +kernel
theorem dX6_pause_13 : decode cX6_pause 13 = .ok (.getfield 10, 3) := by decide +kernel
theorem dX6_pause_16 : decode cX6_pause 16 = .ok (.iload_n 1, 1) := by decide +kernel
theorem dX6_pause_17 : decode cX6_pause 17 = .ok (.invokevirtual 58, 3) := by decide +kernel
theorem dX6_pause_20 : decode cX6_pause 20 = .ok (.invokevirtual 45, 3) := by decide +kernel
theorem dX6_pause_23 : decode cX6_pause 23 = .ok (.ireturn, 1) := by decide +kernel
theorem dX6_close_0 : decode cX6_close 0 = .ok (.aload_n 0, 1) := by decide +kernel
theorem dX6_close_1 : decode cX6_close 1 = .ok (.getfield 19, 3) := by decide +kernel
theorem dX6_close_4 : decode cX6_close 4 = .ok (.aload_n 0, 1) := by decide +kernel
theorem dX6_close_5 : decode cX6_close 5 = .ok (.getfield 10, 3) := by decide +kernel
theorem dX6_close_8 : decode cX6_close 8 = .ok (.invokevirtual 37, 3) := by decide +kernel
theorem dX6_close_11 : decode cX6_close 11 = .ok (.aload_n 0, 1) := by decide +kernel
theorem dX6_close_12 : decode cX6_close 12 = .ok (.aload_n 0, 1) := by decide +kernel
theorem dX6_close_13 : decode cX6_close 13 = .ok (.getfield 10, 3) := by decide +kernel
theorem dX6_close_16 : decode cX6_close 16 = .ok (.iload_n 1, 1) := by decide +kernel
theorem dX6_close_17 : decode cX6_close 17 = .ok (.invokevirtual 61, 3) := by decide +kernel
theorem dX6_close_20 : decode cX6_close 20 = .ok (.invokevirtual 45, 3) := by decide +kernel
theorem dX6_close_23 : decode cX6_close 23 = .ok (.ireturn, 1) := by decide +kernel
theorem dX6_word_0 : decode cX6_word 0 = .ok (.aload_n 0, 1) := by decide +kernel
theorem dX6_word_1 : decode cX6_word 1 = .ok (.getfield 19, 3) := by decide +kernel
theorem dX6_word_4 : decode cX6_word 4 = .ok (.aload_n 0, 1) := by decide +kernel
theorem dX6_word_5 : decode cX6_word 5 = .ok (.getfield 10, 3) := by decide +kernel
theorem dX6_word_8 : decode cX6_word 8 = .ok (.invokevirtual 37, 3) := by decide +kernel
theorem dX6_word_11 : decode cX6_word 11 = .ok (.aload_n 0, 1) := by decide +kernel
theorem dX6_word_12 : decode cX6_word 12 = .ok (.aload_n 0, 1) := by decide +kernel
theorem dX6_word_13 : decode cX6_word 13 = .ok (.getfield 10, 3) := by decide +kernel
theorem dX6_word_16 : decode cX6_word 16 = .ok (.iload_n 1, 1) := by decide +kernel
theorem dX6_word_17 : decode cX6_word 17 = .ok (.invokevirtual 64, 3) := by decide +kernel
theorem dX6_word_20 : decode cX6_word 20 = .ok (.invokevirtual 45, 3) := by decide +kernel
theorem dX6_word_23 : decode cX6_word 23 = .ok (.ireturn, 1) := by decide +kernel
theorem dX6_cough_0 : decode cX6_cough 0 = .ok (.aload_n 0, 1) := by decide +kernel
theorem dX6_cough_1 : decode cX6_cough 1 = .ok (.getfield 19, 3) := by decide +kernel
theorem dX6_cough_4 : decode cX6_cough 4 = .ok (.aload_n 0, 1) := by decide +kernel
theorem dX6_cough_5 : decode cX6_cough 5 = .ok (.getfield 10, 3) := by decide +kernel
theorem dX6_cough_8 : decode cX6_cough 8 = .ok (.invokevirtual 37, 3) := by decide +kernel
theorem dX6_cough_11 : decode cX6_cough 11 = .ok (.aload_n 0, 1) := by decide +kernel
theorem dX6_cough_12 : decode cX6_cough 12 = .ok (.aload_n 0, 1) := by decide +kernel
theorem dX6_cough_13 : decode cX6_cough 13 = .ok (.getfield 10, 3) := by decide +kernel
theorem dX6_cough_16 : decode cX6_cough 16 = .ok (.iload_n 1, 1) := by decide +kernel
theorem dX6_cough_17 : decode cX6_cough 17 = .ok (.invokevirtual 67, 3) := by decide +kernel
theorem dX6_cough_20 : decode cX6_cough 20 = .ok (.invokevirtual 45, 3) := by decide +kernel
theorem dX6_cough_23 : decode cX6_cough 23 = .ok (.ireturn, 1) := by decide +kernel
theorem dX6_pass_0 : decode cX6_pass 0 = .ok (.aload_n 0, 1) := by decide +kernel
theorem dX6_pass_1 : decode cX6_pass 1 = .ok (.getfield 19, 3) := by decide +kernel
theorem dX6_pass_4 : decode cX6_pass 4 = .ok (.aload_n 0, 1) := by decide +kernel
theorem dX6_pass_5 : decode cX6_pass 5 = .ok (.getfield 10, 3) := by decide +kernel
theorem dX6_pass_8 : decode cX6_pass 8 = .ok (.invokevirtual 37, 3) := by decide +kernel
theorem dX6_pass_11 : decode cX6_pass 11 = .ok (.aload_n 0, 1) := by decide +kernel
theorem dX6_pass_12 : decode cX6_pass 12 = .ok (.aload_n 0, 1) := by decide +kernel
theorem dX6_pass_13 : decode cX6_pass 13 = .ok (.getfield 10, 3) := by decide +kernel
theorem dX6_pass_16 : decode cX6_pass 16 = .ok (.iload_n 1, 1) := by decide +kernel
theorem dX6_pass_17 : decode cX6_pass 17 = .ok (.invokevirtual 70, 3) := by decide +kernel
theorem dX6_pass_20 : decode cX6_pass 20 = .ok (.invokevirtual 45, 3) := by decide +kernel
theorem dX6_pass_23 : decode cX6_pass 23 = .ok (.ireturn, 1) := by decide +kernel
theorem dX6_of_0 : decode cX6_of 0 = .ok (.aload_n 0, 1) := by decide +kernel
theorem dX6_of_1 : decode cX6_of 1 = .ok (.getfield 10, 3) := by decide +kernel
theorem dX6_of_4 : decode cX6_of 4 = .ok (.getfield 73, 3) := by decide +kernel
theorem dX6_of_7 : decode cX6_of 7 = .ok (.astore_n 3, 1) := by decide +kernel
theorem dX6_of_8 : decode cX6_of 8 = .ok (.aload_n 3, 1) := by decide +kernel
theorem dX6_of_9 : decode cX6_of 9 = .ok (.iload_n 1, 1) := by decide +kernel
theorem dX6_of_10 : decode cX6_of 10 = .ok (.invokevirtual 77, 3) := by decide +kernel
theorem dX6_of_13 : decode cX6_of 13 = .ok (.ifCond .ne 5, 3) := by decide +kernel
theorem dX6_of_16 : decode cX6_of 16 = .ok (.iconst (-1), 1) := by decide +kernel
theorem dX6_of_17 : decode cX6_of 17 = .ok (.ireturn, 1) := by decide +kernel
theorem dX6_of_18 : decode cX6_of 18 = .ok (.iload_n 2, 1) := by decide +kernel
theorem dX6_of_19 : decode cX6_of 19 = .ok (.tableswitch 97 0 6 #[41, 48, 55, 62, 69, 83, 90], 41) := by decide +kernel
theorem dX6_of_60 : decode cX6_of 60 = .ok (.aload_n 3, 1) := by decide +kernel
theorem dX6_of_61 : decode cX6_of 61 = .ok (.getfield 83, 3) := by decide +kernel
theorem dX6_of_64 : decode cX6_of 64 = .ok (.iload_n 1, 1) := by decide +kernel
theorem dX6_of_65 : decode cX6_of 65 = .ok (.iaload, 1) := by decide +kernel
theorem dX6_of_66 : decode cX6_of 66 = .ok (.ireturn, 1) := by decide +kernel
theorem dX6_of_67 : decode cX6_of 67 = .ok (.aload_n 3, 1) := by decide +kernel
theorem dX6_of_68 : decode cX6_of 68 = .ok (.getfield 87, 3) := by decide +kernel
theorem dX6_of_71 : decode cX6_of 71 = .ok (.iload_n 1, 1) := by decide +kernel
theorem dX6_of_72 : decode cX6_of 72 = .ok (.iaload, 1) := by decide +kernel
theorem dX6_of_73 : decode cX6_of 73 = .ok (.ireturn, 1) := by decide +kernel
theorem dX6_of_74 : decode cX6_of 74 = .ok (.aload_n 3, 1) := by decide +kernel
theorem dX6_of_75 : decode cX6_of 75 = .ok (.getfield 90, 3) := by decide +kernel
theorem dX6_of_78 : decode cX6_of 78 = .ok (.iload_n 1, 1) := by decide +kernel
theorem dX6_of_79 : decode cX6_of 79 = .ok (.iaload, 1) := by decide +kernel
theorem dX6_of_80 : decode cX6_of 80 = .ok (.ireturn, 1) := by decide +kernel
theorem dX6_of_81 : decode cX6_of 81 = .ok (.aload_n 3, 1) := by decide +kernel
theorem dX6_of_82 : decode cX6_of 82 = .ok (.getfield 93, 3) := by decide +kernel
theorem dX6_of_85 : decode cX6_of 85 = .ok (.iload_n 1, 1) := by decide +kernel
theorem dX6_of_86 : decode cX6_of 86 = .ok (.iaload, 1) := by decide +kernel
theorem dX6_of_87 : decode cX6_of 87 = .ok (.ireturn, 1) := by decide +kernel
theorem dX6_of_88 : decode cX6_of 88 = .ok (.aload_n 3, 1) := by decide +kernel
theorem dX6_of_89 : decode cX6_of 89 = .ok (.iload_n 1, 1) := by decide +kernel
theorem dX6_of_90 : decode cX6_of 90 = .ok (.invokevirtual 96, 3) := by decide +kernel
theorem dX6_of_93 : decode cX6_of 93 = .ok (.ifCond .eq 7, 3) := by decide +kernel
theorem dX6_of_96 : decode cX6_of 96 = .ok (.iconst 1, 1) := by decide +kernel
theorem dX6_of_97 : decode cX6_of 97 = .ok (.goto 4, 3) := by decide +kernel
theorem dX6_of_100 : decode cX6_of 100 = .ok (.iconst 0, 1) := by decide +kernel
theorem dX6_of_101 : decode cX6_of 101 = .ok (.ireturn, 1) := by decide +kernel
theorem dX6_of_102 : decode cX6_of 102 = .ok (.aload_n 3, 1) := by decide +kernel
theorem dX6_of_103 : decode cX6_of 103 = .ok (.getfield 99, 3) := by decide +kernel
theorem dX6_of_106 : decode cX6_of 106 = .ok (.iload_n 1, 1) := by decide +kernel
theorem dX6_of_107 : decode cX6_of 107 = .ok (.iaload, 1) := by decide +kernel
theorem dX6_of_108 : decode cX6_of 108 = .ok (.ireturn, 1) := by decide +kernel
theorem dX6_of_109 : decode cX6_of 109 = .ok (.aload_n 3, 1) := by decide +kernel
theorem dX6_of_110 : decode cX6_of 110 = .ok (.getfield 102, 3) := by decide +kernel
theorem dX6_of_113 : decode cX6_of 113 = .ok (.iload_n 1, 1) := by decide +kernel
theorem dX6_of_114 : decode cX6_of 114 = .ok (.iaload, 1) := by decide +kernel
theorem dX6_of_115 : decode cX6_of 115 = .ok (.ireturn, 1) := by decide +kernel
theorem dX6_of_116 : decode cX6_of 116 = .ok (.bipush (-2), 2) := by decide +kernel
theorem dX6_of_118 : decode cX6_of 118 = .ok (.ireturn, 1) := by decide +kernel
theorem dX6_table_0 : decode cX6_table 0 = .ok (.iload_n 1, 1) := by decide +kernel
theorem dX6_table_1 : decode cX6_table 1 = .ok (.invokestatic 105, 3) := by decide +kernel
theorem dX6_table_4 : decode cX6_table 4 = .ok (.ifCond .ne 5, 3) := by decide +kernel
theorem dX6_table_7 : decode cX6_table 7 = .ok (.iconst (-1), 1) := by decide +kernel
theorem dX6_table_8 : decode cX6_table 8 = .ok (.ireturn, 1) := by decide +kernel
theorem dX6_table_9 : decode cX6_table 9 = .ok (.iload_n 2, 1) := by decide +kernel
theorem dX6_table_10 : decode cX6_table 10 = .ok (.tableswitch 126 0 5 #[38, 50, 62, 76, 86, 116], 38) := by decide +kernel
theorem dX6_table_48 : decode cX6_table 48 = .ok (.aload_n 0, 1) := by decide +kernel
theorem dX6_table_49 : decode cX6_table 49 = .ok (.getfield 10, 3) := by decide +kernel
theorem dX6_table_52 : decode cX6_table 52 = .ok (.getfield 73, 3) := by decide +kernel
theorem dX6_table_55 : decode cX6_table 55 = .ok (.iload_n 1, 1) := by decide +kernel
theorem dX6_table_56 : decode cX6_table 56 = .ok (.invokevirtual 108, 3) := by decide +kernel
theorem dX6_table_59 : decode cX6_table 59 = .ok (.ireturn, 1) := by decide +kernel
theorem dX6_table_60 : decode cX6_table 60 = .ok (.aload_n 0, 1) := by decide +kernel
theorem dX6_table_61 : decode cX6_table 61 = .ok (.getfield 10, 3) := by decide +kernel
theorem dX6_table_64 : decode cX6_table 64 = .ok (.getfield 73, 3) := by decide +kernel
theorem dX6_table_67 : decode cX6_table 67 = .ok (.iload_n 1, 1) := by decide +kernel
theorem dX6_table_68 : decode cX6_table 68 = .ok (.invokevirtual 111, 3) := by decide +kernel
theorem dX6_table_71 : decode cX6_table 71 = .ok (.ireturn, 1) := by decide +kernel
theorem dX6_table_72 : decode cX6_table 72 = .ok (.aload_n 0, 1) := by decide +kernel
theorem dX6_table_73 : decode cX6_table 73 = .ok (.getfield 10, 3) := by decide +kernel
theorem dX6_table_76 : decode cX6_table 76 = .ok (.getfield 73, 3) := by decide +kernel
theorem dX6_table_79 : decode cX6_table 79 = .ok (.iload_n 1, 1) := by decide +kernel
theorem dX6_table_80 : decode cX6_table 80 = .ok (.bipush (-6), 2) := by decide +kernel
theorem dX6_table_82 : decode cX6_table 82 = .ok (.invokevirtual 114, 3) := by decide +kernel
theorem dX6_table_85 : decode cX6_table 85 = .ok (.ireturn, 1) := by decide +kernel
theorem dX6_table_86 : decode cX6_table 86 = .ok (.aload_n 0, 1) := by decide +kernel
theorem dX6_table_87 : decode cX6_table 87 = .ok (.getfield 10, 3) := by decide +kernel
theorem dX6_table_90 : decode cX6_table 90 = .ok (.getfield 117, 3) := by decide +kernel
theorem dX6_table_93 : decode cX6_table 93 = .ok (.iload_n 1, 1) := by decide +kernel
theorem dX6_table_94 : decode cX6_table 94 = .ok (.iaload, 1) := by decide +kernel
theorem dX6_table_95 : decode cX6_table 95 = .ok (.ireturn, 1) := by decide +kernel
theorem dX6_table_96 : decode cX6_table 96 = .ok (.aload_n 0, 1) := by decide +kernel
theorem dX6_table_97 : decode cX6_table 97 = .ok (.getfield 10, 3) := by decide +kernel
theorem dX6_table_100 : decode cX6_table 100 = .ok (.getfield 117, 3) := by decide +kernel
theorem dX6_table_103 : decode cX6_table 103 = .ok (.iload_n 1, 1) := by decide +kernel
theorem dX6_table_104 : decode cX6_table 104 = .ok (.iaload, 1) := by decide +kernel
theorem dX6_table_105 : decode cX6_table 105 = .ok (.bipush (-6), 2) := by decide +kernel
theorem dX6_table_107 : decode cX6_table 107 = .ok (.if_icmp .ne 8, 3) := by decide +kernel
theorem dX6_table_110 : decode cX6_table 110 = .ok (.bipush (-6), 2) := by decide +kernel
theorem dX6_table_112 : decode cX6_table 112 = .ok (.goto 13, 3) := by decide +kernel
theorem dX6_table_115 : decode cX6_table 115 = .ok (.aload_n 0, 1) := by decide +kernel
theorem dX6_table_116 : decode cX6_table 116 = .ok (.getfield 10, 3) := by decide +kernel
theorem dX6_table_119 : decode cX6_table 119 = .ok (.iload_n 1, 1) := by decide +kernel
theorem dX6_table_120 : decode cX6_table 120 = .ok (.bipush (-6), 2) := by decide +kernel
theorem dX6_table_122 : decode cX6_table 122 = .ok (.invokevirtual 120, 3) := by decide +kernel
theorem dX6_table_125 : decode cX6_table 125 = .ok (.ireturn, 1) := by decide +kernel
theorem dX6_table_126 : decode cX6_table 126 = .ok (.aload_n 0, 1) := by decide +kernel
theorem dX6_table_127 : decode cX6_table 127 = .ok (.getfield 10, 3) := by decide +kernel
theorem dX6_table_130 : decode cX6_table 130 = .ok (.getfield 123, 3) := by decide +kernel
theorem dX6_table_133 : decode cX6_table 133 = .ok (.iload_n 1, 1) := by decide +kernel
theorem dX6_table_134 : decode cX6_table 134 = .ok (.iaload, 1) := by decide +kernel
theorem dX6_table_135 : decode cX6_table 135 = .ok (.ireturn, 1) := by decide +kernel
theorem dX6_table_136 : decode cX6_table 136 = .ok (.bipush (-2), 2) := by decide +kernel
theorem dX6_table_138 : decode cX6_table 138 = .ok (.ireturn, 1) := by decide +kernel
theorem dX6_meaning_0 : decode cX6_meaning 0 = .ok (.iload_n 1, 1) := by decide +kernel
theorem dX6_meaning_1 : decode cX6_meaning 1 = .ok (.iconst 1, 1) := by decide +kernel
theorem dX6_meaning_2 : decode cX6_meaning 2 = .ok (.if_icmp .lt 9, 3) := by decide +kernel
theorem dX6_meaning_5 : decode cX6_meaning 5 = .ok (.iload_n 1, 1) := by decide +kernel
theorem dX6_meaning_6 : decode cX6_meaning 6 = .ok (.bipush 11, 2) := by decide +kernel
theorem dX6_meaning_8 : decode cX6_meaning 8 = .ok (.if_icmp .le 5, 3) := by decide +kernel
theorem dX6_meaning_11 : decode cX6_meaning 11 = .ok (.iconst (-1), 1) := by decide +kernel
theorem dX6_meaning_12 : decode cX6_meaning 12 = .ok (.ireturn, 1) := by decide +kernel
theorem dX6_meaning_13 : decode cX6_meaning 13 = .ok (.iload_n 2, 1) := by decide +kernel
theorem dX6_meaning_14 : decode cX6_meaning 14 = .ok (.lookupswitch 52 #[(0, 26), (1, 39)], 26) := by decide +kernel
theorem dX6_meaning_40 : decode cX6_meaning 40 = .ok (.aload_n 0, 1) := by decide +kernel
theorem dX6_meaning_41 : decode cX6_meaning 41 = .ok (.getfield 10, 3) := by decide +kernel
theorem dX6_meaning_44 : decode cX6_meaning 44 = .ok (.getfield 126, 3) := by decide +kernel
theorem dX6_meaning_47 : decode cX6_meaning 47 = .ok (.getfield 130, 3) := by decide +kernel
theorem dX6_meaning_50 : decode cX6_meaning 50 = .ok (.iload_n 1, 1) := by decide +kernel
theorem dX6_meaning_51 : decode cX6_meaning 51 = .ok (.iaload, 1) := by decide +kernel
theorem dX6_meaning_52 : decode cX6_meaning 52 = .ok (.ireturn, 1) := by decide +kernel
theorem dX6_meaning_53 : decode cX6_meaning 53 = .ok (.aload_n 0, 1) := by decide +kernel
theorem dX6_meaning_54 : decode cX6_meaning 54 = .ok (.getfield 10, 3) := by decide +kernel
theorem dX6_meaning_57 : decode cX6_meaning 57 = .ok (.getfield 126, 3) := by decide +kernel
theorem dX6_meaning_60 : decode cX6_meaning 60 = .ok (.getfield 135, 3) := by decide +kernel
theorem dX6_meaning_63 : decode cX6_meaning 63 = .ok (.iload_n 1, 1) := by decide +kernel
theorem dX6_meaning_64 : decode cX6_meaning 64 = .ok (.iaload, 1) := by decide +kernel
theorem dX6_meaning_65 : decode cX6_meaning 65 = .ok (.ireturn, 1) := by decide +kernel
theorem dX6_meaning_66 : decode cX6_meaning 66 = .ok (.bipush (-2), 2) := by decide +kernel
theorem dX6_meaning_68 : decode cX6_meaning 68 = .ok (.ireturn, 1) := by decide +kernel
theorem dX6_end_0 : decode cX6_end 0 = .ok (.iload_n 1, 1) := by decide +kernel
theorem dX6_end_1 : decode cX6_end 1 = .ok (.ifCond .lt 17, 3) := by decide +kernel
theorem dX6_end_4 : decode cX6_end 4 = .ok (.iload_n 1, 1) := by decide +kernel
theorem dX6_end_5 : decode cX6_end 5 = .ok (.aload_n 0, 1) := by decide +kernel
theorem dX6_end_6 : decode cX6_end 6 = .ok (.getfield 10, 3) := by decide +kernel
theorem dX6_end_9 : decode cX6_end 9 = .ok (.getfield 126, 3) := by decide +kernel
theorem dX6_end_12 : decode cX6_end 12 = .ok (.getfield 138, 3) := by decide +kernel
theorem dX6_end_15 : decode cX6_end 15 = .ok (.if_icmp .lt 5, 3) := by decide +kernel
theorem dX6_end_18 : decode cX6_end 18 = .ok (.iconst (-1), 1) := by decide +kernel
theorem dX6_end_19 : decode cX6_end 19 = .ok (.ireturn, 1) := by decide +kernel
theorem dX6_end_20 : decode cX6_end 20 = .ok (.iload_n 2, 1) := by decide +kernel
theorem dX6_end_21 : decode cX6_end 21 = .ok (.ifCond .lt 8, 3) := by decide +kernel
theorem dX6_end_24 : decode cX6_end 24 = .ok (.iload_n 2, 1) := by decide +kernel
theorem dX6_end_25 : decode cX6_end 25 = .ok (.iconst 5, 1) := by decide +kernel
theorem dX6_end_26 : decode cX6_end 26 = .ok (.if_icmp .lt 6, 3) := by decide +kernel
theorem dX6_end_29 : decode cX6_end 29 = .ok (.bipush (-2), 2) := by decide +kernel
theorem dX6_end_31 : decode cX6_end 31 = .ok (.ireturn, 1) := by decide +kernel
theorem dX6_end_32 : decode cX6_end 32 = .ok (.aload_n 0, 1) := by decide +kernel
theorem dX6_end_33 : decode cX6_end 33 = .ok (.getfield 10, 3) := by decide +kernel
theorem dX6_end_36 : decode cX6_end 36 = .ok (.getfield 126, 3) := by decide +kernel
theorem dX6_end_39 : decode cX6_end 39 = .ok (.getfield 142, 3) := by decide +kernel
theorem dX6_end_42 : decode cX6_end 42 = .ok (.iload_n 1, 1) := by decide +kernel
theorem dX6_end_43 : decode cX6_end 43 = .ok (.iconst 5, 1) := by decide +kernel
theorem dX6_end_44 : decode cX6_end 44 = .ok (.imul, 1) := by decide +kernel
theorem dX6_end_45 : decode cX6_end 45 = .ok (.iload_n 2, 1) := by decide +kernel
theorem dX6_end_46 : decode cX6_end 46 = .ok (.iadd, 1) := by decide +kernel
theorem dX6_end_47 : decode cX6_end 47 = .ok (.iaload, 1) := by decide +kernel
theorem dX6_end_48 : decode cX6_end 48 = .ok (.ireturn, 1) := by decide +kernel
theorem dX6_count_0 : decode cX6_count 0 = .ok (.iload_n 1, 1) := by decide +kernel
theorem dX6_count_1 : decode cX6_count 1 = .ok (.tableswitch 230 0 14 #[75, 83, 94, 102, 115, 128, 141, 152, 163, 174, 184, 194, 204, 214, 222], 75) := by decide +kernel
theorem dX6_count_76 : decode cX6_count 76 = .ok (.aload_n 0, 1) := by decide +kernel
theorem dX6_count_77 : decode cX6_count 77 = .ok (.getfield 10, 3) := by decide +kernel
theorem dX6_count_80 : decode cX6_count 80 = .ok (.getfield 145, 3) := by decide +kernel
theorem dX6_count_83 : decode cX6_count 83 = .ok (.ireturn, 1) := by decide +kernel
theorem dX6_count_84 : decode cX6_count 84 = .ok (.aload_n 0, 1) := by decide +kernel
theorem dX6_count_85 : decode cX6_count 85 = .ok (.getfield 10, 3) := by decide +kernel
theorem dX6_count_88 : decode cX6_count 88 = .ok (.getfield 73, 3) := by decide +kernel
theorem dX6_count_91 : decode cX6_count 91 = .ok (.invokevirtual 148, 3) := by decide +kernel
theorem dX6_count_94 : decode cX6_count 94 = .ok (.ireturn, 1) := by decide +kernel
theorem dX6_count_95 : decode cX6_count 95 = .ok (.aload_n 0, 1) := by decide +kernel
theorem dX6_count_96 : decode cX6_count 96 = .ok (.getfield 10, 3) := by decide +kernel
theorem dX6_count_99 : decode cX6_count 99 = .ok (.invokevirtual 152, 3) := by decide +kernel
theorem dX6_count_102 : decode cX6_count 102 = .ok (.ireturn, 1) := by decide +kernel
theorem dX6_count_103 : decode cX6_count 103 = .ok (.aload_n 0, 1) := by decide +kernel
theorem dX6_count_104 : decode cX6_count 104 = .ok (.getfield 10, 3) := by decide +kernel
theorem dX6_count_107 : decode cX6_count 107 = .ok (.getfield 126, 3) := by decide +kernel
theorem dX6_count_110 : decode cX6_count 110 = .ok (.getfield 155, 3) := by decide +kernel
theorem dX6_count_113 : decode cX6_count 113 = .ok (.iconst 0, 1) := by decide +kernel
theorem dX6_count_114 : decode cX6_count 114 = .ok (.iaload, 1) := by decide +kernel
theorem dX6_count_115 : decode cX6_count 115 = .ok (.ireturn, 1) := by decide +kernel
theorem dX6_count_116 : decode cX6_count 116 = .ok (.aload_n 0, 1) := by decide +kernel
theorem dX6_count_117 : decode cX6_count 117 = .ok (.getfield 10, 3) := by decide +kernel
theorem dX6_count_120 : decode cX6_count 120 = .ok (.getfield 126, 3) := by decide +kernel
theorem dX6_count_123 : decode cX6_count 123 = .ok (.getfield 155, 3) := by decide +kernel
theorem dX6_count_126 : decode cX6_count 126 = .ok (.iconst 1, 1) := by decide +kernel
theorem dX6_count_127 : decode cX6_count 127 = .ok (.iaload, 1) := by decide +kernel
theorem dX6_count_128 : decode cX6_count 128 = .ok (.ireturn, 1) := by decide +kernel
theorem dX6_count_129 : decode cX6_count 129 = .ok (.aload_n 0, 1) := by decide +kernel
theorem dX6_count_130 : decode cX6_count 130 = .ok (.getfield 10, 3) := by decide +kernel
theorem dX6_count_133 : decode cX6_count 133 = .ok (.getfield 126, 3) := by decide +kernel
theorem dX6_count_136 : decode cX6_count 136 = .ok (.getfield 155, 3) := by decide +kernel
theorem dX6_count_139 : decode cX6_count 139 = .ok (.iconst 2, 1) := by decide +kernel
theorem dX6_count_140 : decode cX6_count 140 = .ok (.iaload, 1) := by decide +kernel
theorem dX6_count_141 : decode cX6_count 141 = .ok (.ireturn, 1) := by decide +kernel
theorem dX6_count_142 : decode cX6_count 142 = .ok (.aload_n 0, 1) := by decide +kernel
theorem dX6_count_143 : decode cX6_count 143 = .ok (.getfield 10, 3) := by decide +kernel
theorem dX6_count_146 : decode cX6_count 146 = .ok (.getfield 73, 3) := by decide +kernel
theorem dX6_count_149 : decode cX6_count 149 = .ok (.invokevirtual 158, 3) := by decide +kernel
theorem dX6_count_152 : decode cX6_count 152 = .ok (.ireturn, 1) := by decide +kernel
theorem dX6_count_153 : decode cX6_count 153 = .ok (.aload_n 0, 1) := by decide +kernel
theorem dX6_count_154 : decode cX6_count 154 = .ok (.getfield 10, 3) := by decide +kernel
theorem dX6_count_157 : decode cX6_count 157 = .ok (.getfield 126, 3) := by decide +kernel
theorem dX6_count_160 : decode cX6_count 160 = .ok (.invokevirtual 161, 3) := by decide +kernel
theorem dX6_count_163 : decode cX6_count 163 = .ok (.ireturn, 1) := by decide +kernel
theorem dX6_count_164 : decode cX6_count 164 = .ok (.aload_n 0, 1) := by decide +kernel
theorem dX6_count_165 : decode cX6_count 165 = .ok (.getfield 10, 3) := by decide +kernel
theorem dX6_count_168 : decode cX6_count 168 = .ok (.getfield 73, 3) := by decide +kernel
theorem dX6_count_171 : decode cX6_count 171 = .ok (.invokevirtual 164, 3) := by decide +kernel
theorem dX6_count_174 : decode cX6_count 174 = .ok (.ireturn, 1) := by decide +kernel
theorem dX6_count_175 : decode cX6_count 175 = .ok (.aload_n 0, 1) := by decide +kernel
theorem dX6_count_176 : decode cX6_count 176 = .ok (.getfield 10, 3) := by decide +kernel
theorem dX6_count_179 : decode cX6_count 179 = .ok (.getfield 167, 3) := by decide +kernel
theorem dX6_count_182 : decode cX6_count 182 = .ok (.iconst 0, 1) := by decide +kernel
theorem dX6_count_183 : decode cX6_count 183 = .ok (.iaload, 1) := by decide +kernel
theorem dX6_count_184 : decode cX6_count 184 = .ok (.ireturn, 1) := by decide +kernel
theorem dX6_count_185 : decode cX6_count 185 = .ok (.aload_n 0, 1) := by decide +kernel
theorem dX6_count_186 : decode cX6_count 186 = .ok (.getfield 10, 3) := by decide +kernel
theorem dX6_count_189 : decode cX6_count 189 = .ok (.getfield 167, 3) := by decide +kernel
theorem dX6_count_192 : decode cX6_count 192 = .ok (.iconst 1, 1) := by decide +kernel
theorem dX6_count_193 : decode cX6_count 193 = .ok (.iaload, 1) := by decide +kernel
theorem dX6_count_194 : decode cX6_count 194 = .ok (.ireturn, 1) := by decide +kernel
theorem dX6_count_195 : decode cX6_count 195 = .ok (.aload_n 0, 1) := by decide +kernel
theorem dX6_count_196 : decode cX6_count 196 = .ok (.getfield 10, 3) := by decide +kernel
theorem dX6_count_199 : decode cX6_count 199 = .ok (.getfield 167, 3) := by decide +kernel
theorem dX6_count_202 : decode cX6_count 202 = .ok (.iconst 2, 1) := by decide +kernel
theorem dX6_count_203 : decode cX6_count 203 = .ok (.iaload, 1) := by decide +kernel
theorem dX6_count_204 : decode cX6_count 204 = .ok (.ireturn, 1) := by decide +kernel
theorem dX6_count_205 : decode cX6_count 205 = .ok (.aload_n 0, 1) := by decide +kernel
theorem dX6_count_206 : decode cX6_count 206 = .ok (.getfield 10, 3) := by decide +kernel
theorem dX6_count_209 : decode cX6_count 209 = .ok (.getfield 167, 3) := by decide +kernel
theorem dX6_count_212 : decode cX6_count 212 = .ok (.iconst 3, 1) := by decide +kernel
theorem dX6_count_213 : decode cX6_count 213 = .ok (.iaload, 1) := by decide +kernel
theorem dX6_count_214 : decode cX6_count 214 = .ok (.ireturn, 1) := by decide +kernel
theorem dX6_count_215 : decode cX6_count 215 = .ok (.aload_n 0, 1) := by decide +kernel
theorem dX6_count_216 : decode cX6_count 216 = .ok (.getfield 33, 3) := by decide +kernel
theorem dX6_count_219 : decode cX6_count 219 = .ok (.getfield 170, 3) := by decide +kernel
theorem dX6_count_222 : decode cX6_count 222 = .ok (.ireturn, 1) := by decide +kernel
theorem dX6_count_223 : decode cX6_count 223 = .ok (.aload_n 0, 1) := by decide +kernel
theorem dX6_count_224 : decode cX6_count 224 = .ok (.getfield 19, 3) := by decide +kernel
theorem dX6_count_227 : decode cX6_count 227 = .ok (.getfield 173, 3) := by decide +kernel
theorem dX6_count_230 : decode cX6_count 230 = .ok (.ireturn, 1) := by decide +kernel
theorem dX6_count_231 : decode cX6_count 231 = .ok (.bipush (-2), 2) := by decide +kernel
theorem dX6_count_233 : decode cX6_count 233 = .ok (.ireturn, 1) := by decide +kernel
theorem dX6_wouldMean_0 : decode cX6_wouldMean 0 = .ok (.iload_n 1, 1) := by decide +kernel
theorem dX6_wouldMean_1 : decode cX6_wouldMean 1 = .ok (.invokestatic 105, 3) := by decide +kernel
theorem dX6_wouldMean_4 : decode cX6_wouldMean 4 = .ok (.ifCond .ne 5, 3) := by decide +kernel
theorem dX6_wouldMean_7 : decode cX6_wouldMean 7 = .ok (.iconst (-1), 1) := by decide +kernel
theorem dX6_wouldMean_8 : decode cX6_wouldMean 8 = .ok (.ireturn, 1) := by decide +kernel
theorem dX6_wouldMean_9 : decode cX6_wouldMean 9 = .ok (.iload_n 2, 1) := by decide +kernel
theorem dX6_wouldMean_10 : decode cX6_wouldMean 10 = .ok (.ifCond .lt 10, 3) := by decide +kernel
theorem dX6_wouldMean_13 : decode cX6_wouldMean 13 = .ok (.iload_n 2, 1) := by decide +kernel
theorem dX6_wouldMean_14 : decode cX6_wouldMean 14 = .ok (.sipush 999, 3) := by decide +kernel
theorem dX6_wouldMean_17 : decode cX6_wouldMean 17 = .ok (.if_icmp .le 6, 3) := by decide +kernel
theorem dX6_wouldMean_20 : decode cX6_wouldMean 20 = .ok (.bipush (-2), 2) := by decide +kernel
theorem dX6_wouldMean_22 : decode cX6_wouldMean 22 = .ok (.ireturn, 1) := by decide +kernel
theorem dX6_wouldMean_23 : decode cX6_wouldMean 23 = .ok (.aload_n 0, 1) := by decide +kernel
theorem dX6_wouldMean_24 : decode cX6_wouldMean 24 = .ok (.getfield 10, 3) := by decide +kernel
theorem dX6_wouldMean_27 : decode cX6_wouldMean 27 = .ok (.aload_n 0, 1) := by decide +kernel
theorem dX6_wouldMean_28 : decode cX6_wouldMean 28 = .ok (.getfield 10, 3) := by decide +kernel
theorem dX6_wouldMean_31 : decode cX6_wouldMean 31 = .ok (.getfield 73, 3) := by decide +kernel
theorem dX6_wouldMean_34 : decode cX6_wouldMean 34 = .ok (.iload_n 1, 1) := by decide +kernel
theorem dX6_wouldMean_35 : decode cX6_wouldMean 35 = .ok (.bipush (-6), 2) := by decide +kernel
theorem dX6_wouldMean_37 : decode cX6_wouldMean 37 = .ok (.invokevirtual 114, 3) := by decide +kernel
theorem dX6_wouldMean_40 : decode cX6_wouldMean 40 = .ok (.iload_n 2, 1) := by decide +kernel
theorem dX6_wouldMean_41 : decode cX6_wouldMean 41 = .ok (.invokevirtual 176, 3) := by decide +kernel
theorem dX6_wouldMean_44 : decode cX6_wouldMean 44 = .ok (.ireturn, 1) := by decide +kernel
theorem dX6_turnsIn_0 : decode cX6_turnsIn 0 = .ok (.iload_n 1, 1) := by decide +kernel
theorem dX6_turnsIn_1 : decode cX6_turnsIn 1 = .ok (.invokestatic 105, 3) := by decide +kernel
theorem dX6_turnsIn_4 : decode cX6_turnsIn 4 = .ok (.ifCond .ne 5, 3) := by decide +kernel
theorem dX6_turnsIn_7 : decode cX6_turnsIn 7 = .ok (.iconst (-1), 1) := by decide +kernel
theorem dX6_turnsIn_8 : decode cX6_turnsIn 8 = .ok (.ireturn, 1) := by decide +kernel
theorem dX6_turnsIn_9 : decode cX6_turnsIn 9 = .ok (.aload_n 0, 1) := by decide +kernel
theorem dX6_turnsIn_10 : decode cX6_turnsIn 10 = .ok (.getfield 10, 3) := by decide +kernel
theorem dX6_turnsIn_13 : decode cX6_turnsIn 13 = .ok (.getfield 117, 3) := by decide +kernel
theorem dX6_turnsIn_16 : decode cX6_turnsIn 16 = .ok (.iload_n 1, 1) := by decide +kernel
theorem dX6_turnsIn_17 : decode cX6_turnsIn 17 = .ok (.iaload, 1) := by decide +kernel
theorem dX6_turnsIn_18 : decode cX6_turnsIn 18 = .ok (.bipush (-6), 2) := by decide +kernel
theorem dX6_turnsIn_20 : decode cX6_turnsIn 20 = .ok (.if_icmp .ne 8, 3) := by decide +kernel
theorem dX6_turnsIn_23 : decode cX6_turnsIn 23 = .ok (.bipush (-5), 2) := by decide +kernel
theorem dX6_turnsIn_25 : decode cX6_turnsIn 25 = .ok (.goto 11, 3) := by decide +kernel
theorem dX6_turnsIn_28 : decode cX6_turnsIn 28 = .ok (.aload_n 0, 1) := by decide +kernel
theorem dX6_turnsIn_29 : decode cX6_turnsIn 29 = .ok (.getfield 10, 3) := by decide +kernel
theorem dX6_turnsIn_32 : decode cX6_turnsIn 32 = .ok (.iload_n 1, 1) := by decide +kernel
theorem dX6_turnsIn_33 : decode cX6_turnsIn 33 = .ok (.invokevirtual 179, 3) := by decide +kernel
theorem dX6_turnsIn_36 : decode cX6_turnsIn 36 = .ok (.ireturn, 1) := by decide +kernel
theorem dX6_lender_0 : decode cX6_lender 0 = .ok (.aload_n 0, 1) := by decide +kernel
theorem dX6_lender_1 : decode cX6_lender 1 = .ok (.getfield 10, 3) := by decide +kernel
theorem dX6_lender_4 : decode cX6_lender 4 = .ok (.getfield 73, 3) := by decide +kernel
theorem dX6_lender_7 : decode cX6_lender 7 = .ok (.iload_n 1, 1) := by decide +kernel
theorem dX6_lender_8 : decode cX6_lender 8 = .ok (.invokevirtual 77, 3) := by decide +kernel
theorem dX6_lender_11 : decode cX6_lender 11 = .ok (.ifCond .ne 5, 3) := by decide +kernel
theorem dX6_lender_14 : decode cX6_lender 14 = .ok (.iconst (-1), 1) := by decide +kernel
theorem dX6_lender_15 : decode cX6_lender 15 = .ok (.ireturn, 1) := by decide +kernel
theorem dX6_lender_16 : decode cX6_lender 16 = .ok (.aload_n 0, 1) := by decide +kernel
theorem dX6_lender_17 : decode cX6_lender 17 = .ok (.getfield 10, 3) := by decide +kernel
theorem dX6_lender_20 : decode cX6_lender 20 = .ok (.getfield 73, 3) := by decide +kernel
theorem dX6_lender_23 : decode cX6_lender 23 = .ok (.getfield 83, 3) := by decide +kernel
theorem dX6_lender_26 : decode cX6_lender 26 = .ok (.iload_n 1, 1) := by decide +kernel
theorem dX6_lender_27 : decode cX6_lender 27 = .ok (.iaload, 1) := by decide +kernel
theorem dX6_lender_28 : decode cX6_lender 28 = .ok (.istore_n 2, 1) := by decide +kernel
theorem dX6_lender_29 : decode cX6_lender 29 = .ok (.iload_n 2, 1) := by decide +kernel
theorem dX6_lender_30 : decode cX6_lender 30 = .ok (.bipush (-6), 2) := by decide +kernel
theorem dX6_lender_32 : decode cX6_lender 32 = .ok (.if_icmp .ne 8, 3) := by decide +kernel
theorem dX6_lender_35 : decode cX6_lender 35 = .ok (.bipush (-5), 2) := by decide +kernel
theorem dX6_lender_37 : decode cX6_lender 37 = .ok (.goto 15, 3) := by decide +kernel
theorem dX6_lender_40 : decode cX6_lender 40 = .ok (.aload_n 0, 1) := by decide +kernel
theorem dX6_lender_41 : decode cX6_lender 41 = .ok (.getfield 10, 3) := by decide +kernel
theorem dX6_lender_44 : decode cX6_lender 44 = .ok (.getfield 73, 3) := by decide +kernel
theorem dX6_lender_47 : decode cX6_lender 47 = .ok (.iload_n 1, 1) := by decide +kernel
theorem dX6_lender_48 : decode cX6_lender 48 = .ok (.iload_n 2, 1) := by decide +kernel
theorem dX6_lender_49 : decode cX6_lender 49 = .ok (.invokevirtual 182, 3) := by decide +kernel
theorem dX6_lender_52 : decode cX6_lender 52 = .ok (.ireturn, 1) := by decide +kernel
theorem dX6_usual_0 : decode cX6_usual 0 = .ok (.aload_n 0, 1) := by decide +kernel
theorem dX6_usual_1 : decode cX6_usual 1 = .ok (.getfield 10, 3) := by decide +kernel
theorem dX6_usual_4 : decode cX6_usual 4 = .ok (.getfield 126, 3) := by decide +kernel
theorem dX6_usual_7 : decode cX6_usual 7 = .ok (.invokevirtual 188, 3) := by decide +kernel
theorem dX6_usual_10 : decode cX6_usual 10 = .ok (.ireturn, 1) := by decide +kernel
theorem dX6_undo_0 : decode cX6_undo 0 = .ok (.aload_n 0, 1) := by decide +kernel
theorem dX6_undo_1 : decode cX6_undo 1 = .ok (.getfield 19, 3) := by decide +kernel
theorem dX6_undo_4 : decode cX6_undo 4 = .ok (.aload_n 0, 1) := by decide +kernel
theorem dX6_undo_5 : decode cX6_undo 5 = .ok (.getfield 10, 3) := by decide +kernel
theorem dX6_undo_8 : decode cX6_undo 8 = .ok (.invokevirtual 207, 3) := by decide +kernel
theorem dX6_undo_11 : decode cX6_undo 11 = .ok (.ireturn, 1) := by decide +kernel
theorem dX6_save_0 : decode cX6_save 0 = .ok (.aload_n 0, 1) := by decide +kernel
theorem dX6_save_1 : decode cX6_save 1 = .ok (.getfield 26, 3) := by decide +kernel
theorem dX6_save_4 : decode cX6_save 4 = .ok (.iload_n 1, 1) := by decide +kernel
theorem dX6_save_5 : decode cX6_save 5 = .ok (.aload_n 0, 1) := by decide +kernel
theorem dX6_save_6 : decode cX6_save 6 = .ok (.getfield 10, 3) := by decide +kernel
theorem dX6_save_9 : decode cX6_save 9 = .ok (.invokevirtual 211, 3) := by decide +kernel
theorem dX6_save_12 : decode cX6_save 12 = .ok (.ireturn, 1) := by decide +kernel
theorem dX6_restore_0 : decode cX6_restore 0 = .ok (.aload_n 0, 1) := by decide +kernel
theorem dX6_restore_1 : decode cX6_restore 1 = .ok (.getfield 19, 3) := by decide +kernel
theorem dX6_restore_4 : decode cX6_restore 4 = .ok (.aload_n 0, 1) := by decide +kernel
theorem dX6_restore_5 : decode cX6_restore 5 = .ok (.getfield 10, 3) := by decide +kernel
theorem dX6_restore_8 : decode cX6_restore 8 = .ok (.invokevirtual 37, 3) := by decide +kernel
theorem dX6_restore_11 : decode cX6_restore 11 = .ok (.aload_n 0, 1) := by decide +kernel
theorem dX6_restore_12 : decode cX6_restore 12 = .ok (.aload_n 0, 1) := by decide +kernel
theorem dX6_restore_13 : decode cX6_restore 13 = .ok (.getfield 26, 3) := by decide +kernel
theorem dX6_restore_16 : decode cX6_restore 16 = .ok (.iload_n 1, 1) := by decide +kernel
theorem dX6_restore_17 : decode cX6_restore 17 = .ok (.aload_n 0, 1) := by decide +kernel
theorem dX6_restore_18 : decode cX6_restore 18 = .ok (.getfield 10, 3) := by decide +kernel
theorem dX6_restore_21 : decode cX6_restore 21 = .ok (.invokevirtual 215, 3) := by decide +kernel
theorem dX6_restore_24 : decode cX6_restore 24 = .ok (.invokevirtual 45, 3) := by decide +kernel
theorem dX6_restore_27 : decode cX6_restore 27 = .ok (.ireturn, 1) := by decide +kernel
theorem dX6_keptUnlessError_0 : decode cX6_keptUnlessError 0 = .ok (.iload_n 1, 1) := by decide +kernel
theorem dX6_keptUnlessError_1 : decode cX6_keptUnlessError 1 = .ok (.invokestatic 218, 3) := by decide +kernel
theorem dX6_keptUnlessError_4 : decode cX6_keptUnlessError 4 = .ok (.ifCond .ne 10, 3) := by decide +kernel
theorem dX6_keptUnlessError_7 : decode cX6_keptUnlessError 7 = .ok (.aload_n 0, 1) := by decide +kernel
theorem dX6_keptUnlessError_8 : decode cX6_keptUnlessError 8 = .ok (.getfield 19, 3) := by decide +kernel
theorem dX6_keptUnlessError_11 : decode cX6_keptUnlessError 11 = .ok (.invokevirtual 204, 3) := by decide +kernel
theorem dX6_keptUnlessError_14 : decode cX6_keptUnlessError 14 = .ok (.iload_n 1, 1) := by decide +kernel
theorem dX6_keptUnlessError_15 : decode cX6_keptUnlessError 15 = .ok (.ireturn, 1) := by decide +kernel
theorem dX6_isError_0 : decode cX6_isError 0 = .ok (.iload_n 0, 1) := by decide +kernel
theorem dX6_isError_1 : decode cX6_isError 1 = .ok (.iconst (-1), 1) := by decide +kernel
theorem dX6_isError_2 : decode cX6_isError 2 = .ok (.if_icmp .gt 13, 3) := by decide +kernel
theorem dX6_isError_5 : decode cX6_isError 5 = .ok (.iload_n 0, 1) := by decide +kernel
theorem dX6_isError_6 : decode cX6_isError 6 = .ok (.bipush (-5), 2) := by decide +kernel
theorem dX6_isError_8 : decode cX6_isError 8 = .ok (.if_icmp .lt 7, 3) := by decide +kernel
theorem dX6_isError_11 : decode cX6_isError 11 = .ok (.iconst 1, 1) := by decide +kernel
theorem dX6_isError_12 : decode cX6_isError 12 = .ok (.goto 4, 3) := by decide +kernel
theorem dX6_isError_15 : decode cX6_isError 15 = .ok (.iconst 0, 1) := by decide +kernel
theorem dX6_isError_16 : decode cX6_isError 16 = .ok (.ireturn, 1) := by decide +kernel
theorem dX6_isTable_0 : decode cX6_isTable 0 = .ok (.iload_n 0, 1) := by decide +kernel
theorem dX6_isTable_1 : decode cX6_isTable 1 = .ok (.ifCond .lt 12, 3) := by decide +kernel
theorem dX6_isTable_4 : decode cX6_isTable 4 = .ok (.iload_n 0, 1) := by decide +kernel
theorem dX6_isTable_5 : decode cX6_isTable 5 = .ok (.iconst 3, 1) := by decide +kernel
theorem dX6_isTable_6 : decode cX6_isTable 6 = .ok (.if_icmp .ge 7, 3) := by decide +kernel
theorem dX6_isTable_9 : decode cX6_isTable 9 = .ok (.iconst 1, 1) := by decide +kernel
theorem dX6_isTable_10 : decode cX6_isTable 10 = .ok (.goto 4, 3) := by decide +kernel
theorem dX6_isTable_13 : decode cX6_isTable 13 = .ok (.iconst 0, 1) := by decide +kernel
theorem dX6_isTable_14 : decode cX6_isTable 14 = .ok (.ireturn, 1) := by decide +kernel
