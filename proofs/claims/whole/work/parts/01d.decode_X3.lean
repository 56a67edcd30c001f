theorem dX3_init_0 : decode cX3_init 0 = .ok (.aload_n 0, 1) := by decide +kernel
theorem dX3_init_1 : decode cX3_init 1 = .ok (.invokespecial 3, 3) := by decide +kernel
theorem dX3_init_4 : decode cX3_init 4 = .ok (.aload_n 0, 1) := by decide +kernel
theorem dX3_init_5 : decode cX3_init 5 = .ok (.bipush 80, 2) := by decide +kernel
theorem dX3_init_7 : decode cX3_init 7 = .ok (.newarray .int, 2) := by decide +kernel
theorem dX3_init_9 : decode cX3_init 9 = .ok (.putfield 9, 3) := by decide +kernel
theorem dX3_init_12 : decode cX3_init 12 = .ok (.aload_n 0, 1) := by decide +kernel
theorem dX3_init_13 : decode cX3_init 13 = .ok (.iconst 0, 1) := by decide +kernel
theorem dX3_init_14 : decode cX3_init 14 = .ok (.putfield 15, 3) := by decide +kernel
theorem dX3_init_17 : decode cX3_init 17 = .ok (.return_, 1) := by decide +kernel
theorem dX3_append_0 : decode cX3_append 0 = .ok (.lload_n 1, 1) := by decide +kernel
theorem dX3_append_1 : decode cX3_append 1 = .ok (.invokestatic 19, 3) := by decide +kernel
theorem dX3_append_4 : decode cX3_append 4 = .ok (.istore_n 3, 1) := by decide +kernel
theorem dX3_append_5 : decode cX3_append 5 = .ok (.iload_n 3, 1) := by decide +kernel
theorem dX3_append_6 : decode cX3_append 6 = .ok (.ifCond .ne 6, 3) := by decide +kernel
theorem dX3_append_9 : decode cX3_append 9 = .ok (.bipush (-2), 2) := by decide +kernel
theorem dX3_append_11 : decode cX3_append 11 = .ok (.ireturn, 1) := by decide +kernel
theorem dX3_append_12 : decode cX3_append 12 = .ok (.aload_n 0, 1) := by decide +kernel
theorem dX3_append_13 : decode cX3_append 13 = .ok (.getfield 15, 3) := by decide +kernel
theorem dX3_append_16 : decode cX3_append 16 = .ok (.iload_n 3, 1) := by decide +kernel
theorem dX3_append_17 : decode cX3_append 17 = .ok (.iadd, 1) := by decide +kernel
theorem dX3_append_18 : decode cX3_append 18 = .ok (.bipush 80, 2) := by decide +kernel
theorem dX3_append_20 : decode cX3_append 20 = .ok (.if_icmp .le 6, 3) := by decide +kernel
theorem dX3_append_23 : decode cX3_append 23 = .ok (.bipush (-4), 2) := by decide +kernel
theorem dX3_append_25 : decode cX3_append 25 = .ok (.ireturn, 1) := by decide +kernel
theorem dX3_append_26 : decode cX3_append 26 = .ok (.iconst 0, 1) := by decide +kernel
theorem dX3_append_27 : decode cX3_append 27 = .ok (.istore 4, 2) := by decide +kernel
theorem dX3_append_29 : decode cX3_append 29 = .ok (.iload 4, 2) := by decide +kernel
theorem dX3_append_31 : decode cX3_append 31 = .ok (.iload_n 3, 1) := by decide +kernel
theorem dX3_append_32 : decode cX3_append 32 = .ok (.if_icmp .ge 31, 3) := by decide +kernel
theorem dX3_append_35 : decode cX3_append 35 = .ok (.aload_n 0, 1) := by decide +kernel
theorem dX3_append_36 : decode cX3_append 36 = .ok (.getfield 9, 3) := by decide +kernel
theorem dX3_append_39 : decode cX3_append 39 = .ok (.aload_n 0, 1) := by decide +kernel
theorem dX3_append_40 : decode cX3_append 40 = .ok (.getfield 15, 3) := by decide +kernel
theorem dX3_append_43 : decode cX3_append 43 = .ok (.iload_n 3, 1) := by decide +kernel
theorem dX3_append_44 : decode cX3_append 44 = .ok (.iadd, 1) := by decide +kernel
theorem dX3_append_45 : decode cX3_append 45 = .ok (.iconst 1, 1) := by decide +kernel
theorem dX3_append_46 : decode cX3_append 46 = .ok (.isub, 1) := by decide +kernel
theorem dX3_append_47 : decode cX3_append 47 = .ok (.iload 4, 2) := by decide +kernel
theorem dX3_append_49 : decode cX3_append 49 = .ok (.isub, 1) := by decide +kernel
theorem dX3_append_50 : decode cX3_append 50 = .ok (.lload_n 1, 1) := by decide +kernel
theorem dX3_append_51 : decode cX3_append 51 = .ok (.iload 4, 2) := by decide +kernel
theorem dX3_append_53 : decode cX3_append 53 = .ok (.invokestatic 23, 3) := by decide +kernel
theorem dX3_append_56 : decode cX3_append 56 = .ok (.iastore, 1) := by decide +kernel
theorem dX3_append_57 : decode cX3_append 57 = .ok (.iinc 4 1, 3) := by decide +kernel
theorem dX3_append_60 : decode cX3_append 60 = .ok (.goto (-31), 3) := by decide +kernel
theorem dX3_append_63 : decode cX3_append 63 = .ok (.aload_n 0, 1) := by decide +kernel
theorem dX3_append_64 : decode cX3_append 64 = .ok (.dup, 1) := by decide +kernel
theorem dX3_append_65 : decode cX3_append 65 = .ok (.getfield 15, 3) := by decide +kernel
theorem dX3_append_68 : decode cX3_append 68 = .ok (.iload_n 3, 1) := by decide +kernel
theorem dX3_append_69 : decode cX3_append 69 = .ok (.iadd, 1) := by decide +kernel
theorem dX3_append_70 : decode cX3_append 70 = .ok (.putfield 15, 3) := by decide +kernel
theorem dX3_append_73 : decode cX3_append 73 = .ok (.aload_n 0, 1) := by decide +kernel
theorem dX3_append_74 : decode cX3_append 74 = .ok (.getfield 15, 3) := by decide +kernel
theorem dX3_append_77 : decode cX3_append 77 = .ok (.ireturn, 1) := by decide +kernel
theorem dX3_charactersIn_0 : decode cX3_charactersIn 0 = .ok (.iconst 0, 1) := by decide +kernel
theorem dX3_charactersIn_1 : decode cX3_charactersIn 1 = .ok (.istore_n 2, 1) := by decide +kernel
theorem dX3_charactersIn_2 : decode cX3_charactersIn 2 = .ok (.iload_n 2, 1) := by decide +kernel
theorem dX3_charactersIn_3 : decode cX3_charactersIn 3 = .ok (.bipush 8, 2) := by decide +kernel
theorem dX3_charactersIn_5 : decode cX3_charactersIn 5 = .ok (.if_icmp .ge 37, 3) := by decide +kernel
theorem dX3_charactersIn_8 : decode cX3_charactersIn 8 = .ok (.lload_n 0, 1) := by decide +kernel
theorem dX3_charactersIn_9 : decode cX3_charactersIn 9 = .ok (.iload_n 2, 1) := by decide +kernel
theorem dX3_charactersIn_10 : decode cX3_charactersIn 10 = .ok (.invokestatic 23, 3) := by decide +kernel
theorem dX3_charactersIn_13 : decode cX3_charactersIn 13 = .ok (.ifCond .eq 29, 3) := by decide +kernel
theorem dX3_charactersIn_16 : decode cX3_charactersIn 16 = .ok (.lload_n 0, 1) := by decide +kernel
theorem dX3_charactersIn_17 : decode cX3_charactersIn 17 = .ok (.iload_n 2, 1) := by decide +kernel
theorem dX3_charactersIn_18 : decode cX3_charactersIn 18 = .ok (.invokestatic 23, 3) := by decide +kernel
theorem dX3_charactersIn_21 : decode cX3_charactersIn 21 = .ok (.istore_n 3, 1) := by decide +kernel
theorem dX3_charactersIn_22 : decode cX3_charactersIn 22 = .ok (.iload_n 3, 1) := by decide +kernel
theorem dX3_charactersIn_23 : decode cX3_charactersIn 23 = .ok (.bipush 33, 2) := by decide +kernel
theorem dX3_charactersIn_25 : decode cX3_charactersIn 25 = .ok (.if_icmp .lt 9, 3) := by decide +kernel
theorem dX3_charactersIn_28 : decode cX3_charactersIn 28 = .ok (.iload_n 3, 1) := by decide +kernel
theorem dX3_charactersIn_29 : decode cX3_charactersIn 29 = .ok (.bipush 126, 2) := by decide +kernel
theorem dX3_charactersIn_31 : decode cX3_charactersIn 31 = .ok (.if_icmp .le 5, 3) := by decide +kernel
theorem dX3_charactersIn_34 : decode cX3_charactersIn 34 = .ok (.iconst 0, 1) := by decide +kernel
theorem dX3_charactersIn_35 : decode cX3_charactersIn 35 = .ok (.ireturn, 1) := by decide +kernel
theorem dX3_charactersIn_36 : decode cX3_charactersIn 36 = .ok (.iinc 2 1, 3) := by decide +kernel
theorem dX3_charactersIn_39 : decode cX3_charactersIn 39 = .ok (.goto (-37), 3) := by decide +kernel
theorem dX3_charactersIn_42 : decode cX3_charactersIn 42 = .ok (.iload_n 2, 1) := by decide +kernel
theorem dX3_charactersIn_43 : decode cX3_charactersIn 43 = .ok (.bipush 8, 2) := by decide +kernel
theorem dX3_charactersIn_45 : decode cX3_charactersIn 45 = .ok (.if_icmp .ge 18, 3) := by decide +kernel
theorem dX3_charactersIn_48 : decode cX3_charactersIn 48 = .ok (.lload_n 0, 1) := by decide +kernel
theorem dX3_charactersIn_49 : decode cX3_charactersIn 49 = .ok (.iload_n 2, 1) := by decide +kernel
theorem dX3_charactersIn_50 : decode cX3_charactersIn 50 = .ok (.bipush 8, 2) := by decide +kernel
theorem dX3_charactersIn_52 : decode cX3_charactersIn 52 = .ok (.imul, 1) := by decide +kernel
theorem dX3_charactersIn_53 : decode cX3_charactersIn 53 = .ok (.lushr, 1) := by decide +kernel
theorem dX3_charactersIn_54 : decode cX3_charactersIn 54 = .ok (.lconst 0, 1) := by decide +kernel
theorem dX3_charactersIn_55 : decode cX3_charactersIn 55 = .ok (.lcmp, 1) := by decide +kernel
theorem dX3_charactersIn_56 : decode cX3_charactersIn 56 = .ok (.ifCond .eq 7, 3) := by decide +kernel
theorem dX3_charactersIn_59 : decode cX3_charactersIn 59 = .ok (.iconst 1, 1) := by decide +kernel
theorem dX3_charactersIn_60 : decode cX3_charactersIn 60 = .ok (.goto 4, 3) := by decide +kernel
theorem dX3_charactersIn_63 : decode cX3_charactersIn 63 = .ok (.iconst 0, 1) := by decide +kernel
theorem dX3_charactersIn_64 : decode cX3_charactersIn 64 = .ok (.istore_n 3, 1) := by decide +kernel
theorem dX3_charactersIn_65 : decode cX3_charactersIn 65 = .ok (.iload_n 3, 1) := by decide +kernel
theorem dX3_charactersIn_66 : decode cX3_charactersIn 66 = .ok (.ifCond .eq 7, 3) := by decide +kernel
theorem dX3_charactersIn_69 : decode cX3_charactersIn 69 = .ok (.iconst 0, 1) := by decide +kernel
theorem dX3_charactersIn_70 : decode cX3_charactersIn 70 = .ok (.goto 4, 3) := by decide +kernel
theorem dX3_charactersIn_73 : decode cX3_charactersIn 73 = .ok (.iload_n 2, 1) := by decide +kernel
theorem dX3_charactersIn_74 : decode cX3_charactersIn 74 = .ok (.ireturn, 1) := by decide +kernel
theorem dX3_codeOf_0 : decode cX3_codeOf 0 = .ok (.lload_n 0, 1) := by decide +kernel
theorem dX3_codeOf_1 : decode cX3_codeOf 1 = .ok (.iload_n 2, 1) := by decide +kernel
theorem dX3_codeOf_2 : decode cX3_codeOf 2 = .ok (.bipush 8, 2) := by decide +kernel
theorem dX3_codeOf_4 : decode cX3_codeOf 4 = .ok (.imul, 1) := by decide +kernel
theorem dX3_codeOf_5 : decode cX3_codeOf 5 = .ok (.lushr, 1) := by decide +kernel
theorem dX3_codeOf_6 : decode cX3_codeOf 6 = .ok (.l2i, 1) := by decide +kernel
theorem dX3_codeOf_7 : decode cX3_codeOf 7 = .ok (.sipush 255, 3) := by decide +kernel
theorem dX3_codeOf_10 : decode cX3_codeOf 10 = .ok (.iand, 1) := by decide +kernel
theorem dX3_codeOf_11 : decode cX3_codeOf 11 = .ok (.ireturn, 1) := by decide +kernel
theorem dX3_clear_0 : decode cX3_clear 0 = .ok (.aload_n 0, 1) := by decide +kernel
theorem dX3_clear_1 : decode cX3_clear 1 = .ok (.getfield 15, 3) := by decide +kernel
theorem dX3_clear_4 : decode cX3_clear 4 = .ok (.istore_n 1, 1) := by decide +kernel
theorem dX3_clear_5 : decode cX3_clear 5 = .ok (.aload_n 0, 1) := by decide +kernel
theorem dX3_clear_6 : decode cX3_clear 6 = .ok (.iconst 0, 1) := by decide +kernel
theorem dX3_clear_7 : decode cX3_clear 7 = .ok (.putfield 15, 3) := by decide +kernel
theorem dX3_clear_10 : decode cX3_clear 10 = .ok (.iload_n 1, 1) := by decide +kernel
theorem dX3_clear_11 : decode cX3_clear 11 = .ok (.ireturn, 1) := by decide +kernel
theorem dX3_firstFault_0 : decode cX3_firstFault 0 = .ok (.iconst 0, 1) := by decide +kernel
theorem dX3_firstFault_1 : decode cX3_firstFault 1 = .ok (.istore_n 1, 1) := by decide +kernel
theorem dX3_firstFault_2 : decode cX3_firstFault 2 = .ok (.iconst 0, 1) := by decide +kernel
theorem dX3_firstFault_3 : decode cX3_firstFault 3 = .ok (.istore_n 2, 1) := by decide +kernel
theorem dX3_firstFault_4 : decode cX3_firstFault 4 = .ok (.iload_n 2, 1) := by decide +kernel
theorem dX3_firstFault_5 : decode cX3_firstFault 5 = .ok (.aload_n 0, 1) := by decide +kernel
theorem dX3_firstFault_6 : decode cX3_firstFault 6 = .ok (.getfield 15, 3) := by decide +kernel
theorem dX3_firstFault_9 : decode cX3_firstFault 9 = .ok (.if_icmp .ge 27, 3) := by decide +kernel
theorem dX3_firstFault_12 : decode cX3_firstFault 12 = .ok (.iload_n 1, 1) := by decide +kernel
theorem dX3_firstFault_13 : decode cX3_firstFault 13 = .ok (.aload_n 0, 1) := by decide +kernel
theorem dX3_firstFault_14 : decode cX3_firstFault 14 = .ok (.getfield 9, 3) := by decide +kernel
theorem dX3_firstFault_17 : decode cX3_firstFault 17 = .ok (.iload_n 2, 1) := by decide +kernel
theorem dX3_firstFault_18 : decode cX3_firstFault 18 = .ok (.iaload, 1) := by decide +kernel
theorem dX3_firstFault_19 : decode cX3_firstFault 19 = .ok (.invokestatic 27, 3) := by decide +kernel
theorem dX3_firstFault_22 : decode cX3_firstFault 22 = .ok (.istore_n 1, 1) := by decide +kernel
theorem dX3_firstFault_23 : decode cX3_firstFault 23 = .ok (.iload_n 1, 1) := by decide +kernel
theorem dX3_firstFault_24 : decode cX3_firstFault 24 = .ok (.iconst (-1), 1) := by decide +kernel
theorem dX3_firstFault_25 : decode cX3_firstFault 25 = .ok (.if_icmp .ne 5, 3) := by decide +kernel
theorem dX3_firstFault_28 : decode cX3_firstFault 28 = .ok (.iload_n 2, 1) := by decide +kernel
theorem dX3_firstFault_29 : decode cX3_firstFault 29 = .ok (.ireturn, 1) := by decide +kernel
theorem dX3_firstFault_30 : decode cX3_firstFault 30 = .ok (.iinc 2 1, 3) := by decide +kernel
theorem dX3_firstFault_33 : decode cX3_firstFault 33 = .ok (.goto (-29), 3) := by decide +kernel
theorem dX3_firstFault_36 : decode cX3_firstFault 36 = .ok (.iload_n 1, 1) := by decide +kernel
theorem dX3_firstFault_37 : decode cX3_firstFault 37 = .ok (.iconst 5, 1) := by decide +kernel
theorem dX3_firstFault_38 : decode cX3_firstFault 38 = .ok (.if_icmp .eq 9, 3) := by decide +kernel
theorem dX3_firstFault_41 : decode cX3_firstFault 41 = .ok (.iload_n 1, 1) := by decide +kernel
theorem dX3_firstFault_42 : decode cX3_firstFault 42 = .ok (.bipush 6, 2) := by decide +kernel
theorem dX3_firstFault_44 : decode cX3_firstFault 44 = .ok (.if_icmp .ne 8, 3) := by decide +kernel
theorem dX3_firstFault_47 : decode cX3_firstFault 47 = .ok (.bipush (-6), 2) := by decide +kernel
theorem dX3_firstFault_49 : decode cX3_firstFault 49 = .ok (.goto 7, 3) := by decide +kernel
theorem dX3_firstFault_52 : decode cX3_firstFault 52 = .ok (.aload_n 0, 1) := by decide +kernel
theorem dX3_firstFault_53 : decode cX3_firstFault 53 = .ok (.getfield 15, 3) := by decide +kernel
theorem dX3_firstFault_56 : decode cX3_firstFault 56 = .ok (.ireturn, 1) := by decide +kernel
theorem dX3_expectedAfter_0 : decode cX3_expectedAfter 0 = .ok (.iload_n 0, 1) := by decide +kernel
theorem dX3_expectedAfter_1 : decode cX3_expectedAfter 1 = .ok (.tableswitch 127 0 5 #[39, 44, 57, 69, 83, 105], 39) := by decide +kernel
theorem dX3_expectedAfter_40 : decode cX3_expectedAfter 40 = .ok (.iload_n 1, 1) := by decide +kernel
theorem dX3_expectedAfter_41 : decode cX3_expectedAfter 41 = .ok (.invokestatic 31, 3) := by decide +kernel
theorem dX3_expectedAfter_44 : decode cX3_expectedAfter 44 = .ok (.ireturn, 1) := by decide +kernel
theorem dX3_expectedAfter_45 : decode cX3_expectedAfter 45 = .ok (.iload_n 1, 1) := by decide +kernel
theorem dX3_expectedAfter_46 : decode cX3_expectedAfter 46 = .ok (.invokestatic 35, 3) := by decide +kernel
theorem dX3_expectedAfter_49 : decode cX3_expectedAfter 49 = .ok (.ifCond .eq 7, 3) := by decide +kernel
theorem dX3_expectedAfter_52 : decode cX3_expectedAfter 52 = .ok (.iconst 2, 1) := by decide +kernel
theorem dX3_expectedAfter_53 : decode cX3_expectedAfter 53 = .ok (.goto 4, 3) := by decide +kernel
theorem dX3_expectedAfter_56 : decode cX3_expectedAfter 56 = .ok (.iconst (-1), 1) := by decide +kernel
theorem dX3_expectedAfter_57 : decode cX3_expectedAfter 57 = .ok (.ireturn, 1) := by decide +kernel
theorem dX3_expectedAfter_58 : decode cX3_expectedAfter 58 = .ok (.iload_n 1, 1) := by decide +kernel
theorem dX3_expectedAfter_59 : decode cX3_expectedAfter 59 = .ok (.bipush 46, 2) := by decide +kernel
theorem dX3_expectedAfter_61 : decode cX3_expectedAfter 61 = .ok (.if_icmp .ne 7, 3) := by decide +kernel
theorem dX3_expectedAfter_64 : decode cX3_expectedAfter 64 = .ok (.iconst 3, 1) := by decide +kernel
theorem dX3_expectedAfter_65 : decode cX3_expectedAfter 65 = .ok (.goto 4, 3) := by decide +kernel
theorem dX3_expectedAfter_68 : decode cX3_expectedAfter 68 = .ok (.iconst (-1), 1) := by decide +kernel
theorem dX3_expectedAfter_69 : decode cX3_expectedAfter 69 = .ok (.ireturn, 1) := by decide +kernel
theorem dX3_expectedAfter_70 : decode cX3_expectedAfter 70 = .ok (.iload_n 1, 1) := by decide +kernel
theorem dX3_expectedAfter_71 : decode cX3_expectedAfter 71 = .ok (.invokestatic 35, 3) := by decide +kernel
theorem dX3_expectedAfter_74 : decode cX3_expectedAfter 74 = .ok (.ifCond .eq 8, 3) := by decide +kernel
theorem dX3_expectedAfter_77 : decode cX3_expectedAfter 77 = .ok (.bipush 6, 2) := by decide +kernel
theorem dX3_expectedAfter_79 : decode cX3_expectedAfter 79 = .ok (.goto 4, 3) := by decide +kernel
theorem dX3_expectedAfter_82 : decode cX3_expectedAfter 82 = .ok (.iconst (-1), 1) := by decide +kernel
theorem dX3_expectedAfter_83 : decode cX3_expectedAfter 83 = .ok (.ireturn, 1) := by decide +kernel
theorem dX3_expectedAfter_84 : decode cX3_expectedAfter 84 = .ok (.iload_n 1, 1) := by decide +kernel
theorem dX3_expectedAfter_85 : decode cX3_expectedAfter 85 = .ok (.bipush 48, 2) := by decide +kernel
theorem dX3_expectedAfter_87 : decode cX3_expectedAfter 87 = .ok (.if_icmp .ne 6, 3) := by decide +kernel
theorem dX3_expectedAfter_90 : decode cX3_expectedAfter 90 = .ok (.bipush 6, 2) := by decide +kernel
theorem dX3_expectedAfter_92 : decode cX3_expectedAfter 92 = .ok (.ireturn, 1) := by decide +kernel
theorem dX3_expectedAfter_93 : decode cX3_expectedAfter 93 = .ok (.iload_n 1, 1) := by decide +kernel
theorem dX3_expectedAfter_94 : decode cX3_expectedAfter 94 = .ok (.invokestatic 35, 3) := by decide +kernel
theorem dX3_expectedAfter_97 : decode cX3_expectedAfter 97 = .ok (.ifCond .eq 7, 3) := by decide +kernel
theorem dX3_expectedAfter_100 : decode cX3_expectedAfter 100 = .ok (.iconst 5, 1) := by decide +kernel
theorem dX3_expectedAfter_101 : decode cX3_expectedAfter 101 = .ok (.goto 4, 3) := by decide +kernel
theorem dX3_expectedAfter_104 : decode cX3_expectedAfter 104 = .ok (.iconst (-1), 1) := by decide +kernel
theorem dX3_expectedAfter_105 : decode cX3_expectedAfter 105 = .ok (.ireturn, 1) := by decide +kernel
theorem dX3_expectedAfter_106 : decode cX3_expectedAfter 106 = .ok (.iload_n 1, 1) := by decide +kernel
theorem dX3_expectedAfter_107 : decode cX3_expectedAfter 107 = .ok (.invokestatic 35, 3) := by decide +kernel
theorem dX3_expectedAfter_110 : decode cX3_expectedAfter 110 = .ok (.ifCond .eq 6, 3) := by decide +kernel
theorem dX3_expectedAfter_113 : decode cX3_expectedAfter 113 = .ok (.bipush 6, 2) := by decide +kernel
theorem dX3_expectedAfter_115 : decode cX3_expectedAfter 115 = .ok (.ireturn, 1) := by decide +kernel
theorem dX3_expectedAfter_116 : decode cX3_expectedAfter 116 = .ok (.iload_n 1, 1) := by decide +kernel
theorem dX3_expectedAfter_117 : decode cX3_expectedAfter 117 = .ok (.bipush 59, 2) := by decide +kernel
theorem dX3_expectedAfter_119 : decode cX3_expectedAfter 119 = .ok (.if_icmp .ne 7, 3) := by decide +kernel
theorem dX3_expectedAfter_122 : decode cX3_expectedAfter 122 = .ok (.iconst 0, 1) := by decide +kernel
theorem dX3_expectedAfter_123 : decode cX3_expectedAfter 123 = .ok (.goto 4, 3) := by decide +kernel
theorem dX3_expectedAfter_126 : decode cX3_expectedAfter 126 = .ok (.iconst (-1), 1) := by decide +kernel
theorem dX3_expectedAfter_127 : decode cX3_expectedAfter 127 = .ok (.ireturn, 1) := by decide +kernel
theorem dX3_expectedAfter_128 : decode cX3_expectedAfter 128 = .ok (.iload_n 1, 1) := by decide +kernel
theorem dX3_expectedAfter_129 : decode cX3_expectedAfter 129 = .ok (.bipush 59, 2) := by decide +kernel
theorem dX3_expectedAfter_131 : decode cX3_expectedAfter 131 = .ok (.if_icmp .ne 7, 3) := by decide +kernel
theorem dX3_expectedAfter_134 : decode cX3_expectedAfter 134 = .ok (.iconst 0, 1) := by decide +kernel
theorem dX3_expectedAfter_135 : decode cX3_expectedAfter 135 = .ok (.goto 4, 3) := by decide +kernel
theorem dX3_expectedAfter_138 : decode cX3_expectedAfter 138 = .ok (.iconst (-1), 1) := by decide +kernel
theorem dX3_expectedAfter_139 : decode cX3_expectedAfter 139 = .ok (.ireturn, 1) := by decide +kernel
theorem dX3_expectedAfterLetter_0 : decode cX3_expectedAfterLetter 0 = .ok (.iload_n 0, 1) := by decide +kernel
theorem dX3_expectedAfterLetter_1 : decode cX3_expectedAfterLetter 1 = .ok (.tableswitch 109 99 120 #[107, 109, 105, 109, 103, 109, 109, 109, 109, 109, 109, 109, 109, 105, 109, 109, 109, 107, 109, 109, 107, 107], 103) := by decide +kernel
theorem dX3_expectedAfterLetter_104 : decode cX3_expectedAfterLetter 104 = .ok (.iconst 1, 1) := by decide +kernel
theorem dX3_expectedAfterLetter_105 : decode cX3_expectedAfterLetter 105 = .ok (.ireturn, 1) := by decide +kernel
theorem dX3_expectedAfterLetter_106 : decode cX3_expectedAfterLetter 106 = .ok (.iconst 3, 1) := by decide +kernel
theorem dX3_expectedAfterLetter_107 : decode cX3_expectedAfterLetter 107 = .ok (.ireturn, 1) := by decide +kernel
theorem dX3_expectedAfterLetter_108 : decode cX3_expectedAfterLetter 108 = .ok (.iconst 4, 1) := by decide +kernel
theorem dX3_expectedAfterLetter_109 : decode cX3_expectedAfterLetter 109 = .ok (.ireturn, 1) := by decide +kernel
theorem dX3_expectedAfterLetter_110 : decode cX3_expectedAfterLetter 110 = .ok (.iconst (-1), 1) := by decide +kernel
theorem dX3_expectedAfterLetter_111 : decode cX3_expectedAfterLetter 111 = .ok (.ireturn, 1) := by decide +kernel
theorem dX3_isDigit_0 : decode cX3_isDigit 0 = .ok (.iload_n 0, 1) := by decide +kernel
theorem dX3_isDigit_1 : decode cX3_isDigit 1 = .ok (.bipush 48, 2) := by decide +kernel
theorem dX3_isDigit_3 : decode cX3_isDigit 3 = .ok (.if_icmp .lt 13, 3) := by decide +kernel
theorem dX3_isDigit_6 : decode cX3_isDigit 6 = .ok (.iload_n 0, 1) := by decide +kernel
theorem dX3_isDigit_7 : decode cX3_isDigit 7 = .ok (.bipush 57, 2) := by decide +kernel
theorem dX3_isDigit_9 : decode cX3_isDigit 9 = .ok (.if_icmp .gt 7, 3) := by decide +kernel
theorem dX3_isDigit_12 : decode cX3_isDigit 12 = .ok (.iconst 1, 1) := by decide +kernel
theorem dX3_isDigit_13 : decode cX3_isDigit 13 = .ok (.goto 4, 3) := by decide +kernel
theorem dX3_isDigit_16 : decode cX3_isDigit 16 = .ok (.iconst 0, 1) := by decide +kernel
theorem dX3_isDigit_17 : decode cX3_isDigit 17 = .ok (.ireturn, 1) := by decide +kernel
theorem dX3_isEndOfOrder_0 : decode cX3_isEndOfOrder 0 = .ok (.iload_n 1, 1) := by decide +kernel
theorem dX3_isEndOfOrder_1 : decode cX3_isEndOfOrder 1 = .ok (.aload_n 0, 1) := by decide +kernel
theorem dX3_isEndOfOrder_2 : decode cX3_isEndOfOrder 2 = .ok (.getfield 15, 3) := by decide +kernel
theorem dX3_isEndOfOrder_5 : decode cX3_isEndOfOrder 5 = .ok (.if_icmp .ge 14, 3) := by decide +kernel
theorem dX3_isEndOfOrder_8 : decode cX3_isEndOfOrder 8 = .ok (.aload_n 0, 1) := by decide +kernel
theorem dX3_isEndOfOrder_9 : decode cX3_isEndOfOrder 9 = .ok (.getfield 9, 3) := by decide +kernel
theorem dX3_isEndOfOrder_12 : decode cX3_isEndOfOrder 12 = .ok (.iload_n 1, 1) := by decide +kernel
theorem dX3_isEndOfOrder_13 : decode cX3_isEndOfOrder 13 = .ok (.iaload, 1) := by decide +kernel
theorem dX3_isEndOfOrder_14 : decode cX3_isEndOfOrder 14 = .ok (.bipush 59, 2) := by decide +kernel
theorem dX3_isEndOfOrder_16 : decode cX3_isEndOfOrder 16 = .ok (.if_icmp .ne 7, 3) := by decide +kernel
theorem dX3_isEndOfOrder_19 : decode cX3_isEndOfOrder 19 = .ok (.iconst 1, 1) := by decide +kernel
theorem dX3_isEndOfOrder_20 : decode cX3_isEndOfOrder 20 = .ok (.goto 4, 3) := by decide +kernel
theorem dX3_isEndOfOrder_23 : decode cX3_isEndOfOrder 23 = .ok (.iconst 0, 1) := by decide +kernel
theorem dX3_isEndOfOrder_24 : decode cX3_isEndOfOrder 24 = .ok (.ireturn, 1) := by decide +kernel
theorem dX3_firstDigit_0 : decode cX3_firstDigit 0 = .ok (.iload_n 1, 1) := by decide +kernel
theorem dX3_firstDigit_1 : decode cX3_firstDigit 1 = .ok (.iconst 1, 1) := by decide +kernel
theorem dX3_firstDigit_2 : decode cX3_firstDigit 2 = .ok (.iadd, 1) := by decide +kernel
theorem dX3_firstDigit_3 : decode cX3_firstDigit 3 = .ok (.iload_n 2, 1) := by decide +kernel
theorem dX3_firstDigit_4 : decode cX3_firstDigit 4 = .ok (.if_icmp .ge 17, 3) := by decide +kernel
theorem dX3_firstDigit_7 : decode cX3_firstDigit 7 = .ok (.aload_n 0, 1) := by decide +kernel
theorem dX3_firstDigit_8 : decode cX3_firstDigit 8 = .ok (.getfield 9, 3) := by decide +kernel
theorem dX3_firstDigit_11 : decode cX3_firstDigit 11 = .ok (.iload_n 1, 1) := by decide +kernel
theorem dX3_firstDigit_12 : decode cX3_firstDigit 12 = .ok (.iconst 1, 1) := by decide +kernel
theorem dX3_firstDigit_13 : decode cX3_firstDigit 13 = .ok (.iadd, 1) := by decide +kernel
theorem dX3_firstDigit_14 : decode cX3_firstDigit 14 = .ok (.iaload, 1) := by decide +kernel
theorem dX3_firstDigit_15 : decode cX3_firstDigit 15 = .ok (.bipush 48, 2) := by decide +kernel
theorem dX3_firstDigit_17 : decode cX3_firstDigit 17 = .ok (.isub, 1) := by decide +kernel
theorem dX3_firstDigit_18 : decode cX3_firstDigit 18 = .ok (.goto 4, 3) := by decide +kernel
theorem dX3_firstDigit_21 : decode cX3_firstDigit 21 = .ok (.iconst 0, 1) := by decide +kernel
theorem dX3_firstDigit_22 : decode cX3_firstDigit 22 = .ok (.ireturn, 1) := by decide +kernel
theorem dX3_lastNumber_0 : decode cX3_lastNumber 0 = .ok (.iconst 0, 1) := by decide +kernel
theorem dX3_lastNumber_1 : decode cX3_lastNumber 1 = .ok (.istore_n 3, 1) := by decide +kernel
theorem dX3_lastNumber_2 : decode cX3_lastNumber 2 = .ok (.iload_n 1, 1) := by decide +kernel
theorem dX3_lastNumber_3 : decode cX3_lastNumber 3 = .ok (.iconst 1, 1) := by decide +kernel
theorem dX3_lastNumber_4 : decode cX3_lastNumber 4 = .ok (.iadd, 1) := by decide +kernel
theorem dX3_lastNumber_5 : decode cX3_lastNumber 5 = .ok (.istore 4, 2) := by decide +kernel
theorem dX3_lastNumber_7 : decode cX3_lastNumber 7 = .ok (.iload 4, 2) := by decide +kernel
theorem dX3_lastNumber_9 : decode cX3_lastNumber 9 = .ok (.iload_n 2, 1) := by decide +kernel
theorem dX3_lastNumber_10 : decode cX3_lastNumber 10 = .ok (.if_icmp .ge 42, 3) := by decide +kernel
theorem dX3_lastNumber_13 : decode cX3_lastNumber 13 = .ok (.aload_n 0, 1) := by decide +kernel
theorem dX3_lastNumber_14 : decode cX3_lastNumber 14 = .ok (.getfield 9, 3) := by decide +kernel
theorem dX3_lastNumber_17 : decode cX3_lastNumber 17 = .ok (.iload 4, 2) := by decide +kernel
theorem dX3_lastNumber_19 : decode cX3_lastNumber 19 = .ok (.iaload, 1) := by decide +kernel
theorem dX3_lastNumber_20 : decode cX3_lastNumber 20 = .ok (.invokestatic 35, 3) := by decide +kernel
theorem dX3_lastNumber_23 : decode cX3_lastNumber 23 = .ok (.ifCond .eq 21, 3) := by decide +kernel
theorem dX3_lastNumber_26 : decode cX3_lastNumber 26 = .ok (.iload_n 3, 1) := by decide +kernel
theorem dX3_lastNumber_27 : decode cX3_lastNumber 27 = .ok (.bipush 10, 2) := by decide +kernel
theorem dX3_lastNumber_29 : decode cX3_lastNumber 29 = .ok (.imul, 1) := by decide +kernel
theorem dX3_lastNumber_30 : decode cX3_lastNumber 30 = .ok (.aload_n 0, 1) := by decide +kernel
theorem dX3_lastNumber_31 : decode cX3_lastNumber 31 = .ok (.getfield 9, 3) := by decide +kernel
theorem dX3_lastNumber_34 : decode cX3_lastNumber 34 = .ok (.iload 4, 2) := by decide +kernel
theorem dX3_lastNumber_36 : decode cX3_lastNumber 36 = .ok (.iaload, 1) := by decide +kernel
theorem dX3_lastNumber_37 : decode cX3_lastNumber 37 = .ok (.iadd, 1) := by decide +kernel
theorem dX3_lastNumber_38 : decode cX3_lastNumber 38 = .ok (.bipush 48, 2) := by decide +kernel
theorem dX3_lastNumber_40 : decode cX3_lastNumber 40 = .ok (.isub, 1) := by decide +kernel
theorem dX3_lastNumber_41 : decode cX3_lastNumber 41 = .ok (.goto 4, 3) := by decide +kernel
theorem dX3_lastNumber_44 : decode cX3_lastNumber 44 = .ok (.iconst 0, 1) := by decide +kernel
theorem dX3_lastNumber_45 : decode cX3_lastNumber 45 = .ok (.istore_n 3, 1) := by decide +kernel
theorem dX3_lastNumber_46 : decode cX3_lastNumber 46 = .ok (.iinc 4 1, 3) := by decide +kernel
theorem dX3_lastNumber_49 : decode cX3_lastNumber 49 = .ok (.goto (-42), 3) := by decide +kernel
theorem dX3_lastNumber_52 : decode cX3_lastNumber 52 = .ok (.iload_n 3, 1) := by decide +kernel
theorem dX3_lastNumber_53 : decode cX3_lastNumber 53 = .ok (.ireturn, 1) := by decide +kernel
