theorem dX0_init_0 : decode cX0_init 0 = .ok (.aload_n 0, 1) := by decide +kernel
theorem dX0_init_1 : decode cX0_init 1 = .ok (.invokespecial 3, 3) := by decide +kernel
theorem dX0_init_4 : decode cX0_init 4 = .ok (.aload_n 0, 1) := by decide +kernel
theorem dX0_init_5 : decode cX0_init 5 = .ok (.iconst 0, 1) := by decide +kernel
theorem dX0_init_6 : decode cX0_init 6 = .ok (.putfield 9, 3) := by decide +kernel
theorem dX0_init_9 : decode cX0_init 9 = .ok (.aload_n 0, 1) := by decide +kernel
theorem dX0_init_10 : decode cX0_init 10 = .ok (.bipush 10, 2) := by decide +kernel
theorem dX0_init_12 : decode cX0_init 12 = .ok (.newarray .int, 2) := by decide +kernel
theorem dX0_init_14 : decode cX0_init 14 = .ok (.putfield 15, 3) := by decide +kernel
theorem dX0_init_17 : decode cX0_init 17 = .ok (.aload_n 0, 1) := by decide +kernel
theorem dX0_init_18 : decode cX0_init 18 = .ok (.bipush 10, 2) := by decide +kernel
theorem dX0_init_20 : decode cX0_init 20 = .ok (.newarray .int, 2) := by decide +kernel
theorem dX0_init_22 : decode cX0_init 22 = .ok (.putfield 19, 3) := by decide +kernel
theorem dX0_init_25 : decode cX0_init 25 = .ok (.aload_n 0, 1) := by decide +kernel
theorem dX0_init_26 : decode cX0_init 26 = .ok (.bipush 10, 2) := by decide +kernel
theorem dX0_init_28 : decode cX0_init 28 = .ok (.newarray .int, 2) := by decide +kernel
theorem dX0_init_30 : decode cX0_init 30 = .ok (.putfield 22, 3) := by decide +kernel
theorem dX0_init_33 : decode cX0_init 33 = .ok (.aload_n 0, 1) := by decide +kernel
theorem dX0_init_34 : decode cX0_init 34 = .ok (.bipush 10, 2) := by decide +kernel
theorem dX0_init_36 : decode cX0_init 36 = .ok (.newarray .int, 2) := by decide +kernel
theorem dX0_init_38 : decode cX0_init 38 = .ok (.putfield 25, 3) := by decide +kernel
theorem dX0_init_41 : decode cX0_init 41 = .ok (.aload_n 0, 1) := by decide +kernel
theorem dX0_init_42 : decode cX0_init 42 = .ok (.bipush 10, 2) := by decide +kernel
theorem dX0_init_44 : decode cX0_init 44 = .ok (.newarray .int, 2) := by decide +kernel
theorem dX0_init_46 : decode cX0_init 46 = .ok (.putfield 28, 3) := by decide +kernel
theorem dX0_init_49 : decode cX0_init 49 = .ok (.aload_n 0, 1) := by decide +kernel
theorem dX0_init_50 : decode cX0_init 50 = .ok (.bipush 10, 2) := by decide +kernel
theorem dX0_init_52 : decode cX0_init 52 = .ok (.newarray .int, 2) := by decide +kernel
theorem dX0_init_54 : decode cX0_init 54 = .ok (.putfield 31, 3) := by decide +kernel
theorem dX0_init_57 : decode cX0_init 57 = .ok (.return_, 1) := by decide +kernel
theorem dX0_copyFrom_0 : decode cX0_copyFrom 0 = .ok (.aload_n 0, 1) := by decide +kernel
theorem dX0_copyFrom_1 : decode cX0_copyFrom 1 = .ok (.aload_n 1, 1) := by decide +kernel
theorem dX0_copyFrom_2 : decode cX0_copyFrom 2 = .ok (.getfield 9, 3) := by decide +kernel
theorem dX0_copyFrom_5 : decode cX0_copyFrom 5 = .ok (.putfield 9, 3) := by decide +kernel
theorem dX0_copyFrom_8 : decode cX0_copyFrom 8 = .ok (.aload_n 1, 1) := by decide +kernel
theorem dX0_copyFrom_9 : decode cX0_copyFrom 9 = .ok (.getfield 15, 3) := by decide +kernel
theorem dX0_copyFrom_12 : decode cX0_copyFrom 12 = .ok (.iconst 0, 1) := by decide +kernel
theorem dX0_copyFrom_13 : decode cX0_copyFrom 13 = .ok (.aload_n 0, 1) := by decide +kernel
theorem dX0_copyFrom_14 : decode cX0_copyFrom 14 = .ok (.getfield 15, 3) := by decide +kernel
theorem dX0_copyFrom_17 : decode cX0_copyFrom 17 = .ok (.iconst 0, 1) := by decide +kernel
theorem dX0_copyFrom_18 : decode cX0_copyFrom 18 = .ok (.bipush 10, 2) := by decide +kernel
theorem dX0_copyFrom_20 : decode cX0_copyFrom 20 = .ok (.invokestatic 34, 3) := by decide +kernel
theorem dX0_copyFrom_23 : decode cX0_copyFrom 23 = .ok (.aload_n 1, 1) := by decide +kernel
theorem dX0_copyFrom_24 : decode cX0_copyFrom 24 = .ok (.getfield 19, 3) := by decide +kernel
theorem dX0_copyFrom_27 : decode cX0_copyFrom 27 = .ok (.iconst 0, 1) := by decide +kernel
theorem dX0_copyFrom_28 : decode cX0_copyFrom 28 = .ok (.aload_n 0, 1) := by decide +kernel
theorem dX0_copyFrom_29 : decode cX0_copyFrom 29 = .ok (.getfield 19, 3) := by decide +kernel
theorem dX0_copyFrom_32 : decode cX0_copyFrom 32 = .ok (.iconst 0, 1) := by decide +kernel
theorem dX0_copyFrom_33 : decode cX0_copyFrom 33 = .ok (.bipush 10, 2) := by decide +kernel
theorem dX0_copyFrom_35 : decode cX0_copyFrom 35 = .ok (.invokestatic 34, 3) := by decide +kernel
theorem dX0_copyFrom_38 : decode cX0_copyFrom 38 = .ok (.aload_n 1, 1) := by decide +kernel
theorem dX0_copyFrom_39 : decode cX0_copyFrom 39 = .ok (.getfield 22, 3) := by decide +kernel
theorem dX0_copyFrom_42 : decode cX0_copyFrom 42 = .ok (.iconst 0, 1) := by decide +kernel
theorem dX0_copyFrom_43 : decode cX0_copyFrom 43 = .ok (.aload_n 0, 1) := by decide +kernel
theorem dX0_copyFrom_44 : decode cX0_copyFrom 44 = .ok (.getfield 22, 3) := by decide +kernel
theorem dX0_copyFrom_47 : decode cX0_copyFrom 47 = .ok (.iconst 0, 1) := by decide +kernel
theorem dX0_copyFrom_48 : decode cX0_copyFrom 48 = .ok (.bipush 10, 2) := by decide +kernel
theorem dX0_copyFrom_50 : decode cX0_copyFrom 50 = .ok (.invokestatic 34, 3) := by decide +kernel
theorem dX0_copyFrom_53 : decode cX0_copyFrom 53 = .ok (.aload_n 1, 1) := by decide +kernel
theorem dX0_copyFrom_54 : decode cX0_copyFrom 54 = .ok (.getfield 25, 3) := by decide +kernel
theorem dX0_copyFrom_57 : decode cX0_copyFrom 57 = .ok (.iconst 0, 1) := by decide +kernel
theorem dX0_copyFrom_58 : decode cX0_copyFrom 58 = .ok (.aload_n 0, 1) := by decide +kernel
theorem dX0_copyFrom_59 : decode cX0_copyFrom 59 = .ok (.getfield 25, 3) := by decide +kernel
theorem dX0_copyFrom_62 : decode cX0_copyFrom 62 = .ok (.iconst 0, 1) := by decide +kernel
theorem dX0_copyFrom_63 : decode cX0_copyFrom 63 = .ok (.bipush 10, 2) := by decide +kernel
theorem dX0_copyFrom_65 : decode cX0_copyFrom 65 = .ok (.invokestatic 34, 3) := by decide +kernel
theorem dX0_copyFrom_68 : decode cX0_copyFrom 68 = .ok (.aload_n 1, 1) := by decide +kernel
theorem dX0_copyFrom_69 : decode cX0_copyFrom 69 = .ok (.getfield 28, 3) := by decide +kernel
theorem dX0_copyFrom_72 : decode cX0_copyFrom 72 = .ok (.iconst 0, 1) := by decide +kernel
theorem dX0_copyFrom_73 : decode cX0_copyFrom 73 = .ok (.aload_n 0, 1) := by decide +kernel
theorem dX0_copyFrom_74 : decode cX0_copyFrom 74 = .ok (.getfield 28, 3) := by decide +kernel
theorem dX0_copyFrom_77 : decode cX0_copyFrom 77 = .ok (.iconst 0, 1) := by decide +kernel
theorem dX0_copyFrom_78 : decode cX0_copyFrom 78 = .ok (.bipush 10, 2) := by decide +kernel
theorem dX0_copyFrom_80 : decode cX0_copyFrom 80 = .ok (.invokestatic 34, 3) := by decide +kernel
theorem dX0_copyFrom_83 : decode cX0_copyFrom 83 = .ok (.aload_n 1, 1) := by decide +kernel
theorem dX0_copyFrom_84 : decode cX0_copyFrom 84 = .ok (.getfield 31, 3) := by decide +kernel
theorem dX0_copyFrom_87 : decode cX0_copyFrom 87 = .ok (.iconst 0, 1) := by decide +kernel
theorem dX0_copyFrom_88 : decode cX0_copyFrom 88 = .ok (.aload_n 0, 1) := by decide +kernel
theorem dX0_copyFrom_89 : decode cX0_copyFrom 89 = .ok (.getfield 31, 3) := by decide +kernel
theorem dX0_copyFrom_92 : decode cX0_copyFrom 92 = .ok (.iconst 0, 1) := by decide +kernel
theorem dX0_copyFrom_93 : decode cX0_copyFrom 93 = .ok (.bipush 10, 2) := by decide +kernel
theorem dX0_copyFrom_95 : decode cX0_copyFrom 95 = .ok (.invokestatic 34, 3) := by decide +kernel
theorem dX0_copyFrom_98 : decode cX0_copyFrom 98 = .ok (.return_, 1) := by decide +kernel
theorem dX0_add_0 : decode cX0_add 0 = .ok (.aload_n 0, 1) := by decide +kernel
theorem dX0_add_1 : decode cX0_add 1 = .ok (.getfield 9, 3) := by decide +kernel
theorem dX0_add_4 : decode cX0_add 4 = .ok (.bipush 10, 2) := by decide +kernel
theorem dX0_add_6 : decode cX0_add 6 = .ok (.if_icmp .lt 6, 3) := by decide +kernel
theorem dX0_add_9 : decode cX0_add 9 = .ok (.bipush (-4), 2) := by decide +kernel
theorem dX0_add_11 : decode cX0_add 11 = .ok (.ireturn, 1) := by decide +kernel
theorem dX0_add_12 : decode cX0_add 12 = .ok (.aload_n 0, 1) := by decide +kernel
theorem dX0_add_13 : decode cX0_add 13 = .ok (.getfield 15, 3) := by decide +kernel
theorem dX0_add_16 : decode cX0_add 16 = .ok (.aload_n 0, 1) := by decide +kernel
theorem dX0_add_17 : decode cX0_add 17 = .ok (.getfield 9, 3) := by decide +kernel
theorem dX0_add_20 : decode cX0_add 20 = .ok (.iload_n 1, 1) := by decide +kernel
theorem dX0_add_21 : decode cX0_add 21 = .ok (.iastore, 1) := by decide +kernel
theorem dX0_add_22 : decode cX0_add 22 = .ok (.aload_n 0, 1) := by decide +kernel
theorem dX0_add_23 : decode cX0_add 23 = .ok (.getfield 19, 3) := by decide +kernel
theorem dX0_add_26 : decode cX0_add 26 = .ok (.aload_n 0, 1) := by decide +kernel
theorem dX0_add_27 : decode cX0_add 27 = .ok (.getfield 9, 3) := by decide +kernel
theorem dX0_add_30 : decode cX0_add 30 = .ok (.iload_n 2, 1) := by decide +kernel
theorem dX0_add_31 : decode cX0_add 31 = .ok (.iastore, 1) := by decide +kernel
theorem dX0_add_32 : decode cX0_add 32 = .ok (.aload_n 0, 1) := by decide +kernel
theorem dX0_add_33 : decode cX0_add 33 = .ok (.getfield 25, 3) := by decide +kernel
theorem dX0_add_36 : decode cX0_add 36 = .ok (.aload_n 0, 1) := by decide +kernel
theorem dX0_add_37 : decode cX0_add 37 = .ok (.getfield 9, 3) := by decide +kernel
theorem dX0_add_40 : decode cX0_add 40 = .ok (.iload_n 3, 1) := by decide +kernel
theorem dX0_add_41 : decode cX0_add 41 = .ok (.iastore, 1) := by decide +kernel
theorem dX0_add_42 : decode cX0_add 42 = .ok (.aload_n 0, 1) := by decide +kernel
theorem dX0_add_43 : decode cX0_add 43 = .ok (.dup, 1) := by decide +kernel
theorem dX0_add_44 : decode cX0_add 44 = .ok (.getfield 9, 3) := by decide +kernel
theorem dX0_add_47 : decode cX0_add 47 = .ok (.iconst 1, 1) := by decide +kernel
theorem dX0_add_48 : decode cX0_add 48 = .ok (.iadd, 1) := by decide +kernel
theorem dX0_add_49 : decode cX0_add 49 = .ok (.putfield 9, 3) := by decide +kernel
theorem dX0_add_52 : decode cX0_add 52 = .ok (.aload_n 0, 1) := by decide +kernel
theorem dX0_add_53 : decode cX0_add 53 = .ok (.getfield 9, 3) := by decide +kernel
theorem dX0_add_56 : decode cX0_add 56 = .ok (.iconst 1, 1) := by decide +kernel
theorem dX0_add_57 : decode cX0_add 57 = .ok (.isub, 1) := by decide +kernel
theorem dX0_add_58 : decode cX0_add 58 = .ok (.ireturn, 1) := by decide +kernel
theorem dX0_isKnown_0 : decode cX0_isKnown 0 = .ok (.iload_n 1, 1) := by decide +kernel
theorem dX0_isKnown_1 : decode cX0_isKnown 1 = .ok (.ifCond .lt 15, 3) := by decide +kernel
theorem dX0_isKnown_4 : decode cX0_isKnown 4 = .ok (.iload_n 1, 1) := by decide +kernel
theorem dX0_isKnown_5 : decode cX0_isKnown 5 = .ok (.aload_n 0, 1) := by decide +kernel
theorem dX0_isKnown_6 : decode cX0_isKnown 6 = .ok (.getfield 9, 3) := by decide +kernel
theorem dX0_isKnown_9 : decode cX0_isKnown 9 = .ok (.if_icmp .ge 7, 3) := by decide +kernel
theorem dX0_isKnown_12 : decode cX0_isKnown 12 = .ok (.iconst 1, 1) := by decide +kernel
theorem dX0_isKnown_13 : decode cX0_isKnown 13 = .ok (.goto 4, 3) := by decide +kernel
theorem dX0_isKnown_16 : decode cX0_isKnown 16 = .ok (.iconst 0, 1) := by decide +kernel
theorem dX0_isKnown_17 : decode cX0_isKnown 17 = .ok (.ireturn, 1) := by decide +kernel
theorem dX0_isHost_0 : decode cX0_isHost 0 = .ok (.aload_n 0, 1) := by decide +kernel
theorem dX0_isHost_1 : decode cX0_isHost 1 = .ok (.getfield 15, 3) := by decide +kernel
theorem dX0_isHost_4 : decode cX0_isHost 4 = .ok (.iload_n 1, 1) := by decide +kernel
theorem dX0_isHost_5 : decode cX0_isHost 5 = .ok (.iaload, 1) := by decide +kernel
theorem dX0_isHost_6 : decode cX0_isHost 6 = .ok (.bipush (-6), 2) := by decide +kernel
theorem dX0_isHost_8 : decode cX0_isHost 8 = .ok (.if_icmp .eq 21, 3) := by decide +kernel
theorem dX0_isHost_11 : decode cX0_isHost 11 = .ok (.aload_n 0, 1) := by decide +kernel
theorem dX0_isHost_12 : decode cX0_isHost 12 = .ok (.aload_n 0, 1) := by decide +kernel
theorem dX0_isHost_13 : decode cX0_isHost 13 = .ok (.getfield 15, 3) := by decide +kernel
theorem dX0_isHost_16 : decode cX0_isHost 16 = .ok (.iload_n 1, 1) := by decide +kernel
theorem dX0_isHost_17 : decode cX0_isHost 17 = .ok (.iaload, 1) := by decide +kernel
theorem dX0_isHost_18 : decode cX0_isHost 18 = .ok (.invokevirtual 40, 3) := by decide +kernel
theorem dX0_isHost_21 : decode cX0_isHost 21 = .ok (.iload_n 1, 1) := by decide +kernel
theorem dX0_isHost_22 : decode cX0_isHost 22 = .ok (.if_icmp .ne 7, 3) := by decide +kernel
theorem dX0_isHost_25 : decode cX0_isHost 25 = .ok (.iconst 1, 1) := by decide +kernel
theorem dX0_isHost_26 : decode cX0_isHost 26 = .ok (.goto 4, 3) := by decide +kernel
theorem dX0_isHost_29 : decode cX0_isHost 29 = .ok (.iconst 0, 1) := by decide +kernel
theorem dX0_isHost_30 : decode cX0_isHost 30 = .ok (.ireturn, 1) := by decide +kernel
theorem dX0_setAt_0 : decode cX0_setAt 0 = .ok (.iconst 0, 1) := by decide +kernel
theorem dX0_setAt_1 : decode cX0_setAt 1 = .ok (.istore_n 2, 1) := by decide +kernel
theorem dX0_setAt_2 : decode cX0_setAt 2 = .ok (.iconst 0, 1) := by decide +kernel
theorem dX0_setAt_3 : decode cX0_setAt 3 = .ok (.istore_n 3, 1) := by decide +kernel
theorem dX0_setAt_4 : decode cX0_setAt 4 = .ok (.iload_n 3, 1) := by decide +kernel
theorem dX0_setAt_5 : decode cX0_setAt 5 = .ok (.aload_n 0, 1) := by decide +kernel
theorem dX0_setAt_6 : decode cX0_setAt 6 = .ok (.getfield 9, 3) := by decide +kernel
theorem dX0_setAt_9 : decode cX0_setAt 9 = .ok (.if_icmp .ge 25, 3) := by decide +kernel
theorem dX0_setAt_12 : decode cX0_setAt 12 = .ok (.aload_n 0, 1) := by decide +kernel
theorem dX0_setAt_13 : decode cX0_setAt 13 = .ok (.getfield 15, 3) := by decide +kernel
theorem dX0_setAt_16 : decode cX0_setAt 16 = .ok (.iload_n 3, 1) := by decide +kernel
theorem dX0_setAt_17 : decode cX0_setAt 17 = .ok (.iaload, 1) := by decide +kernel
theorem dX0_setAt_18 : decode cX0_setAt 18 = .ok (.iload_n 1, 1) := by decide +kernel
theorem dX0_setAt_19 : decode cX0_setAt 19 = .ok (.if_icmp .ne 9, 3) := by decide +kernel
theorem dX0_setAt_22 : decode cX0_setAt 22 = .ok (.iload_n 2, 1) := by decide +kernel
theorem dX0_setAt_23 : decode cX0_setAt 23 = .ok (.iconst 1, 1) := by decide +kernel
theorem dX0_setAt_24 : decode cX0_setAt 24 = .ok (.iload_n 3, 1) := by decide +kernel
theorem dX0_setAt_25 : decode cX0_setAt 25 = .ok (.ishl, 1) := by decide +kernel
theorem dX0_setAt_26 : decode cX0_setAt 26 = .ok (.ior, 1) := by decide +kernel
theorem dX0_setAt_27 : decode cX0_setAt 27 = .ok (.istore_n 2, 1) := by decide +kernel
theorem dX0_setAt_28 : decode cX0_setAt 28 = .ok (.iinc 3 1, 3) := by decide +kernel
theorem dX0_setAt_31 : decode cX0_setAt 31 = .ok (.goto (-27), 3) := by decide +kernel
theorem dX0_setAt_34 : decode cX0_setAt 34 = .ok (.iload_n 2, 1) := by decide +kernel
theorem dX0_setAt_35 : decode cX0_setAt 35 = .ok (.ireturn, 1) := by decide +kernel
theorem dX0_setOfThoseHere_0 : decode cX0_setOfThoseHere 0 = .ok (.iconst 0, 1) := by decide +kernel
theorem dX0_setOfThoseHere_1 : decode cX0_setOfThoseHere 1 = .ok (.istore_n 1, 1) := by decide +kernel
theorem dX0_setOfThoseHere_2 : decode cX0_setOfThoseHere 2 = .ok (.iconst 0, 1) := by decide +kernel
theorem dX0_setOfThoseHere_3 : decode cX0_setOfThoseHere 3 = .ok (.istore_n 2, 1) := by decide +kernel
theorem dX0_setOfThoseHere_4 : decode cX0_setOfThoseHere 4 = .ok (.iload_n 2, 1) := by decide +kernel
theorem dX0_setOfThoseHere_5 : decode cX0_setOfThoseHere 5 = .ok (.iconst 3, 1) := by decide +kernel
theorem dX0_setOfThoseHere_6 : decode cX0_setOfThoseHere 6 = .ok (.if_icmp .ge 17, 3) := by decide +kernel
theorem dX0_setOfThoseHere_9 : decode cX0_setOfThoseHere 9 = .ok (.iload_n 1, 1) := by decide +kernel
theorem dX0_setOfThoseHere_10 : decode cX0_setOfThoseHere 10 = .ok (.aload_n 0, 1) := by decide +kernel
theorem dX0_setOfThoseHere_11 : decode cX0_setOfThoseHere 11 = .ok (.iload_n 2, 1) := by decide +kernel
theorem dX0_setOfThoseHere_12 : decode cX0_setOfThoseHere 12 = .ok (.invokevirtual 44, 3) := by decide +kernel
theorem dX0_setOfThoseHere_15 : decode cX0_setOfThoseHere 15 = .ok (.ior, 1) := by decide +kernel
theorem dX0_setOfThoseHere_16 : decode cX0_setOfThoseHere 16 = .ok (.istore_n 1, 1) := by decide +kernel
theorem dX0_setOfThoseHere_17 : decode cX0_setOfThoseHere 17 = .ok (.iinc 2 1, 3) := by decide +kernel
theorem dX0_setOfThoseHere_20 : decode cX0_setOfThoseHere 20 = .ok (.goto (-16), 3) := by decide +kernel
theorem dX0_setOfThoseHere_23 : decode cX0_setOfThoseHere 23 = .ok (.iload_n 1, 1) := by decide +kernel
theorem dX0_setOfThoseHere_24 : decode cX0_setOfThoseHere 24 = .ok (.ireturn, 1) := by decide +kernel
theorem dX0_hostOf_0 : decode cX0_hostOf 0 = .ok (.bipush (-6), 2) := by decide +kernel
theorem dX0_hostOf_2 : decode cX0_hostOf 2 = .ok (.istore_n 2, 1) := by decide +kernel
theorem dX0_hostOf_3 : decode cX0_hostOf 3 = .ok (.iconst 0, 1) := by decide +kernel
theorem dX0_hostOf_4 : decode cX0_hostOf 4 = .ok (.istore_n 3, 1) := by decide +kernel
theorem dX0_hostOf_5 : decode cX0_hostOf 5 = .ok (.iconst 0, 1) := by decide +kernel
theorem dX0_hostOf_6 : decode cX0_hostOf 6 = .ok (.istore 4, 2) := by decide +kernel
theorem dX0_hostOf_8 : decode cX0_hostOf 8 = .ok (.iload 4, 2) := by decide +kernel
theorem dX0_hostOf_10 : decode cX0_hostOf 10 = .ok (.aload_n 0, 1) := by decide +kernel
theorem dX0_hostOf_11 : decode cX0_hostOf 11 = .ok (.getfield 9, 3) := by decide +kernel
theorem dX0_hostOf_14 : decode cX0_hostOf 14 = .ok (.if_icmp .ge 42, 3) := by decide +kernel
theorem dX0_hostOf_17 : decode cX0_hostOf 17 = .ok (.aload_n 0, 1) := by decide +kernel
theorem dX0_hostOf_18 : decode cX0_hostOf 18 = .ok (.getfield 15, 3) := by decide +kernel
theorem dX0_hostOf_21 : decode cX0_hostOf 21 = .ok (.iload 4, 2) := by decide +kernel
theorem dX0_hostOf_23 : decode cX0_hostOf 23 = .ok (.iaload, 1) := by decide +kernel
theorem dX0_hostOf_24 : decode cX0_hostOf 24 = .ok (.iload_n 1, 1) := by decide +kernel
theorem dX0_hostOf_25 : decode cX0_hostOf 25 = .ok (.if_icmp .ne 25, 3) := by decide +kernel
theorem dX0_hostOf_28 : decode cX0_hostOf 28 = .ok (.aload_n 0, 1) := by decide +kernel
theorem dX0_hostOf_29 : decode cX0_hostOf 29 = .ok (.getfield 19, 3) := by decide +kernel
theorem dX0_hostOf_32 : decode cX0_hostOf 32 = .ok (.iload 4, 2) := by decide +kernel
theorem dX0_hostOf_34 : decode cX0_hostOf 34 = .ok (.iaload, 1) := by decide +kernel
theorem dX0_hostOf_35 : decode cX0_hostOf 35 = .ok (.iload_n 3, 1) := by decide +kernel
theorem dX0_hostOf_36 : decode cX0_hostOf 36 = .ok (.if_icmp .le 14, 3) := by decide +kernel
theorem dX0_hostOf_39 : decode cX0_hostOf 39 = .ok (.iload 4, 2) := by decide +kernel
theorem dX0_hostOf_41 : decode cX0_hostOf 41 = .ok (.istore_n 2, 1) := by decide +kernel
theorem dX0_hostOf_42 : decode cX0_hostOf 42 = .ok (.aload_n 0, 1) := by decide +kernel
theorem dX0_hostOf_43 : decode cX0_hostOf 43 = .ok (.getfield 19, 3) := by decide +kernel
theorem dX0_hostOf_46 : decode cX0_hostOf 46 = .ok (.iload 4, 2) := by decide +kernel
theorem dX0_hostOf_48 : decode cX0_hostOf 48 = .ok (.iaload, 1) := by decide +kernel
theorem dX0_hostOf_49 : decode cX0_hostOf 49 = .ok (.istore_n 3, 1) := by decide +kernel
theorem dX0_hostOf_50 : decode cX0_hostOf 50 = .ok (.iinc 4 1, 3) := by decide +kernel
theorem dX0_hostOf_53 : decode cX0_hostOf 53 = .ok (.goto (-45), 3) := by decide +kernel
theorem dX0_hostOf_56 : decode cX0_hostOf 56 = .ok (.iload_n 2, 1) := by decide +kernel
theorem dX0_hostOf_57 : decode cX0_hostOf 57 = .ok (.ireturn, 1) := by decide +kernel
theorem dX0_companyOf_0 : decode cX0_companyOf 0 = .ok (.iconst 0, 1) := by decide +kernel
theorem dX0_companyOf_1 : decode cX0_companyOf 1 = .ok (.istore_n 3, 1) := by decide +kernel
theorem dX0_companyOf_2 : decode cX0_companyOf 2 = .ok (.iconst 0, 1) := by decide +kernel
theorem dX0_companyOf_3 : decode cX0_companyOf 3 = .ok (.istore 4, 2) := by decide +kernel
theorem dX0_companyOf_5 : decode cX0_companyOf 5 = .ok (.iconst 1, 1) := by decide +kernel
theorem dX0_companyOf_6 : decode cX0_companyOf 6 = .ok (.istore 5, 2) := by decide +kernel
theorem dX0_companyOf_8 : decode cX0_companyOf 8 = .ok (.iconst 0, 1) := by decide +kernel
theorem dX0_companyOf_9 : decode cX0_companyOf 9 = .ok (.istore 6, 2) := by decide +kernel
theorem dX0_companyOf_11 : decode cX0_companyOf 11 = .ok (.iload 6, 2) := by decide +kernel
theorem dX0_companyOf_13 : decode cX0_companyOf 13 = .ok (.aload_n 0, 1) := by decide +kernel
theorem dX0_companyOf_14 : decode cX0_companyOf 14 = .ok (.getfield 9, 3) := by decide +kernel
theorem dX0_companyOf_17 : decode cX0_companyOf 17 = .ok (.if_icmp .ge 71, 3) := by decide +kernel
theorem dX0_companyOf_20 : decode cX0_companyOf 20 = .ok (.aload_n 0, 1) := by decide +kernel
theorem dX0_companyOf_21 : decode cX0_companyOf 21 = .ok (.getfield 15, 3) := by decide +kernel
theorem dX0_companyOf_24 : decode cX0_companyOf 24 = .ok (.iload 6, 2) := by decide +kernel
theorem dX0_companyOf_26 : decode cX0_companyOf 26 = .ok (.iaload, 1) := by decide +kernel
theorem dX0_companyOf_27 : decode cX0_companyOf 27 = .ok (.iload_n 1, 1) := by decide +kernel
theorem dX0_companyOf_28 : decode cX0_companyOf 28 = .ok (.if_icmp .ne 54, 3) := by decide +kernel
theorem dX0_companyOf_31 : decode cX0_companyOf 31 = .ok (.iload 6, 2) := by decide +kernel
theorem dX0_companyOf_33 : decode cX0_companyOf 33 = .ok (.iload_n 2, 1) := by decide +kernel
theorem dX0_companyOf_34 : decode cX0_companyOf 34 = .ok (.if_icmp .eq 48, 3) := by decide +kernel
theorem dX0_companyOf_37 : decode cX0_companyOf 37 = .ok (.iload_n 3, 1) := by decide +kernel
theorem dX0_companyOf_38 : decode cX0_companyOf 38 = .ok (.ifCond .ne 13, 3) := by decide +kernel
theorem dX0_companyOf_41 : decode cX0_companyOf 41 = .ok (.aload_n 0, 1) := by decide +kernel
theorem dX0_companyOf_42 : decode cX0_companyOf 42 = .ok (.getfield 19, 3) := by decide +kernel
theorem dX0_companyOf_45 : decode cX0_companyOf 45 = .ok (.iload 6, 2) := by decide +kernel
theorem dX0_companyOf_47 : decode cX0_companyOf 47 = .ok (.iaload, 1) := by decide +kernel
theorem dX0_companyOf_48 : decode cX0_companyOf 48 = .ok (.goto 5, 3) := by decide +kernel
theorem dX0_companyOf_51 : decode cX0_companyOf 51 = .ok (.iload 4, 2) := by decide +kernel
theorem dX0_companyOf_53 : decode cX0_companyOf 53 = .ok (.istore 4, 2) := by decide +kernel
theorem dX0_companyOf_55 : decode cX0_companyOf 55 = .ok (.iload 5, 2) := by decide +kernel
theorem dX0_companyOf_57 : decode cX0_companyOf 57 = .ok (.ifCond .eq 19, 3) := by decide +kernel
theorem dX0_companyOf_60 : decode cX0_companyOf 60 = .ok (.aload_n 0, 1) := by decide +kernel
theorem dX0_companyOf_61 : decode cX0_companyOf 61 = .ok (.getfield 19, 3) := by decide +kernel
theorem dX0_companyOf_64 : decode cX0_companyOf 64 = .ok (.iload 6, 2) := by decide +kernel
theorem dX0_companyOf_66 : decode cX0_companyOf 66 = .ok (.iaload, 1) := by decide +kernel
theorem dX0_companyOf_67 : decode cX0_companyOf 67 = .ok (.iload 4, 2) := by decide +kernel
theorem dX0_companyOf_69 : decode cX0_companyOf 69 = .ok (.if_icmp .ne 7, 3) := by decide +kernel
theorem dX0_companyOf_72 : decode cX0_companyOf 72 = .ok (.iconst 1, 1) := by decide +kernel
theorem dX0_companyOf_73 : decode cX0_companyOf 73 = .ok (.goto 4, 3) := by decide +kernel
theorem dX0_companyOf_76 : decode cX0_companyOf 76 = .ok (.iconst 0, 1) := by decide +kernel
theorem dX0_companyOf_77 : decode cX0_companyOf 77 = .ok (.istore 5, 2) := by decide +kernel
theorem dX0_companyOf_79 : decode cX0_companyOf 79 = .ok (.iinc 3 1, 3) := by decide +kernel
theorem dX0_companyOf_82 : decode cX0_companyOf 82 = .ok (.iinc 6 1, 3) := by decide +kernel
theorem dX0_companyOf_85 : decode cX0_companyOf 85 = .ok (.goto (-74), 3) := by decide +kernel
theorem dX0_companyOf_88 : decode cX0_companyOf 88 = .ok (.iload_n 3, 1) := by decide +kernel
theorem dX0_companyOf_89 : decode cX0_companyOf 89 = .ok (.iconst 3, 1) := by decide +kernel
theorem dX0_companyOf_90 : decode cX0_companyOf 90 = .ok (.if_icmp .ge 5, 3) := by decide +kernel
theorem dX0_companyOf_93 : decode cX0_companyOf 93 = .ok (.iload_n 3, 1) := by decide +kernel
theorem dX0_companyOf_94 : decode cX0_companyOf 94 = .ok (.ireturn, 1) := by decide +kernel
theorem dX0_companyOf_95 : decode cX0_companyOf 95 = .ok (.iload 5, 2) := by decide +kernel
theorem dX0_companyOf_97 : decode cX0_companyOf 97 = .ok (.ifCond .eq 7, 3) := by decide +kernel
theorem dX0_companyOf_100 : decode cX0_companyOf 100 = .ok (.iconst 3, 1) := by decide +kernel
theorem dX0_companyOf_101 : decode cX0_companyOf 101 = .ok (.goto 4, 3) := by decide +kernel
theorem dX0_companyOf_104 : decode cX0_companyOf 104 = .ok (.iconst 4, 1) := by decide +kernel
theorem dX0_companyOf_105 : decode cX0_companyOf 105 = .ok (.ireturn, 1) := by decide +kernel
theorem dX0_lenderTo_0 : decode cX0_lenderTo 0 = .ok (.bipush (-6), 2) := by decide +kernel
theorem dX0_lenderTo_2 : decode cX0_lenderTo 2 = .ok (.istore_n 3, 1) := by decide +kernel
theorem dX0_lenderTo_3 : decode cX0_lenderTo 3 = .ok (.bipush 10, 2) := by decide +kernel
theorem dX0_lenderTo_5 : decode cX0_lenderTo 5 = .ok (.istore 4, 2) := by decide +kernel
theorem dX0_lenderTo_7 : decode cX0_lenderTo 7 = .ok (.iconst 0, 1) := by decide +kernel
theorem dX0_lenderTo_8 : decode cX0_lenderTo 8 = .ok (.istore 5, 2) := by decide +kernel
theorem dX0_lenderTo_10 : decode cX0_lenderTo 10 = .ok (.iload 5, 2) := by decide +kernel
theorem dX0_lenderTo_12 : decode cX0_lenderTo 12 = .ok (.aload_n 0, 1) := by decide +kernel
theorem dX0_lenderTo_13 : decode cX0_lenderTo 13 = .ok (.getfield 9, 3) := by decide +kernel
theorem dX0_lenderTo_16 : decode cX0_lenderTo 16 = .ok (.if_icmp .ge 60, 3) := by decide +kernel
theorem dX0_lenderTo_19 : decode cX0_lenderTo 19 = .ok (.iload 5, 2) := by decide +kernel
theorem dX0_lenderTo_21 : decode cX0_lenderTo 21 = .ok (.iload_n 1, 1) := by decide +kernel
theorem dX0_lenderTo_22 : decode cX0_lenderTo 22 = .ok (.if_icmp .eq 48, 3) := by decide +kernel
theorem dX0_lenderTo_25 : decode cX0_lenderTo 25 = .ok (.aload_n 0, 1) := by decide +kernel
theorem dX0_lenderTo_26 : decode cX0_lenderTo 26 = .ok (.getfield 15, 3) := by decide +kernel
theorem dX0_lenderTo_29 : decode cX0_lenderTo 29 = .ok (.iload 5, 2) := by decide +kernel
theorem dX0_lenderTo_31 : decode cX0_lenderTo 31 = .ok (.iaload, 1) := by decide +kernel
theorem dX0_lenderTo_32 : decode cX0_lenderTo 32 = .ok (.iload_n 2, 1) := by decide +kernel
theorem dX0_lenderTo_33 : decode cX0_lenderTo 33 = .ok (.if_icmp .ne 37, 3) := by decide +kernel
theorem dX0_lenderTo_36 : decode cX0_lenderTo 36 = .ok (.aload_n 0, 1) := by decide +kernel
theorem dX0_lenderTo_37 : decode cX0_lenderTo 37 = .ok (.getfield 25, 3) := by decide +kernel
theorem dX0_lenderTo_40 : decode cX0_lenderTo 40 = .ok (.iload 5, 2) := by decide +kernel
theorem dX0_lenderTo_42 : decode cX0_lenderTo 42 = .ok (.iaload, 1) := by decide +kernel
theorem dX0_lenderTo_43 : decode cX0_lenderTo 43 = .ok (.ifCond .le 27, 3) := by decide +kernel
theorem dX0_lenderTo_46 : decode cX0_lenderTo 46 = .ok (.aload_n 0, 1) := by decide +kernel
theorem dX0_lenderTo_47 : decode cX0_lenderTo 47 = .ok (.getfield 19, 3) := by decide +kernel
theorem dX0_lenderTo_50 : decode cX0_lenderTo 50 = .ok (.iload 5, 2) := by decide +kernel
theorem dX0_lenderTo_52 : decode cX0_lenderTo 52 = .ok (.iaload, 1) := by decide +kernel
theorem dX0_lenderTo_53 : decode cX0_lenderTo 53 = .ok (.iload 4, 2) := by decide +kernel
theorem dX0_lenderTo_55 : decode cX0_lenderTo 55 = .ok (.if_icmp .ge 15, 3) := by decide +kernel
theorem dX0_lenderTo_58 : decode cX0_lenderTo 58 = .ok (.iload 5, 2) := by decide +kernel
theorem dX0_lenderTo_60 : decode cX0_lenderTo 60 = .ok (.istore_n 3, 1) := by decide +kernel
theorem dX0_lenderTo_61 : decode cX0_lenderTo 61 = .ok (.aload_n 0, 1) := by decide +kernel
theorem dX0_lenderTo_62 : decode cX0_lenderTo 62 = .ok (.getfield 19, 3) := by decide +kernel
theorem dX0_lenderTo_65 : decode cX0_lenderTo 65 = .ok (.iload 5, 2) := by decide +kernel
theorem dX0_lenderTo_67 : decode cX0_lenderTo 67 = .ok (.iaload, 1) := by decide +kernel
theorem dX0_lenderTo_68 : decode cX0_lenderTo 68 = .ok (.istore 4, 2) := by decide +kernel
theorem dX0_lenderTo_70 : decode cX0_lenderTo 70 = .ok (.iinc 5 1, 3) := by decide +kernel
theorem dX0_lenderTo_73 : decode cX0_lenderTo 73 = .ok (.goto (-63), 3) := by decide +kernel
theorem dX0_lenderTo_76 : decode cX0_lenderTo 76 = .ok (.iload_n 3, 1) := by decide +kernel
theorem dX0_lenderTo_77 : decode cX0_lenderTo 77 = .ok (.ireturn, 1) := by decide +kernel
theorem dX0_faultsOfAll_0 : decode cX0_faultsOfAll 0 = .ok (.iconst 0, 1) := by decide +kernel
theorem dX0_faultsOfAll_1 : decode cX0_faultsOfAll 1 = .ok (.istore_n 1, 1) := by decide +kernel
theorem dX0_faultsOfAll_2 : decode cX0_faultsOfAll 2 = .ok (.iconst 0, 1) := by decide +kernel
theorem dX0_faultsOfAll_3 : decode cX0_faultsOfAll 3 = .ok (.istore_n 2, 1) := by decide +kernel
theorem dX0_faultsOfAll_4 : decode cX0_faultsOfAll 4 = .ok (.iload_n 2, 1) := by decide +kernel
theorem dX0_faultsOfAll_5 : decode cX0_faultsOfAll 5 = .ok (.aload_n 0, 1) := by decide +kernel
theorem dX0_faultsOfAll_6 : decode cX0_faultsOfAll 6 = .ok (.getfield 9, 3) := by decide +kernel
theorem dX0_faultsOfAll_9 : decode cX0_faultsOfAll 9 = .ok (.if_icmp .ge 18, 3) := by decide +kernel
theorem dX0_faultsOfAll_12 : decode cX0_faultsOfAll 12 = .ok (.iload_n 1, 1) := by decide +kernel
theorem dX0_faultsOfAll_13 : decode cX0_faultsOfAll 13 = .ok (.aload_n 0, 1) := by decide +kernel
theorem dX0_faultsOfAll_14 : decode cX0_faultsOfAll 14 = .ok (.getfield 22, 3) := by decide +kernel
theorem dX0_faultsOfAll_17 : decode cX0_faultsOfAll 17 = .ok (.iload_n 2, 1) := by decide +kernel
theorem dX0_faultsOfAll_18 : decode cX0_faultsOfAll 18 = .ok (.iaload, 1) := by decide +kernel
theorem dX0_faultsOfAll_19 : decode cX0_faultsOfAll 19 = .ok (.iadd, 1) := by decide +kernel
theorem dX0_faultsOfAll_20 : decode cX0_faultsOfAll 20 = .ok (.istore_n 1, 1) := by decide +kernel
theorem dX0_faultsOfAll_21 : decode cX0_faultsOfAll 21 = .ok (.iinc 2 1, 3) := by decide +kernel
theorem dX0_faultsOfAll_24 : decode cX0_faultsOfAll 24 = .ok (.goto (-20), 3) := by decide +kernel
theorem dX0_faultsOfAll_27 : decode cX0_faultsOfAll 27 = .ok (.iload_n 1, 1) := by decide +kernel
theorem dX0_faultsOfAll_28 : decode cX0_faultsOfAll 28 = .ok (.ireturn, 1) := by decide +kernel
theorem dX0_coughsOfThoseHere_0 : decode cX0_coughsOfThoseHere 0 = .ok (.iconst 0, 1) := by decide +kernel
theorem dX0_coughsOfThoseHere_1 : decode cX0_coughsOfThoseHere 1 = .ok (.istore_n 1, 1) := by decide +kernel
theorem dX0_coughsOfThoseHere_2 : decode cX0_coughsOfThoseHere 2 = .ok (.iconst 0, 1) := by decide +kernel
theorem dX0_coughsOfThoseHere_3 : decode cX0_coughsOfThoseHere 3 = .ok (.istore_n 2, 1) := by decide +kernel
theorem dX0_coughsOfThoseHere_4 : decode cX0_coughsOfThoseHere 4 = .ok (.iload_n 2, 1) := by decide +kernel
theorem dX0_coughsOfThoseHere_5 : decode cX0_coughsOfThoseHere 5 = .ok (.aload_n 0, 1) := by decide +kernel
theorem dX0_coughsOfThoseHere_6 : decode cX0_coughsOfThoseHere 6 = .ok (.getfield 9, 3) := by decide +kernel
theorem dX0_coughsOfThoseHere_9 : decode cX0_coughsOfThoseHere 9 = .ok (.if_icmp .ge 33, 3) := by decide +kernel
theorem dX0_coughsOfThoseHere_12 : decode cX0_coughsOfThoseHere 12 = .ok (.iload_n 1, 1) := by decide +kernel
theorem dX0_coughsOfThoseHere_13 : decode cX0_coughsOfThoseHere 13 = .ok (.aload_n 0, 1) := by decide +kernel
theorem dX0_coughsOfThoseHere_14 : decode cX0_coughsOfThoseHere 14 = .ok (.getfield 15, 3) := by decide +kernel
theorem dX0_coughsOfThoseHere_17 : decode cX0_coughsOfThoseHere 17 = .ok (.iload_n 2, 1) := by decide +kernel
theorem dX0_coughsOfThoseHere_18 : decode cX0_coughsOfThoseHere 18 = .ok (.iaload, 1) := by decide +kernel
theorem dX0_coughsOfThoseHere_19 : decode cX0_coughsOfThoseHere 19 = .ok (.bipush (-6), 2) := by decide +kernel
theorem dX0_coughsOfThoseHere_21 : decode cX0_coughsOfThoseHere 21 = .ok (.if_icmp .ne 7, 3) := by decide +kernel
theorem dX0_coughsOfThoseHere_24 : decode cX0_coughsOfThoseHere 24 = .ok (.iconst 0, 1) := by decide +kernel
theorem dX0_coughsOfThoseHere_25 : decode cX0_coughsOfThoseHere 25 = .ok (.goto 9, 3) := by decide +kernel
theorem dX0_coughsOfThoseHere_28 : decode cX0_coughsOfThoseHere 28 = .ok (.aload_n 0, 1) := by decide +kernel
theorem dX0_coughsOfThoseHere_29 : decode cX0_coughsOfThoseHere 29 = .ok (.getfield 25, 3) := by decide +kernel
theorem dX0_coughsOfThoseHere_32 : decode cX0_coughsOfThoseHere 32 = .ok (.iload_n 2, 1) := by decide +kernel
theorem dX0_coughsOfThoseHere_33 : decode cX0_coughsOfThoseHere 33 = .ok (.iaload, 1) := by decide +kernel
theorem dX0_coughsOfThoseHere_34 : decode cX0_coughsOfThoseHere 34 = .ok (.iadd, 1) := by decide +kernel
theorem dX0_coughsOfThoseHere_35 : decode cX0_coughsOfThoseHere 35 = .ok (.istore_n 1, 1) := by decide +kernel
theorem dX0_coughsOfThoseHere_36 : decode cX0_coughsOfThoseHere 36 = .ok (.iinc 2 1, 3) := by decide +kernel
theorem dX0_coughsOfThoseHere_39 : decode cX0_coughsOfThoseHere 39 = .ok (.goto (-35), 3) := by decide +kernel
theorem dX0_coughsOfThoseHere_42 : decode cX0_coughsOfThoseHere 42 = .ok (.iload_n 1, 1) := by decide +kernel
theorem dX0_coughsOfThoseHere_43 : decode cX0_coughsOfThoseHere 43 = .ok (.ireturn, 1) := by decide +kernel
