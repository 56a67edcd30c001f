theorem dX2_init_0 : decode cX2_init 0 = .ok (.aload_n 0, 1) := by decide +kernel
theorem dX2_init_1 : decode cX2_init 1 = .ok (.invokespecial 3, 3) := by decide +kernel
theorem dX2_init_4 : decode cX2_init 4 = .ok (.aload_n 0, 1) := by decide +kernel
theorem dX2_init_5 : decode cX2_init 5 = .ok (.bipush 12, 2) := by decide +kernel
theorem dX2_init_7 : decode cX2_init 7 = .ok (.newarray .int, 2) := by decide +kernel
theorem dX2_init_9 : decode cX2_init 9 = .ok (.putfield 9, 3) := by decide +kernel
theorem dX2_init_12 : decode cX2_init 12 = .ok (.aload_n 0, 1) := by decide +kernel
theorem dX2_init_13 : decode cX2_init 13 = .ok (.bipush 12, 2) := by decide +kernel
theorem dX2_init_15 : decode cX2_init 15 = .ok (.newarray .int, 2) := by decide +kernel
theorem dX2_init_17 : decode cX2_init 17 = .ok (.putfield 15, 3) := by decide +kernel
theorem dX2_init_20 : decode cX2_init 20 = .ok (.aload_n 0, 1) := by decide +kernel
theorem dX2_init_21 : decode cX2_init 21 = .ok (.iconst 3, 1) := by decide +kernel
theorem dX2_init_22 : decode cX2_init 22 = .ok (.newarray .int, 2) := by decide +kernel
theorem dX2_init_24 : decode cX2_init 24 = .ok (.putfield 18, 3) := by decide +kernel
theorem dX2_init_27 : decode cX2_init 27 = .ok (.aload_n 0, 1) := by decide +kernel
theorem dX2_init_28 : decode cX2_init 28 = .ok (.bipush 50, 2) := by decide +kernel
theorem dX2_init_30 : decode cX2_init 30 = .ok (.newarray .int, 2) := by decide +kernel
theorem dX2_init_32 : decode cX2_init 32 = .ok (.putfield 21, 3) := by decide +kernel
theorem dX2_init_35 : decode cX2_init 35 = .ok (.aload_n 0, 1) := by decide +kernel
theorem dX2_init_36 : decode cX2_init 36 = .ok (.iconst 0, 1) := by decide +kernel
theorem dX2_init_37 : decode cX2_init 37 = .ok (.putfield 24, 3) := by decide +kernel
theorem dX2_init_40 : decode cX2_init 40 = .ok (.return_, 1) := by decide +kernel
theorem dX2_copyFrom_0 : decode cX2_copyFrom 0 = .ok (.aload_n 0, 1) := by decide +kernel
theorem dX2_copyFrom_1 : decode cX2_copyFrom 1 = .ok (.aload_n 1, 1) := by decide +kernel
theorem dX2_copyFrom_2 : decode cX2_copyFrom 2 = .ok (.getfield 24, 3) := by decide +kernel
theorem dX2_copyFrom_5 : decode cX2_copyFrom 5 = .ok (.putfield 24, 3) := by decide +kernel
theorem dX2_copyFrom_8 : decode cX2_copyFrom 8 = .ok (.aload_n 1, 1) := by decide +kernel
theorem dX2_copyFrom_9 : decode cX2_copyFrom 9 = .ok (.getfield 9, 3) := by decide +kernel
theorem dX2_copyFrom_12 : decode cX2_copyFrom 12 = .ok (.iconst 0, 1) := by decide +kernel
theorem dX2_copyFrom_13 : decode cX2_copyFrom 13 = .ok (.aload_n 0, 1) := by decide +kernel
theorem dX2_copyFrom_14 : decode cX2_copyFrom 14 = .ok (.getfield 9, 3) := by decide +kernel
theorem dX2_copyFrom_17 : decode cX2_copyFrom 17 = .ok (.iconst 0, 1) := by decide +kernel
theorem dX2_copyFrom_18 : decode cX2_copyFrom 18 = .ok (.aload_n 0, 1) := by decide +kernel
theorem dX2_copyFrom_19 : decode cX2_copyFrom 19 = .ok (.getfield 9, 3) := by decide +kernel
theorem dX2_copyFrom_22 : decode cX2_copyFrom 22 = .ok (.arraylength, 1) := by decide +kernel
theorem dX2_copyFrom_23 : decode cX2_copyFrom 23 = .ok (.invokestatic 28, 3) := by decide +kernel
theorem dX2_copyFrom_26 : decode cX2_copyFrom 26 = .ok (.aload_n 1, 1) := by decide +kernel
theorem dX2_copyFrom_27 : decode cX2_copyFrom 27 = .ok (.getfield 15, 3) := by decide +kernel
theorem dX2_copyFrom_30 : decode cX2_copyFrom 30 = .ok (.iconst 0, 1) := by decide +kernel
theorem dX2_copyFrom_31 : decode cX2_copyFrom 31 = .ok (.aload_n 0, 1) := by decide +kernel
theorem dX2_copyFrom_32 : decode cX2_copyFrom 32 = .ok (.getfield 15, 3) := by decide +kernel
theorem dX2_copyFrom_35 : decode cX2_copyFrom 35 = .ok (.iconst 0, 1) := by decide +kernel
theorem dX2_copyFrom_36 : decode cX2_copyFrom 36 = .ok (.aload_n 0, 1) := by decide +kernel
theorem dX2_copyFrom_37 : decode cX2_copyFrom 37 = .ok (.getfield 15, 3) := by decide +kernel
theorem dX2_copyFrom_40 : decode cX2_copyFrom 40 = .ok (.arraylength, 1) := by decide +kernel
theorem dX2_copyFrom_41 : decode cX2_copyFrom 41 = .ok (.invokestatic 28, 3) := by decide +kernel
theorem dX2_copyFrom_44 : decode cX2_copyFrom 44 = .ok (.aload_n 1, 1) := by decide +kernel
theorem dX2_copyFrom_45 : decode cX2_copyFrom 45 = .ok (.getfield 18, 3) := by decide +kernel
theorem dX2_copyFrom_48 : decode cX2_copyFrom 48 = .ok (.iconst 0, 1) := by decide +kernel
theorem dX2_copyFrom_49 : decode cX2_copyFrom 49 = .ok (.aload_n 0, 1) := by decide +kernel
theorem dX2_copyFrom_50 : decode cX2_copyFrom 50 = .ok (.getfield 18, 3) := by decide +kernel
theorem dX2_copyFrom_53 : decode cX2_copyFrom 53 = .ok (.iconst 0, 1) := by decide +kernel
theorem dX2_copyFrom_54 : decode cX2_copyFrom 54 = .ok (.aload_n 0, 1) := by decide +kernel
theorem dX2_copyFrom_55 : decode cX2_copyFrom 55 = .ok (.getfield 18, 3) := by decide +kernel
theorem dX2_copyFrom_58 : decode cX2_copyFrom 58 = .ok (.arraylength, 1) := by decide +kernel
theorem dX2_copyFrom_59 : decode cX2_copyFrom 59 = .ok (.invokestatic 28, 3) := by decide +kernel
theorem dX2_copyFrom_62 : decode cX2_copyFrom 62 = .ok (.aload_n 1, 1) := by decide +kernel
theorem dX2_copyFrom_63 : decode cX2_copyFrom 63 = .ok (.getfield 21, 3) := by decide +kernel
theorem dX2_copyFrom_66 : decode cX2_copyFrom 66 = .ok (.iconst 0, 1) := by decide +kernel
theorem dX2_copyFrom_67 : decode cX2_copyFrom 67 = .ok (.aload_n 0, 1) := by decide +kernel
theorem dX2_copyFrom_68 : decode cX2_copyFrom 68 = .ok (.getfield 21, 3) := by decide +kernel
theorem dX2_copyFrom_71 : decode cX2_copyFrom 71 = .ok (.iconst 0, 1) := by decide +kernel
theorem dX2_copyFrom_72 : decode cX2_copyFrom 72 = .ok (.aload_n 0, 1) := by decide +kernel
theorem dX2_copyFrom_73 : decode cX2_copyFrom 73 = .ok (.getfield 21, 3) := by decide +kernel
theorem dX2_copyFrom_76 : decode cX2_copyFrom 76 = .ok (.arraylength, 1) := by decide +kernel
theorem dX2_copyFrom_77 : decode cX2_copyFrom 77 = .ok (.invokestatic 28, 3) := by decide +kernel
theorem dX2_copyFrom_80 : decode cX2_copyFrom 80 = .ok (.return_, 1) := by decide +kernel
theorem dX2_enterMeaning_0 : decode cX2_enterMeaning 0 = .ok (.iload_n 1, 1) := by decide +kernel
theorem dX2_enterMeaning_1 : decode cX2_enterMeaning 1 = .ok (.iconst 1, 1) := by decide +kernel
theorem dX2_enterMeaning_2 : decode cX2_enterMeaning 2 = .ok (.if_icmp .lt 9, 3) := by decide +kernel
theorem dX2_enterMeaning_5 : decode cX2_enterMeaning 5 = .ok (.iload_n 1, 1) := by decide +kernel
theorem dX2_enterMeaning_6 : decode cX2_enterMeaning 6 = .ok (.bipush 11, 2) := by decide +kernel
theorem dX2_enterMeaning_8 : decode cX2_enterMeaning 8 = .ok (.if_icmp .le 4, 3) := by decide +kernel
theorem dX2_enterMeaning_11 : decode cX2_enterMeaning 11 = .ok (.return_, 1) := by decide +kernel
theorem dX2_enterMeaning_12 : decode cX2_enterMeaning 12 = .ok (.aload_n 0, 1) := by decide +kernel
theorem dX2_enterMeaning_13 : decode cX2_enterMeaning 13 = .ok (.getfield 9, 3) := by decide +kernel
theorem dX2_enterMeaning_16 : decode cX2_enterMeaning 16 = .ok (.iload_n 1, 1) := by decide +kernel
theorem dX2_enterMeaning_17 : decode cX2_enterMeaning 17 = .ok (.dup2, 1) := by decide +kernel
theorem dX2_enterMeaning_18 : decode cX2_enterMeaning 18 = .ok (.iaload, 1) := by decide +kernel
theorem dX2_enterMeaning_19 : decode cX2_enterMeaning 19 = .ok (.iconst 1, 1) := by decide +kernel
theorem dX2_enterMeaning_20 : decode cX2_enterMeaning 20 = .ok (.iadd, 1) := by decide +kernel
theorem dX2_enterMeaning_21 : decode cX2_enterMeaning 21 = .ok (.iastore, 1) := by decide +kernel
theorem dX2_enterMeaning_22 : decode cX2_enterMeaning 22 = .ok (.aload_n 0, 1) := by decide +kernel
theorem dX2_enterMeaning_23 : decode cX2_enterMeaning 23 = .ok (.getfield 15, 3) := by decide +kernel
theorem dX2_enterMeaning_26 : decode cX2_enterMeaning 26 = .ok (.iload_n 1, 1) := by decide +kernel
theorem dX2_enterMeaning_27 : decode cX2_enterMeaning 27 = .ok (.aload_n 0, 1) := by decide +kernel
theorem dX2_enterMeaning_28 : decode cX2_enterMeaning 28 = .ok (.getfield 15, 3) := by decide +kernel
theorem dX2_enterMeaning_31 : decode cX2_enterMeaning 31 = .ok (.iload_n 1, 1) := by decide +kernel
theorem dX2_enterMeaning_32 : decode cX2_enterMeaning 32 = .ok (.iaload, 1) := by decide +kernel
theorem dX2_enterMeaning_33 : decode cX2_enterMeaning 33 = .ok (.iload_n 2, 1) := by decide +kernel
theorem dX2_enterMeaning_34 : decode cX2_enterMeaning 34 = .ok (.invokestatic 34, 3) := by decide +kernel
theorem dX2_enterMeaning_37 : decode cX2_enterMeaning 37 = .ok (.iastore, 1) := by decide +kernel
theorem dX2_enterMeaning_38 : decode cX2_enterMeaning 38 = .ok (.return_, 1) := by decide +kernel
theorem dX2_tellEnd_0 : decode cX2_tellEnd 0 = .ok (.aload_n 0, 1) := by decide +kernel
theorem dX2_tellEnd_1 : decode cX2_tellEnd 1 = .ok (.getfield 21, 3) := by decide +kernel
theorem dX2_tellEnd_4 : decode cX2_tellEnd 4 = .ok (.iconst 0, 1) := by decide +kernel
theorem dX2_tellEnd_5 : decode cX2_tellEnd 5 = .ok (.aload_n 0, 1) := by decide +kernel
theorem dX2_tellEnd_6 : decode cX2_tellEnd 6 = .ok (.getfield 21, 3) := by decide +kernel
theorem dX2_tellEnd_9 : decode cX2_tellEnd 9 = .ok (.iconst 5, 1) := by decide +kernel
theorem dX2_tellEnd_10 : decode cX2_tellEnd 10 = .ok (.aload_n 0, 1) := by decide +kernel
theorem dX2_tellEnd_11 : decode cX2_tellEnd 11 = .ok (.getfield 21, 3) := by decide +kernel
theorem dX2_tellEnd_14 : decode cX2_tellEnd 14 = .ok (.arraylength, 1) := by decide +kernel
theorem dX2_tellEnd_15 : decode cX2_tellEnd 15 = .ok (.iconst 5, 1) := by decide +kernel
theorem dX2_tellEnd_16 : decode cX2_tellEnd 16 = .ok (.isub, 1) := by decide +kernel
theorem dX2_tellEnd_17 : decode cX2_tellEnd 17 = .ok (.invokestatic 28, 3) := by decide +kernel
theorem dX2_tellEnd_20 : decode cX2_tellEnd 20 = .ok (.aload_n 0, 1) := by decide +kernel
theorem dX2_tellEnd_21 : decode cX2_tellEnd 21 = .ok (.getfield 21, 3) := by decide +kernel
theorem dX2_tellEnd_24 : decode cX2_tellEnd 24 = .ok (.iconst 0, 1) := by decide +kernel
theorem dX2_tellEnd_25 : decode cX2_tellEnd 25 = .ok (.iload_n 1, 1) := by decide +kernel
theorem dX2_tellEnd_26 : decode cX2_tellEnd 26 = .ok (.iastore, 1) := by decide +kernel
theorem dX2_tellEnd_27 : decode cX2_tellEnd 27 = .ok (.aload_n 0, 1) := by decide +kernel
theorem dX2_tellEnd_28 : decode cX2_tellEnd 28 = .ok (.getfield 21, 3) := by decide +kernel
theorem dX2_tellEnd_31 : decode cX2_tellEnd 31 = .ok (.iconst 1, 1) := by decide +kernel
theorem dX2_tellEnd_32 : decode cX2_tellEnd 32 = .ok (.iload_n 2, 1) := by decide +kernel
theorem dX2_tellEnd_33 : decode cX2_tellEnd 33 = .ok (.iastore, 1) := by decide +kernel
theorem dX2_tellEnd_34 : decode cX2_tellEnd 34 = .ok (.aload_n 0, 1) := by decide +kernel
theorem dX2_tellEnd_35 : decode cX2_tellEnd 35 = .ok (.getfield 21, 3) := by decide +kernel
theorem dX2_tellEnd_38 : decode cX2_tellEnd 38 = .ok (.iconst 2, 1) := by decide +kernel
theorem dX2_tellEnd_39 : decode cX2_tellEnd 39 = .ok (.iload_n 3, 1) := by decide +kernel
theorem dX2_tellEnd_40 : decode cX2_tellEnd 40 = .ok (.iastore, 1) := by decide +kernel
theorem dX2_tellEnd_41 : decode cX2_tellEnd 41 = .ok (.aload_n 0, 1) := by decide +kernel
theorem dX2_tellEnd_42 : decode cX2_tellEnd 42 = .ok (.getfield 21, 3) := by decide +kernel
theorem dX2_tellEnd_45 : decode cX2_tellEnd 45 = .ok (.iconst 3, 1) := by decide +kernel
theorem dX2_tellEnd_46 : decode cX2_tellEnd 46 = .ok (.iload 4, 2) := by decide +kernel
theorem dX2_tellEnd_48 : decode cX2_tellEnd 48 = .ok (.iastore, 1) := by decide +kernel
theorem dX2_tellEnd_49 : decode cX2_tellEnd 49 = .ok (.aload_n 0, 1) := by decide +kernel
theorem dX2_tellEnd_50 : decode cX2_tellEnd 50 = .ok (.getfield 21, 3) := by decide +kernel
theorem dX2_tellEnd_53 : decode cX2_tellEnd 53 = .ok (.iconst 4, 1) := by decide +kernel
theorem dX2_tellEnd_54 : decode cX2_tellEnd 54 = .ok (.iload 5, 2) := by decide +kernel
theorem dX2_tellEnd_56 : decode cX2_tellEnd 56 = .ok (.iastore, 1) := by decide +kernel
theorem dX2_tellEnd_57 : decode cX2_tellEnd 57 = .ok (.aload_n 0, 1) := by decide +kernel
theorem dX2_tellEnd_58 : decode cX2_tellEnd 58 = .ok (.aload_n 0, 1) := by decide +kernel
theorem dX2_tellEnd_59 : decode cX2_tellEnd 59 = .ok (.getfield 24, 3) := by decide +kernel
theorem dX2_tellEnd_62 : decode cX2_tellEnd 62 = .ok (.iconst 1, 1) := by decide +kernel
theorem dX2_tellEnd_63 : decode cX2_tellEnd 63 = .ok (.iadd, 1) := by decide +kernel
theorem dX2_tellEnd_64 : decode cX2_tellEnd 64 = .ok (.bipush 10, 2) := by decide +kernel
theorem dX2_tellEnd_66 : decode cX2_tellEnd 66 = .ok (.invokestatic 40, 3) := by decide +kernel
theorem dX2_tellEnd_69 : decode cX2_tellEnd 69 = .ok (.putfield 24, 3) := by decide +kernel
theorem dX2_tellEnd_72 : decode cX2_tellEnd 72 = .ok (.aload_n 0, 1) := by decide +kernel
theorem dX2_tellEnd_73 : decode cX2_tellEnd 73 = .ok (.getfield 18, 3) := by decide +kernel
theorem dX2_tellEnd_76 : decode cX2_tellEnd 76 = .ok (.iload_n 1, 1) := by decide +kernel
theorem dX2_tellEnd_77 : decode cX2_tellEnd 77 = .ok (.dup2, 1) := by decide +kernel
theorem dX2_tellEnd_78 : decode cX2_tellEnd 78 = .ok (.iaload, 1) := by decide +kernel
theorem dX2_tellEnd_79 : decode cX2_tellEnd 79 = .ok (.iconst 1, 1) := by decide +kernel
theorem dX2_tellEnd_80 : decode cX2_tellEnd 80 = .ok (.iadd, 1) := by decide +kernel
theorem dX2_tellEnd_81 : decode cX2_tellEnd 81 = .ok (.iastore, 1) := by decide +kernel
theorem dX2_tellEnd_82 : decode cX2_tellEnd 82 = .ok (.return_, 1) := by decide +kernel
theorem dX2_setOfMeant_0 : decode cX2_setOfMeant 0 = .ok (.iconst 0, 1) := by decide +kernel
theorem dX2_setOfMeant_1 : decode cX2_setOfMeant 1 = .ok (.istore_n 1, 1) := by decide +kernel
theorem dX2_setOfMeant_2 : decode cX2_setOfMeant 2 = .ok (.iconst 1, 1) := by decide +kernel
theorem dX2_setOfMeant_3 : decode cX2_setOfMeant 3 = .ok (.istore_n 2, 1) := by decide +kernel
theorem dX2_setOfMeant_4 : decode cX2_setOfMeant 4 = .ok (.iload_n 2, 1) := by decide +kernel
theorem dX2_setOfMeant_5 : decode cX2_setOfMeant 5 = .ok (.bipush 11, 2) := by decide +kernel
theorem dX2_setOfMeant_7 : decode cX2_setOfMeant 7 = .ok (.if_icmp .gt 24, 3) := by decide +kernel
theorem dX2_setOfMeant_10 : decode cX2_setOfMeant 10 = .ok (.aload_n 0, 1) := by decide +kernel
theorem dX2_setOfMeant_11 : decode cX2_setOfMeant 11 = .ok (.getfield 9, 3) := by decide +kernel
theorem dX2_setOfMeant_14 : decode cX2_setOfMeant 14 = .ok (.iload_n 2, 1) := by decide +kernel
theorem dX2_setOfMeant_15 : decode cX2_setOfMeant 15 = .ok (.iaload, 1) := by decide +kernel
theorem dX2_setOfMeant_16 : decode cX2_setOfMeant 16 = .ok (.ifCond .le 9, 3) := by decide +kernel
theorem dX2_setOfMeant_19 : decode cX2_setOfMeant 19 = .ok (.iload_n 1, 1) := by decide +kernel
theorem dX2_setOfMeant_20 : decode cX2_setOfMeant 20 = .ok (.iconst 1, 1) := by decide +kernel
theorem dX2_setOfMeant_21 : decode cX2_setOfMeant 21 = .ok (.iload_n 2, 1) := by decide +kernel
theorem dX2_setOfMeant_22 : decode cX2_setOfMeant 22 = .ok (.ishl, 1) := by decide +kernel
theorem dX2_setOfMeant_23 : decode cX2_setOfMeant 23 = .ok (.ior, 1) := by decide +kernel
theorem dX2_setOfMeant_24 : decode cX2_setOfMeant 24 = .ok (.istore_n 1, 1) := by decide +kernel
theorem dX2_setOfMeant_25 : decode cX2_setOfMeant 25 = .ok (.iinc 2 1, 3) := by decide +kernel
theorem dX2_setOfMeant_28 : decode cX2_setOfMeant 28 = .ok (.goto (-24), 3) := by decide +kernel
theorem dX2_setOfMeant_31 : decode cX2_setOfMeant 31 = .ok (.iload_n 1, 1) := by decide +kernel
theorem dX2_setOfMeant_32 : decode cX2_setOfMeant 32 = .ok (.ireturn, 1) := by decide +kernel
theorem dX2_mostMeant_0 : decode cX2_mostMeant 0 = .ok (.bipush (-6), 2) := by decide +kernel
theorem dX2_mostMeant_2 : decode cX2_mostMeant 2 = .ok (.istore_n 1, 1) := by decide +kernel
theorem dX2_mostMeant_3 : decode cX2_mostMeant 3 = .ok (.iconst 0, 1) := by decide +kernel
theorem dX2_mostMeant_4 : decode cX2_mostMeant 4 = .ok (.istore_n 2, 1) := by decide +kernel
theorem dX2_mostMeant_5 : decode cX2_mostMeant 5 = .ok (.iconst 1, 1) := by decide +kernel
theorem dX2_mostMeant_6 : decode cX2_mostMeant 6 = .ok (.istore_n 3, 1) := by decide +kernel
theorem dX2_mostMeant_7 : decode cX2_mostMeant 7 = .ok (.iload_n 3, 1) := by decide +kernel
theorem dX2_mostMeant_8 : decode cX2_mostMeant 8 = .ok (.bipush 11, 2) := by decide +kernel
theorem dX2_mostMeant_10 : decode cX2_mostMeant 10 = .ok (.if_icmp .gt 28, 3) := by decide +kernel
theorem dX2_mostMeant_13 : decode cX2_mostMeant 13 = .ok (.aload_n 0, 1) := by decide +kernel
theorem dX2_mostMeant_14 : decode cX2_mostMeant 14 = .ok (.getfield 9, 3) := by decide +kernel
theorem dX2_mostMeant_17 : decode cX2_mostMeant 17 = .ok (.iload_n 3, 1) := by decide +kernel
theorem dX2_mostMeant_18 : decode cX2_mostMeant 18 = .ok (.iaload, 1) := by decide +kernel
theorem dX2_mostMeant_19 : decode cX2_mostMeant 19 = .ok (.iload_n 2, 1) := by decide +kernel
theorem dX2_mostMeant_20 : decode cX2_mostMeant 20 = .ok (.if_icmp .le 12, 3) := by decide +kernel
theorem dX2_mostMeant_23 : decode cX2_mostMeant 23 = .ok (.iload_n 3, 1) := by decide +kernel
theorem dX2_mostMeant_24 : decode cX2_mostMeant 24 = .ok (.istore_n 1, 1) := by decide +kernel
theorem dX2_mostMeant_25 : decode cX2_mostMeant 25 = .ok (.aload_n 0, 1) := by decide +kernel
theorem dX2_mostMeant_26 : decode cX2_mostMeant 26 = .ok (.getfield 9, 3) := by decide +kernel
theorem dX2_mostMeant_29 : decode cX2_mostMeant 29 = .ok (.iload_n 3, 1) := by decide +kernel
theorem dX2_mostMeant_30 : decode cX2_mostMeant 30 = .ok (.iaload, 1) := by decide +kernel
theorem dX2_mostMeant_31 : decode cX2_mostMeant 31 = .ok (.istore_n 2, 1) := by decide +kernel
theorem dX2_mostMeant_32 : decode cX2_mostMeant 32 = .ok (.iinc 3 1, 3) := by decide +kernel
theorem dX2_mostMeant_35 : decode cX2_mostMeant 35 = .ok (.goto (-28), 3) := by decide +kernel
theorem dX2_mostMeant_38 : decode cX2_mostMeant 38 = .ok (.iload_n 1, 1) := by decide +kernel
theorem dX2_mostMeant_39 : decode cX2_mostMeant 39 = .ok (.ireturn, 1) := by decide +kernel
