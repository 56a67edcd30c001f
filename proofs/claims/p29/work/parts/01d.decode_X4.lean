theorem dX4_init_0 : decode cX4_init 0 = .ok (.aload_n 0, 1) := by decide +kernel
theorem dX4_init_1 : decode cX4_init 1 = .ok (.invokespecial 3, 3) := by decide +kernel
theorem dX4_init_4 : decode cX4_init 4 = .ok (.aload_n 0, 1) := by decide +kernel
theorem dX4_init_5 : decode cX4_init 5 = .ok (.iconst 0, 1) := by decide +kernel
theorem dX4_init_6 : decode cX4_init 6 = .ok (.putfield 9, 3) := by decide +kernel
theorem dX4_init_9 : decode cX4_init 9 = .ok (.aload_n 0, 1) := by decide +kernel
theorem dX4_init_10 : decode cX4_init 10 = .ok (.getstatic 15, 3) := by decide +kernel
theorem dX4_init_13 : decode cX4_init 13 = .ok (.invokevirtual 19, 3) := by decide +kernel
theorem dX4_init_16 : decode cX4_init 16 = .ok (.checkcast 20, 3) := by decide +kernel
theorem dX4_init_19 : decode cX4_init 19 = .ok (.putfield 24, 3) := by decide +kernel
theorem dX4_init_22 : decode cX4_init 22 = .ok (.aload_n 0, 1) := by decide +kernel
theorem dX4_init_23 : decode cX4_init 23 = .ok (.new 27, 3) := by decide +kernel
theorem dX4_init_26 : decode cX4_init 26 = .ok (.dup, 1) := by decide +kernel
theorem dX4_init_27 : decode cX4_init 27 = .ok (.invokespecial 29, 3) := by decide +kernel
theorem dX4_init_30 : decode cX4_init 30 = .ok (.putfield 30, 3) := by decide +kernel
theorem dX4_init_33 : decode cX4_init 33 = .ok (.aload_n 0, 1) := by decide +kernel
theorem dX4_init_34 : decode cX4_init 34 = .ok (.new 34, 3) := by decide +kernel
theorem dX4_init_37 : decode cX4_init 37 = .ok (.dup, 1) := by decide +kernel
theorem dX4_init_38 : decode cX4_init 38 = .ok (.invokespecial 36, 3) := by decide +kernel
theorem dX4_init_41 : decode cX4_init 41 = .ok (.putfield 37, 3) := by decide +kernel
theorem dX4_init_44 : decode cX4_init 44 = .ok (.aload_n 0, 1) := by decide +kernel
theorem dX4_init_45 : decode cX4_init 45 = .ok (.iconst 3, 1) := by decide +kernel
theorem dX4_init_46 : decode cX4_init 46 = .ok (.newarray .int, 2) := by decide +kernel
theorem dX4_init_48 : decode cX4_init 48 = .ok (.dup, 1) := by decide +kernel
theorem dX4_init_49 : decode cX4_init 49 = .ok (.iconst 0, 1) := by decide +kernel
theorem dX4_init_50 : decode cX4_init 50 = .ok (.bipush (-6), 2) := by decide +kernel
theorem dX4_init_52 : decode cX4_init 52 = .ok (.iastore, 1) := by decide +kernel
theorem dX4_init_53 : decode cX4_init 53 = .ok (.dup, 1) := by decide +kernel
theorem dX4_init_54 : decode cX4_init 54 = .ok (.iconst 1, 1) := by decide +kernel
theorem dX4_init_55 : decode cX4_init 55 = .ok (.bipush (-6), 2) := by decide +kernel
theorem dX4_init_57 : decode cX4_init 57 = .ok (.iastore, 1) := by decide +kernel
theorem dX4_init_58 : decode cX4_init 58 = .ok (.dup, 1) := by decide +kernel
theorem dX4_init_59 : decode cX4_init 59 = .ok (.iconst 2, 1) := by decide +kernel
theorem dX4_init_60 : decode cX4_init 60 = .ok (.bipush (-6), 2) := by decide +kernel
theorem dX4_init_62 : decode cX4_init 62 = .ok (.iastore, 1) := by decide +kernel
theorem dX4_init_63 : decode cX4_init 63 = .ok (.putfield 41, 3) := by decide +kernel
theorem dX4_init_66 : decode cX4_init 66 = .ok (.aload_n 0, 1) := by decide +kernel
theorem dX4_init_67 : decode cX4_init 67 = .ok (.iconst 3, 1) := by decide +kernel
theorem dX4_init_68 : decode cX4_init 68 = .ok (.newarray .int, 2) := by decide +kernel
theorem dX4_init_70 : decode cX4_init 70 = .ok (.putfield 44, 3) := by decide +kernel
theorem dX4_init_73 : decode cX4_init 73 = .ok (.return_, 1) := by decide +kernel
theorem dX4_copyFrom_0 : decode cX4_copyFrom 0 = .ok (.aload_n 0, 1) := by decide +kernel
theorem dX4_copyFrom_1 : decode cX4_copyFrom 1 = .ok (.aload_n 1, 1) := by decide +kernel
theorem dX4_copyFrom_2 : decode cX4_copyFrom 2 = .ok (.getfield 9, 3) := by decide +kernel
theorem dX4_copyFrom_5 : decode cX4_copyFrom 5 = .ok (.putfield 9, 3) := by decide +kernel
theorem dX4_copyFrom_8 : decode cX4_copyFrom 8 = .ok (.aload_n 1, 1) := by decide +kernel
theorem dX4_copyFrom_9 : decode cX4_copyFrom 9 = .ok (.getfield 24, 3) := by decide +kernel
theorem dX4_copyFrom_12 : decode cX4_copyFrom 12 = .ok (.iconst 0, 1) := by decide +kernel
theorem dX4_copyFrom_13 : decode cX4_copyFrom 13 = .ok (.aload_n 0, 1) := by decide +kernel
theorem dX4_copyFrom_14 : decode cX4_copyFrom 14 = .ok (.getfield 24, 3) := by decide +kernel
theorem dX4_copyFrom_17 : decode cX4_copyFrom 17 = .ok (.iconst 0, 1) := by decide +kernel
theorem dX4_copyFrom_18 : decode cX4_copyFrom 18 = .ok (.aload_n 0, 1) := by decide +kernel
theorem dX4_copyFrom_19 : decode cX4_copyFrom 19 = .ok (.getfield 24, 3) := by decide +kernel
theorem dX4_copyFrom_22 : decode cX4_copyFrom 22 = .ok (.arraylength, 1) := by decide +kernel
theorem dX4_copyFrom_23 : decode cX4_copyFrom 23 = .ok (.invokestatic 47, 3) := by decide +kernel
theorem dX4_copyFrom_26 : decode cX4_copyFrom 26 = .ok (.aload_n 0, 1) := by decide +kernel
theorem dX4_copyFrom_27 : decode cX4_copyFrom 27 = .ok (.getfield 30, 3) := by decide +kernel
theorem dX4_copyFrom_30 : decode cX4_copyFrom 30 = .ok (.aload_n 1, 1) := by decide +kernel
theorem dX4_copyFrom_31 : decode cX4_copyFrom 31 = .ok (.getfield 30, 3) := by decide +kernel
theorem dX4_copyFrom_34 : decode cX4_copyFrom 34 = .ok (.invokevirtual 53, 3) := by decide +kernel
theorem dX4_copyFrom_37 : decode cX4_copyFrom 37 = .ok (.aload_n 0, 1) := by decide +kernel
theorem dX4_copyFrom_38 : decode cX4_copyFrom 38 = .ok (.getfield 37, 3) := by decide +kernel
theorem dX4_copyFrom_41 : decode cX4_copyFrom 41 = .ok (.aload_n 1, 1) := by decide +kernel
theorem dX4_copyFrom_42 : decode cX4_copyFrom 42 = .ok (.getfield 37, 3) := by decide +kernel
theorem dX4_copyFrom_45 : decode cX4_copyFrom 45 = .ok (.invokevirtual 57, 3) := by decide +kernel
theorem dX4_copyFrom_48 : decode cX4_copyFrom 48 = .ok (.aload_n 1, 1) := by decide +kernel
theorem dX4_copyFrom_49 : decode cX4_copyFrom 49 = .ok (.getfield 41, 3) := by decide +kernel
theorem dX4_copyFrom_52 : decode cX4_copyFrom 52 = .ok (.iconst 0, 1) := by decide +kernel
theorem dX4_copyFrom_53 : decode cX4_copyFrom 53 = .ok (.aload_n 0, 1) := by decide +kernel
theorem dX4_copyFrom_54 : decode cX4_copyFrom 54 = .ok (.getfield 41, 3) := by decide +kernel
theorem dX4_copyFrom_57 : decode cX4_copyFrom 57 = .ok (.iconst 0, 1) := by decide +kernel
theorem dX4_copyFrom_58 : decode cX4_copyFrom 58 = .ok (.iconst 3, 1) := by decide +kernel
theorem dX4_copyFrom_59 : decode cX4_copyFrom 59 = .ok (.invokestatic 47, 3) := by decide +kernel
theorem dX4_copyFrom_62 : decode cX4_copyFrom 62 = .ok (.aload_n 1, 1) := by decide +kernel
theorem dX4_copyFrom_63 : decode cX4_copyFrom 63 = .ok (.getfield 44, 3) := by decide +kernel
theorem dX4_copyFrom_66 : decode cX4_copyFrom 66 = .ok (.iconst 0, 1) := by decide +kernel
theorem dX4_copyFrom_67 : decode cX4_copyFrom 67 = .ok (.aload_n 0, 1) := by decide +kernel
theorem dX4_copyFrom_68 : decode cX4_copyFrom 68 = .ok (.getfield 44, 3) := by decide +kernel
theorem dX4_copyFrom_71 : decode cX4_copyFrom 71 = .ok (.iconst 0, 1) := by decide +kernel
theorem dX4_copyFrom_72 : decode cX4_copyFrom 72 = .ok (.iconst 3, 1) := by decide +kernel
theorem dX4_copyFrom_73 : decode cX4_copyFrom 73 = .ok (.invokestatic 47, 3) := by decide +kernel
theorem dX4_copyFrom_76 : decode cX4_copyFrom 76 = .ok (.return_, 1) := by decide +kernel
theorem dX4_changeSetting_0 : decode cX4_changeSetting 0 = .ok (.iload_n 1, 1) := by decide +kernel
theorem dX4_changeSetting_1 : decode cX4_changeSetting 1 = .ok (.ifCond .lt 12, 3) := by decide +kernel
theorem dX4_changeSetting_4 : decode cX4_changeSetting 4 = .ok (.iload_n 1, 1) := by decide +kernel
theorem dX4_changeSetting_5 : decode cX4_changeSetting 5 = .ok (.aload_n 0, 1) := by decide +kernel
theorem dX4_changeSetting_6 : decode cX4_changeSetting 6 = .ok (.getfield 24, 3) := by decide +kernel
theorem dX4_changeSetting_9 : decode cX4_changeSetting 9 = .ok (.arraylength, 1) := by decide +kernel
theorem dX4_changeSetting_10 : decode cX4_changeSetting 10 = .ok (.if_icmp .lt 6, 3) := by decide +kernel
theorem dX4_changeSetting_13 : decode cX4_changeSetting 13 = .ok (.bipush (-2), 2) := by decide +kernel
theorem dX4_changeSetting_15 : decode cX4_changeSetting 15 = .ok (.ireturn, 1) := by decide +kernel
theorem dX4_changeSetting_16 : decode cX4_changeSetting 16 = .ok (.iload_n 2, 1) := by decide +kernel
theorem dX4_changeSetting_17 : decode cX4_changeSetting 17 = .ok (.iconst 1, 1) := by decide +kernel
theorem dX4_changeSetting_18 : decode cX4_changeSetting 18 = .ok (.if_icmp .lt 12, 3) := by decide +kernel
theorem dX4_changeSetting_21 : decode cX4_changeSetting 21 = .ok (.iload_n 2, 1) := by decide +kernel
theorem dX4_changeSetting_22 : decode cX4_changeSetting 22 = .ok (.getstatic 60, 3) := by decide +kernel
theorem dX4_changeSetting_25 : decode cX4_changeSetting 25 = .ok (.iload_n 1, 1) := by decide +kernel
theorem dX4_changeSetting_26 : decode cX4_changeSetting 26 = .ok (.iaload, 1) := by decide +kernel
theorem dX4_changeSetting_27 : decode cX4_changeSetting 27 = .ok (.if_icmp .le 6, 3) := by decide +kernel
theorem dX4_changeSetting_30 : decode cX4_changeSetting 30 = .ok (.bipush (-2), 2) := by decide +kernel
theorem dX4_changeSetting_32 : decode cX4_changeSetting 32 = .ok (.ireturn, 1) := by decide +kernel
theorem dX4_changeSetting_33 : decode cX4_changeSetting 33 = .ok (.aload_n 0, 1) := by decide +kernel
theorem dX4_changeSetting_34 : decode cX4_changeSetting 34 = .ok (.getfield 24, 3) := by decide +kernel
theorem dX4_changeSetting_37 : decode cX4_changeSetting 37 = .ok (.iload_n 1, 1) := by decide +kernel
theorem dX4_changeSetting_38 : decode cX4_changeSetting 38 = .ok (.iaload, 1) := by decide +kernel
theorem dX4_changeSetting_39 : decode cX4_changeSetting 39 = .ok (.istore_n 3, 1) := by decide +kernel
theorem dX4_changeSetting_40 : decode cX4_changeSetting 40 = .ok (.aload_n 0, 1) := by decide +kernel
theorem dX4_changeSetting_41 : decode cX4_changeSetting 41 = .ok (.getfield 24, 3) := by decide +kernel
theorem dX4_changeSetting_44 : decode cX4_changeSetting 44 = .ok (.iload_n 1, 1) := by decide +kernel
theorem dX4_changeSetting_45 : decode cX4_changeSetting 45 = .ok (.iload_n 2, 1) := by decide +kernel
theorem dX4_changeSetting_46 : decode cX4_changeSetting 46 = .ok (.iastore, 1) := by decide +kernel
theorem dX4_changeSetting_47 : decode cX4_changeSetting 47 = .ok (.iload_n 3, 1) := by decide +kernel
theorem dX4_changeSetting_48 : decode cX4_changeSetting 48 = .ok (.ireturn, 1) := by decide +kernel
theorem dX4_welcome_0 : decode cX4_welcome 0 = .ok (.iload_n 1, 1) := by decide +kernel
theorem dX4_welcome_1 : decode cX4_welcome 1 = .ok (.invokestatic 63, 3) := by decide +kernel
theorem dX4_welcome_4 : decode cX4_welcome 4 = .ok (.ifCond .ne 5, 3) := by decide +kernel
theorem dX4_welcome_7 : decode cX4_welcome 7 = .ok (.iconst (-1), 1) := by decide +kernel
theorem dX4_welcome_8 : decode cX4_welcome 8 = .ok (.ireturn, 1) := by decide +kernel
theorem dX4_welcome_9 : decode cX4_welcome 9 = .ok (.iload_n 2, 1) := by decide +kernel
theorem dX4_welcome_10 : decode cX4_welcome 10 = .ok (.iconst 1, 1) := by decide +kernel
theorem dX4_welcome_11 : decode cX4_welcome 11 = .ok (.if_icmp .lt 9, 3) := by decide +kernel
theorem dX4_welcome_14 : decode cX4_welcome 14 = .ok (.iload_n 2, 1) := by decide +kernel
theorem dX4_welcome_15 : decode cX4_welcome 15 = .ok (.bipush 9, 2) := by decide +kernel
theorem dX4_welcome_17 : decode cX4_welcome 17 = .ok (.if_icmp .le 6, 3) := by decide +kernel
theorem dX4_welcome_20 : decode cX4_welcome 20 = .ok (.bipush (-2), 2) := by decide +kernel
theorem dX4_welcome_22 : decode cX4_welcome 22 = .ok (.ireturn, 1) := by decide +kernel
theorem dX4_welcome_23 : decode cX4_welcome 23 = .ok (.aload_n 0, 1) := by decide +kernel
theorem dX4_welcome_24 : decode cX4_welcome 24 = .ok (.getfield 30, 3) := by decide +kernel
theorem dX4_welcome_27 : decode cX4_welcome 27 = .ok (.iload_n 1, 1) := by decide +kernel
theorem dX4_welcome_28 : decode cX4_welcome 28 = .ok (.iload_n 2, 1) := by decide +kernel
theorem dX4_welcome_29 : decode cX4_welcome 29 = .ok (.aload_n 0, 1) := by decide +kernel
theorem dX4_welcome_30 : decode cX4_welcome 30 = .ok (.getfield 24, 3) := by decide +kernel
theorem dX4_welcome_33 : decode cX4_welcome 33 = .ok (.iconst 2, 1) := by decide +kernel
theorem dX4_welcome_34 : decode cX4_welcome 34 = .ok (.iaload, 1) := by decide +kernel
theorem dX4_welcome_35 : decode cX4_welcome 35 = .ok (.invokevirtual 67, 3) := by decide +kernel
theorem dX4_welcome_38 : decode cX4_welcome 38 = .ok (.ireturn, 1) := by decide +kernel
theorem dX4_seeOff_0 : decode cX4_seeOff 0 = .ok (.aload_n 0, 1) := by decide +kernel
theorem dX4_seeOff_1 : decode cX4_seeOff 1 = .ok (.getfield 30, 3) := by decide +kernel
theorem dX4_seeOff_4 : decode cX4_seeOff 4 = .ok (.iload_n 1, 1) := by decide +kernel
theorem dX4_seeOff_5 : decode cX4_seeOff 5 = .ok (.invokevirtual 71, 3) := by decide +kernel
theorem dX4_seeOff_8 : decode cX4_seeOff 8 = .ok (.ifCond .ne 5, 3) := by decide +kernel
theorem dX4_seeOff_11 : decode cX4_seeOff 11 = .ok (.iconst (-1), 1) := by decide +kernel
theorem dX4_seeOff_12 : decode cX4_seeOff 12 = .ok (.ireturn, 1) := by decide +kernel
theorem dX4_seeOff_13 : decode cX4_seeOff 13 = .ok (.aload_n 0, 1) := by decide +kernel
theorem dX4_seeOff_14 : decode cX4_seeOff 14 = .ok (.getfield 30, 3) := by decide +kernel
theorem dX4_seeOff_17 : decode cX4_seeOff 17 = .ok (.getfield 74, 3) := by decide +kernel
theorem dX4_seeOff_20 : decode cX4_seeOff 20 = .ok (.iload_n 1, 1) := by decide +kernel
theorem dX4_seeOff_21 : decode cX4_seeOff 21 = .ok (.iaload, 1) := by decide +kernel
theorem dX4_seeOff_22 : decode cX4_seeOff 22 = .ok (.istore_n 2, 1) := by decide +kernel
theorem dX4_seeOff_23 : decode cX4_seeOff 23 = .ok (.iload_n 2, 1) := by decide +kernel
theorem dX4_seeOff_24 : decode cX4_seeOff 24 = .ok (.bipush (-6), 2) := by decide +kernel
theorem dX4_seeOff_26 : decode cX4_seeOff 26 = .ok (.if_icmp .ne 6, 3) := by decide +kernel
theorem dX4_seeOff_29 : decode cX4_seeOff 29 = .ok (.bipush (-5), 2) := by decide +kernel
theorem dX4_seeOff_31 : decode cX4_seeOff 31 = .ok (.ireturn, 1) := by decide +kernel
theorem dX4_seeOff_32 : decode cX4_seeOff 32 = .ok (.aload_n 0, 1) := by decide +kernel
theorem dX4_seeOff_33 : decode cX4_seeOff 33 = .ok (.getfield 30, 3) := by decide +kernel
theorem dX4_seeOff_36 : decode cX4_seeOff 36 = .ok (.getfield 74, 3) := by decide +kernel
theorem dX4_seeOff_39 : decode cX4_seeOff 39 = .ok (.iload_n 1, 1) := by decide +kernel
theorem dX4_seeOff_40 : decode cX4_seeOff 40 = .ok (.bipush (-6), 2) := by decide +kernel
theorem dX4_seeOff_42 : decode cX4_seeOff 42 = .ok (.iastore, 1) := by decide +kernel
theorem dX4_seeOff_43 : decode cX4_seeOff 43 = .ok (.aload_n 0, 1) := by decide +kernel
theorem dX4_seeOff_44 : decode cX4_seeOff 44 = .ok (.iload_n 2, 1) := by decide +kernel
theorem dX4_seeOff_45 : decode cX4_seeOff 45 = .ok (.invokevirtual 77, 3) := by decide +kernel
theorem dX4_seeOff_48 : decode cX4_seeOff 48 = .ok (.aload_n 0, 1) := by decide +kernel
theorem dX4_seeOff_49 : decode cX4_seeOff 49 = .ok (.getfield 30, 3) := by decide +kernel
theorem dX4_seeOff_52 : decode cX4_seeOff 52 = .ok (.iload_n 2, 1) := by decide +kernel
theorem dX4_seeOff_53 : decode cX4_seeOff 53 = .ok (.invokevirtual 81, 3) := by decide +kernel
theorem dX4_seeOff_56 : decode cX4_seeOff 56 = .ok (.invokestatic 85, 3) := by decide +kernel
theorem dX4_seeOff_59 : decode cX4_seeOff 59 = .ok (.ireturn, 1) := by decide +kernel
theorem dX4_reseat_0 : decode cX4_reseat 0 = .ok (.aload_n 0, 1) := by decide +kernel
theorem dX4_reseat_1 : decode cX4_reseat 1 = .ok (.getfield 30, 3) := by decide +kernel
theorem dX4_reseat_4 : decode cX4_reseat 4 = .ok (.iload_n 1, 1) := by decide +kernel
theorem dX4_reseat_5 : decode cX4_reseat 5 = .ok (.invokevirtual 71, 3) := by decide +kernel
theorem dX4_reseat_8 : decode cX4_reseat 8 = .ok (.ifCond .eq 10, 3) := by decide +kernel
theorem dX4_reseat_11 : decode cX4_reseat 11 = .ok (.iload_n 2, 1) := by decide +kernel
theorem dX4_reseat_12 : decode cX4_reseat 12 = .ok (.invokestatic 63, 3) := by decide +kernel
theorem dX4_reseat_15 : decode cX4_reseat 15 = .ok (.ifCond .ne 5, 3) := by decide +kernel
theorem dX4_reseat_18 : decode cX4_reseat 18 = .ok (.iconst (-1), 1) := by decide +kernel
theorem dX4_reseat_19 : decode cX4_reseat 19 = .ok (.ireturn, 1) := by decide +kernel
theorem dX4_reseat_20 : decode cX4_reseat 20 = .ok (.aload_n 0, 1) := by decide +kernel
theorem dX4_reseat_21 : decode cX4_reseat 21 = .ok (.getfield 30, 3) := by decide +kernel
theorem dX4_reseat_24 : decode cX4_reseat 24 = .ok (.getfield 74, 3) := by decide +kernel
theorem dX4_reseat_27 : decode cX4_reseat 27 = .ok (.iload_n 1, 1) := by decide +kernel
theorem dX4_reseat_28 : decode cX4_reseat 28 = .ok (.iaload, 1) := by decide +kernel
theorem dX4_reseat_29 : decode cX4_reseat 29 = .ok (.istore_n 3, 1) := by decide +kernel
theorem dX4_reseat_30 : decode cX4_reseat 30 = .ok (.iload_n 3, 1) := by decide +kernel
theorem dX4_reseat_31 : decode cX4_reseat 31 = .ok (.bipush (-6), 2) := by decide +kernel
theorem dX4_reseat_33 : decode cX4_reseat 33 = .ok (.if_icmp .eq 8, 3) := by decide +kernel
theorem dX4_reseat_36 : decode cX4_reseat 36 = .ok (.iload_n 3, 1) := by decide +kernel
theorem dX4_reseat_37 : decode cX4_reseat 37 = .ok (.iload_n 2, 1) := by decide +kernel
theorem dX4_reseat_38 : decode cX4_reseat 38 = .ok (.if_icmp .ne 6, 3) := by decide +kernel
theorem dX4_reseat_41 : decode cX4_reseat 41 = .ok (.bipush (-5), 2) := by decide +kernel
theorem dX4_reseat_43 : decode cX4_reseat 43 = .ok (.ireturn, 1) := by decide +kernel
theorem dX4_reseat_44 : decode cX4_reseat 44 = .ok (.aload_n 0, 1) := by decide +kernel
theorem dX4_reseat_45 : decode cX4_reseat 45 = .ok (.getfield 30, 3) := by decide +kernel
theorem dX4_reseat_48 : decode cX4_reseat 48 = .ok (.getfield 74, 3) := by decide +kernel
theorem dX4_reseat_51 : decode cX4_reseat 51 = .ok (.iload_n 1, 1) := by decide +kernel
theorem dX4_reseat_52 : decode cX4_reseat 52 = .ok (.iload_n 2, 1) := by decide +kernel
theorem dX4_reseat_53 : decode cX4_reseat 53 = .ok (.iastore, 1) := by decide +kernel
theorem dX4_reseat_54 : decode cX4_reseat 54 = .ok (.aload_n 0, 1) := by decide +kernel
theorem dX4_reseat_55 : decode cX4_reseat 55 = .ok (.iload_n 3, 1) := by decide +kernel
theorem dX4_reseat_56 : decode cX4_reseat 56 = .ok (.invokevirtual 77, 3) := by decide +kernel
theorem dX4_reseat_59 : decode cX4_reseat 59 = .ok (.iload_n 3, 1) := by decide +kernel
theorem dX4_reseat_60 : decode cX4_reseat 60 = .ok (.ireturn, 1) := by decide +kernel
theorem dX4_beginPause_0 : decode cX4_beginPause 0 = .ok (.iload_n 1, 1) := by decide +kernel
theorem dX4_beginPause_1 : decode cX4_beginPause 1 = .ok (.invokestatic 63, 3) := by decide +kernel
theorem dX4_beginPause_4 : decode cX4_beginPause 4 = .ok (.ifCond .ne 5, 3) := by decide +kernel
theorem dX4_beginPause_7 : decode cX4_beginPause 7 = .ok (.iconst (-1), 1) := by decide +kernel
theorem dX4_beginPause_8 : decode cX4_beginPause 8 = .ok (.ireturn, 1) := by decide +kernel
theorem dX4_beginPause_9 : decode cX4_beginPause 9 = .ok (.aload_n 0, 1) := by decide +kernel
theorem dX4_beginPause_10 : decode cX4_beginPause 10 = .ok (.getfield 30, 3) := by decide +kernel
theorem dX4_beginPause_13 : decode cX4_beginPause 13 = .ok (.iload_n 1, 1) := by decide +kernel
theorem dX4_beginPause_14 : decode cX4_beginPause 14 = .ok (.bipush (-6), 2) := by decide +kernel
theorem dX4_beginPause_16 : decode cX4_beginPause 16 = .ok (.invokevirtual 90, 3) := by decide +kernel
theorem dX4_beginPause_19 : decode cX4_beginPause 19 = .ok (.istore_n 2, 1) := by decide +kernel
theorem dX4_beginPause_20 : decode cX4_beginPause 20 = .ok (.aload_n 0, 1) := by decide +kernel
theorem dX4_beginPause_21 : decode cX4_beginPause 21 = .ok (.getfield 41, 3) := by decide +kernel
theorem dX4_beginPause_24 : decode cX4_beginPause 24 = .ok (.iload_n 1, 1) := by decide +kernel
theorem dX4_beginPause_25 : decode cX4_beginPause 25 = .ok (.iaload, 1) := by decide +kernel
theorem dX4_beginPause_26 : decode cX4_beginPause 26 = .ok (.bipush (-6), 2) := by decide +kernel
theorem dX4_beginPause_28 : decode cX4_beginPause 28 = .ok (.if_icmp .ne 7, 3) := by decide +kernel
theorem dX4_beginPause_31 : decode cX4_beginPause 31 = .ok (.iload_n 2, 1) := by decide +kernel
theorem dX4_beginPause_32 : decode cX4_beginPause 32 = .ok (.ifCond .ne 6, 3) := by decide +kernel
theorem dX4_beginPause_35 : decode cX4_beginPause 35 = .ok (.bipush (-5), 2) := by decide +kernel
theorem dX4_beginPause_37 : decode cX4_beginPause 37 = .ok (.ireturn, 1) := by decide +kernel
theorem dX4_beginPause_38 : decode cX4_beginPause 38 = .ok (.aload_n 0, 1) := by decide +kernel
theorem dX4_beginPause_39 : decode cX4_beginPause 39 = .ok (.getfield 41, 3) := by decide +kernel
theorem dX4_beginPause_42 : decode cX4_beginPause 42 = .ok (.iload_n 1, 1) := by decide +kernel
theorem dX4_beginPause_43 : decode cX4_beginPause 43 = .ok (.iconst 0, 1) := by decide +kernel
theorem dX4_beginPause_44 : decode cX4_beginPause 44 = .ok (.iastore, 1) := by decide +kernel
theorem dX4_beginPause_45 : decode cX4_beginPause 45 = .ok (.iload_n 2, 1) := by decide +kernel
theorem dX4_beginPause_46 : decode cX4_beginPause 46 = .ok (.ireturn, 1) := by decide +kernel
theorem dX4_closePause_0 : decode cX4_closePause 0 = .ok (.iload_n 1, 1) := by decide +kernel
theorem dX4_closePause_1 : decode cX4_closePause 1 = .ok (.invokestatic 63, 3) := by decide +kernel
theorem dX4_closePause_4 : decode cX4_closePause 4 = .ok (.ifCond .ne 5, 3) := by decide +kernel
theorem dX4_closePause_7 : decode cX4_closePause 7 = .ok (.iconst (-1), 1) := by decide +kernel
theorem dX4_closePause_8 : decode cX4_closePause 8 = .ok (.ireturn, 1) := by decide +kernel
theorem dX4_closePause_9 : decode cX4_closePause 9 = .ok (.aload_n 0, 1) := by decide +kernel
theorem dX4_closePause_10 : decode cX4_closePause 10 = .ok (.getfield 41, 3) := by decide +kernel
theorem dX4_closePause_13 : decode cX4_closePause 13 = .ok (.iload_n 1, 1) := by decide +kernel
theorem dX4_closePause_14 : decode cX4_closePause 14 = .ok (.iaload, 1) := by decide +kernel
theorem dX4_closePause_15 : decode cX4_closePause 15 = .ok (.bipush (-6), 2) := by decide +kernel
theorem dX4_closePause_17 : decode cX4_closePause 17 = .ok (.if_icmp .ne 6, 3) := by decide +kernel
theorem dX4_closePause_20 : decode cX4_closePause 20 = .ok (.bipush (-5), 2) := by decide +kernel
theorem dX4_closePause_22 : decode cX4_closePause 22 = .ok (.ireturn, 1) := by decide +kernel
theorem dX4_closePause_23 : decode cX4_closePause 23 = .ok (.aload_n 0, 1) := by decide +kernel
theorem dX4_closePause_24 : decode cX4_closePause 24 = .ok (.iload_n 1, 1) := by decide +kernel
theorem dX4_closePause_25 : decode cX4_closePause 25 = .ok (.bipush (-6), 2) := by decide +kernel
theorem dX4_closePause_27 : decode cX4_closePause 27 = .ok (.invokevirtual 94, 3) := by decide +kernel
theorem dX4_closePause_30 : decode cX4_closePause 30 = .ok (.istore_n 2, 1) := by decide +kernel
theorem dX4_closePause_31 : decode cX4_closePause 31 = .ok (.aload_n 0, 1) := by decide +kernel
theorem dX4_closePause_32 : decode cX4_closePause 32 = .ok (.getfield 37, 3) := by decide +kernel
theorem dX4_closePause_35 : decode cX4_closePause 35 = .ok (.iload_n 2, 1) := by decide +kernel
theorem dX4_closePause_36 : decode cX4_closePause 36 = .ok (.aload_n 0, 1) := by decide +kernel
theorem dX4_closePause_37 : decode cX4_closePause 37 = .ok (.getfield 41, 3) := by decide +kernel
theorem dX4_closePause_40 : decode cX4_closePause 40 = .ok (.iload_n 1, 1) := by decide +kernel
theorem dX4_closePause_41 : decode cX4_closePause 41 = .ok (.iaload, 1) := by decide +kernel
theorem dX4_closePause_42 : decode cX4_closePause 42 = .ok (.invokevirtual 97, 3) := by decide +kernel
theorem dX4_closePause_45 : decode cX4_closePause 45 = .ok (.aload_n 0, 1) := by decide +kernel
theorem dX4_closePause_46 : decode cX4_closePause 46 = .ok (.iconst 0, 1) := by decide +kernel
theorem dX4_closePause_47 : decode cX4_closePause 47 = .ok (.iload_n 1, 1) := by decide +kernel
theorem dX4_closePause_48 : decode cX4_closePause 48 = .ok (.iload_n 2, 1) := by decide +kernel
theorem dX4_closePause_49 : decode cX4_closePause 49 = .ok (.bipush (-6), 2) := by decide +kernel
theorem dX4_closePause_51 : decode cX4_closePause 51 = .ok (.invokevirtual 101, 3) := by decide +kernel
theorem dX4_closePause_54 : decode cX4_closePause 54 = .ok (.iload_n 2, 1) := by decide +kernel
theorem dX4_closePause_55 : decode cX4_closePause 55 = .ok (.ireturn, 1) := by decide +kernel
theorem dX4_breakByWord_0 : decode cX4_breakByWord 0 = .ok (.aload_n 0, 1) := by decide +kernel
theorem dX4_breakByWord_1 : decode cX4_breakByWord 1 = .ok (.iload_n 1, 1) := by decide +kernel
theorem dX4_breakByWord_2 : decode cX4_breakByWord 2 = .ok (.invokevirtual 105, 3) := by decide +kernel
theorem dX4_breakByWord_5 : decode cX4_breakByWord 5 = .ok (.istore_n 2, 1) := by decide +kernel
theorem dX4_breakByWord_6 : decode cX4_breakByWord 6 = .ok (.iload_n 2, 1) := by decide +kernel
theorem dX4_breakByWord_7 : decode cX4_breakByWord 7 = .ok (.ifCond .eq 5, 3) := by decide +kernel
theorem dX4_breakByWord_10 : decode cX4_breakByWord 10 = .ok (.iload_n 2, 1) := by decide +kernel
theorem dX4_breakByWord_11 : decode cX4_breakByWord 11 = .ok (.ireturn, 1) := by decide +kernel
theorem dX4_breakByWord_12 : decode cX4_breakByWord 12 = .ok (.aload_n 0, 1) := by decide +kernel
theorem dX4_breakByWord_13 : decode cX4_breakByWord 13 = .ok (.getfield 30, 3) := by decide +kernel
theorem dX4_breakByWord_16 : decode cX4_breakByWord 16 = .ok (.getfield 74, 3) := by decide +kernel
theorem dX4_breakByWord_19 : decode cX4_breakByWord 19 = .ok (.iload_n 1, 1) := by decide +kernel
theorem dX4_breakByWord_20 : decode cX4_breakByWord 20 = .ok (.iaload, 1) := by decide +kernel
theorem dX4_breakByWord_21 : decode cX4_breakByWord 21 = .ok (.istore_n 3, 1) := by decide +kernel
theorem dX4_breakByWord_22 : decode cX4_breakByWord 22 = .ok (.aload_n 0, 1) := by decide +kernel
theorem dX4_breakByWord_23 : decode cX4_breakByWord 23 = .ok (.getfield 30, 3) := by decide +kernel
theorem dX4_breakByWord_26 : decode cX4_breakByWord 26 = .ok (.iload_n 3, 1) := by decide +kernel
theorem dX4_breakByWord_27 : decode cX4_breakByWord 27 = .ok (.invokevirtual 108, 3) := by decide +kernel
theorem dX4_breakByWord_30 : decode cX4_breakByWord 30 = .ok (.istore 4, 2) := by decide +kernel
theorem dX4_breakByWord_32 : decode cX4_breakByWord 32 = .ok (.aload_n 0, 1) := by decide +kernel
theorem dX4_breakByWord_33 : decode cX4_breakByWord 33 = .ok (.getfield 30, 3) := by decide +kernel
theorem dX4_breakByWord_36 : decode cX4_breakByWord 36 = .ok (.getfield 111, 3) := by decide +kernel
theorem dX4_breakByWord_39 : decode cX4_breakByWord 39 = .ok (.iload_n 1, 1) := by decide +kernel
theorem dX4_breakByWord_40 : decode cX4_breakByWord 40 = .ok (.dup2, 1) := by decide +kernel
theorem dX4_breakByWord_41 : decode cX4_breakByWord 41 = .ok (.iaload, 1) := by decide +kernel
theorem dX4_breakByWord_42 : decode cX4_breakByWord 42 = .ok (.aload_n 0, 1) := by decide +kernel
theorem dX4_breakByWord_43 : decode cX4_breakByWord 43 = .ok (.getfield 24, 3) := by decide +kernel
theorem dX4_breakByWord_46 : decode cX4_breakByWord 46 = .ok (.iconst 3, 1) := by decide +kernel
theorem dX4_breakByWord_47 : decode cX4_breakByWord 47 = .ok (.iaload, 1) := by decide +kernel
theorem dX4_breakByWord_48 : decode cX4_breakByWord 48 = .ok (.iadd, 1) := by decide +kernel
theorem dX4_breakByWord_49 : decode cX4_breakByWord 49 = .ok (.iastore, 1) := by decide +kernel
theorem dX4_breakByWord_50 : decode cX4_breakByWord 50 = .ok (.iload 4, 2) := by decide +kernel
theorem dX4_breakByWord_52 : decode cX4_breakByWord 52 = .ok (.bipush (-6), 2) := by decide +kernel
theorem dX4_breakByWord_54 : decode cX4_breakByWord 54 = .ok (.if_icmp .eq 23, 3) := by decide +kernel
theorem dX4_breakByWord_57 : decode cX4_breakByWord 57 = .ok (.iload 4, 2) := by decide +kernel
theorem dX4_breakByWord_59 : decode cX4_breakByWord 59 = .ok (.iload_n 1, 1) := by decide +kernel
theorem dX4_breakByWord_60 : decode cX4_breakByWord 60 = .ok (.if_icmp .eq 17, 3) := by decide +kernel
theorem dX4_breakByWord_63 : decode cX4_breakByWord 63 = .ok (.aload_n 0, 1) := by decide +kernel
theorem dX4_breakByWord_64 : decode cX4_breakByWord 64 = .ok (.getfield 30, 3) := by decide +kernel
theorem dX4_breakByWord_67 : decode cX4_breakByWord 67 = .ok (.getfield 111, 3) := by decide +kernel
theorem dX4_breakByWord_70 : decode cX4_breakByWord 70 = .ok (.iload 4, 2) := by decide +kernel
theorem dX4_breakByWord_72 : decode cX4_breakByWord 72 = .ok (.dup2, 1) := by decide +kernel
theorem dX4_breakByWord_73 : decode cX4_breakByWord 73 = .ok (.iaload, 1) := by decide +kernel
theorem dX4_breakByWord_74 : decode cX4_breakByWord 74 = .ok (.iconst 1, 1) := by decide +kernel
theorem dX4_breakByWord_75 : decode cX4_breakByWord 75 = .ok (.iadd, 1) := by decide +kernel
theorem dX4_breakByWord_76 : decode cX4_breakByWord 76 = .ok (.iastore, 1) := by decide +kernel
theorem dX4_breakByWord_77 : decode cX4_breakByWord 77 = .ok (.aload_n 0, 1) := by decide +kernel
theorem dX4_breakByWord_78 : decode cX4_breakByWord 78 = .ok (.getfield 30, 3) := by decide +kernel
theorem dX4_breakByWord_81 : decode cX4_breakByWord 81 = .ok (.getfield 114, 3) := by decide +kernel
theorem dX4_breakByWord_84 : decode cX4_breakByWord 84 = .ok (.iload_n 1, 1) := by decide +kernel
theorem dX4_breakByWord_85 : decode cX4_breakByWord 85 = .ok (.dup2, 1) := by decide +kernel
theorem dX4_breakByWord_86 : decode cX4_breakByWord 86 = .ok (.iaload, 1) := by decide +kernel
theorem dX4_breakByWord_87 : decode cX4_breakByWord 87 = .ok (.iconst 1, 1) := by decide +kernel
theorem dX4_breakByWord_88 : decode cX4_breakByWord 88 = .ok (.iadd, 1) := by decide +kernel
theorem dX4_breakByWord_89 : decode cX4_breakByWord 89 = .ok (.iastore, 1) := by decide +kernel
theorem dX4_breakByWord_90 : decode cX4_breakByWord 90 = .ok (.aload_n 0, 1) := by decide +kernel
theorem dX4_breakByWord_91 : decode cX4_breakByWord 91 = .ok (.iconst 1, 1) := by decide +kernel
theorem dX4_breakByWord_92 : decode cX4_breakByWord 92 = .ok (.iload_n 3, 1) := by decide +kernel
theorem dX4_breakByWord_93 : decode cX4_breakByWord 93 = .ok (.iconst 0, 1) := by decide +kernel
theorem dX4_breakByWord_94 : decode cX4_breakByWord 94 = .ok (.iload_n 1, 1) := by decide +kernel
theorem dX4_breakByWord_95 : decode cX4_breakByWord 95 = .ok (.invokevirtual 101, 3) := by decide +kernel
theorem dX4_breakByWord_98 : decode cX4_breakByWord 98 = .ok (.aload_n 0, 1) := by decide +kernel
theorem dX4_breakByWord_99 : decode cX4_breakByWord 99 = .ok (.getfield 30, 3) := by decide +kernel
theorem dX4_breakByWord_102 : decode cX4_breakByWord 102 = .ok (.getfield 111, 3) := by decide +kernel
theorem dX4_breakByWord_105 : decode cX4_breakByWord 105 = .ok (.iload_n 1, 1) := by decide +kernel
theorem dX4_breakByWord_106 : decode cX4_breakByWord 106 = .ok (.iaload, 1) := by decide +kernel
theorem dX4_breakByWord_107 : decode cX4_breakByWord 107 = .ok (.ireturn, 1) := by decide +kernel
theorem dX4_breakByCough_0 : decode cX4_breakByCough 0 = .ok (.aload_n 0, 1) := by decide +kernel
theorem dX4_breakByCough_1 : decode cX4_breakByCough 1 = .ok (.iload_n 1, 1) := by decide +kernel
theorem dX4_breakByCough_2 : decode cX4_breakByCough 2 = .ok (.invokevirtual 105, 3) := by decide +kernel
theorem dX4_breakByCough_5 : decode cX4_breakByCough 5 = .ok (.istore_n 2, 1) := by decide +kernel
theorem dX4_breakByCough_6 : decode cX4_breakByCough 6 = .ok (.iload_n 2, 1) := by decide +kernel
theorem dX4_breakByCough_7 : decode cX4_breakByCough 7 = .ok (.ifCond .eq 5, 3) := by decide +kernel
theorem dX4_breakByCough_10 : decode cX4_breakByCough 10 = .ok (.iload_n 2, 1) := by decide +kernel
theorem dX4_breakByCough_11 : decode cX4_breakByCough 11 = .ok (.ireturn, 1) := by decide +kernel
theorem dX4_breakByCough_12 : decode cX4_breakByCough 12 = .ok (.aload_n 0, 1) := by decide +kernel
theorem dX4_breakByCough_13 : decode cX4_breakByCough 13 = .ok (.getfield 30, 3) := by decide +kernel
theorem dX4_breakByCough_16 : decode cX4_breakByCough 16 = .ok (.getfield 74, 3) := by decide +kernel
theorem dX4_breakByCough_19 : decode cX4_breakByCough 19 = .ok (.iload_n 1, 1) := by decide +kernel
theorem dX4_breakByCough_20 : decode cX4_breakByCough 20 = .ok (.iaload, 1) := by decide +kernel
theorem dX4_breakByCough_21 : decode cX4_breakByCough 21 = .ok (.istore_n 3, 1) := by decide +kernel
theorem dX4_breakByCough_22 : decode cX4_breakByCough 22 = .ok (.aload_n 0, 1) := by decide +kernel
theorem dX4_breakByCough_23 : decode cX4_breakByCough 23 = .ok (.getfield 30, 3) := by decide +kernel
theorem dX4_breakByCough_26 : decode cX4_breakByCough 26 = .ok (.iload_n 1, 1) := by decide +kernel
theorem dX4_breakByCough_27 : decode cX4_breakByCough 27 = .ok (.iload_n 3, 1) := by decide +kernel
theorem dX4_breakByCough_28 : decode cX4_breakByCough 28 = .ok (.invokevirtual 117, 3) := by decide +kernel
theorem dX4_breakByCough_31 : decode cX4_breakByCough 31 = .ok (.istore 4, 2) := by decide +kernel
theorem dX4_breakByCough_33 : decode cX4_breakByCough 33 = .ok (.iload 4, 2) := by decide +kernel
theorem dX4_breakByCough_35 : decode cX4_breakByCough 35 = .ok (.bipush (-6), 2) := by decide +kernel
theorem dX4_breakByCough_37 : decode cX4_breakByCough 37 = .ok (.if_icmp .ne 24, 3) := by decide +kernel
theorem dX4_breakByCough_40 : decode cX4_breakByCough 40 = .ok (.aload_n 0, 1) := by decide +kernel
theorem dX4_breakByCough_41 : decode cX4_breakByCough 41 = .ok (.getfield 30, 3) := by decide +kernel
theorem dX4_breakByCough_44 : decode cX4_breakByCough 44 = .ok (.getfield 111, 3) := by decide +kernel
theorem dX4_breakByCough_47 : decode cX4_breakByCough 47 = .ok (.iload_n 1, 1) := by decide +kernel
theorem dX4_breakByCough_48 : decode cX4_breakByCough 48 = .ok (.dup2, 1) := by decide +kernel
theorem dX4_breakByCough_49 : decode cX4_breakByCough 49 = .ok (.iaload, 1) := by decide +kernel
theorem dX4_breakByCough_50 : decode cX4_breakByCough 50 = .ok (.aload_n 0, 1) := by decide +kernel
theorem dX4_breakByCough_51 : decode cX4_breakByCough 51 = .ok (.getfield 24, 3) := by decide +kernel
theorem dX4_breakByCough_54 : decode cX4_breakByCough 54 = .ok (.iconst 3, 1) := by decide +kernel
theorem dX4_breakByCough_55 : decode cX4_breakByCough 55 = .ok (.iaload, 1) := by decide +kernel
theorem dX4_breakByCough_56 : decode cX4_breakByCough 56 = .ok (.iadd, 1) := by decide +kernel
theorem dX4_breakByCough_57 : decode cX4_breakByCough 57 = .ok (.iastore, 1) := by decide +kernel
theorem dX4_breakByCough_58 : decode cX4_breakByCough 58 = .ok (.goto 31, 3) := by decide +kernel
theorem dX4_breakByCough_61 : decode cX4_breakByCough 61 = .ok (.aload_n 0, 1) := by decide +kernel
theorem dX4_breakByCough_62 : decode cX4_breakByCough 62 = .ok (.getfield 30, 3) := by decide +kernel
theorem dX4_breakByCough_65 : decode cX4_breakByCough 65 = .ok (.getfield 120, 3) := by decide +kernel
theorem dX4_breakByCough_68 : decode cX4_breakByCough 68 = .ok (.iload 4, 2) := by decide +kernel
theorem dX4_breakByCough_70 : decode cX4_breakByCough 70 = .ok (.dup2, 1) := by decide +kernel
theorem dX4_breakByCough_71 : decode cX4_breakByCough 71 = .ok (.iaload, 1) := by decide +kernel
theorem dX4_breakByCough_72 : decode cX4_breakByCough 72 = .ok (.iconst 1, 1) := by decide +kernel
theorem dX4_breakByCough_73 : decode cX4_breakByCough 73 = .ok (.isub, 1) := by decide +kernel
theorem dX4_breakByCough_74 : decode cX4_breakByCough 74 = .ok (.iastore, 1) := by decide +kernel
theorem dX4_breakByCough_75 : decode cX4_breakByCough 75 = .ok (.aload_n 0, 1) := by decide +kernel
theorem dX4_breakByCough_76 : decode cX4_breakByCough 76 = .ok (.getfield 30, 3) := by decide +kernel
theorem dX4_breakByCough_79 : decode cX4_breakByCough 79 = .ok (.getfield 123, 3) := by decide +kernel
theorem dX4_breakByCough_82 : decode cX4_breakByCough 82 = .ok (.iload 4, 2) := by decide +kernel
theorem dX4_breakByCough_84 : decode cX4_breakByCough 84 = .ok (.dup2, 1) := by decide +kernel
theorem dX4_breakByCough_85 : decode cX4_breakByCough 85 = .ok (.iaload, 1) := by decide +kernel
theorem dX4_breakByCough_86 : decode cX4_breakByCough 86 = .ok (.iconst 1, 1) := by decide +kernel
theorem dX4_breakByCough_87 : decode cX4_breakByCough 87 = .ok (.iadd, 1) := by decide +kernel
theorem dX4_breakByCough_88 : decode cX4_breakByCough 88 = .ok (.iastore, 1) := by decide +kernel
theorem dX4_breakByCough_89 : decode cX4_breakByCough 89 = .ok (.aload_n 0, 1) := by decide +kernel
theorem dX4_breakByCough_90 : decode cX4_breakByCough 90 = .ok (.getfield 30, 3) := by decide +kernel
theorem dX4_breakByCough_93 : decode cX4_breakByCough 93 = .ok (.getfield 114, 3) := by decide +kernel
theorem dX4_breakByCough_96 : decode cX4_breakByCough 96 = .ok (.iload_n 1, 1) := by decide +kernel
theorem dX4_breakByCough_97 : decode cX4_breakByCough 97 = .ok (.dup2, 1) := by decide +kernel
theorem dX4_breakByCough_98 : decode cX4_breakByCough 98 = .ok (.iaload, 1) := by decide +kernel
theorem dX4_breakByCough_99 : decode cX4_breakByCough 99 = .ok (.iconst 1, 1) := by decide +kernel
theorem dX4_breakByCough_100 : decode cX4_breakByCough 100 = .ok (.iadd, 1) := by decide +kernel
theorem dX4_breakByCough_101 : decode cX4_breakByCough 101 = .ok (.iastore, 1) := by decide +kernel
theorem dX4_breakByCough_102 : decode cX4_breakByCough 102 = .ok (.aload_n 0, 1) := by decide +kernel
theorem dX4_breakByCough_103 : decode cX4_breakByCough 103 = .ok (.iconst 2, 1) := by decide +kernel
theorem dX4_breakByCough_104 : decode cX4_breakByCough 104 = .ok (.iload_n 3, 1) := by decide +kernel
theorem dX4_breakByCough_105 : decode cX4_breakByCough 105 = .ok (.iconst 0, 1) := by decide +kernel
theorem dX4_breakByCough_106 : decode cX4_breakByCough 106 = .ok (.iload_n 1, 1) := by decide +kernel
theorem dX4_breakByCough_107 : decode cX4_breakByCough 107 = .ok (.invokevirtual 101, 3) := by decide +kernel
theorem dX4_breakByCough_110 : decode cX4_breakByCough 110 = .ok (.iload 4, 2) := by decide +kernel
theorem dX4_breakByCough_112 : decode cX4_breakByCough 112 = .ok (.ireturn, 1) := by decide +kernel
theorem dX4_letPass_0 : decode cX4_letPass 0 = .ok (.iload_n 1, 1) := by decide +kernel
theorem dX4_letPass_1 : decode cX4_letPass 1 = .ok (.iconst 1, 1) := by decide +kernel
theorem dX4_letPass_2 : decode cX4_letPass 2 = .ok (.if_icmp .lt 9, 3) := by decide +kernel
theorem dX4_letPass_5 : decode cX4_letPass 5 = .ok (.iload_n 1, 1) := by decide +kernel
theorem dX4_letPass_6 : decode cX4_letPass 6 = .ok (.bipush 99, 2) := by decide +kernel
theorem dX4_letPass_8 : decode cX4_letPass 8 = .ok (.if_icmp .le 6, 3) := by decide +kernel
theorem dX4_letPass_11 : decode cX4_letPass 11 = .ok (.bipush (-2), 2) := by decide +kernel
theorem dX4_letPass_13 : decode cX4_letPass 13 = .ok (.ireturn, 1) := by decide +kernel
theorem dX4_letPass_14 : decode cX4_letPass 14 = .ok (.aload_n 0, 1) := by decide +kernel
theorem dX4_letPass_15 : decode cX4_letPass 15 = .ok (.getfield 9, 3) := by decide +kernel
theorem dX4_letPass_18 : decode cX4_letPass 18 = .ok (.iload_n 1, 1) := by decide +kernel
theorem dX4_letPass_19 : decode cX4_letPass 19 = .ok (.iadd, 1) := by decide +kernel
theorem dX4_letPass_20 : decode cX4_letPass 20 = .ok (.sipush 9999, 3) := by decide +kernel
theorem dX4_letPass_23 : decode cX4_letPass 23 = .ok (.if_icmp .le 6, 3) := by decide +kernel
theorem dX4_letPass_26 : decode cX4_letPass 26 = .ok (.bipush (-5), 2) := by decide +kernel
theorem dX4_letPass_28 : decode cX4_letPass 28 = .ok (.ireturn, 1) := by decide +kernel
theorem dX4_letPass_29 : decode cX4_letPass 29 = .ok (.aload_n 0, 1) := by decide +kernel
theorem dX4_letPass_30 : decode cX4_letPass 30 = .ok (.dup, 1) := by decide +kernel
theorem dX4_letPass_31 : decode cX4_letPass 31 = .ok (.getfield 9, 3) := by decide +kernel
theorem dX4_letPass_34 : decode cX4_letPass 34 = .ok (.iload_n 1, 1) := by decide +kernel
theorem dX4_letPass_35 : decode cX4_letPass 35 = .ok (.iadd, 1) := by decide +kernel
theorem dX4_letPass_36 : decode cX4_letPass 36 = .ok (.putfield 9, 3) := by decide +kernel
theorem dX4_letPass_39 : decode cX4_letPass 39 = .ok (.iconst 0, 1) := by decide +kernel
theorem dX4_letPass_40 : decode cX4_letPass 40 = .ok (.istore_n 2, 1) := by decide +kernel
theorem dX4_letPass_41 : decode cX4_letPass 41 = .ok (.iconst 0, 1) := by decide +kernel
theorem dX4_letPass_42 : decode cX4_letPass 42 = .ok (.istore_n 3, 1) := by decide +kernel
theorem dX4_letPass_43 : decode cX4_letPass 43 = .ok (.iload_n 3, 1) := by decide +kernel
theorem dX4_letPass_44 : decode cX4_letPass 44 = .ok (.iconst 3, 1) := by decide +kernel
theorem dX4_letPass_45 : decode cX4_letPass 45 = .ok (.if_icmp .ge 48, 3) := by decide +kernel
theorem dX4_letPass_48 : decode cX4_letPass 48 = .ok (.aload_n 0, 1) := by decide +kernel
theorem dX4_letPass_49 : decode cX4_letPass 49 = .ok (.getfield 41, 3) := by decide +kernel
theorem dX4_letPass_52 : decode cX4_letPass 52 = .ok (.iload_n 3, 1) := by decide +kernel
theorem dX4_letPass_53 : decode cX4_letPass 53 = .ok (.iaload, 1) := by decide +kernel
theorem dX4_letPass_54 : decode cX4_letPass 54 = .ok (.bipush (-6), 2) := by decide +kernel
theorem dX4_letPass_56 : decode cX4_letPass 56 = .ok (.if_icmp .eq 31, 3) := by decide +kernel
theorem dX4_letPass_59 : decode cX4_letPass 59 = .ok (.aload_n 0, 1) := by decide +kernel
theorem dX4_letPass_60 : decode cX4_letPass 60 = .ok (.getfield 41, 3) := by decide +kernel
theorem dX4_letPass_63 : decode cX4_letPass 63 = .ok (.iload_n 3, 1) := by decide +kernel
theorem dX4_letPass_64 : decode cX4_letPass 64 = .ok (.dup2, 1) := by decide +kernel
theorem dX4_letPass_65 : decode cX4_letPass 65 = .ok (.iaload, 1) := by decide +kernel
theorem dX4_letPass_66 : decode cX4_letPass 66 = .ok (.iload_n 1, 1) := by decide +kernel
theorem dX4_letPass_67 : decode cX4_letPass 67 = .ok (.iadd, 1) := by decide +kernel
theorem dX4_letPass_68 : decode cX4_letPass 68 = .ok (.iastore, 1) := by decide +kernel
theorem dX4_letPass_69 : decode cX4_letPass 69 = .ok (.iload_n 2, 1) := by decide +kernel
theorem dX4_letPass_70 : decode cX4_letPass 70 = .ok (.aload_n 0, 1) := by decide +kernel
theorem dX4_letPass_71 : decode cX4_letPass 71 = .ok (.iload_n 3, 1) := by decide +kernel
theorem dX4_letPass_72 : decode cX4_letPass 72 = .ok (.bipush (-6), 2) := by decide +kernel
theorem dX4_letPass_74 : decode cX4_letPass 74 = .ok (.invokevirtual 94, 3) := by decide +kernel
theorem dX4_letPass_77 : decode cX4_letPass 77 = .ok (.ifCond .ne 7, 3) := by decide +kernel
theorem dX4_letPass_80 : decode cX4_letPass 80 = .ok (.iconst 0, 1) := by decide +kernel
theorem dX4_letPass_81 : decode cX4_letPass 81 = .ok (.goto 4, 3) := by decide +kernel
theorem dX4_letPass_84 : decode cX4_letPass 84 = .ok (.iconst 1, 1) := by decide +kernel
theorem dX4_letPass_85 : decode cX4_letPass 85 = .ok (.iadd, 1) := by decide +kernel
theorem dX4_letPass_86 : decode cX4_letPass 86 = .ok (.istore_n 2, 1) := by decide +kernel
theorem dX4_letPass_87 : decode cX4_letPass 87 = .ok (.iinc 3 1, 3) := by decide +kernel
theorem dX4_letPass_90 : decode cX4_letPass 90 = .ok (.goto (-47), 3) := by decide +kernel
theorem dX4_letPass_93 : decode cX4_letPass 93 = .ok (.iload_n 2, 1) := by decide +kernel
theorem dX4_letPass_94 : decode cX4_letPass 94 = .ok (.ireturn, 1) := by decide +kernel
theorem dX4_errorOfBreak_0 : decode cX4_errorOfBreak 0 = .ok (.aload_n 0, 1) := by decide +kernel
theorem dX4_errorOfBreak_1 : decode cX4_errorOfBreak 1 = .ok (.getfield 30, 3) := by decide +kernel
theorem dX4_errorOfBreak_4 : decode cX4_errorOfBreak 4 = .ok (.iload_n 1, 1) := by decide +kernel
theorem dX4_errorOfBreak_5 : decode cX4_errorOfBreak 5 = .ok (.invokevirtual 71, 3) := by decide +kernel
theorem dX4_errorOfBreak_8 : decode cX4_errorOfBreak 8 = .ok (.ifCond .ne 5, 3) := by decide +kernel
theorem dX4_errorOfBreak_11 : decode cX4_errorOfBreak 11 = .ok (.iconst (-1), 1) := by decide +kernel
theorem dX4_errorOfBreak_12 : decode cX4_errorOfBreak 12 = .ok (.ireturn, 1) := by decide +kernel
theorem dX4_errorOfBreak_13 : decode cX4_errorOfBreak 13 = .ok (.aload_n 0, 1) := by decide +kernel
theorem dX4_errorOfBreak_14 : decode cX4_errorOfBreak 14 = .ok (.getfield 30, 3) := by decide +kernel
theorem dX4_errorOfBreak_17 : decode cX4_errorOfBreak 17 = .ok (.getfield 74, 3) := by decide +kernel
theorem dX4_errorOfBreak_20 : decode cX4_errorOfBreak 20 = .ok (.iload_n 1, 1) := by decide +kernel
theorem dX4_errorOfBreak_21 : decode cX4_errorOfBreak 21 = .ok (.iaload, 1) := by decide +kernel
theorem dX4_errorOfBreak_22 : decode cX4_errorOfBreak 22 = .ok (.istore_n 2, 1) := by decide +kernel
theorem dX4_errorOfBreak_23 : decode cX4_errorOfBreak 23 = .ok (.iload_n 2, 1) := by decide +kernel
theorem dX4_errorOfBreak_24 : decode cX4_errorOfBreak 24 = .ok (.invokestatic 63, 3) := by decide +kernel
theorem dX4_errorOfBreak_27 : decode cX4_errorOfBreak 27 = .ok (.ifCond .eq 18, 3) := by decide +kernel
theorem dX4_errorOfBreak_30 : decode cX4_errorOfBreak 30 = .ok (.aload_n 0, 1) := by decide +kernel
theorem dX4_errorOfBreak_31 : decode cX4_errorOfBreak 31 = .ok (.getfield 41, 3) := by decide +kernel
theorem dX4_errorOfBreak_34 : decode cX4_errorOfBreak 34 = .ok (.iload_n 2, 1) := by decide +kernel
theorem dX4_errorOfBreak_35 : decode cX4_errorOfBreak 35 = .ok (.iaload, 1) := by decide +kernel
theorem dX4_errorOfBreak_36 : decode cX4_errorOfBreak 36 = .ok (.bipush (-6), 2) := by decide +kernel
theorem dX4_errorOfBreak_38 : decode cX4_errorOfBreak 38 = .ok (.if_icmp .eq 7, 3) := by decide +kernel
theorem dX4_errorOfBreak_41 : decode cX4_errorOfBreak 41 = .ok (.iconst 0, 1) := by decide +kernel
theorem dX4_errorOfBreak_42 : decode cX4_errorOfBreak 42 = .ok (.goto 5, 3) := by decide +kernel
theorem dX4_errorOfBreak_45 : decode cX4_errorOfBreak 45 = .ok (.bipush (-5), 2) := by decide +kernel
theorem dX4_errorOfBreak_47 : decode cX4_errorOfBreak 47 = .ok (.ireturn, 1) := by decide +kernel
theorem dX4_dropPauseOfNobody_0 : decode cX4_dropPauseOfNobody 0 = .ok (.aload_n 0, 1) := by decide +kernel
theorem dX4_dropPauseOfNobody_1 : decode cX4_dropPauseOfNobody 1 = .ok (.getfield 30, 3) := by decide +kernel
theorem dX4_dropPauseOfNobody_4 : decode cX4_dropPauseOfNobody 4 = .ok (.iload_n 1, 1) := by decide +kernel
theorem dX4_dropPauseOfNobody_5 : decode cX4_dropPauseOfNobody 5 = .ok (.invokevirtual 81, 3) := by decide +kernel
theorem dX4_dropPauseOfNobody_8 : decode cX4_dropPauseOfNobody 8 = .ok (.ifCond .ne 11, 3) := by decide +kernel
theorem dX4_dropPauseOfNobody_11 : decode cX4_dropPauseOfNobody 11 = .ok (.aload_n 0, 1) := by decide +kernel
theorem dX4_dropPauseOfNobody_12 : decode cX4_dropPauseOfNobody 12 = .ok (.getfield 41, 3) := by decide +kernel
theorem dX4_dropPauseOfNobody_15 : decode cX4_dropPauseOfNobody 15 = .ok (.iload_n 1, 1) := by decide +kernel
theorem dX4_dropPauseOfNobody_16 : decode cX4_dropPauseOfNobody 16 = .ok (.bipush (-6), 2) := by decide +kernel
theorem dX4_dropPauseOfNobody_18 : decode cX4_dropPauseOfNobody 18 = .ok (.iastore, 1) := by decide +kernel
theorem dX4_dropPauseOfNobody_19 : decode cX4_dropPauseOfNobody 19 = .ok (.return_, 1) := by decide +kernel
theorem dX4_endPause_0 : decode cX4_endPause 0 = .ok (.aload_n 0, 1) := by decide +kernel
theorem dX4_endPause_1 : decode cX4_endPause 1 = .ok (.getfield 37, 3) := by decide +kernel
theorem dX4_endPause_4 : decode cX4_endPause 4 = .ok (.iload_n 1, 1) := by decide +kernel
theorem dX4_endPause_5 : decode cX4_endPause 5 = .ok (.iload_n 2, 1) := by decide +kernel
theorem dX4_endPause_6 : decode cX4_endPause 6 = .ok (.aload_n 0, 1) := by decide +kernel
theorem dX4_endPause_7 : decode cX4_endPause 7 = .ok (.getfield 41, 3) := by decide +kernel
theorem dX4_endPause_10 : decode cX4_endPause 10 = .ok (.iload_n 2, 1) := by decide +kernel
theorem dX4_endPause_11 : decode cX4_endPause 11 = .ok (.iaload, 1) := by decide +kernel
theorem dX4_endPause_12 : decode cX4_endPause 12 = .ok (.iload_n 3, 1) := by decide +kernel
theorem dX4_endPause_13 : decode cX4_endPause 13 = .ok (.iload 4, 2) := by decide +kernel
theorem dX4_endPause_15 : decode cX4_endPause 15 = .ok (.invokevirtual 126, 3) := by decide +kernel
theorem dX4_endPause_18 : decode cX4_endPause 18 = .ok (.aload_n 0, 1) := by decide +kernel
theorem dX4_endPause_19 : decode cX4_endPause 19 = .ok (.getfield 44, 3) := by decide +kernel
theorem dX4_endPause_22 : decode cX4_endPause 22 = .ok (.iload_n 2, 1) := by decide +kernel
theorem dX4_endPause_23 : decode cX4_endPause 23 = .ok (.dup2, 1) := by decide +kernel
theorem dX4_endPause_24 : decode cX4_endPause 24 = .ok (.iaload, 1) := by decide +kernel
theorem dX4_endPause_25 : decode cX4_endPause 25 = .ok (.iconst 1, 1) := by decide +kernel
theorem dX4_endPause_26 : decode cX4_endPause 26 = .ok (.iadd, 1) := by decide +kernel
theorem dX4_endPause_27 : decode cX4_endPause 27 = .ok (.iastore, 1) := by decide +kernel
theorem dX4_endPause_28 : decode cX4_endPause 28 = .ok (.aload_n 0, 1) := by decide +kernel
theorem dX4_endPause_29 : decode cX4_endPause 29 = .ok (.getfield 41, 3) := by decide +kernel
theorem dX4_endPause_32 : decode cX4_endPause 32 = .ok (.iload_n 2, 1) := by decide +kernel
theorem dX4_endPause_33 : decode cX4_endPause 33 = .ok (.bipush (-6), 2) := by decide +kernel
theorem dX4_endPause_35 : decode cX4_endPause 35 = .ok (.iastore, 1) := by decide +kernel
theorem dX4_endPause_36 : decode cX4_endPause 36 = .ok (.return_, 1) := by decide +kernel
theorem dX4_pausesThatGoOn_0 : decode cX4_pausesThatGoOn 0 = .ok (.iconst 0, 1) := by decide +kernel
theorem dX4_pausesThatGoOn_1 : decode cX4_pausesThatGoOn 1 = .ok (.istore_n 1, 1) := by decide +kernel
theorem dX4_pausesThatGoOn_2 : decode cX4_pausesThatGoOn 2 = .ok (.iconst 0, 1) := by decide +kernel
theorem dX4_pausesThatGoOn_3 : decode cX4_pausesThatGoOn 3 = .ok (.istore_n 2, 1) := by decide +kernel
theorem dX4_pausesThatGoOn_4 : decode cX4_pausesThatGoOn 4 = .ok (.iload_n 2, 1) := by decide +kernel
theorem dX4_pausesThatGoOn_5 : decode cX4_pausesThatGoOn 5 = .ok (.iconst 3, 1) := by decide +kernel
theorem dX4_pausesThatGoOn_6 : decode cX4_pausesThatGoOn 6 = .ok (.if_icmp .ge 28, 3) := by decide +kernel
theorem dX4_pausesThatGoOn_9 : decode cX4_pausesThatGoOn 9 = .ok (.iload_n 1, 1) := by decide +kernel
theorem dX4_pausesThatGoOn_10 : decode cX4_pausesThatGoOn 10 = .ok (.aload_n 0, 1) := by decide +kernel
theorem dX4_pausesThatGoOn_11 : decode cX4_pausesThatGoOn 11 = .ok (.getfield 41, 3) := by decide +kernel
theorem dX4_pausesThatGoOn_14 : decode cX4_pausesThatGoOn 14 = .ok (.iload_n 2, 1) := by decide +kernel
theorem dX4_pausesThatGoOn_15 : decode cX4_pausesThatGoOn 15 = .ok (.iaload, 1) := by decide +kernel
theorem dX4_pausesThatGoOn_16 : decode cX4_pausesThatGoOn 16 = .ok (.bipush (-6), 2) := by decide +kernel
theorem dX4_pausesThatGoOn_18 : decode cX4_pausesThatGoOn 18 = .ok (.if_icmp .ne 7, 3) := by decide +kernel
theorem dX4_pausesThatGoOn_21 : decode cX4_pausesThatGoOn 21 = .ok (.iconst 0, 1) := by decide +kernel
theorem dX4_pausesThatGoOn_22 : decode cX4_pausesThatGoOn 22 = .ok (.goto 4, 3) := by decide +kernel
theorem dX4_pausesThatGoOn_25 : decode cX4_pausesThatGoOn 25 = .ok (.iconst 1, 1) := by decide +kernel
theorem dX4_pausesThatGoOn_26 : decode cX4_pausesThatGoOn 26 = .ok (.iadd, 1) := by decide +kernel
theorem dX4_pausesThatGoOn_27 : decode cX4_pausesThatGoOn 27 = .ok (.istore_n 1, 1) := by decide +kernel
theorem dX4_pausesThatGoOn_28 : decode cX4_pausesThatGoOn 28 = .ok (.iinc 2 1, 3) := by decide +kernel
theorem dX4_pausesThatGoOn_31 : decode cX4_pausesThatGoOn 31 = .ok (.goto (-27), 3) := by decide +kernel
theorem dX4_pausesThatGoOn_34 : decode cX4_pausesThatGoOn 34 = .ok (.iload_n 1, 1) := by decide +kernel
theorem dX4_pausesThatGoOn_35 : decode cX4_pausesThatGoOn 35 = .ok (.ireturn, 1) := by decide +kernel
theorem dX4_meaningNow_0 : decode cX4_meaningNow 0 = .ok (.aload_n 0, 1) := by decide +kernel
theorem dX4_meaningNow_1 : decode cX4_meaningNow 1 = .ok (.aload_n 0, 1) := by decide +kernel
theorem dX4_meaningNow_2 : decode cX4_meaningNow 2 = .ok (.getfield 30, 3) := by decide +kernel
theorem dX4_meaningNow_5 : decode cX4_meaningNow 5 = .ok (.iload_n 1, 1) := by decide +kernel
theorem dX4_meaningNow_6 : decode cX4_meaningNow 6 = .ok (.iload_n 2, 1) := by decide +kernel
theorem dX4_meaningNow_7 : decode cX4_meaningNow 7 = .ok (.invokevirtual 90, 3) := by decide +kernel
theorem dX4_meaningNow_10 : decode cX4_meaningNow 10 = .ok (.aload_n 0, 1) := by decide +kernel
theorem dX4_meaningNow_11 : decode cX4_meaningNow 11 = .ok (.getfield 41, 3) := by decide +kernel
theorem dX4_meaningNow_14 : decode cX4_meaningNow 14 = .ok (.iload_n 1, 1) := by decide +kernel
theorem dX4_meaningNow_15 : decode cX4_meaningNow 15 = .ok (.iaload, 1) := by decide +kernel
theorem dX4_meaningNow_16 : decode cX4_meaningNow 16 = .ok (.invokevirtual 130, 3) := by decide +kernel
theorem dX4_meaningNow_19 : decode cX4_meaningNow 19 = .ok (.ireturn, 1) := by decide +kernel
theorem dX4_meaningFor_0 : decode cX4_meaningFor 0 = .ok (.iload_n 2, 1) := by decide +kernel
theorem dX4_meaningFor_1 : decode cX4_meaningFor 1 = .ok (.aload_n 0, 1) := by decide +kernel
theorem dX4_meaningFor_2 : decode cX4_meaningFor 2 = .ok (.getfield 24, 3) := by decide +kernel
theorem dX4_meaningFor_5 : decode cX4_meaningFor 5 = .ok (.iconst 0, 1) := by decide +kernel
theorem dX4_meaningFor_6 : decode cX4_meaningFor 6 = .ok (.iaload, 1) := by decide +kernel
theorem dX4_meaningFor_7 : decode cX4_meaningFor 7 = .ok (.if_icmp .ge 5, 3) := by decide +kernel
theorem dX4_meaningFor_10 : decode cX4_meaningFor 10 = .ok (.iconst 0, 1) := by decide +kernel
theorem dX4_meaningFor_11 : decode cX4_meaningFor 11 = .ok (.ireturn, 1) := by decide +kernel
theorem dX4_meaningFor_12 : decode cX4_meaningFor 12 = .ok (.iconst 0, 1) := by decide +kernel
theorem dX4_meaningFor_13 : decode cX4_meaningFor 13 = .ok (.istore_n 3, 1) := by decide +kernel
theorem dX4_meaningFor_14 : decode cX4_meaningFor 14 = .ok (.iconst 1, 1) := by decide +kernel
theorem dX4_meaningFor_15 : decode cX4_meaningFor 15 = .ok (.istore 4, 2) := by decide +kernel
theorem dX4_meaningFor_17 : decode cX4_meaningFor 17 = .ok (.iload 4, 2) := by decide +kernel
theorem dX4_meaningFor_19 : decode cX4_meaningFor 19 = .ok (.iconst 4, 1) := by decide +kernel
theorem dX4_meaningFor_20 : decode cX4_meaningFor 20 = .ok (.if_icmp .ge 22, 3) := by decide +kernel
theorem dX4_meaningFor_23 : decode cX4_meaningFor 23 = .ok (.iload_n 2, 1) := by decide +kernel
theorem dX4_meaningFor_24 : decode cX4_meaningFor 24 = .ok (.aload_n 0, 1) := by decide +kernel
theorem dX4_meaningFor_25 : decode cX4_meaningFor 25 = .ok (.iload 4, 2) := by decide +kernel
theorem dX4_meaningFor_27 : decode cX4_meaningFor 27 = .ok (.invokevirtual 133, 3) := by decide +kernel
theorem dX4_meaningFor_30 : decode cX4_meaningFor 30 = .ok (.if_icmp .lt 6, 3) := by decide +kernel
theorem dX4_meaningFor_33 : decode cX4_meaningFor 33 = .ok (.iload 4, 2) := by decide +kernel
theorem dX4_meaningFor_35 : decode cX4_meaningFor 35 = .ok (.istore_n 3, 1) := by decide +kernel
theorem dX4_meaningFor_36 : decode cX4_meaningFor 36 = .ok (.iinc 4 1, 3) := by decide +kernel
theorem dX4_meaningFor_39 : decode cX4_meaningFor 39 = .ok (.goto (-22), 3) := by decide +kernel
theorem dX4_meaningFor_42 : decode cX4_meaningFor 42 = .ok (.getstatic 136, 3) := by decide +kernel
theorem dX4_meaningFor_45 : decode cX4_meaningFor 45 = .ok (.iload_n 1, 1) := by decide +kernel
theorem dX4_meaningFor_46 : decode cX4_meaningFor 46 = .ok (.iconst 4, 1) := by decide +kernel
theorem dX4_meaningFor_47 : decode cX4_meaningFor 47 = .ok (.imul, 1) := by decide +kernel
theorem dX4_meaningFor_48 : decode cX4_meaningFor 48 = .ok (.iload_n 3, 1) := by decide +kernel
theorem dX4_meaningFor_49 : decode cX4_meaningFor 49 = .ok (.iadd, 1) := by decide +kernel
theorem dX4_meaningFor_50 : decode cX4_meaningFor 50 = .ok (.iaload, 1) := by decide +kernel
theorem dX4_meaningFor_51 : decode cX4_meaningFor 51 = .ok (.ireturn, 1) := by decide +kernel
theorem dX4_secondsToTurn_0 : decode cX4_secondsToTurn 0 = .ok (.aload_n 0, 1) := by decide +kernel
theorem dX4_secondsToTurn_1 : decode cX4_secondsToTurn 1 = .ok (.getfield 30, 3) := by decide +kernel
theorem dX4_secondsToTurn_4 : decode cX4_secondsToTurn 4 = .ok (.iload_n 1, 1) := by decide +kernel
theorem dX4_secondsToTurn_5 : decode cX4_secondsToTurn 5 = .ok (.bipush (-6), 2) := by decide +kernel
theorem dX4_secondsToTurn_7 : decode cX4_secondsToTurn 7 = .ok (.invokevirtual 90, 3) := by decide +kernel
theorem dX4_secondsToTurn_10 : decode cX4_secondsToTurn 10 = .ok (.istore_n 2, 1) := by decide +kernel
theorem dX4_secondsToTurn_11 : decode cX4_secondsToTurn 11 = .ok (.aload_n 0, 1) := by decide +kernel
theorem dX4_secondsToTurn_12 : decode cX4_secondsToTurn 12 = .ok (.getfield 41, 3) := by decide +kernel
theorem dX4_secondsToTurn_15 : decode cX4_secondsToTurn 15 = .ok (.iload_n 1, 1) := by decide +kernel
theorem dX4_secondsToTurn_16 : decode cX4_secondsToTurn 16 = .ok (.iaload, 1) := by decide +kernel
theorem dX4_secondsToTurn_17 : decode cX4_secondsToTurn 17 = .ok (.istore_n 3, 1) := by decide +kernel
theorem dX4_secondsToTurn_18 : decode cX4_secondsToTurn 18 = .ok (.aload_n 0, 1) := by decide +kernel
theorem dX4_secondsToTurn_19 : decode cX4_secondsToTurn 19 = .ok (.iload_n 2, 1) := by decide +kernel
theorem dX4_secondsToTurn_20 : decode cX4_secondsToTurn 20 = .ok (.iload_n 3, 1) := by decide +kernel
theorem dX4_secondsToTurn_21 : decode cX4_secondsToTurn 21 = .ok (.invokevirtual 130, 3) := by decide +kernel
theorem dX4_secondsToTurn_24 : decode cX4_secondsToTurn 24 = .ok (.istore 4, 2) := by decide +kernel
theorem dX4_secondsToTurn_26 : decode cX4_secondsToTurn 26 = .ok (.iconst 0, 1) := by decide +kernel
theorem dX4_secondsToTurn_27 : decode cX4_secondsToTurn 27 = .ok (.istore 5, 2) := by decide +kernel
theorem dX4_secondsToTurn_29 : decode cX4_secondsToTurn 29 = .ok (.iload 5, 2) := by decide +kernel
theorem dX4_secondsToTurn_31 : decode cX4_secondsToTurn 31 = .ok (.iconst 4, 1) := by decide +kernel
theorem dX4_secondsToTurn_32 : decode cX4_secondsToTurn 32 = .ok (.if_icmp .ge 40, 3) := by decide +kernel
theorem dX4_secondsToTurn_35 : decode cX4_secondsToTurn 35 = .ok (.aload_n 0, 1) := by decide +kernel
theorem dX4_secondsToTurn_36 : decode cX4_secondsToTurn 36 = .ok (.iload 5, 2) := by decide +kernel
theorem dX4_secondsToTurn_38 : decode cX4_secondsToTurn 38 = .ok (.invokevirtual 133, 3) := by decide +kernel
theorem dX4_secondsToTurn_41 : decode cX4_secondsToTurn 41 = .ok (.istore 6, 2) := by decide +kernel
theorem dX4_secondsToTurn_43 : decode cX4_secondsToTurn 43 = .ok (.iload 6, 2) := by decide +kernel
theorem dX4_secondsToTurn_45 : decode cX4_secondsToTurn 45 = .ok (.iload_n 3, 1) := by decide +kernel
theorem dX4_secondsToTurn_46 : decode cX4_secondsToTurn 46 = .ok (.if_icmp .le 20, 3) := by decide +kernel
theorem dX4_secondsToTurn_49 : decode cX4_secondsToTurn 49 = .ok (.aload_n 0, 1) := by decide +kernel
theorem dX4_secondsToTurn_50 : decode cX4_secondsToTurn 50 = .ok (.iload_n 2, 1) := by decide +kernel
theorem dX4_secondsToTurn_51 : decode cX4_secondsToTurn 51 = .ok (.iload 6, 2) := by decide +kernel
theorem dX4_secondsToTurn_53 : decode cX4_secondsToTurn 53 = .ok (.invokevirtual 130, 3) := by decide +kernel
theorem dX4_secondsToTurn_56 : decode cX4_secondsToTurn 56 = .ok (.iload 4, 2) := by decide +kernel
theorem dX4_secondsToTurn_58 : decode cX4_secondsToTurn 58 = .ok (.if_icmp .eq 8, 3) := by decide +kernel
theorem dX4_secondsToTurn_61 : decode cX4_secondsToTurn 61 = .ok (.iload 6, 2) := by decide +kernel
theorem dX4_secondsToTurn_63 : decode cX4_secondsToTurn 63 = .ok (.iload_n 3, 1) := by decide +kernel
theorem dX4_secondsToTurn_64 : decode cX4_secondsToTurn 64 = .ok (.isub, 1) := by decide +kernel
theorem dX4_secondsToTurn_65 : decode cX4_secondsToTurn 65 = .ok (.ireturn, 1) := by decide +kernel
theorem dX4_secondsToTurn_66 : decode cX4_secondsToTurn 66 = .ok (.iinc 5 1, 3) := by decide +kernel
theorem dX4_secondsToTurn_69 : decode cX4_secondsToTurn 69 = .ok (.goto (-40), 3) := by decide +kernel
theorem dX4_secondsToTurn_72 : decode cX4_secondsToTurn 72 = .ok (.bipush (-6), 2) := by decide +kernel
theorem dX4_secondsToTurn_74 : decode cX4_secondsToTurn 74 = .ok (.ireturn, 1) := by decide +kernel
theorem dX4_beginOfShade_0 : decode cX4_beginOfShade 0 = .ok (.aload_n 0, 1) := by decide +kernel
theorem dX4_beginOfShade_1 : decode cX4_beginOfShade 1 = .ok (.getfield 24, 3) := by decide +kernel
theorem dX4_beginOfShade_4 : decode cX4_beginOfShade 4 = .ok (.iconst 0, 1) := by decide +kernel
theorem dX4_beginOfShade_5 : decode cX4_beginOfShade 5 = .ok (.iaload, 1) := by decide +kernel
theorem dX4_beginOfShade_6 : decode cX4_beginOfShade 6 = .ok (.iload_n 1, 1) := by decide +kernel
theorem dX4_beginOfShade_7 : decode cX4_beginOfShade 7 = .ok (.aload_n 0, 1) := by decide +kernel
theorem dX4_beginOfShade_8 : decode cX4_beginOfShade 8 = .ok (.getfield 24, 3) := by decide +kernel
theorem dX4_beginOfShade_11 : decode cX4_beginOfShade 11 = .ok (.iconst 1, 1) := by decide +kernel
theorem dX4_beginOfShade_12 : decode cX4_beginOfShade 12 = .ok (.iaload, 1) := by decide +kernel
theorem dX4_beginOfShade_13 : decode cX4_beginOfShade 13 = .ok (.imul, 1) := by decide +kernel
theorem dX4_beginOfShade_14 : decode cX4_beginOfShade 14 = .ok (.iadd, 1) := by decide +kernel
theorem dX4_beginOfShade_15 : decode cX4_beginOfShade 15 = .ok (.ireturn, 1) := by decide +kernel
