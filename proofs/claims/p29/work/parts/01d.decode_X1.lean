theorem dX1_init_0 : decode cX1_init 0 = .ok (.aload_n 0, 1) := by decide +kernel
theorem dX1_init_1 : decode cX1_init 1 = .ok (.invokespecial 3, 3) := by decide +kernel
theorem dX1_init_4 : decode cX1_init 4 = .ok (.aload_n 0, 1) := by decide +kernel
theorem dX1_init_5 : decode cX1_init 5 = .ok (.bipush 7, 2) := by decide +kernel
theorem dX1_init_7 : decode cX1_init 7 = .ok (.anewarray 9, 3) := by decide +kernel
theorem dX1_init_10 : decode cX1_init 10 = .ok (.putfield 11, 3) := by decide +kernel
theorem dX1_init_13 : decode cX1_init 13 = .ok (.aload_n 0, 1) := by decide +kernel
theorem dX1_init_14 : decode cX1_init 14 = .ok (.iconst 0, 1) := by decide +kernel
theorem dX1_init_15 : decode cX1_init 15 = .ok (.putfield 17, 3) := by decide +kernel
theorem dX1_init_18 : decode cX1_init 18 = .ok (.iconst 0, 1) := by decide +kernel
theorem dX1_init_19 : decode cX1_init 19 = .ok (.istore_n 1, 1) := by decide +kernel
theorem dX1_init_20 : decode cX1_init 20 = .ok (.iload_n 1, 1) := by decide +kernel
theorem dX1_init_21 : decode cX1_init 21 = .ok (.aload_n 0, 1) := by decide +kernel
theorem dX1_init_22 : decode cX1_init 22 = .ok (.getfield 11, 3) := by decide +kernel
theorem dX1_init_25 : decode cX1_init 25 = .ok (.arraylength, 1) := by decide +kernel
theorem dX1_init_26 : decode cX1_init 26 = .ok (.if_icmp .ge 22, 3) := by decide +kernel
theorem dX1_init_29 : decode cX1_init 29 = .ok (.aload_n 0, 1) := by decide +kernel
theorem dX1_init_30 : decode cX1_init 30 = .ok (.getfield 11, 3) := by decide +kernel
theorem dX1_init_33 : decode cX1_init 33 = .ok (.iload_n 1, 1) := by decide +kernel
theorem dX1_init_34 : decode cX1_init 34 = .ok (.new 9, 3) := by decide +kernel
theorem dX1_init_37 : decode cX1_init 37 = .ok (.dup, 1) := by decide +kernel
theorem dX1_init_38 : decode cX1_init 38 = .ok (.invokespecial 21, 3) := by decide +kernel
theorem dX1_init_41 : decode cX1_init 41 = .ok (.aastore, 1) := by decide +kernel
theorem dX1_init_42 : decode cX1_init 42 = .ok (.iinc 1 1, 3) := by decide +kernel
theorem dX1_init_45 : decode cX1_init 45 = .ok (.goto (-25), 3) := by decide +kernel
theorem dX1_init_48 : decode cX1_init 48 = .ok (.return_, 1) := by decide +kernel
theorem dX1_noteBefore_0 : decode cX1_noteBefore 0 = .ok (.aload_n 0, 1) := by decide +kernel
theorem dX1_noteBefore_1 : decode cX1_noteBefore 1 = .ok (.getfield 11, 3) := by decide +kernel
theorem dX1_noteBefore_4 : decode cX1_noteBefore 4 = .ok (.aload_n 0, 1) := by decide +kernel
theorem dX1_noteBefore_5 : decode cX1_noteBefore 5 = .ok (.getfield 17, 3) := by decide +kernel
theorem dX1_noteBefore_8 : decode cX1_noteBefore 8 = .ok (.aaload, 1) := by decide +kernel
theorem dX1_noteBefore_9 : decode cX1_noteBefore 9 = .ok (.aload_n 1, 1) := by decide +kernel
theorem dX1_noteBefore_10 : decode cX1_noteBefore 10 = .ok (.invokevirtual 22, 3) := by decide +kernel
theorem dX1_noteBefore_13 : decode cX1_noteBefore 13 = .ok (.return_, 1) := by decide +kernel
theorem dX1_keepNoted_0 : decode cX1_keepNoted 0 = .ok (.aload_n 0, 1) := by decide +kernel
theorem dX1_keepNoted_1 : decode cX1_keepNoted 1 = .ok (.getfield 17, 3) := by decide +kernel
theorem dX1_keepNoted_4 : decode cX1_keepNoted 4 = .ok (.bipush 6, 2) := by decide +kernel
theorem dX1_keepNoted_6 : decode cX1_keepNoted 6 = .ok (.if_icmp .ge 14, 3) := by decide +kernel
theorem dX1_keepNoted_9 : decode cX1_keepNoted 9 = .ok (.aload_n 0, 1) := by decide +kernel
theorem dX1_keepNoted_10 : decode cX1_keepNoted 10 = .ok (.dup, 1) := by decide +kernel
theorem dX1_keepNoted_11 : decode cX1_keepNoted 11 = .ok (.getfield 17, 3) := by decide +kernel
theorem dX1_keepNoted_14 : decode cX1_keepNoted 14 = .ok (.iconst 1, 1) := by decide +kernel
theorem dX1_keepNoted_15 : decode cX1_keepNoted 15 = .ok (.iadd, 1) := by decide +kernel
theorem dX1_keepNoted_16 : decode cX1_keepNoted 16 = .ok (.putfield 17, 3) := by decide +kernel
theorem dX1_keepNoted_19 : decode cX1_keepNoted 19 = .ok (.return_, 1) := by decide +kernel
theorem dX1_keepNoted_20 : decode cX1_keepNoted 20 = .ok (.aload_n 0, 1) := by decide +kernel
theorem dX1_keepNoted_21 : decode cX1_keepNoted 21 = .ok (.getfield 11, 3) := by decide +kernel
theorem dX1_keepNoted_24 : decode cX1_keepNoted 24 = .ok (.iconst 0, 1) := by decide +kernel
theorem dX1_keepNoted_25 : decode cX1_keepNoted 25 = .ok (.aaload, 1) := by decide +kernel
theorem dX1_keepNoted_26 : decode cX1_keepNoted 26 = .ok (.astore_n 1, 1) := by decide +kernel
theorem dX1_keepNoted_27 : decode cX1_keepNoted 27 = .ok (.iconst 0, 1) := by decide +kernel
theorem dX1_keepNoted_28 : decode cX1_keepNoted 28 = .ok (.istore_n 2, 1) := by decide +kernel
theorem dX1_keepNoted_29 : decode cX1_keepNoted 29 = .ok (.iload_n 2, 1) := by decide +kernel
theorem dX1_keepNoted_30 : decode cX1_keepNoted 30 = .ok (.bipush 6, 2) := by decide +kernel
theorem dX1_keepNoted_32 : decode cX1_keepNoted 32 = .ok (.if_icmp .ge 23, 3) := by decide +kernel
theorem dX1_keepNoted_35 : decode cX1_keepNoted 35 = .ok (.aload_n 0, 1) := by decide +kernel
theorem dX1_keepNoted_36 : decode cX1_keepNoted 36 = .ok (.getfield 11, 3) := by decide +kernel
theorem dX1_keepNoted_39 : decode cX1_keepNoted 39 = .ok (.iload_n 2, 1) := by decide +kernel
theorem dX1_keepNoted_40 : decode cX1_keepNoted 40 = .ok (.aload_n 0, 1) := by decide +kernel
theorem dX1_keepNoted_41 : decode cX1_keepNoted 41 = .ok (.getfield 11, 3) := by decide +kernel
theorem dX1_keepNoted_44 : decode cX1_keepNoted 44 = .ok (.iload_n 2, 1) := by decide +kernel
theorem dX1_keepNoted_45 : decode cX1_keepNoted 45 = .ok (.iconst 1, 1) := by decide +kernel
theorem dX1_keepNoted_46 : decode cX1_keepNoted 46 = .ok (.iadd, 1) := by decide +kernel
theorem dX1_keepNoted_47 : decode cX1_keepNoted 47 = .ok (.aaload, 1) := by decide +kernel
theorem dX1_keepNoted_48 : decode cX1_keepNoted 48 = .ok (.aastore, 1) := by decide +kernel
theorem dX1_keepNoted_49 : decode cX1_keepNoted 49 = .ok (.iinc 2 1, 3) := by decide +kernel
theorem dX1_keepNoted_52 : decode cX1_keepNoted 52 = .ok (.goto (-23), 3) := by decide +kernel
theorem dX1_keepNoted_55 : decode cX1_keepNoted 55 = .ok (.aload_n 0, 1) := by decide +kernel
theorem dX1_keepNoted_56 : decode cX1_keepNoted 56 = .ok (.getfield 11, 3) := by decide +kernel
theorem dX1_keepNoted_59 : decode cX1_keepNoted 59 = .ok (.bipush 6, 2) := by decide +kernel
theorem dX1_keepNoted_61 : decode cX1_keepNoted 61 = .ok (.aload_n 1, 1) := by decide +kernel
theorem dX1_keepNoted_62 : decode cX1_keepNoted 62 = .ok (.aastore, 1) := by decide +kernel
theorem dX1_keepNoted_63 : decode cX1_keepNoted 63 = .ok (.return_, 1) := by decide +kernel
theorem dX1_takeBack_0 : decode cX1_takeBack 0 = .ok (.aload_n 0, 1) := by decide +kernel
theorem dX1_takeBack_1 : decode cX1_takeBack 1 = .ok (.getfield 17, 3) := by decide +kernel
theorem dX1_takeBack_4 : decode cX1_takeBack 4 = .ok (.ifCond .ne 6, 3) := by decide +kernel
theorem dX1_takeBack_7 : decode cX1_takeBack 7 = .ok (.bipush (-5), 2) := by decide +kernel
theorem dX1_takeBack_9 : decode cX1_takeBack 9 = .ok (.ireturn, 1) := by decide +kernel
theorem dX1_takeBack_10 : decode cX1_takeBack 10 = .ok (.aload_n 0, 1) := by decide +kernel
theorem dX1_takeBack_11 : decode cX1_takeBack 11 = .ok (.dup, 1) := by decide +kernel
theorem dX1_takeBack_12 : decode cX1_takeBack 12 = .ok (.getfield 17, 3) := by decide +kernel
theorem dX1_takeBack_15 : decode cX1_takeBack 15 = .ok (.iconst 1, 1) := by decide +kernel
theorem dX1_takeBack_16 : decode cX1_takeBack 16 = .ok (.isub, 1) := by decide +kernel
theorem dX1_takeBack_17 : decode cX1_takeBack 17 = .ok (.putfield 17, 3) := by decide +kernel
theorem dX1_takeBack_20 : decode cX1_takeBack 20 = .ok (.aload_n 1, 1) := by decide +kernel
theorem dX1_takeBack_21 : decode cX1_takeBack 21 = .ok (.aload_n 0, 1) := by decide +kernel
theorem dX1_takeBack_22 : decode cX1_takeBack 22 = .ok (.getfield 11, 3) := by decide +kernel
theorem dX1_takeBack_25 : decode cX1_takeBack 25 = .ok (.aload_n 0, 1) := by decide +kernel
theorem dX1_takeBack_26 : decode cX1_takeBack 26 = .ok (.getfield 17, 3) := by decide +kernel
theorem dX1_takeBack_29 : decode cX1_takeBack 29 = .ok (.aaload, 1) := by decide +kernel
theorem dX1_takeBack_30 : decode cX1_takeBack 30 = .ok (.invokevirtual 22, 3) := by decide +kernel
theorem dX1_takeBack_33 : decode cX1_takeBack 33 = .ok (.aload_n 0, 1) := by decide +kernel
theorem dX1_takeBack_34 : decode cX1_takeBack 34 = .ok (.getfield 17, 3) := by decide +kernel
theorem dX1_takeBack_37 : decode cX1_takeBack 37 = .ok (.ireturn, 1) := by decide +kernel
