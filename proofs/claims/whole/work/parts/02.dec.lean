theorem dX0_init_0 : decode cX0_init 0 = .ok (.aload_n 0, 1) := by decide +kernel
theorem dX0_init_1 : decode cX0_init 1 = .ok (.invokespecial 3, 3) := by decide +kernel
theorem dX0_init_4 : decode cX0_init 4 = .ok (.aload_n 0, 1) := by decide +kernel
theorem dX0_init_5 : decode cX0_init 5 = .ok (.sipush 180, 3) := by decide +kernel
theorem dX0_init_8 : decode cX0_init 8 = .ok (.newarray .int, 2) := by decide +kernel
theorem dX0_init_10 : decode cX0_init 10 = .ok (.putfield 9, 3) := by decide +kernel
theorem dX0_init_13 : decode cX0_init 13 = .ok (.aload_n 0, 1) := by decide +kernel
theorem dX0_init_14 : decode cX0_init 14 = .ok (.iconst 3, 1) := by decide +kernel
theorem dX0_init_15 : decode cX0_init 15 = .ok (.newarray .int, 2) := by decide +kernel
theorem dX0_init_17 : decode cX0_init 17 = .ok (.putfield 15, 3) := by decide +kernel
theorem dX0_init_20 : decode cX0_init 20 = .ok (.aload_n 0, 1) := by decide +kernel
theorem dX0_init_21 : decode cX0_init 21 = .ok (.iconst 3, 1) := by decide +kernel
theorem dX0_init_22 : decode cX0_init 22 = .ok (.newarray .int, 2) := by decide +kernel
theorem dX0_init_24 : decode cX0_init 24 = .ok (.putfield 18, 3) := by decide +kernel
theorem dX0_init_27 : decode cX0_init 27 = .ok (.aload_n 0, 1) := by decide +kernel
theorem dX0_init_28 : decode cX0_init 28 = .ok (.iconst 0, 1) := by decide +kernel
theorem dX0_init_29 : decode cX0_init 29 = .ok (.putfield 21, 3) := by decide +kernel
theorem dX0_init_32 : decode cX0_init 32 = .ok (.aload_n 0, 1) := by decide +kernel
theorem dX0_init_33 : decode cX0_init 33 = .ok (.iconst 0, 1) := by decide +kernel
theorem dX0_init_34 : decode cX0_init 34 = .ok (.putfield 25, 3) := by decide +kernel
theorem dX0_init_37 : decode cX0_init 37 = .ok (.aload_n 0, 1) := by decide +kernel
theorem dX0_init_38 : decode cX0_init 38 = .ok (.aload_n 1, 1) := by decide +kernel
theorem dX0_init_39 : decode cX0_init 39 = .ok (.putfield 28, 3) := by decide +kernel
theorem dX0_init_42 : decode cX0_init 42 = .ok (.aload_n 0, 1) := by decide +kernel
theorem dX0_init_43 : decode cX0_init 43 = .ok (.aload_n 2, 1) := by decide +kernel
theorem dX0_init_44 : decode cX0_init 44 = .ok (.putfield 32, 3) := by decide +kernel
theorem dX0_init_47 : decode cX0_init 47 = .ok (.return_, 1) := by decide +kernel
theorem dX0_take_0 : decode cX0_take 0 = .ok (.aload_n 0, 1) := by decide +kernel
theorem dX0_take_1 : decode cX0_take 1 = .ok (.getfield 9, 3) := by decide +kernel
theorem dX0_take_4 : decode cX0_take 4 = .ok (.ldc 36, 2) := by decide +kernel
theorem dX0_take_6 : decode cX0_take 6 = .ok (.invokestatic 37, 3) := by decide +kernel
theorem dX0_take_9 : decode cX0_take 9 = .ok (.aload_n 0, 1) := by decide +kernel
theorem dX0_take_10 : decode cX0_take 10 = .ok (.ldc 43, 2) := by decide +kernel
theorem dX0_take_12 : decode cX0_take 12 = .ok (.putfield 21, 3) := by decide +kernel
theorem dX0_take_15 : decode cX0_take 15 = .ok (.aload_n 0, 1) := by decide +kernel
theorem dX0_take_16 : decode cX0_take 16 = .ok (.iconst 0, 1) := by decide +kernel
theorem dX0_take_17 : decode cX0_take 17 = .ok (.putfield 25, 3) := by decide +kernel
theorem dX0_take_20 : decode cX0_take 20 = .ok (.iload_n 1, 1) := by decide +kernel
theorem dX0_take_21 : decode cX0_take 21 = .ok (.iconst 1, 1) := by decide +kernel
theorem dX0_take_22 : decode cX0_take 22 = .ok (.if_icmp .ne 12, 3) := by decide +kernel
theorem dX0_take_25 : decode cX0_take 25 = .ok (.aload_n 0, 1) := by decide +kernel
theorem dX0_take_26 : decode cX0_take 26 = .ok (.iconst 0, 1) := by decide +kernel
theorem dX0_take_27 : decode cX0_take 27 = .ok (.iconst 0, 1) := by decide +kernel
theorem dX0_take_28 : decode cX0_take 28 = .ok (.invokevirtual 44, 3) := by decide +kernel
theorem dX0_take_31 : decode cX0_take 31 = .ok (.goto 19, 3) := by decide +kernel
theorem dX0_take_34 : decode cX0_take 34 = .ok (.iload_n 1, 1) := by decide +kernel
theorem dX0_take_35 : decode cX0_take 35 = .ok (.iconst 2, 1) := by decide +kernel
theorem dX0_take_36 : decode cX0_take 36 = .ok (.if_icmp .ne 10, 3) := by decide +kernel
theorem dX0_take_39 : decode cX0_take 39 = .ok (.aload_n 0, 1) := by decide +kernel
theorem dX0_take_40 : decode cX0_take 40 = .ok (.invokevirtual 48, 3) := by decide +kernel
theorem dX0_take_43 : decode cX0_take 43 = .ok (.goto 7, 3) := by decide +kernel
theorem dX0_take_46 : decode cX0_take 46 = .ok (.aload_n 0, 1) := by decide +kernel
theorem dX0_take_47 : decode cX0_take 47 = .ok (.invokevirtual 51, 3) := by decide +kernel
theorem dX0_take_50 : decode cX0_take 50 = .ok (.aload_n 2, 1) := by decide +kernel
theorem dX0_take_51 : decode cX0_take 51 = .ok (.invokevirtual 54, 3) := by decide +kernel
theorem dX0_take_54 : decode cX0_take 54 = .ok (.iconst 0, 1) := by decide +kernel
theorem dX0_take_55 : decode cX0_take 55 = .ok (.istore_n 3, 1) := by decide +kernel
theorem dX0_take_56 : decode cX0_take 56 = .ok (.iload_n 3, 1) := by decide +kernel
theorem dX0_take_57 : decode cX0_take 57 = .ok (.iload_n 1, 1) := by decide +kernel
theorem dX0_take_58 : decode cX0_take 58 = .ok (.if_icmp .ge 20, 3) := by decide +kernel
theorem dX0_take_61 : decode cX0_take 61 = .ok (.aload_n 2, 1) := by decide +kernel
theorem dX0_take_62 : decode cX0_take 62 = .ok (.aload_n 0, 1) := by decide +kernel
theorem dX0_take_63 : decode cX0_take 63 = .ok (.getfield 18, 3) := by decide +kernel
theorem dX0_take_66 : decode cX0_take 66 = .ok (.iload_n 3, 1) := by decide +kernel
theorem dX0_take_67 : decode cX0_take 67 = .ok (.iaload, 1) := by decide +kernel
theorem dX0_take_68 : decode cX0_take 68 = .ok (.iconst 0, 1) := by decide +kernel
theorem dX0_take_69 : decode cX0_take 69 = .ok (.invokevirtual 59, 3) := by decide +kernel
theorem dX0_take_72 : decode cX0_take 72 = .ok (.iinc 3 1, 3) := by decide +kernel
theorem dX0_take_75 : decode cX0_take 75 = .ok (.goto (-19), 3) := by decide +kernel
theorem dX0_take_78 : decode cX0_take 78 = .ok (.aload_n 0, 1) := by decide +kernel
theorem dX0_take_79 : decode cX0_take 79 = .ok (.getfield 21, 3) := by decide +kernel
theorem dX0_take_82 : decode cX0_take 82 = .ok (.ireturn, 1) := by decide +kernel
theorem dX0_tryTwos_0 : decode cX0_tryTwos 0 = .ok (.iconst 0, 1) := by decide +kernel
theorem dX0_tryTwos_1 : decode cX0_tryTwos 1 = .ok (.istore_n 1, 1) := by decide +kernel
theorem dX0_tryTwos_2 : decode cX0_tryTwos 2 = .ok (.iload_n 1, 1) := by decide +kernel
theorem dX0_tryTwos_3 : decode cX0_tryTwos 3 = .ok (.aload_n 0, 1) := by decide +kernel
theorem dX0_tryTwos_4 : decode cX0_tryTwos 4 = .ok (.getfield 28, 3) := by decide +kernel
theorem dX0_tryTwos_7 : decode cX0_tryTwos 7 = .ok (.invokevirtual 62, 3) := by decide +kernel
theorem dX0_tryTwos_10 : decode cX0_tryTwos 10 = .ok (.if_icmp .ge 23, 3) := by decide +kernel
theorem dX0_tryTwos_13 : decode cX0_tryTwos 13 = .ok (.aload_n 0, 1) := by decide +kernel
theorem dX0_tryTwos_14 : decode cX0_tryTwos 14 = .ok (.iconst 0, 1) := by decide +kernel
theorem dX0_tryTwos_15 : decode cX0_tryTwos 15 = .ok (.iload_n 1, 1) := by decide +kernel
theorem dX0_tryTwos_16 : decode cX0_tryTwos 16 = .ok (.invokevirtual 68, 3) := by decide +kernel
theorem dX0_tryTwos_19 : decode cX0_tryTwos 19 = .ok (.aload_n 0, 1) := by decide +kernel
theorem dX0_tryTwos_20 : decode cX0_tryTwos 20 = .ok (.iconst 1, 1) := by decide +kernel
theorem dX0_tryTwos_21 : decode cX0_tryTwos 21 = .ok (.iload_n 1, 1) := by decide +kernel
theorem dX0_tryTwos_22 : decode cX0_tryTwos 22 = .ok (.iconst 1, 1) := by decide +kernel
theorem dX0_tryTwos_23 : decode cX0_tryTwos 23 = .ok (.iadd, 1) := by decide +kernel
theorem dX0_tryTwos_24 : decode cX0_tryTwos 24 = .ok (.invokevirtual 44, 3) := by decide +kernel
theorem dX0_tryTwos_27 : decode cX0_tryTwos 27 = .ok (.iinc 1 1, 3) := by decide +kernel
theorem dX0_tryTwos_30 : decode cX0_tryTwos 30 = .ok (.goto (-28), 3) := by decide +kernel
theorem dX0_tryTwos_33 : decode cX0_tryTwos 33 = .ok (.return_, 1) := by decide +kernel
theorem dX0_tryThrees_0 : decode cX0_tryThrees 0 = .ok (.iconst 0, 1) := by decide +kernel
theorem dX0_tryThrees_1 : decode cX0_tryThrees 1 = .ok (.istore_n 1, 1) := by decide +kernel
theorem dX0_tryThrees_2 : decode cX0_tryThrees 2 = .ok (.iload_n 1, 1) := by decide +kernel
theorem dX0_tryThrees_3 : decode cX0_tryThrees 3 = .ok (.aload_n 0, 1) := by decide +kernel
theorem dX0_tryThrees_4 : decode cX0_tryThrees 4 = .ok (.getfield 28, 3) := by decide +kernel
theorem dX0_tryThrees_7 : decode cX0_tryThrees 7 = .ok (.invokevirtual 62, 3) := by decide +kernel
theorem dX0_tryThrees_10 : decode cX0_tryThrees 10 = .ok (.if_icmp .ge 50, 3) := by decide +kernel
theorem dX0_tryThrees_13 : decode cX0_tryThrees 13 = .ok (.aload_n 0, 1) := by decide +kernel
theorem dX0_tryThrees_14 : decode cX0_tryThrees 14 = .ok (.iconst 0, 1) := by decide +kernel
theorem dX0_tryThrees_15 : decode cX0_tryThrees 15 = .ok (.iload_n 1, 1) := by decide +kernel
theorem dX0_tryThrees_16 : decode cX0_tryThrees 16 = .ok (.invokevirtual 68, 3) := by decide +kernel
theorem dX0_tryThrees_19 : decode cX0_tryThrees 19 = .ok (.iload_n 1, 1) := by decide +kernel
theorem dX0_tryThrees_20 : decode cX0_tryThrees 20 = .ok (.iconst 1, 1) := by decide +kernel
theorem dX0_tryThrees_21 : decode cX0_tryThrees 21 = .ok (.iadd, 1) := by decide +kernel
theorem dX0_tryThrees_22 : decode cX0_tryThrees 22 = .ok (.istore_n 2, 1) := by decide +kernel
theorem dX0_tryThrees_23 : decode cX0_tryThrees 23 = .ok (.iload_n 2, 1) := by decide +kernel
theorem dX0_tryThrees_24 : decode cX0_tryThrees 24 = .ok (.aload_n 0, 1) := by decide +kernel
theorem dX0_tryThrees_25 : decode cX0_tryThrees 25 = .ok (.getfield 28, 3) := by decide +kernel
theorem dX0_tryThrees_28 : decode cX0_tryThrees 28 = .ok (.invokevirtual 62, 3) := by decide +kernel
theorem dX0_tryThrees_31 : decode cX0_tryThrees 31 = .ok (.if_icmp .ge 23, 3) := by decide +kernel
theorem dX0_tryThrees_34 : decode cX0_tryThrees 34 = .ok (.aload_n 0, 1) := by decide +kernel
theorem dX0_tryThrees_35 : decode cX0_tryThrees 35 = .ok (.iconst 1, 1) := by decide +kernel
theorem dX0_tryThrees_36 : decode cX0_tryThrees 36 = .ok (.iload_n 2, 1) := by decide +kernel
theorem dX0_tryThrees_37 : decode cX0_tryThrees 37 = .ok (.invokevirtual 68, 3) := by decide +kernel
theorem dX0_tryThrees_40 : decode cX0_tryThrees 40 = .ok (.aload_n 0, 1) := by decide +kernel
theorem dX0_tryThrees_41 : decode cX0_tryThrees 41 = .ok (.iconst 2, 1) := by decide +kernel
theorem dX0_tryThrees_42 : decode cX0_tryThrees 42 = .ok (.iload_n 2, 1) := by decide +kernel
theorem dX0_tryThrees_43 : decode cX0_tryThrees 43 = .ok (.iconst 1, 1) := by decide +kernel
theorem dX0_tryThrees_44 : decode cX0_tryThrees 44 = .ok (.iadd, 1) := by decide +kernel
theorem dX0_tryThrees_45 : decode cX0_tryThrees 45 = .ok (.invokevirtual 44, 3) := by decide +kernel
theorem dX0_tryThrees_48 : decode cX0_tryThrees 48 = .ok (.iinc 2 1, 3) := by decide +kernel
theorem dX0_tryThrees_51 : decode cX0_tryThrees 51 = .ok (.goto (-28), 3) := by decide +kernel
theorem dX0_tryThrees_54 : decode cX0_tryThrees 54 = .ok (.iinc 1 1, 3) := by decide +kernel
theorem dX0_tryThrees_57 : decode cX0_tryThrees 57 = .ok (.goto (-55), 3) := by decide +kernel
theorem dX0_tryThrees_60 : decode cX0_tryThrees 60 = .ok (.return_, 1) := by decide +kernel
theorem dX0_tryLast_0 : decode cX0_tryLast 0 = .ok (.iload_n 2, 1) := by decide +kernel
theorem dX0_tryLast_1 : decode cX0_tryLast 1 = .ok (.istore_n 3, 1) := by decide +kernel
theorem dX0_tryLast_2 : decode cX0_tryLast 2 = .ok (.iload_n 3, 1) := by decide +kernel
theorem dX0_tryLast_3 : decode cX0_tryLast 3 = .ok (.aload_n 0, 1) := by decide +kernel
theorem dX0_tryLast_4 : decode cX0_tryLast 4 = .ok (.getfield 28, 3) := by decide +kernel
theorem dX0_tryLast_7 : decode cX0_tryLast 7 = .ok (.invokevirtual 62, 3) := by decide +kernel
theorem dX0_tryLast_10 : decode cX0_tryLast 10 = .ok (.if_icmp .ge 59, 3) := by decide +kernel
theorem dX0_tryLast_13 : decode cX0_tryLast 13 = .ok (.aload_n 0, 1) := by decide +kernel
theorem dX0_tryLast_14 : decode cX0_tryLast 14 = .ok (.getfield 15, 3) := by decide +kernel
theorem dX0_tryLast_17 : decode cX0_tryLast 17 = .ok (.iload_n 1, 1) := by decide +kernel
theorem dX0_tryLast_18 : decode cX0_tryLast 18 = .ok (.aload_n 0, 1) := by decide +kernel
theorem dX0_tryLast_19 : decode cX0_tryLast 19 = .ok (.getfield 28, 3) := by decide +kernel
theorem dX0_tryLast_22 : decode cX0_tryLast 22 = .ok (.iload_n 3, 1) := by decide +kernel
theorem dX0_tryLast_23 : decode cX0_tryLast 23 = .ok (.invokevirtual 71, 3) := by decide +kernel
theorem dX0_tryLast_26 : decode cX0_tryLast 26 = .ok (.iastore, 1) := by decide +kernel
theorem dX0_tryLast_27 : decode cX0_tryLast 27 = .ok (.aload_n 0, 1) := by decide +kernel
theorem dX0_tryLast_28 : decode cX0_tryLast 28 = .ok (.iload_n 1, 1) := by decide +kernel
theorem dX0_tryLast_29 : decode cX0_tryLast 29 = .ok (.invokevirtual 75, 3) := by decide +kernel
theorem dX0_tryLast_32 : decode cX0_tryLast 32 = .ok (.istore 4, 2) := by decide +kernel
theorem dX0_tryLast_34 : decode cX0_tryLast 34 = .ok (.iload 4, 2) := by decide +kernel
theorem dX0_tryLast_36 : decode cX0_tryLast 36 = .ok (.aload_n 0, 1) := by decide +kernel
theorem dX0_tryLast_37 : decode cX0_tryLast 37 = .ok (.getfield 21, 3) := by decide +kernel
theorem dX0_tryLast_40 : decode cX0_tryLast 40 = .ok (.if_icmp .ge 23, 3) := by decide +kernel
theorem dX0_tryLast_43 : decode cX0_tryLast 43 = .ok (.aload_n 0, 1) := by decide +kernel
theorem dX0_tryLast_44 : decode cX0_tryLast 44 = .ok (.iload 4, 2) := by decide +kernel
theorem dX0_tryLast_46 : decode cX0_tryLast 46 = .ok (.putfield 21, 3) := by decide +kernel
theorem dX0_tryLast_49 : decode cX0_tryLast 49 = .ok (.aload_n 0, 1) := by decide +kernel
theorem dX0_tryLast_50 : decode cX0_tryLast 50 = .ok (.getfield 15, 3) := by decide +kernel
theorem dX0_tryLast_53 : decode cX0_tryLast 53 = .ok (.iconst 0, 1) := by decide +kernel
theorem dX0_tryLast_54 : decode cX0_tryLast 54 = .ok (.aload_n 0, 1) := by decide +kernel
theorem dX0_tryLast_55 : decode cX0_tryLast 55 = .ok (.getfield 18, 3) := by decide +kernel
theorem dX0_tryLast_58 : decode cX0_tryLast 58 = .ok (.iconst 0, 1) := by decide +kernel
theorem dX0_tryLast_59 : decode cX0_tryLast 59 = .ok (.iconst 3, 1) := by decide +kernel
theorem dX0_tryLast_60 : decode cX0_tryLast 60 = .ok (.invokestatic 78, 3) := by decide +kernel
theorem dX0_tryLast_63 : decode cX0_tryLast 63 = .ok (.iinc 3 1, 3) := by decide +kernel
theorem dX0_tryLast_66 : decode cX0_tryLast 66 = .ok (.goto (-64), 3) := by decide +kernel
theorem dX0_tryLast_69 : decode cX0_tryLast 69 = .ok (.return_, 1) := by decide +kernel
theorem dX0_pick_0 : decode cX0_pick 0 = .ok (.aload_n 0, 1) := by decide +kernel
theorem dX0_pick_1 : decode cX0_pick 1 = .ok (.getfield 15, 3) := by decide +kernel
theorem dX0_pick_4 : decode cX0_pick 4 = .ok (.iload_n 1, 1) := by decide +kernel
theorem dX0_pick_5 : decode cX0_pick 5 = .ok (.aload_n 0, 1) := by decide +kernel
theorem dX0_pick_6 : decode cX0_pick 6 = .ok (.getfield 28, 3) := by decide +kernel
theorem dX0_pick_9 : decode cX0_pick 9 = .ok (.iload_n 2, 1) := by decide +kernel
theorem dX0_pick_10 : decode cX0_pick 10 = .ok (.invokevirtual 71, 3) := by decide +kernel
theorem dX0_pick_13 : decode cX0_pick 13 = .ok (.iastore, 1) := by decide +kernel
theorem dX0_pick_14 : decode cX0_pick 14 = .ok (.iload_n 1, 1) := by decide +kernel
theorem dX0_pick_15 : decode cX0_pick 15 = .ok (.iconst 1, 1) := by decide +kernel
theorem dX0_pick_16 : decode cX0_pick 16 = .ok (.iadd, 1) := by decide +kernel
theorem dX0_pick_17 : decode cX0_pick 17 = .ok (.bipush 60, 2) := by decide +kernel
theorem dX0_pick_19 : decode cX0_pick 19 = .ok (.imul, 1) := by decide +kernel
theorem dX0_pick_20 : decode cX0_pick 20 = .ok (.istore_n 3, 1) := by decide +kernel
theorem dX0_pick_21 : decode cX0_pick 21 = .ok (.iconst 0, 1) := by decide +kernel
theorem dX0_pick_22 : decode cX0_pick 22 = .ok (.istore 4, 2) := by decide +kernel
theorem dX0_pick_24 : decode cX0_pick 24 = .ok (.iload 4, 2) := by decide +kernel
theorem dX0_pick_26 : decode cX0_pick 26 = .ok (.aload_n 0, 1) := by decide +kernel
theorem dX0_pick_27 : decode cX0_pick 27 = .ok (.getfield 28, 3) := by decide +kernel
theorem dX0_pick_30 : decode cX0_pick 30 = .ok (.invokevirtual 62, 3) := by decide +kernel
theorem dX0_pick_33 : decode cX0_pick 33 = .ok (.if_icmp .ge 25, 3) := by decide +kernel
theorem dX0_pick_36 : decode cX0_pick 36 = .ok (.aload_n 0, 1) := by decide +kernel
theorem dX0_pick_37 : decode cX0_pick 37 = .ok (.getfield 9, 3) := by decide +kernel
theorem dX0_pick_40 : decode cX0_pick 40 = .ok (.iload_n 3, 1) := by decide +kernel
theorem dX0_pick_41 : decode cX0_pick 41 = .ok (.iload 4, 2) := by decide +kernel
theorem dX0_pick_43 : decode cX0_pick 43 = .ok (.iadd, 1) := by decide +kernel
theorem dX0_pick_44 : decode cX0_pick 44 = .ok (.aload_n 0, 1) := by decide +kernel
theorem dX0_pick_45 : decode cX0_pick 45 = .ok (.iload_n 1, 1) := by decide +kernel
theorem dX0_pick_46 : decode cX0_pick 46 = .ok (.iload 4, 2) := by decide +kernel
theorem dX0_pick_48 : decode cX0_pick 48 = .ok (.invokevirtual 84, 3) := by decide +kernel
theorem dX0_pick_51 : decode cX0_pick 51 = .ok (.iastore, 1) := by decide +kernel
theorem dX0_pick_52 : decode cX0_pick 52 = .ok (.iinc 4 1, 3) := by decide +kernel
theorem dX0_pick_55 : decode cX0_pick 55 = .ok (.goto (-31), 3) := by decide +kernel
theorem dX0_pick_58 : decode cX0_pick 58 = .ok (.return_, 1) := by decide +kernel
theorem dX0_reachOf_0 : decode cX0_reachOf 0 = .ok (.aload_n 0, 1) := by decide +kernel
theorem dX0_reachOf_1 : decode cX0_reachOf 1 = .ok (.iload_n 1, 1) := by decide +kernel
theorem dX0_reachOf_2 : decode cX0_reachOf 2 = .ok (.aload_n 0, 1) := by decide +kernel
theorem dX0_reachOf_3 : decode cX0_reachOf 3 = .ok (.getfield 25, 3) := by decide +kernel
theorem dX0_reachOf_6 : decode cX0_reachOf 6 = .ok (.invokevirtual 84, 3) := by decide +kernel
theorem dX0_reachOf_9 : decode cX0_reachOf 9 = .ok (.istore_n 2, 1) := by decide +kernel
theorem dX0_reachOf_10 : decode cX0_reachOf 10 = .ok (.iconst 0, 1) := by decide +kernel
theorem dX0_reachOf_11 : decode cX0_reachOf 11 = .ok (.istore_n 3, 1) := by decide +kernel
theorem dX0_reachOf_12 : decode cX0_reachOf 12 = .ok (.iload_n 3, 1) := by decide +kernel
theorem dX0_reachOf_13 : decode cX0_reachOf 13 = .ok (.aload_n 0, 1) := by decide +kernel
theorem dX0_reachOf_14 : decode cX0_reachOf 14 = .ok (.getfield 28, 3) := by decide +kernel
theorem dX0_reachOf_17 : decode cX0_reachOf 17 = .ok (.invokevirtual 62, 3) := by decide +kernel
theorem dX0_reachOf_20 : decode cX0_reachOf 20 = .ok (.if_icmp .ge 39, 3) := by decide +kernel
theorem dX0_reachOf_23 : decode cX0_reachOf 23 = .ok (.iload_n 2, 1) := by decide +kernel
theorem dX0_reachOf_24 : decode cX0_reachOf 24 = .ok (.aload_n 0, 1) := by decide +kernel
theorem dX0_reachOf_25 : decode cX0_reachOf 25 = .ok (.getfield 21, 3) := by decide +kernel
theorem dX0_reachOf_28 : decode cX0_reachOf 28 = .ok (.if_icmp .ge 31, 3) := by decide +kernel
theorem dX0_reachOf_31 : decode cX0_reachOf 31 = .ok (.aload_n 0, 1) := by decide +kernel
theorem dX0_reachOf_32 : decode cX0_reachOf 32 = .ok (.iload_n 1, 1) := by decide +kernel
theorem dX0_reachOf_33 : decode cX0_reachOf 33 = .ok (.iload_n 3, 1) := by decide +kernel
theorem dX0_reachOf_34 : decode cX0_reachOf 34 = .ok (.invokevirtual 84, 3) := by decide +kernel
theorem dX0_reachOf_37 : decode cX0_reachOf 37 = .ok (.istore 4, 2) := by decide +kernel
theorem dX0_reachOf_39 : decode cX0_reachOf 39 = .ok (.iload 4, 2) := by decide +kernel
theorem dX0_reachOf_41 : decode cX0_reachOf 41 = .ok (.iload_n 2, 1) := by decide +kernel
theorem dX0_reachOf_42 : decode cX0_reachOf 42 = .ok (.if_icmp .le 11, 3) := by decide +kernel
theorem dX0_reachOf_45 : decode cX0_reachOf 45 = .ok (.iload 4, 2) := by decide +kernel
theorem dX0_reachOf_47 : decode cX0_reachOf 47 = .ok (.istore_n 2, 1) := by decide +kernel
theorem dX0_reachOf_48 : decode cX0_reachOf 48 = .ok (.aload_n 0, 1) := by decide +kernel
theorem dX0_reachOf_49 : decode cX0_reachOf 49 = .ok (.iload_n 3, 1) := by decide +kernel
theorem dX0_reachOf_50 : decode cX0_reachOf 50 = .ok (.putfield 25, 3) := by decide +kernel
theorem dX0_reachOf_53 : decode cX0_reachOf 53 = .ok (.iinc 3 1, 3) := by decide +kernel
theorem dX0_reachOf_56 : decode cX0_reachOf 56 = .ok (.goto (-44), 3) := by decide +kernel
theorem dX0_reachOf_59 : decode cX0_reachOf 59 = .ok (.iload_n 2, 1) := by decide +kernel
theorem dX0_reachOf_60 : decode cX0_reachOf 60 = .ok (.ireturn, 1) := by decide +kernel
theorem dX0_gapWith_0 : decode cX0_gapWith 0 = .ok (.aload_n 0, 1) := by decide +kernel
theorem dX0_gapWith_1 : decode cX0_gapWith 1 = .ok (.getfield 9, 3) := by decide +kernel
theorem dX0_gapWith_4 : decode cX0_gapWith 4 = .ok (.iload_n 1, 1) := by decide +kernel
theorem dX0_gapWith_5 : decode cX0_gapWith 5 = .ok (.bipush 60, 2) := by decide +kernel
theorem dX0_gapWith_7 : decode cX0_gapWith 7 = .ok (.imul, 1) := by decide +kernel
theorem dX0_gapWith_8 : decode cX0_gapWith 8 = .ok (.iload_n 2, 1) := by decide +kernel
theorem dX0_gapWith_9 : decode cX0_gapWith 9 = .ok (.iadd, 1) := by decide +kernel
theorem dX0_gapWith_10 : decode cX0_gapWith 10 = .ok (.iaload, 1) := by decide +kernel
theorem dX0_gapWith_11 : decode cX0_gapWith 11 = .ok (.istore_n 3, 1) := by decide +kernel
theorem dX0_gapWith_12 : decode cX0_gapWith 12 = .ok (.aload_n 0, 1) := by decide +kernel
theorem dX0_gapWith_13 : decode cX0_gapWith 13 = .ok (.getfield 32, 3) := by decide +kernel
theorem dX0_gapWith_16 : decode cX0_gapWith 16 = .ok (.aload_n 0, 1) := by decide +kernel
theorem dX0_gapWith_17 : decode cX0_gapWith 17 = .ok (.getfield 15, 3) := by decide +kernel
theorem dX0_gapWith_20 : decode cX0_gapWith 20 = .ok (.iload_n 1, 1) := by decide +kernel
theorem dX0_gapWith_21 : decode cX0_gapWith 21 = .ok (.iaload, 1) := by decide +kernel
theorem dX0_gapWith_22 : decode cX0_gapWith 22 = .ok (.aload_n 0, 1) := by decide +kernel
theorem dX0_gapWith_23 : decode cX0_gapWith 23 = .ok (.getfield 28, 3) := by decide +kernel
theorem dX0_gapWith_26 : decode cX0_gapWith 26 = .ok (.iload_n 2, 1) := by decide +kernel
theorem dX0_gapWith_27 : decode cX0_gapWith 27 = .ok (.invokevirtual 71, 3) := by decide +kernel
theorem dX0_gapWith_30 : decode cX0_gapWith 30 = .ok (.invokevirtual 88, 3) := by decide +kernel
theorem dX0_gapWith_33 : decode cX0_gapWith 33 = .ok (.istore 4, 2) := by decide +kernel
theorem dX0_gapWith_35 : decode cX0_gapWith 35 = .ok (.iload 4, 2) := by decide +kernel
theorem dX0_gapWith_37 : decode cX0_gapWith 37 = .ok (.iload_n 3, 1) := by decide +kernel
theorem dX0_gapWith_38 : decode cX0_gapWith 38 = .ok (.if_icmp .ge 8, 3) := by decide +kernel
theorem dX0_gapWith_41 : decode cX0_gapWith 41 = .ok (.iload 4, 2) := by decide +kernel
theorem dX0_gapWith_43 : decode cX0_gapWith 43 = .ok (.goto 4, 3) := by decide +kernel
theorem dX0_gapWith_46 : decode cX0_gapWith 46 = .ok (.iload_n 3, 1) := by decide +kernel
theorem dX0_gapWith_47 : decode cX0_gapWith 47 = .ok (.ireturn, 1) := by decide +kernel
theorem dX1_init_0 : decode cX1_init 0 = .ok (.aload_n 0, 1) := by decide +kernel
theorem dX1_init_1 : decode cX1_init 1 = .ok (.invokespecial 3, 3) := by decide +kernel
theorem dX1_init_4 : decode cX1_init 4 = .ok (.aload_n 0, 1) := by decide +kernel
theorem dX1_init_5 : decode cX1_init 5 = .ok (.bipush 60, 2) := by decide +kernel
theorem dX1_init_7 : decode cX1_init 7 = .ok (.newarray .int, 2) := by decide +kernel
theorem dX1_init_9 : decode cX1_init 9 = .ok (.putfield 9, 3) := by decide +kernel
theorem dX1_init_12 : decode cX1_init 12 = .ok (.aload_n 0, 1) := by decide +kernel
theorem dX1_init_13 : decode cX1_init 13 = .ok (.aload_n 1, 1) := by decide +kernel
theorem dX1_init_14 : decode cX1_init 14 = .ok (.putfield 15, 3) := by decide +kernel
theorem dX1_init_17 : decode cX1_init 17 = .ok (.aload_n 0, 1) := by decide +kernel
theorem dX1_init_18 : decode cX1_init 18 = .ok (.aload_n 2, 1) := by decide +kernel
theorem dX1_init_19 : decode cX1_init 19 = .ok (.putfield 19, 3) := by decide +kernel
theorem dX1_init_22 : decode cX1_init 22 = .ok (.return_, 1) := by decide +kernel
theorem dX1_take_0 : decode cX1_take 0 = .ok (.aload_n 2, 1) := by decide +kernel
theorem dX1_take_1 : decode cX1_take 1 = .ok (.invokevirtual 23, 3) := by decide +kernel
theorem dX1_take_4 : decode cX1_take 4 = .ok (.aload_n 0, 1) := by decide +kernel
theorem dX1_take_5 : decode cX1_take 5 = .ok (.getfield 9, 3) := by decide +kernel
theorem dX1_take_8 : decode cX1_take 8 = .ok (.ldc 28, 2) := by decide +kernel
theorem dX1_take_10 : decode cX1_take 10 = .ok (.invokestatic 29, 3) := by decide +kernel
theorem dX1_take_13 : decode cX1_take 13 = .ok (.iconst 0, 1) := by decide +kernel
theorem dX1_take_14 : decode cX1_take 14 = .ok (.istore_n 3, 1) := by decide +kernel
theorem dX1_take_15 : decode cX1_take 15 = .ok (.iconst 0, 1) := by decide +kernel
theorem dX1_take_16 : decode cX1_take 16 = .ok (.istore 4, 2) := by decide +kernel
theorem dX1_take_18 : decode cX1_take 18 = .ok (.iconst 0, 1) := by decide +kernel
theorem dX1_take_19 : decode cX1_take 19 = .ok (.istore 5, 2) := by decide +kernel
theorem dX1_take_21 : decode cX1_take 21 = .ok (.iload 5, 2) := by decide +kernel
theorem dX1_take_23 : decode cX1_take 23 = .ok (.iload_n 1, 1) := by decide +kernel
theorem dX1_take_24 : decode cX1_take 24 = .ok (.if_icmp .ge 59, 3) := by decide +kernel
theorem dX1_take_27 : decode cX1_take 27 = .ok (.aload_n 2, 1) := by decide +kernel
theorem dX1_take_28 : decode cX1_take 28 = .ok (.aload_n 0, 1) := by decide +kernel
theorem dX1_take_29 : decode cX1_take 29 = .ok (.getfield 15, 3) := by decide +kernel
theorem dX1_take_32 : decode cX1_take 32 = .ok (.iload_n 3, 1) := by decide +kernel
theorem dX1_take_33 : decode cX1_take 33 = .ok (.invokevirtual 35, 3) := by decide +kernel
theorem dX1_take_36 : decode cX1_take 36 = .ok (.iload 4, 2) := by decide +kernel
theorem dX1_take_38 : decode cX1_take 38 = .ok (.invokevirtual 41, 3) := by decide +kernel
theorem dX1_take_41 : decode cX1_take 41 = .ok (.aload_n 0, 1) := by decide +kernel
theorem dX1_take_42 : decode cX1_take 42 = .ok (.getfield 9, 3) := by decide +kernel
theorem dX1_take_45 : decode cX1_take 45 = .ok (.iload_n 3, 1) := by decide +kernel
theorem dX1_take_46 : decode cX1_take 46 = .ok (.iconst (-1), 1) := by decide +kernel
theorem dX1_take_47 : decode cX1_take 47 = .ok (.iastore, 1) := by decide +kernel
theorem dX1_take_48 : decode cX1_take 48 = .ok (.aload_n 0, 1) := by decide +kernel
theorem dX1_take_49 : decode cX1_take 49 = .ok (.aload_n 0, 1) := by decide +kernel
theorem dX1_take_50 : decode cX1_take 50 = .ok (.getfield 15, 3) := by decide +kernel
theorem dX1_take_53 : decode cX1_take 53 = .ok (.iload_n 3, 1) := by decide +kernel
theorem dX1_take_54 : decode cX1_take 54 = .ok (.invokevirtual 35, 3) := by decide +kernel
theorem dX1_take_57 : decode cX1_take 57 = .ok (.invokevirtual 45, 3) := by decide +kernel
theorem dX1_take_60 : decode cX1_take 60 = .ok (.aload_n 0, 1) := by decide +kernel
theorem dX1_take_61 : decode cX1_take 61 = .ok (.invokevirtual 49, 3) := by decide +kernel
theorem dX1_take_64 : decode cX1_take 64 = .ok (.istore_n 3, 1) := by decide +kernel
theorem dX1_take_65 : decode cX1_take 65 = .ok (.aload_n 0, 1) := by decide +kernel
theorem dX1_take_66 : decode cX1_take 66 = .ok (.getfield 9, 3) := by decide +kernel
theorem dX1_take_69 : decode cX1_take 69 = .ok (.iload_n 3, 1) := by decide +kernel
theorem dX1_take_70 : decode cX1_take 70 = .ok (.iaload, 1) := by decide +kernel
theorem dX1_take_71 : decode cX1_take 71 = .ok (.iconst 0, 1) := by decide +kernel
theorem dX1_take_72 : decode cX1_take 72 = .ok (.invokestatic 53, 3) := by decide +kernel
theorem dX1_take_75 : decode cX1_take 75 = .ok (.istore 4, 2) := by decide +kernel
theorem dX1_take_77 : decode cX1_take 77 = .ok (.iinc 5 1, 3) := by decide +kernel
theorem dX1_take_80 : decode cX1_take 80 = .ok (.goto (-59), 3) := by decide +kernel
theorem dX1_take_83 : decode cX1_take 83 = .ok (.iload 4, 2) := by decide +kernel
theorem dX1_take_85 : decode cX1_take 85 = .ok (.ireturn, 1) := by decide +kernel
theorem dX1_closeGaps_0 : decode cX1_closeGaps 0 = .ok (.iconst 0, 1) := by decide +kernel
theorem dX1_closeGaps_1 : decode cX1_closeGaps 1 = .ok (.istore_n 2, 1) := by decide +kernel
theorem dX1_closeGaps_2 : decode cX1_closeGaps 2 = .ok (.iload_n 2, 1) := by decide +kernel
theorem dX1_closeGaps_3 : decode cX1_closeGaps 3 = .ok (.aload_n 0, 1) := by decide +kernel
theorem dX1_closeGaps_4 : decode cX1_closeGaps 4 = .ok (.getfield 15, 3) := by decide +kernel
theorem dX1_closeGaps_7 : decode cX1_closeGaps 7 = .ok (.invokevirtual 59, 3) := by decide +kernel
theorem dX1_closeGaps_10 : decode cX1_closeGaps 10 = .ok (.if_icmp .ge 50, 3) := by decide +kernel
theorem dX1_closeGaps_13 : decode cX1_closeGaps 13 = .ok (.aload_n 0, 1) := by decide +kernel
theorem dX1_closeGaps_14 : decode cX1_closeGaps 14 = .ok (.getfield 9, 3) := by decide +kernel
theorem dX1_closeGaps_17 : decode cX1_closeGaps 17 = .ok (.iload_n 2, 1) := by decide +kernel
theorem dX1_closeGaps_18 : decode cX1_closeGaps 18 = .ok (.iaload, 1) := by decide +kernel
theorem dX1_closeGaps_19 : decode cX1_closeGaps 19 = .ok (.iconst (-1), 1) := by decide +kernel
theorem dX1_closeGaps_20 : decode cX1_closeGaps 20 = .ok (.if_icmp .eq 34, 3) := by decide +kernel
theorem dX1_closeGaps_23 : decode cX1_closeGaps 23 = .ok (.aload_n 0, 1) := by decide +kernel
theorem dX1_closeGaps_24 : decode cX1_closeGaps 24 = .ok (.getfield 9, 3) := by decide +kernel
theorem dX1_closeGaps_27 : decode cX1_closeGaps 27 = .ok (.iload_n 2, 1) := by decide +kernel
theorem dX1_closeGaps_28 : decode cX1_closeGaps 28 = .ok (.aload_n 0, 1) := by decide +kernel
theorem dX1_closeGaps_29 : decode cX1_closeGaps 29 = .ok (.getfield 9, 3) := by decide +kernel
theorem dX1_closeGaps_32 : decode cX1_closeGaps 32 = .ok (.iload_n 2, 1) := by decide +kernel
theorem dX1_closeGaps_33 : decode cX1_closeGaps 33 = .ok (.iaload, 1) := by decide +kernel
theorem dX1_closeGaps_34 : decode cX1_closeGaps 34 = .ok (.aload_n 0, 1) := by decide +kernel
theorem dX1_closeGaps_35 : decode cX1_closeGaps 35 = .ok (.getfield 19, 3) := by decide +kernel
theorem dX1_closeGaps_38 : decode cX1_closeGaps 38 = .ok (.iload_n 1, 1) := by decide +kernel
theorem dX1_closeGaps_39 : decode cX1_closeGaps 39 = .ok (.aload_n 0, 1) := by decide +kernel
theorem dX1_closeGaps_40 : decode cX1_closeGaps 40 = .ok (.getfield 15, 3) := by decide +kernel
theorem dX1_closeGaps_43 : decode cX1_closeGaps 43 = .ok (.iload_n 2, 1) := by decide +kernel
theorem dX1_closeGaps_44 : decode cX1_closeGaps 44 = .ok (.invokevirtual 35, 3) := by decide +kernel
theorem dX1_closeGaps_47 : decode cX1_closeGaps 47 = .ok (.invokevirtual 62, 3) := by decide +kernel
theorem dX1_closeGaps_50 : decode cX1_closeGaps 50 = .ok (.invokestatic 66, 3) := by decide +kernel
theorem dX1_closeGaps_53 : decode cX1_closeGaps 53 = .ok (.iastore, 1) := by decide +kernel
theorem dX1_closeGaps_54 : decode cX1_closeGaps 54 = .ok (.iinc 2 1, 3) := by decide +kernel
theorem dX1_closeGaps_57 : decode cX1_closeGaps 57 = .ok (.goto (-55), 3) := by decide +kernel
theorem dX1_closeGaps_60 : decode cX1_closeGaps 60 = .ok (.return_, 1) := by decide +kernel
theorem dX1_farthestLoose_0 : decode cX1_farthestLoose 0 = .ok (.iconst 0, 1) := by decide +kernel
theorem dX1_farthestLoose_1 : decode cX1_farthestLoose 1 = .ok (.istore_n 1, 1) := by decide +kernel
theorem dX1_farthestLoose_2 : decode cX1_farthestLoose 2 = .ok (.iconst 1, 1) := by decide +kernel
theorem dX1_farthestLoose_3 : decode cX1_farthestLoose 3 = .ok (.istore_n 2, 1) := by decide +kernel
theorem dX1_farthestLoose_4 : decode cX1_farthestLoose 4 = .ok (.iload_n 2, 1) := by decide +kernel
theorem dX1_farthestLoose_5 : decode cX1_farthestLoose 5 = .ok (.aload_n 0, 1) := by decide +kernel
theorem dX1_farthestLoose_6 : decode cX1_farthestLoose 6 = .ok (.getfield 15, 3) := by decide +kernel
theorem dX1_farthestLoose_9 : decode cX1_farthestLoose 9 = .ok (.invokevirtual 59, 3) := by decide +kernel
theorem dX1_farthestLoose_12 : decode cX1_farthestLoose 12 = .ok (.if_icmp .ge 26, 3) := by decide +kernel
theorem dX1_farthestLoose_15 : decode cX1_farthestLoose 15 = .ok (.aload_n 0, 1) := by decide +kernel
theorem dX1_farthestLoose_16 : decode cX1_farthestLoose 16 = .ok (.getfield 9, 3) := by decide +kernel
theorem dX1_farthestLoose_19 : decode cX1_farthestLoose 19 = .ok (.iload_n 2, 1) := by decide +kernel
theorem dX1_farthestLoose_20 : decode cX1_farthestLoose 20 = .ok (.iaload, 1) := by decide +kernel
theorem dX1_farthestLoose_21 : decode cX1_farthestLoose 21 = .ok (.aload_n 0, 1) := by decide +kernel
theorem dX1_farthestLoose_22 : decode cX1_farthestLoose 22 = .ok (.getfield 9, 3) := by decide +kernel
theorem dX1_farthestLoose_25 : decode cX1_farthestLoose 25 = .ok (.iload_n 1, 1) := by decide +kernel
theorem dX1_farthestLoose_26 : decode cX1_farthestLoose 26 = .ok (.iaload, 1) := by decide +kernel
theorem dX1_farthestLoose_27 : decode cX1_farthestLoose 27 = .ok (.if_icmp .le 5, 3) := by decide +kernel
theorem dX1_farthestLoose_30 : decode cX1_farthestLoose 30 = .ok (.iload_n 2, 1) := by decide +kernel
theorem dX1_farthestLoose_31 : decode cX1_farthestLoose 31 = .ok (.istore_n 1, 1) := by decide +kernel
theorem dX1_farthestLoose_32 : decode cX1_farthestLoose 32 = .ok (.iinc 2 1, 3) := by decide +kernel
theorem dX1_farthestLoose_35 : decode cX1_farthestLoose 35 = .ok (.goto (-31), 3) := by decide +kernel
theorem dX1_farthestLoose_38 : decode cX1_farthestLoose 38 = .ok (.iload_n 1, 1) := by decide +kernel
theorem dX1_farthestLoose_39 : decode cX1_farthestLoose 39 = .ok (.ireturn, 1) := by decide +kernel
theorem dX2_init_0 : decode cX2_init 0 = .ok (.aload_n 0, 1) := by decide +kernel
theorem dX2_init_1 : decode cX2_init 1 = .ok (.invokespecial 5, 3) := by decide +kernel
theorem dX2_init_4 : decode cX2_init 4 = .ok (.aload_n 0, 1) := by decide +kernel
theorem dX2_init_5 : decode cX2_init 5 = .ok (.new 11, 3) := by decide +kernel
theorem dX2_init_8 : decode cX2_init 8 = .ok (.dup, 1) := by decide +kernel
theorem dX2_init_9 : decode cX2_init 9 = .ok (.invokespecial 13, 3) := by decide +kernel
theorem dX2_init_12 : decode cX2_init 12 = .ok (.putfield 14, 3) := by decide +kernel
theorem dX2_init_15 : decode cX2_init 15 = .ok (.aload_n 0, 1) := by decide +kernel
theorem dX2_init_16 : decode cX2_init 16 = .ok (.bipush 60, 2) := by decide +kernel
theorem dX2_init_18 : decode cX2_init 18 = .ok (.newarray .int, 2) := by decide +kernel
theorem dX2_init_20 : decode cX2_init 20 = .ok (.putfield 20, 3) := by decide +kernel
theorem dX2_init_23 : decode cX2_init 23 = .ok (.aload_n 0, 1) := by decide +kernel
theorem dX2_init_24 : decode cX2_init 24 = .ok (.aload_n 1, 1) := by decide +kernel
theorem dX2_init_25 : decode cX2_init 25 = .ok (.putfield 24, 3) := by decide +kernel
theorem dX2_init_28 : decode cX2_init 28 = .ok (.aload_n 0, 1) := by decide +kernel
theorem dX2_init_29 : decode cX2_init 29 = .ok (.aload_n 2, 1) := by decide +kernel
theorem dX2_init_30 : decode cX2_init 30 = .ok (.putfield 28, 3) := by decide +kernel
theorem dX2_init_33 : decode cX2_init 33 = .ok (.return_, 1) := by decide +kernel
theorem dX2_hangTogether_0 : decode cX2_hangTogether 0 = .ok (.aload_n 0, 1) := by decide +kernel
theorem dX2_hangTogether_1 : decode cX2_hangTogether 1 = .ok (.getfield 14, 3) := by decide +kernel
theorem dX2_hangTogether_4 : decode cX2_hangTogether 4 = .ok (.invokevirtual 32, 3) := by decide +kernel
theorem dX2_hangTogether_7 : decode cX2_hangTogether 7 = .ok (.aload_n 0, 1) := by decide +kernel
theorem dX2_hangTogether_8 : decode cX2_hangTogether 8 = .ok (.getfield 20, 3) := by decide +kernel
theorem dX2_hangTogether_11 : decode cX2_hangTogether 11 = .ok (.ldc 35, 2) := by decide +kernel
theorem dX2_hangTogether_13 : decode cX2_hangTogether 13 = .ok (.invokestatic 36, 3) := by decide +kernel
theorem dX2_hangTogether_16 : decode cX2_hangTogether 16 = .ok (.iconst 0, 1) := by decide +kernel
theorem dX2_hangTogether_17 : decode cX2_hangTogether 17 = .ok (.istore_n 1, 1) := by decide +kernel
theorem dX2_hangTogether_18 : decode cX2_hangTogether 18 = .ok (.iconst 1, 1) := by decide +kernel
theorem dX2_hangTogether_19 : decode cX2_hangTogether 19 = .ok (.istore_n 2, 1) := by decide +kernel
theorem dX2_hangTogether_20 : decode cX2_hangTogether 20 = .ok (.iload_n 2, 1) := by decide +kernel
theorem dX2_hangTogether_21 : decode cX2_hangTogether 21 = .ok (.aload_n 0, 1) := by decide +kernel
theorem dX2_hangTogether_22 : decode cX2_hangTogether 22 = .ok (.getfield 24, 3) := by decide +kernel
theorem dX2_hangTogether_25 : decode cX2_hangTogether 25 = .ok (.invokevirtual 42, 3) := by decide +kernel
theorem dX2_hangTogether_28 : decode cX2_hangTogether 28 = .ok (.if_icmp .ge 40, 3) := by decide +kernel
theorem dX2_hangTogether_31 : decode cX2_hangTogether 31 = .ok (.aload_n 0, 1) := by decide +kernel
theorem dX2_hangTogether_32 : decode cX2_hangTogether 32 = .ok (.getfield 20, 3) := by decide +kernel
theorem dX2_hangTogether_35 : decode cX2_hangTogether 35 = .ok (.iload_n 1, 1) := by decide +kernel
theorem dX2_hangTogether_36 : decode cX2_hangTogether 36 = .ok (.ldc 48, 2) := by decide +kernel
theorem dX2_hangTogether_38 : decode cX2_hangTogether 38 = .ok (.iastore, 1) := by decide +kernel
theorem dX2_hangTogether_39 : decode cX2_hangTogether 39 = .ok (.aload_n 0, 1) := by decide +kernel
theorem dX2_hangTogether_40 : decode cX2_hangTogether 40 = .ok (.iload_n 1, 1) := by decide +kernel
theorem dX2_hangTogether_41 : decode cX2_hangTogether 41 = .ok (.invokevirtual 49, 3) := by decide +kernel
theorem dX2_hangTogether_44 : decode cX2_hangTogether 44 = .ok (.aload_n 0, 1) := by decide +kernel
theorem dX2_hangTogether_45 : decode cX2_hangTogether 45 = .ok (.invokevirtual 53, 3) := by decide +kernel
theorem dX2_hangTogether_48 : decode cX2_hangTogether 48 = .ok (.istore_n 1, 1) := by decide +kernel
theorem dX2_hangTogether_49 : decode cX2_hangTogether 49 = .ok (.aload_n 0, 1) := by decide +kernel
theorem dX2_hangTogether_50 : decode cX2_hangTogether 50 = .ok (.getfield 14, 3) := by decide +kernel
theorem dX2_hangTogether_53 : decode cX2_hangTogether 53 = .ok (.aload_n 0, 1) := by decide +kernel
theorem dX2_hangTogether_54 : decode cX2_hangTogether 54 = .ok (.getfield 20, 3) := by decide +kernel
theorem dX2_hangTogether_57 : decode cX2_hangTogether 57 = .ok (.iload_n 1, 1) := by decide +kernel
theorem dX2_hangTogether_58 : decode cX2_hangTogether 58 = .ok (.iaload, 1) := by decide +kernel
theorem dX2_hangTogether_59 : decode cX2_hangTogether 59 = .ok (.invokevirtual 56, 3) := by decide +kernel
theorem dX2_hangTogether_62 : decode cX2_hangTogether 62 = .ok (.iinc 2 1, 3) := by decide +kernel
theorem dX2_hangTogether_65 : decode cX2_hangTogether 65 = .ok (.goto (-45), 3) := by decide +kernel
theorem dX2_hangTogether_68 : decode cX2_hangTogether 68 = .ok (.aload_n 0, 1) := by decide +kernel
theorem dX2_hangTogether_69 : decode cX2_hangTogether 69 = .ok (.getfield 14, 3) := by decide +kernel
theorem dX2_hangTogether_72 : decode cX2_hangTogether 72 = .ok (.areturn, 1) := by decide +kernel
theorem dX2_reachFrom_0 : decode cX2_reachFrom 0 = .ok (.iconst 0, 1) := by decide +kernel
theorem dX2_reachFrom_1 : decode cX2_reachFrom 1 = .ok (.istore_n 2, 1) := by decide +kernel
theorem dX2_reachFrom_2 : decode cX2_reachFrom 2 = .ok (.iload_n 2, 1) := by decide +kernel
theorem dX2_reachFrom_3 : decode cX2_reachFrom 3 = .ok (.aload_n 0, 1) := by decide +kernel
theorem dX2_reachFrom_4 : decode cX2_reachFrom 4 = .ok (.getfield 24, 3) := by decide +kernel
theorem dX2_reachFrom_7 : decode cX2_reachFrom 7 = .ok (.invokevirtual 42, 3) := by decide +kernel
theorem dX2_reachFrom_10 : decode cX2_reachFrom 10 = .ok (.if_icmp .ge 60, 3) := by decide +kernel
theorem dX2_reachFrom_13 : decode cX2_reachFrom 13 = .ok (.aload_n 0, 1) := by decide +kernel
theorem dX2_reachFrom_14 : decode cX2_reachFrom 14 = .ok (.getfield 20, 3) := by decide +kernel
theorem dX2_reachFrom_17 : decode cX2_reachFrom 17 = .ok (.iload_n 2, 1) := by decide +kernel
theorem dX2_reachFrom_18 : decode cX2_reachFrom 18 = .ok (.iaload, 1) := by decide +kernel
theorem dX2_reachFrom_19 : decode cX2_reachFrom 19 = .ok (.ldc 48, 2) := by decide +kernel
theorem dX2_reachFrom_21 : decode cX2_reachFrom 21 = .ok (.if_icmp .eq 43, 3) := by decide +kernel
theorem dX2_reachFrom_24 : decode cX2_reachFrom 24 = .ok (.aload_n 0, 1) := by decide +kernel
theorem dX2_reachFrom_25 : decode cX2_reachFrom 25 = .ok (.getfield 28, 3) := by decide +kernel
theorem dX2_reachFrom_28 : decode cX2_reachFrom 28 = .ok (.aload_n 0, 1) := by decide +kernel
theorem dX2_reachFrom_29 : decode cX2_reachFrom 29 = .ok (.getfield 24, 3) := by decide +kernel
theorem dX2_reachFrom_32 : decode cX2_reachFrom 32 = .ok (.iload_n 1, 1) := by decide +kernel
theorem dX2_reachFrom_33 : decode cX2_reachFrom 33 = .ok (.invokevirtual 59, 3) := by decide +kernel
theorem dX2_reachFrom_36 : decode cX2_reachFrom 36 = .ok (.aload_n 0, 1) := by decide +kernel
theorem dX2_reachFrom_37 : decode cX2_reachFrom 37 = .ok (.getfield 24, 3) := by decide +kernel
theorem dX2_reachFrom_40 : decode cX2_reachFrom 40 = .ok (.iload_n 2, 1) := by decide +kernel
theorem dX2_reachFrom_41 : decode cX2_reachFrom 41 = .ok (.invokevirtual 59, 3) := by decide +kernel
theorem dX2_reachFrom_44 : decode cX2_reachFrom 44 = .ok (.invokevirtual 63, 3) := by decide +kernel
theorem dX2_reachFrom_47 : decode cX2_reachFrom 47 = .ok (.istore_n 3, 1) := by decide +kernel
theorem dX2_reachFrom_48 : decode cX2_reachFrom 48 = .ok (.aload_n 0, 1) := by decide +kernel
theorem dX2_reachFrom_49 : decode cX2_reachFrom 49 = .ok (.getfield 20, 3) := by decide +kernel
theorem dX2_reachFrom_52 : decode cX2_reachFrom 52 = .ok (.iload_n 2, 1) := by decide +kernel
theorem dX2_reachFrom_53 : decode cX2_reachFrom 53 = .ok (.aload_n 0, 1) := by decide +kernel
theorem dX2_reachFrom_54 : decode cX2_reachFrom 54 = .ok (.getfield 20, 3) := by decide +kernel
theorem dX2_reachFrom_57 : decode cX2_reachFrom 57 = .ok (.iload_n 2, 1) := by decide +kernel
theorem dX2_reachFrom_58 : decode cX2_reachFrom 58 = .ok (.iaload, 1) := by decide +kernel
theorem dX2_reachFrom_59 : decode cX2_reachFrom 59 = .ok (.iload_n 3, 1) := by decide +kernel
theorem dX2_reachFrom_60 : decode cX2_reachFrom 60 = .ok (.invokestatic 69, 3) := by decide +kernel
theorem dX2_reachFrom_63 : decode cX2_reachFrom 63 = .ok (.iastore, 1) := by decide +kernel
theorem dX2_reachFrom_64 : decode cX2_reachFrom 64 = .ok (.iinc 2 1, 3) := by decide +kernel
theorem dX2_reachFrom_67 : decode cX2_reachFrom 67 = .ok (.goto (-65), 3) := by decide +kernel
theorem dX2_reachFrom_70 : decode cX2_reachFrom 70 = .ok (.return_, 1) := by decide +kernel
theorem dX2_leastLoose_0 : decode cX2_leastLoose 0 = .ok (.iconst 0, 1) := by decide +kernel
theorem dX2_leastLoose_1 : decode cX2_leastLoose 1 = .ok (.istore_n 1, 1) := by decide +kernel
theorem dX2_leastLoose_2 : decode cX2_leastLoose 2 = .ok (.iconst 1, 1) := by decide +kernel
theorem dX2_leastLoose_3 : decode cX2_leastLoose 3 = .ok (.istore_n 2, 1) := by decide +kernel
theorem dX2_leastLoose_4 : decode cX2_leastLoose 4 = .ok (.iload_n 2, 1) := by decide +kernel
theorem dX2_leastLoose_5 : decode cX2_leastLoose 5 = .ok (.aload_n 0, 1) := by decide +kernel
theorem dX2_leastLoose_6 : decode cX2_leastLoose 6 = .ok (.getfield 24, 3) := by decide +kernel
theorem dX2_leastLoose_9 : decode cX2_leastLoose 9 = .ok (.invokevirtual 42, 3) := by decide +kernel
theorem dX2_leastLoose_12 : decode cX2_leastLoose 12 = .ok (.if_icmp .ge 26, 3) := by decide +kernel
theorem dX2_leastLoose_15 : decode cX2_leastLoose 15 = .ok (.aload_n 0, 1) := by decide +kernel
theorem dX2_leastLoose_16 : decode cX2_leastLoose 16 = .ok (.getfield 20, 3) := by decide +kernel
theorem dX2_leastLoose_19 : decode cX2_leastLoose 19 = .ok (.iload_n 2, 1) := by decide +kernel
theorem dX2_leastLoose_20 : decode cX2_leastLoose 20 = .ok (.iaload, 1) := by decide +kernel
theorem dX2_leastLoose_21 : decode cX2_leastLoose 21 = .ok (.aload_n 0, 1) := by decide +kernel
theorem dX2_leastLoose_22 : decode cX2_leastLoose 22 = .ok (.getfield 20, 3) := by decide +kernel
theorem dX2_leastLoose_25 : decode cX2_leastLoose 25 = .ok (.iload_n 1, 1) := by decide +kernel
theorem dX2_leastLoose_26 : decode cX2_leastLoose 26 = .ok (.iaload, 1) := by decide +kernel
theorem dX2_leastLoose_27 : decode cX2_leastLoose 27 = .ok (.if_icmp .ge 5, 3) := by decide +kernel
theorem dX2_leastLoose_30 : decode cX2_leastLoose 30 = .ok (.iload_n 2, 1) := by decide +kernel
theorem dX2_leastLoose_31 : decode cX2_leastLoose 31 = .ok (.istore_n 1, 1) := by decide +kernel
theorem dX2_leastLoose_32 : decode cX2_leastLoose 32 = .ok (.iinc 2 1, 3) := by decide +kernel
theorem dX2_leastLoose_35 : decode cX2_leastLoose 35 = .ok (.goto (-31), 3) := by decide +kernel
theorem dX2_leastLoose_38 : decode cX2_leastLoose 38 = .ok (.iload_n 1, 1) := by decide +kernel
theorem dX2_leastLoose_39 : decode cX2_leastLoose 39 = .ok (.ireturn, 1) := by decide +kernel
theorem dX3_init_0 : decode cX3_init 0 = .ok (.aload_n 0, 1) := by decide +kernel
theorem dX3_init_1 : decode cX3_init 1 = .ok (.invokespecial 3, 3) := by decide +kernel
theorem dX3_init_4 : decode cX3_init 4 = .ok (.aload_n 0, 1) := by decide +kernel
theorem dX3_init_5 : decode cX3_init 5 = .ok (.sipush 3600, 3) := by decide +kernel
theorem dX3_init_8 : decode cX3_init 8 = .ok (.newarray .int, 2) := by decide +kernel
theorem dX3_init_10 : decode cX3_init 10 = .ok (.putfield 9, 3) := by decide +kernel
theorem dX3_init_13 : decode cX3_init 13 = .ok (.aload_n 0, 1) := by decide +kernel
theorem dX3_init_14 : decode cX3_init 14 = .ok (.iconst 0, 1) := by decide +kernel
theorem dX3_init_15 : decode cX3_init 15 = .ok (.putfield 15, 3) := by decide +kernel
theorem dX3_init_18 : decode cX3_init 18 = .ok (.aload_n 0, 1) := by decide +kernel
theorem dX3_init_19 : decode cX3_init 19 = .ok (.aload_n 1, 1) := by decide +kernel
theorem dX3_init_20 : decode cX3_init 20 = .ok (.putfield 19, 3) := by decide +kernel
theorem dX3_init_23 : decode cX3_init 23 = .ok (.aload_n 0, 1) := by decide +kernel
theorem dX3_init_24 : decode cX3_init 24 = .ok (.aload_n 2, 1) := by decide +kernel
theorem dX3_init_25 : decode cX3_init 25 = .ok (.putfield 23, 3) := by decide +kernel
theorem dX3_init_28 : decode cX3_init 28 = .ok (.aload_n 0, 1) := by decide +kernel
theorem dX3_init_29 : decode cX3_init 29 = .ok (.getfield 9, 3) := by decide +kernel
theorem dX3_init_32 : decode cX3_init 32 = .ok (.iconst (-1), 1) := by decide +kernel
theorem dX3_init_33 : decode cX3_init 33 = .ok (.invokestatic 27, 3) := by decide +kernel
theorem dX3_init_36 : decode cX3_init 36 = .ok (.return_, 1) := by decide +kernel
theorem dX3_kindAtHand_0 : decode cX3_kindAtHand 0 = .ok (.aload_n 0, 1) := by decide +kernel
theorem dX3_kindAtHand_1 : decode cX3_kindAtHand 1 = .ok (.getfield 15, 3) := by decide +kernel
theorem dX3_kindAtHand_4 : decode cX3_kindAtHand 4 = .ok (.ireturn, 1) := by decide +kernel
theorem dX3_useKind_0 : decode cX3_useKind 0 = .ok (.iload_n 1, 1) := by decide +kernel
theorem dX3_useKind_1 : decode cX3_useKind 1 = .ok (.aload_n 0, 1) := by decide +kernel
theorem dX3_useKind_2 : decode cX3_useKind 2 = .ok (.getfield 15, 3) := by decide +kernel
theorem dX3_useKind_5 : decode cX3_useKind 5 = .ok (.if_icmp .eq 16, 3) := by decide +kernel
theorem dX3_useKind_8 : decode cX3_useKind 8 = .ok (.aload_n 0, 1) := by decide +kernel
theorem dX3_useKind_9 : decode cX3_useKind 9 = .ok (.iload_n 1, 1) := by decide +kernel
theorem dX3_useKind_10 : decode cX3_useKind 10 = .ok (.putfield 15, 3) := by decide +kernel
theorem dX3_useKind_13 : decode cX3_useKind 13 = .ok (.aload_n 0, 1) := by decide +kernel
theorem dX3_useKind_14 : decode cX3_useKind 14 = .ok (.getfield 9, 3) := by decide +kernel
theorem dX3_useKind_17 : decode cX3_useKind 17 = .ok (.iconst (-1), 1) := by decide +kernel
theorem dX3_useKind_18 : decode cX3_useKind 18 = .ok (.invokestatic 27, 3) := by decide +kernel
theorem dX3_useKind_21 : decode cX3_useKind 21 = .ok (.return_, 1) := by decide +kernel
theorem dX3_forgetAllOf_0 : decode cX3_forgetAllOf 0 = .ok (.iconst 0, 1) := by decide +kernel
theorem dX3_forgetAllOf_1 : decode cX3_forgetAllOf 1 = .ok (.istore_n 2, 1) := by decide +kernel
theorem dX3_forgetAllOf_2 : decode cX3_forgetAllOf 2 = .ok (.iload_n 2, 1) := by decide +kernel
theorem dX3_forgetAllOf_3 : decode cX3_forgetAllOf 3 = .ok (.bipush 60, 2) := by decide +kernel
theorem dX3_forgetAllOf_5 : decode cX3_forgetAllOf 5 = .ok (.if_icmp .ge 16, 3) := by decide +kernel
theorem dX3_forgetAllOf_8 : decode cX3_forgetAllOf 8 = .ok (.aload_n 0, 1) := by decide +kernel
theorem dX3_forgetAllOf_9 : decode cX3_forgetAllOf 9 = .ok (.iload_n 1, 1) := by decide +kernel
theorem dX3_forgetAllOf_10 : decode cX3_forgetAllOf 10 = .ok (.iload_n 2, 1) := by decide +kernel
theorem dX3_forgetAllOf_11 : decode cX3_forgetAllOf 11 = .ok (.iconst (-1), 1) := by decide +kernel
theorem dX3_forgetAllOf_12 : decode cX3_forgetAllOf 12 = .ok (.invokevirtual 33, 3) := by decide +kernel
theorem dX3_forgetAllOf_15 : decode cX3_forgetAllOf 15 = .ok (.iinc 2 1, 3) := by decide +kernel
theorem dX3_forgetAllOf_18 : decode cX3_forgetAllOf 18 = .ok (.goto (-16), 3) := by decide +kernel
theorem dX3_forgetAllOf_21 : decode cX3_forgetAllOf 21 = .ok (.return_, 1) := by decide +kernel
theorem dX3_forgetPair_0 : decode cX3_forgetPair 0 = .ok (.aload_n 0, 1) := by decide +kernel
theorem dX3_forgetPair_1 : decode cX3_forgetPair 1 = .ok (.iload_n 1, 1) := by decide +kernel
theorem dX3_forgetPair_2 : decode cX3_forgetPair 2 = .ok (.iload_n 2, 1) := by decide +kernel
theorem dX3_forgetPair_3 : decode cX3_forgetPair 3 = .ok (.iconst (-1), 1) := by decide +kernel
theorem dX3_forgetPair_4 : decode cX3_forgetPair 4 = .ok (.invokevirtual 33, 3) := by decide +kernel
theorem dX3_forgetPair_7 : decode cX3_forgetPair 7 = .ok (.return_, 1) := by decide +kernel
theorem dX3_lawHolds_0 : decode cX3_lawHolds 0 = .ok (.aload_n 0, 1) := by decide +kernel
theorem dX3_lawHolds_1 : decode cX3_lawHolds 1 = .ok (.getfield 15, 3) := by decide +kernel
theorem dX3_lawHolds_4 : decode cX3_lawHolds 4 = .ok (.iconst 5, 1) := by decide +kernel
theorem dX3_lawHolds_5 : decode cX3_lawHolds 5 = .ok (.if_icmp .ne 20, 3) := by decide +kernel
theorem dX3_lawHolds_8 : decode cX3_lawHolds 8 = .ok (.aload_n 0, 1) := by decide +kernel
theorem dX3_lawHolds_9 : decode cX3_lawHolds 9 = .ok (.getfield 23, 3) := by decide +kernel
theorem dX3_lawHolds_12 : decode cX3_lawHolds 12 = .ok (.aload_n 0, 1) := by decide +kernel
theorem dX3_lawHolds_13 : decode cX3_lawHolds 13 = .ok (.getfield 19, 3) := by decide +kernel
theorem dX3_lawHolds_16 : decode cX3_lawHolds 16 = .ok (.invokevirtual 37, 3) := by decide +kernel
theorem dX3_lawHolds_19 : decode cX3_lawHolds 19 = .ok (.invokevirtual 43, 3) := by decide +kernel
theorem dX3_lawHolds_22 : decode cX3_lawHolds 22 = .ok (.ifCond .eq 7, 3) := by decide +kernel
theorem dX3_lawHolds_25 : decode cX3_lawHolds 25 = .ok (.iconst 1, 1) := by decide +kernel
theorem dX3_lawHolds_26 : decode cX3_lawHolds 26 = .ok (.goto 4, 3) := by decide +kernel
theorem dX3_lawHolds_29 : decode cX3_lawHolds 29 = .ok (.iconst 0, 1) := by decide +kernel
theorem dX3_lawHolds_30 : decode cX3_lawHolds 30 = .ok (.ireturn, 1) := by decide +kernel
theorem dX3_between_0 : decode cX3_between 0 = .ok (.aload_n 0, 1) := by decide +kernel
theorem dX3_between_1 : decode cX3_between 1 = .ok (.getfield 9, 3) := by decide +kernel
theorem dX3_between_4 : decode cX3_between 4 = .ok (.iload_n 1, 1) := by decide +kernel
theorem dX3_between_5 : decode cX3_between 5 = .ok (.bipush 60, 2) := by decide +kernel
theorem dX3_between_7 : decode cX3_between 7 = .ok (.imul, 1) := by decide +kernel
theorem dX3_between_8 : decode cX3_between 8 = .ok (.iload_n 2, 1) := by decide +kernel
theorem dX3_between_9 : decode cX3_between 9 = .ok (.iadd, 1) := by decide +kernel
theorem dX3_between_10 : decode cX3_between 10 = .ok (.iaload, 1) := by decide +kernel
theorem dX3_between_11 : decode cX3_between 11 = .ok (.istore_n 3, 1) := by decide +kernel
theorem dX3_between_12 : decode cX3_between 12 = .ok (.iload_n 3, 1) := by decide +kernel
theorem dX3_between_13 : decode cX3_between 13 = .ok (.iconst (-1), 1) := by decide +kernel
theorem dX3_between_14 : decode cX3_between 14 = .ok (.if_icmp .ne 17, 3) := by decide +kernel
theorem dX3_between_17 : decode cX3_between 17 = .ok (.aload_n 0, 1) := by decide +kernel
theorem dX3_between_18 : decode cX3_between 18 = .ok (.iload_n 1, 1) := by decide +kernel
theorem dX3_between_19 : decode cX3_between 19 = .ok (.iload_n 2, 1) := by decide +kernel
theorem dX3_between_20 : decode cX3_between 20 = .ok (.invokevirtual 49, 3) := by decide +kernel
theorem dX3_between_23 : decode cX3_between 23 = .ok (.istore_n 3, 1) := by decide +kernel
theorem dX3_between_24 : decode cX3_between 24 = .ok (.aload_n 0, 1) := by decide +kernel
theorem dX3_between_25 : decode cX3_between 25 = .ok (.iload_n 1, 1) := by decide +kernel
theorem dX3_between_26 : decode cX3_between 26 = .ok (.iload_n 2, 1) := by decide +kernel
theorem dX3_between_27 : decode cX3_between 27 = .ok (.iload_n 3, 1) := by decide +kernel
theorem dX3_between_28 : decode cX3_between 28 = .ok (.invokevirtual 33, 3) := by decide +kernel
theorem dX3_between_31 : decode cX3_between 31 = .ok (.iload_n 3, 1) := by decide +kernel
theorem dX3_between_32 : decode cX3_between 32 = .ok (.ireturn, 1) := by decide +kernel
theorem dX3_at_0 : decode cX3_at 0 = .ok (.aload_n 0, 1) := by decide +kernel
theorem dX3_at_1 : decode cX3_at 1 = .ok (.getfield 9, 3) := by decide +kernel
theorem dX3_at_4 : decode cX3_at 4 = .ok (.iload_n 1, 1) := by decide +kernel
theorem dX3_at_5 : decode cX3_at 5 = .ok (.bipush 60, 2) := by decide +kernel
theorem dX3_at_7 : decode cX3_at 7 = .ok (.imul, 1) := by decide +kernel
theorem dX3_at_8 : decode cX3_at 8 = .ok (.iload_n 2, 1) := by decide +kernel
theorem dX3_at_9 : decode cX3_at 9 = .ok (.iadd, 1) := by decide +kernel
theorem dX3_at_10 : decode cX3_at 10 = .ok (.iaload, 1) := by decide +kernel
theorem dX3_at_11 : decode cX3_at 11 = .ok (.ireturn, 1) := by decide +kernel
theorem dX3_pairKey_0 : decode cX3_pairKey 0 = .ok (.iload_n 1, 1) := by decide +kernel
theorem dX3_pairKey_1 : decode cX3_pairKey 1 = .ok (.iload_n 2, 1) := by decide +kernel
theorem dX3_pairKey_2 : decode cX3_pairKey 2 = .ok (.invokestatic 53, 3) := by decide +kernel
theorem dX3_pairKey_5 : decode cX3_pairKey 5 = .ok (.bipush 60, 2) := by decide +kernel
theorem dX3_pairKey_7 : decode cX3_pairKey 7 = .ok (.imul, 1) := by decide +kernel
theorem dX3_pairKey_8 : decode cX3_pairKey 8 = .ok (.iload_n 1, 1) := by decide +kernel
theorem dX3_pairKey_9 : decode cX3_pairKey 9 = .ok (.iload_n 2, 1) := by decide +kernel
theorem dX3_pairKey_10 : decode cX3_pairKey 10 = .ok (.invokestatic 58, 3) := by decide +kernel
theorem dX3_pairKey_13 : decode cX3_pairKey 13 = .ok (.iadd, 1) := by decide +kernel
theorem dX3_pairKey_14 : decode cX3_pairKey 14 = .ok (.istore_n 3, 1) := by decide +kernel
theorem dX3_pairKey_15 : decode cX3_pairKey 15 = .ok (.aload_n 0, 1) := by decide +kernel
theorem dX3_pairKey_16 : decode cX3_pairKey 16 = .ok (.iload_n 1, 1) := by decide +kernel
theorem dX3_pairKey_17 : decode cX3_pairKey 17 = .ok (.iload_n 2, 1) := by decide +kernel
theorem dX3_pairKey_18 : decode cX3_pairKey 18 = .ok (.invokevirtual 61, 3) := by decide +kernel
theorem dX3_pairKey_21 : decode cX3_pairKey 21 = .ok (.sipush 3600, 3) := by decide +kernel
theorem dX3_pairKey_24 : decode cX3_pairKey 24 = .ok (.imul, 1) := by decide +kernel
theorem dX3_pairKey_25 : decode cX3_pairKey 25 = .ok (.iload_n 3, 1) := by decide +kernel
theorem dX3_pairKey_26 : decode cX3_pairKey 26 = .ok (.iadd, 1) := by decide +kernel
theorem dX3_pairKey_27 : decode cX3_pairKey 27 = .ok (.ireturn, 1) := by decide +kernel
theorem dX3_remember_0 : decode cX3_remember 0 = .ok (.aload_n 0, 1) := by decide +kernel
theorem dX3_remember_1 : decode cX3_remember 1 = .ok (.getfield 9, 3) := by decide +kernel
theorem dX3_remember_4 : decode cX3_remember 4 = .ok (.iload_n 1, 1) := by decide +kernel
theorem dX3_remember_5 : decode cX3_remember 5 = .ok (.bipush 60, 2) := by decide +kernel
theorem dX3_remember_7 : decode cX3_remember 7 = .ok (.imul, 1) := by decide +kernel
theorem dX3_remember_8 : decode cX3_remember 8 = .ok (.iload_n 2, 1) := by decide +kernel
theorem dX3_remember_9 : decode cX3_remember 9 = .ok (.iadd, 1) := by decide +kernel
theorem dX3_remember_10 : decode cX3_remember 10 = .ok (.iload_n 3, 1) := by decide +kernel
theorem dX3_remember_11 : decode cX3_remember 11 = .ok (.iastore, 1) := by decide +kernel
theorem dX3_remember_12 : decode cX3_remember 12 = .ok (.aload_n 0, 1) := by decide +kernel
theorem dX3_remember_13 : decode cX3_remember 13 = .ok (.getfield 9, 3) := by decide +kernel
theorem dX3_remember_16 : decode cX3_remember 16 = .ok (.iload_n 2, 1) := by decide +kernel
theorem dX3_remember_17 : decode cX3_remember 17 = .ok (.bipush 60, 2) := by decide +kernel
theorem dX3_remember_19 : decode cX3_remember 19 = .ok (.imul, 1) := by decide +kernel
theorem dX3_remember_20 : decode cX3_remember 20 = .ok (.iload_n 1, 1) := by decide +kernel
theorem dX3_remember_21 : decode cX3_remember 21 = .ok (.iadd, 1) := by decide +kernel
theorem dX3_remember_22 : decode cX3_remember 22 = .ok (.iload_n 3, 1) := by decide +kernel
theorem dX3_remember_23 : decode cX3_remember 23 = .ok (.iastore, 1) := by decide +kernel
theorem dX3_remember_24 : decode cX3_remember 24 = .ok (.return_, 1) := by decide +kernel
theorem dX3_measure_0 : decode cX3_measure 0 = .ok (.aload_n 0, 1) := by decide +kernel
theorem dX3_measure_1 : decode cX3_measure 1 = .ok (.getfield 15, 3) := by decide +kernel
theorem dX3_measure_4 : decode cX3_measure 4 = .ok (.tableswitch 96 1 5 #[36, 46, 56, 66, 86], 36) := by decide +kernel
theorem dX3_measure_40 : decode cX3_measure 40 = .ok (.aload_n 0, 1) := by decide +kernel
theorem dX3_measure_41 : decode cX3_measure 41 = .ok (.getfield 19, 3) := by decide +kernel
theorem dX3_measure_44 : decode cX3_measure 44 = .ok (.iload_n 1, 1) := by decide +kernel
theorem dX3_measure_45 : decode cX3_measure 45 = .ok (.iload_n 2, 1) := by decide +kernel
theorem dX3_measure_46 : decode cX3_measure 46 = .ok (.invokevirtual 64, 3) := by decide +kernel
theorem dX3_measure_49 : decode cX3_measure 49 = .ok (.ireturn, 1) := by decide +kernel
theorem dX3_measure_50 : decode cX3_measure 50 = .ok (.aload_n 0, 1) := by decide +kernel
theorem dX3_measure_51 : decode cX3_measure 51 = .ok (.getfield 19, 3) := by decide +kernel
theorem dX3_measure_54 : decode cX3_measure 54 = .ok (.iload_n 1, 1) := by decide +kernel
theorem dX3_measure_55 : decode cX3_measure 55 = .ok (.iload_n 2, 1) := by decide +kernel
theorem dX3_measure_56 : decode cX3_measure 56 = .ok (.invokevirtual 67, 3) := by decide +kernel
theorem dX3_measure_59 : decode cX3_measure 59 = .ok (.ireturn, 1) := by decide +kernel
theorem dX3_measure_60 : decode cX3_measure 60 = .ok (.aload_n 0, 1) := by decide +kernel
theorem dX3_measure_61 : decode cX3_measure 61 = .ok (.getfield 19, 3) := by decide +kernel
theorem dX3_measure_64 : decode cX3_measure 64 = .ok (.iload_n 1, 1) := by decide +kernel
theorem dX3_measure_65 : decode cX3_measure 65 = .ok (.iload_n 2, 1) := by decide +kernel
theorem dX3_measure_66 : decode cX3_measure 66 = .ok (.invokevirtual 70, 3) := by decide +kernel
theorem dX3_measure_69 : decode cX3_measure 69 = .ok (.ireturn, 1) := by decide +kernel
theorem dX3_measure_70 : decode cX3_measure 70 = .ok (.aload_n 0, 1) := by decide +kernel
theorem dX3_measure_71 : decode cX3_measure 71 = .ok (.getfield 19, 3) := by decide +kernel
theorem dX3_measure_74 : decode cX3_measure 74 = .ok (.iload_n 1, 1) := by decide +kernel
theorem dX3_measure_75 : decode cX3_measure 75 = .ok (.iload_n 2, 1) := by decide +kernel
theorem dX3_measure_76 : decode cX3_measure 76 = .ok (.invokevirtual 73, 3) := by decide +kernel
theorem dX3_measure_79 : decode cX3_measure 79 = .ok (.aload_n 0, 1) := by decide +kernel
theorem dX3_measure_80 : decode cX3_measure 80 = .ok (.getfield 19, 3) := by decide +kernel
theorem dX3_measure_83 : decode cX3_measure 83 = .ok (.iload_n 2, 1) := by decide +kernel
theorem dX3_measure_84 : decode cX3_measure 84 = .ok (.iload_n 1, 1) := by decide +kernel
theorem dX3_measure_85 : decode cX3_measure 85 = .ok (.invokevirtual 73, 3) := by decide +kernel
theorem dX3_measure_88 : decode cX3_measure 88 = .ok (.iadd, 1) := by decide +kernel
theorem dX3_measure_89 : decode cX3_measure 89 = .ok (.ireturn, 1) := by decide +kernel
theorem dX3_measure_90 : decode cX3_measure 90 = .ok (.aload_n 0, 1) := by decide +kernel
theorem dX3_measure_91 : decode cX3_measure 91 = .ok (.getfield 23, 3) := by decide +kernel
theorem dX3_measure_94 : decode cX3_measure 94 = .ok (.iload_n 1, 1) := by decide +kernel
theorem dX3_measure_95 : decode cX3_measure 95 = .ok (.iload_n 2, 1) := by decide +kernel
theorem dX3_measure_96 : decode cX3_measure 96 = .ok (.invokevirtual 76, 3) := by decide +kernel
theorem dX3_measure_99 : decode cX3_measure 99 = .ok (.ireturn, 1) := by decide +kernel
theorem dX3_measure_100 : decode cX3_measure 100 = .ok (.aload_n 0, 1) := by decide +kernel
theorem dX3_measure_101 : decode cX3_measure 101 = .ok (.getfield 19, 3) := by decide +kernel
theorem dX3_measure_104 : decode cX3_measure 104 = .ok (.iload_n 1, 1) := by decide +kernel
theorem dX3_measure_105 : decode cX3_measure 105 = .ok (.iload_n 2, 1) := by decide +kernel
theorem dX3_measure_106 : decode cX3_measure 106 = .ok (.invokevirtual 79, 3) := by decide +kernel
theorem dX3_measure_109 : decode cX3_measure 109 = .ok (.ireturn, 1) := by decide +kernel
theorem dX4_init_0 : decode cX4_init 0 = .ok (.aload_n 0, 1) := by decide +kernel
theorem dX4_init_1 : decode cX4_init 1 = .ok (.invokespecial 3, 3) := by decide +kernel
theorem dX4_init_4 : decode cX4_init 4 = .ok (.aload_n 0, 1) := by decide +kernel
theorem dX4_init_5 : decode cX4_init 5 = .ok (.bipush 60, 2) := by decide +kernel
theorem dX4_init_7 : decode cX4_init 7 = .ok (.newarray .int, 2) := by decide +kernel
theorem dX4_init_9 : decode cX4_init 9 = .ok (.putfield 9, 3) := by decide +kernel
theorem dX4_init_12 : decode cX4_init 12 = .ok (.aload_n 0, 1) := by decide +kernel
theorem dX4_init_13 : decode cX4_init 13 = .ok (.iconst 0, 1) := by decide +kernel
theorem dX4_init_14 : decode cX4_init 14 = .ok (.putfield 15, 3) := by decide +kernel
theorem dX4_init_17 : decode cX4_init 17 = .ok (.return_, 1) := by decide +kernel
theorem dX4_size_0 : decode cX4_size 0 = .ok (.aload_n 0, 1) := by decide +kernel
theorem dX4_size_1 : decode cX4_size 1 = .ok (.getfield 15, 3) := by decide +kernel
theorem dX4_size_4 : decode cX4_size 4 = .ok (.ireturn, 1) := by decide +kernel
theorem dX4_at_0 : decode cX4_at 0 = .ok (.aload_n 0, 1) := by decide +kernel
theorem dX4_at_1 : decode cX4_at 1 = .ok (.getfield 9, 3) := by decide +kernel
theorem dX4_at_4 : decode cX4_at 4 = .ok (.iload_n 1, 1) := by decide +kernel
theorem dX4_at_5 : decode cX4_at 5 = .ok (.iaload, 1) := by decide +kernel
theorem dX4_at_6 : decode cX4_at 6 = .ok (.ireturn, 1) := by decide +kernel
theorem dX4_clear_0 : decode cX4_clear 0 = .ok (.aload_n 0, 1) := by decide +kernel
theorem dX4_clear_1 : decode cX4_clear 1 = .ok (.iconst 0, 1) := by decide +kernel
theorem dX4_clear_2 : decode cX4_clear 2 = .ok (.putfield 15, 3) := by decide +kernel
theorem dX4_clear_5 : decode cX4_clear 5 = .ok (.return_, 1) := by decide +kernel
theorem dX4_insert_0 : decode cX4_insert 0 = .ok (.aload_n 0, 1) := by decide +kernel
theorem dX4_insert_1 : decode cX4_insert 1 = .ok (.getfield 15, 3) := by decide +kernel
theorem dX4_insert_4 : decode cX4_insert 4 = .ok (.bipush 60, 2) := by decide +kernel
theorem dX4_insert_6 : decode cX4_insert 6 = .ok (.if_icmp .lt 4, 3) := by decide +kernel
theorem dX4_insert_9 : decode cX4_insert 9 = .ok (.return_, 1) := by decide +kernel
theorem dX4_insert_10 : decode cX4_insert 10 = .ok (.aload_n 0, 1) := by decide +kernel
theorem dX4_insert_11 : decode cX4_insert 11 = .ok (.getfield 15, 3) := by decide +kernel
theorem dX4_insert_14 : decode cX4_insert 14 = .ok (.istore_n 2, 1) := by decide +kernel
theorem dX4_insert_15 : decode cX4_insert 15 = .ok (.iload_n 2, 1) := by decide +kernel
theorem dX4_insert_16 : decode cX4_insert 16 = .ok (.ifCond .le 35, 3) := by decide +kernel
theorem dX4_insert_19 : decode cX4_insert 19 = .ok (.aload_n 0, 1) := by decide +kernel
theorem dX4_insert_20 : decode cX4_insert 20 = .ok (.getfield 9, 3) := by decide +kernel
theorem dX4_insert_23 : decode cX4_insert 23 = .ok (.iload_n 2, 1) := by decide +kernel
theorem dX4_insert_24 : decode cX4_insert 24 = .ok (.iconst 1, 1) := by decide +kernel
theorem dX4_insert_25 : decode cX4_insert 25 = .ok (.isub, 1) := by decide +kernel
theorem dX4_insert_26 : decode cX4_insert 26 = .ok (.iaload, 1) := by decide +kernel
theorem dX4_insert_27 : decode cX4_insert 27 = .ok (.iload_n 1, 1) := by decide +kernel
theorem dX4_insert_28 : decode cX4_insert 28 = .ok (.if_icmp .le 23, 3) := by decide +kernel
theorem dX4_insert_31 : decode cX4_insert 31 = .ok (.aload_n 0, 1) := by decide +kernel
theorem dX4_insert_32 : decode cX4_insert 32 = .ok (.getfield 9, 3) := by decide +kernel
theorem dX4_insert_35 : decode cX4_insert 35 = .ok (.iload_n 2, 1) := by decide +kernel
theorem dX4_insert_36 : decode cX4_insert 36 = .ok (.aload_n 0, 1) := by decide +kernel
theorem dX4_insert_37 : decode cX4_insert 37 = .ok (.getfield 9, 3) := by decide +kernel
theorem dX4_insert_40 : decode cX4_insert 40 = .ok (.iload_n 2, 1) := by decide +kernel
theorem dX4_insert_41 : decode cX4_insert 41 = .ok (.iconst 1, 1) := by decide +kernel
theorem dX4_insert_42 : decode cX4_insert 42 = .ok (.isub, 1) := by decide +kernel
theorem dX4_insert_43 : decode cX4_insert 43 = .ok (.iaload, 1) := by decide +kernel
theorem dX4_insert_44 : decode cX4_insert 44 = .ok (.iastore, 1) := by decide +kernel
theorem dX4_insert_45 : decode cX4_insert 45 = .ok (.iinc 2 (-1), 3) := by decide +kernel
theorem dX4_insert_48 : decode cX4_insert 48 = .ok (.goto (-33), 3) := by decide +kernel
theorem dX4_insert_51 : decode cX4_insert 51 = .ok (.aload_n 0, 1) := by decide +kernel
theorem dX4_insert_52 : decode cX4_insert 52 = .ok (.getfield 9, 3) := by decide +kernel
theorem dX4_insert_55 : decode cX4_insert 55 = .ok (.iload_n 2, 1) := by decide +kernel
theorem dX4_insert_56 : decode cX4_insert 56 = .ok (.iload_n 1, 1) := by decide +kernel
theorem dX4_insert_57 : decode cX4_insert 57 = .ok (.iastore, 1) := by decide +kernel
theorem dX4_insert_58 : decode cX4_insert 58 = .ok (.aload_n 0, 1) := by decide +kernel
theorem dX4_insert_59 : decode cX4_insert 59 = .ok (.dup, 1) := by decide +kernel
theorem dX4_insert_60 : decode cX4_insert 60 = .ok (.getfield 15, 3) := by decide +kernel
theorem dX4_insert_63 : decode cX4_insert 63 = .ok (.iconst 1, 1) := by decide +kernel
theorem dX4_insert_64 : decode cX4_insert 64 = .ok (.iadd, 1) := by decide +kernel
theorem dX4_insert_65 : decode cX4_insert 65 = .ok (.putfield 15, 3) := by decide +kernel
theorem dX4_insert_68 : decode cX4_insert 68 = .ok (.return_, 1) := by decide +kernel
theorem dX5_init_0 : decode cX5_init 0 = .ok (.aload_n 0, 1) := by decide +kernel
theorem dX5_init_1 : decode cX5_init 1 = .ok (.invokespecial 3, 3) := by decide +kernel
theorem dX5_init_4 : decode cX5_init 4 = .ok (.aload_n 0, 1) := by decide +kernel
theorem dX5_init_5 : decode cX5_init 5 = .ok (.bipush 60, 2) := by decide +kernel
theorem dX5_init_7 : decode cX5_init 7 = .ok (.newarray .int, 2) := by decide +kernel
theorem dX5_init_9 : decode cX5_init 9 = .ok (.putfield 9, 3) := by decide +kernel
theorem dX5_init_12 : decode cX5_init 12 = .ok (.aload_n 0, 1) := by decide +kernel
theorem dX5_init_13 : decode cX5_init 13 = .ok (.iconst 0, 1) := by decide +kernel
theorem dX5_init_14 : decode cX5_init 14 = .ok (.putfield 15, 3) := by decide +kernel
theorem dX5_init_17 : decode cX5_init 17 = .ok (.return_, 1) := by decide +kernel
theorem dX5_size_0 : decode cX5_size 0 = .ok (.aload_n 0, 1) := by decide +kernel
theorem dX5_size_1 : decode cX5_size 1 = .ok (.getfield 15, 3) := by decide +kernel
theorem dX5_size_4 : decode cX5_size 4 = .ok (.ireturn, 1) := by decide +kernel
theorem dX5_at_0 : decode cX5_at 0 = .ok (.aload_n 0, 1) := by decide +kernel
theorem dX5_at_1 : decode cX5_at 1 = .ok (.getfield 9, 3) := by decide +kernel
theorem dX5_at_4 : decode cX5_at 4 = .ok (.iload_n 1, 1) := by decide +kernel
theorem dX5_at_5 : decode cX5_at 5 = .ok (.iaload, 1) := by decide +kernel
theorem dX5_at_6 : decode cX5_at 6 = .ok (.ireturn, 1) := by decide +kernel
theorem dX5_holds_0 : decode cX5_holds 0 = .ok (.aload_n 0, 1) := by decide +kernel
theorem dX5_holds_1 : decode cX5_holds 1 = .ok (.iload_n 1, 1) := by decide +kernel
theorem dX5_holds_2 : decode cX5_holds 2 = .ok (.invokevirtual 19, 3) := by decide +kernel
theorem dX5_holds_5 : decode cX5_holds 5 = .ok (.istore_n 2, 1) := by decide +kernel
theorem dX5_holds_6 : decode cX5_holds 6 = .ok (.iload_n 2, 1) := by decide +kernel
theorem dX5_holds_7 : decode cX5_holds 7 = .ok (.aload_n 0, 1) := by decide +kernel
theorem dX5_holds_8 : decode cX5_holds 8 = .ok (.getfield 15, 3) := by decide +kernel
theorem dX5_holds_11 : decode cX5_holds 11 = .ok (.if_icmp .ge 17, 3) := by decide +kernel
theorem dX5_holds_14 : decode cX5_holds 14 = .ok (.aload_n 0, 1) := by decide +kernel
theorem dX5_holds_15 : decode cX5_holds 15 = .ok (.getfield 9, 3) := by decide +kernel
theorem dX5_holds_18 : decode cX5_holds 18 = .ok (.iload_n 2, 1) := by decide +kernel
theorem dX5_holds_19 : decode cX5_holds 19 = .ok (.iaload, 1) := by decide +kernel
theorem dX5_holds_20 : decode cX5_holds 20 = .ok (.iload_n 1, 1) := by decide +kernel
theorem dX5_holds_21 : decode cX5_holds 21 = .ok (.if_icmp .ne 7, 3) := by decide +kernel
theorem dX5_holds_24 : decode cX5_holds 24 = .ok (.iconst 1, 1) := by decide +kernel
theorem dX5_holds_25 : decode cX5_holds 25 = .ok (.goto 4, 3) := by decide +kernel
theorem dX5_holds_28 : decode cX5_holds 28 = .ok (.iconst 0, 1) := by decide +kernel
theorem dX5_holds_29 : decode cX5_holds 29 = .ok (.ireturn, 1) := by decide +kernel
theorem dX5_insert_0 : decode cX5_insert 0 = .ok (.aload_n 0, 1) := by decide +kernel
theorem dX5_insert_1 : decode cX5_insert 1 = .ok (.getfield 15, 3) := by decide +kernel
theorem dX5_insert_4 : decode cX5_insert 4 = .ok (.bipush 60, 2) := by decide +kernel
theorem dX5_insert_6 : decode cX5_insert 6 = .ok (.if_icmp .lt 4, 3) := by decide +kernel
theorem dX5_insert_9 : decode cX5_insert 9 = .ok (.return_, 1) := by decide +kernel
theorem dX5_insert_10 : decode cX5_insert 10 = .ok (.aload_n 0, 1) := by decide +kernel
theorem dX5_insert_11 : decode cX5_insert 11 = .ok (.iload_n 1, 1) := by decide +kernel
theorem dX5_insert_12 : decode cX5_insert 12 = .ok (.invokevirtual 19, 3) := by decide +kernel
theorem dX5_insert_15 : decode cX5_insert 15 = .ok (.istore_n 2, 1) := by decide +kernel
theorem dX5_insert_16 : decode cX5_insert 16 = .ok (.aload_n 0, 1) := by decide +kernel
theorem dX5_insert_17 : decode cX5_insert 17 = .ok (.getfield 15, 3) := by decide +kernel
theorem dX5_insert_20 : decode cX5_insert 20 = .ok (.istore_n 3, 1) := by decide +kernel
theorem dX5_insert_21 : decode cX5_insert 21 = .ok (.iload_n 3, 1) := by decide +kernel
theorem dX5_insert_22 : decode cX5_insert 22 = .ok (.iload_n 2, 1) := by decide +kernel
theorem dX5_insert_23 : decode cX5_insert 23 = .ok (.if_icmp .le 23, 3) := by decide +kernel
theorem dX5_insert_26 : decode cX5_insert 26 = .ok (.aload_n 0, 1) := by decide +kernel
theorem dX5_insert_27 : decode cX5_insert 27 = .ok (.getfield 9, 3) := by decide +kernel
theorem dX5_insert_30 : decode cX5_insert 30 = .ok (.iload_n 3, 1) := by decide +kernel
theorem dX5_insert_31 : decode cX5_insert 31 = .ok (.aload_n 0, 1) := by decide +kernel
theorem dX5_insert_32 : decode cX5_insert 32 = .ok (.getfield 9, 3) := by decide +kernel
theorem dX5_insert_35 : decode cX5_insert 35 = .ok (.iload_n 3, 1) := by decide +kernel
theorem dX5_insert_36 : decode cX5_insert 36 = .ok (.iconst 1, 1) := by decide +kernel
theorem dX5_insert_37 : decode cX5_insert 37 = .ok (.isub, 1) := by decide +kernel
theorem dX5_insert_38 : decode cX5_insert 38 = .ok (.iaload, 1) := by decide +kernel
theorem dX5_insert_39 : decode cX5_insert 39 = .ok (.iastore, 1) := by decide +kernel
theorem dX5_insert_40 : decode cX5_insert 40 = .ok (.iinc 3 (-1), 3) := by decide +kernel
theorem dX5_insert_43 : decode cX5_insert 43 = .ok (.goto (-22), 3) := by decide +kernel
theorem dX5_insert_46 : decode cX5_insert 46 = .ok (.aload_n 0, 1) := by decide +kernel
theorem dX5_insert_47 : decode cX5_insert 47 = .ok (.getfield 9, 3) := by decide +kernel
theorem dX5_insert_50 : decode cX5_insert 50 = .ok (.iload_n 2, 1) := by decide +kernel
theorem dX5_insert_51 : decode cX5_insert 51 = .ok (.iload_n 1, 1) := by decide +kernel
theorem dX5_insert_52 : decode cX5_insert 52 = .ok (.iastore, 1) := by decide +kernel
theorem dX5_insert_53 : decode cX5_insert 53 = .ok (.aload_n 0, 1) := by decide +kernel
theorem dX5_insert_54 : decode cX5_insert 54 = .ok (.dup, 1) := by decide +kernel
theorem dX5_insert_55 : decode cX5_insert 55 = .ok (.getfield 15, 3) := by decide +kernel
theorem dX5_insert_58 : decode cX5_insert 58 = .ok (.iconst 1, 1) := by decide +kernel
theorem dX5_insert_59 : decode cX5_insert 59 = .ok (.iadd, 1) := by decide +kernel
theorem dX5_insert_60 : decode cX5_insert 60 = .ok (.putfield 15, 3) := by decide +kernel
theorem dX5_insert_63 : decode cX5_insert 63 = .ok (.return_, 1) := by decide +kernel
theorem dX5_remove_0 : decode cX5_remove 0 = .ok (.aload_n 0, 1) := by decide +kernel
theorem dX5_remove_1 : decode cX5_remove 1 = .ok (.dup, 1) := by decide +kernel
theorem dX5_remove_2 : decode cX5_remove 2 = .ok (.getfield 15, 3) := by decide +kernel
theorem dX5_remove_5 : decode cX5_remove 5 = .ok (.iconst 1, 1) := by decide +kernel
theorem dX5_remove_6 : decode cX5_remove 6 = .ok (.isub, 1) := by decide +kernel
theorem dX5_remove_7 : decode cX5_remove 7 = .ok (.putfield 15, 3) := by decide +kernel
theorem dX5_remove_10 : decode cX5_remove 10 = .ok (.aload_n 0, 1) := by decide +kernel
theorem dX5_remove_11 : decode cX5_remove 11 = .ok (.iload_n 1, 1) := by decide +kernel
theorem dX5_remove_12 : decode cX5_remove 12 = .ok (.invokevirtual 19, 3) := by decide +kernel
theorem dX5_remove_15 : decode cX5_remove 15 = .ok (.istore_n 2, 1) := by decide +kernel
theorem dX5_remove_16 : decode cX5_remove 16 = .ok (.iload_n 2, 1) := by decide +kernel
theorem dX5_remove_17 : decode cX5_remove 17 = .ok (.aload_n 0, 1) := by decide +kernel
theorem dX5_remove_18 : decode cX5_remove 18 = .ok (.getfield 15, 3) := by decide +kernel
theorem dX5_remove_21 : decode cX5_remove 21 = .ok (.if_icmp .ge 23, 3) := by decide +kernel
theorem dX5_remove_24 : decode cX5_remove 24 = .ok (.aload_n 0, 1) := by decide +kernel
theorem dX5_remove_25 : decode cX5_remove 25 = .ok (.getfield 9, 3) := by decide +kernel
theorem dX5_remove_28 : decode cX5_remove 28 = .ok (.iload_n 2, 1) := by decide +kernel
theorem dX5_remove_29 : decode cX5_remove 29 = .ok (.aload_n 0, 1) := by decide +kernel
theorem dX5_remove_30 : decode cX5_remove 30 = .ok (.getfield 9, 3) := by decide +kernel
theorem dX5_remove_33 : decode cX5_remove 33 = .ok (.iload_n 2, 1) := by decide +kernel
theorem dX5_remove_34 : decode cX5_remove 34 = .ok (.iconst 1, 1) := by decide +kernel
theorem dX5_remove_35 : decode cX5_remove 35 = .ok (.iadd, 1) := by decide +kernel
theorem dX5_remove_36 : decode cX5_remove 36 = .ok (.iaload, 1) := by decide +kernel
theorem dX5_remove_37 : decode cX5_remove 37 = .ok (.iastore, 1) := by decide +kernel
theorem dX5_remove_38 : decode cX5_remove 38 = .ok (.iinc 2 1, 3) := by decide +kernel
theorem dX5_remove_41 : decode cX5_remove 41 = .ok (.goto (-25), 3) := by decide +kernel
theorem dX5_remove_44 : decode cX5_remove 44 = .ok (.return_, 1) := by decide +kernel
theorem dX5_spotOf_0 : decode cX5_spotOf 0 = .ok (.iconst 0, 1) := by decide +kernel
theorem dX5_spotOf_1 : decode cX5_spotOf 1 = .ok (.istore_n 2, 1) := by decide +kernel
theorem dX5_spotOf_2 : decode cX5_spotOf 2 = .ok (.iload_n 2, 1) := by decide +kernel
theorem dX5_spotOf_3 : decode cX5_spotOf 3 = .ok (.aload_n 0, 1) := by decide +kernel
theorem dX5_spotOf_4 : decode cX5_spotOf 4 = .ok (.getfield 15, 3) := by decide +kernel
theorem dX5_spotOf_7 : decode cX5_spotOf 7 = .ok (.if_icmp .ge 19, 3) := by decide +kernel
theorem dX5_spotOf_10 : decode cX5_spotOf 10 = .ok (.aload_n 0, 1) := by decide +kernel
theorem dX5_spotOf_11 : decode cX5_spotOf 11 = .ok (.getfield 9, 3) := by decide +kernel
theorem dX5_spotOf_14 : decode cX5_spotOf 14 = .ok (.iload_n 2, 1) := by decide +kernel
theorem dX5_spotOf_15 : decode cX5_spotOf 15 = .ok (.iaload, 1) := by decide +kernel
theorem dX5_spotOf_16 : decode cX5_spotOf 16 = .ok (.iload_n 1, 1) := by decide +kernel
theorem dX5_spotOf_17 : decode cX5_spotOf 17 = .ok (.if_icmp .ge 9, 3) := by decide +kernel
theorem dX5_spotOf_20 : decode cX5_spotOf 20 = .ok (.iinc 2 1, 3) := by decide +kernel
theorem dX5_spotOf_23 : decode cX5_spotOf 23 = .ok (.goto (-21), 3) := by decide +kernel
theorem dX5_spotOf_26 : decode cX5_spotOf 26 = .ok (.iload_n 2, 1) := by decide +kernel
theorem dX5_spotOf_27 : decode cX5_spotOf 27 = .ok (.ireturn, 1) := by decide +kernel
theorem dX6_init_0 : decode cX6_init 0 = .ok (.aload_n 0, 1) := by decide +kernel
theorem dX6_init_1 : decode cX6_init 1 = .ok (.invokespecial 3, 3) := by decide +kernel
theorem dX6_init_4 : decode cX6_init 4 = .ok (.aload_n 0, 1) := by decide +kernel
theorem dX6_init_5 : decode cX6_init 5 = .ok (.bipush 60, 2) := by decide +kernel
theorem dX6_init_7 : decode cX6_init 7 = .ok (.newarray .int, 2) := by decide +kernel
theorem dX6_init_9 : decode cX6_init 9 = .ok (.putfield 9, 3) := by decide +kernel
theorem dX6_init_12 : decode cX6_init 12 = .ok (.aload_n 0, 1) := by decide +kernel
theorem dX6_init_13 : decode cX6_init 13 = .ok (.aload_n 1, 1) := by decide +kernel
theorem dX6_init_14 : decode cX6_init 14 = .ok (.putfield 15, 3) := by decide +kernel
theorem dX6_init_17 : decode cX6_init 17 = .ok (.aload_n 0, 1) := by decide +kernel
theorem dX6_init_18 : decode cX6_init 18 = .ok (.aload_n 2, 1) := by decide +kernel
theorem dX6_init_19 : decode cX6_init 19 = .ok (.putfield 19, 3) := by decide +kernel
theorem dX6_init_22 : decode cX6_init 22 = .ok (.return_, 1) := by decide +kernel
theorem dX6_gather_0 : decode cX6_gather 0 = .ok (.iconst 0, 1) := by decide +kernel
theorem dX6_gather_1 : decode cX6_gather 1 = .ok (.istore_n 2, 1) := by decide +kernel
theorem dX6_gather_2 : decode cX6_gather 2 = .ok (.iload_n 2, 1) := by decide +kernel
theorem dX6_gather_3 : decode cX6_gather 3 = .ok (.aload_n 0, 1) := by decide +kernel
theorem dX6_gather_4 : decode cX6_gather 4 = .ok (.getfield 15, 3) := by decide +kernel
theorem dX6_gather_7 : decode cX6_gather 7 = .ok (.invokevirtual 23, 3) := by decide +kernel
theorem dX6_gather_10 : decode cX6_gather 10 = .ok (.if_icmp .ge 30, 3) := by decide +kernel
theorem dX6_gather_13 : decode cX6_gather 13 = .ok (.aload_n 0, 1) := by decide +kernel
theorem dX6_gather_14 : decode cX6_gather 14 = .ok (.getfield 9, 3) := by decide +kernel
theorem dX6_gather_17 : decode cX6_gather 17 = .ok (.aload_n 0, 1) := by decide +kernel
theorem dX6_gather_18 : decode cX6_gather 18 = .ok (.getfield 15, 3) := by decide +kernel
theorem dX6_gather_21 : decode cX6_gather 21 = .ok (.iload_n 2, 1) := by decide +kernel
theorem dX6_gather_22 : decode cX6_gather 22 = .ok (.invokevirtual 29, 3) := by decide +kernel
theorem dX6_gather_25 : decode cX6_gather 25 = .ok (.aload_n 0, 1) := by decide +kernel
theorem dX6_gather_26 : decode cX6_gather 26 = .ok (.getfield 15, 3) := by decide +kernel
theorem dX6_gather_29 : decode cX6_gather 29 = .ok (.iload_n 2, 1) := by decide +kernel
theorem dX6_gather_30 : decode cX6_gather 30 = .ok (.invokevirtual 29, 3) := by decide +kernel
theorem dX6_gather_33 : decode cX6_gather 33 = .ok (.iastore, 1) := by decide +kernel
theorem dX6_gather_34 : decode cX6_gather 34 = .ok (.iinc 2 1, 3) := by decide +kernel
theorem dX6_gather_37 : decode cX6_gather 37 = .ok (.goto (-35), 3) := by decide +kernel
theorem dX6_gather_40 : decode cX6_gather 40 = .ok (.iconst 1, 1) := by decide +kernel
theorem dX6_gather_41 : decode cX6_gather 41 = .ok (.istore_n 2, 1) := by decide +kernel
theorem dX6_gather_42 : decode cX6_gather 42 = .ok (.iload_n 2, 1) := by decide +kernel
theorem dX6_gather_43 : decode cX6_gather 43 = .ok (.aload_n 0, 1) := by decide +kernel
theorem dX6_gather_44 : decode cX6_gather 44 = .ok (.getfield 15, 3) := by decide +kernel
theorem dX6_gather_47 : decode cX6_gather 47 = .ok (.invokevirtual 23, 3) := by decide +kernel
theorem dX6_gather_50 : decode cX6_gather 50 = .ok (.if_icmp .ge 79, 3) := by decide +kernel
theorem dX6_gather_53 : decode cX6_gather 53 = .ok (.iconst 0, 1) := by decide +kernel
theorem dX6_gather_54 : decode cX6_gather 54 = .ok (.istore_n 3, 1) := by decide +kernel
theorem dX6_gather_55 : decode cX6_gather 55 = .ok (.iload_n 3, 1) := by decide +kernel
theorem dX6_gather_56 : decode cX6_gather 56 = .ok (.iload_n 2, 1) := by decide +kernel
theorem dX6_gather_57 : decode cX6_gather 57 = .ok (.if_icmp .ge 66, 3) := by decide +kernel
theorem dX6_gather_60 : decode cX6_gather 60 = .ok (.aload_n 0, 1) := by decide +kernel
theorem dX6_gather_61 : decode cX6_gather 61 = .ok (.getfield 19, 3) := by decide +kernel
theorem dX6_gather_64 : decode cX6_gather 64 = .ok (.aload_n 0, 1) := by decide +kernel
theorem dX6_gather_65 : decode cX6_gather 65 = .ok (.getfield 15, 3) := by decide +kernel
theorem dX6_gather_68 : decode cX6_gather 68 = .ok (.iload_n 2, 1) := by decide +kernel
theorem dX6_gather_69 : decode cX6_gather 69 = .ok (.invokevirtual 29, 3) := by decide +kernel
theorem dX6_gather_72 : decode cX6_gather 72 = .ok (.aload_n 0, 1) := by decide +kernel
theorem dX6_gather_73 : decode cX6_gather 73 = .ok (.getfield 15, 3) := by decide +kernel
theorem dX6_gather_76 : decode cX6_gather 76 = .ok (.iload_n 3, 1) := by decide +kernel
theorem dX6_gather_77 : decode cX6_gather 77 = .ok (.invokevirtual 29, 3) := by decide +kernel
theorem dX6_gather_80 : decode cX6_gather 80 = .ok (.invokevirtual 33, 3) := by decide +kernel
theorem dX6_gather_83 : decode cX6_gather 83 = .ok (.iload_n 1, 1) := by decide +kernel
theorem dX6_gather_84 : decode cX6_gather 84 = .ok (.if_icmp .gt 33, 3) := by decide +kernel
theorem dX6_gather_87 : decode cX6_gather 87 = .ok (.aload_n 0, 1) := by decide +kernel
theorem dX6_gather_88 : decode cX6_gather 88 = .ok (.aload_n 0, 1) := by decide +kernel
theorem dX6_gather_89 : decode cX6_gather 89 = .ok (.getfield 9, 3) := by decide +kernel
theorem dX6_gather_92 : decode cX6_gather 92 = .ok (.aload_n 0, 1) := by decide +kernel
theorem dX6_gather_93 : decode cX6_gather 93 = .ok (.getfield 15, 3) := by decide +kernel
theorem dX6_gather_96 : decode cX6_gather 96 = .ok (.iload_n 2, 1) := by decide +kernel
theorem dX6_gather_97 : decode cX6_gather 97 = .ok (.invokevirtual 29, 3) := by decide +kernel
theorem dX6_gather_100 : decode cX6_gather 100 = .ok (.iaload, 1) := by decide +kernel
theorem dX6_gather_101 : decode cX6_gather 101 = .ok (.aload_n 0, 1) := by decide +kernel
theorem dX6_gather_102 : decode cX6_gather 102 = .ok (.getfield 9, 3) := by decide +kernel
theorem dX6_gather_105 : decode cX6_gather 105 = .ok (.aload_n 0, 1) := by decide +kernel
theorem dX6_gather_106 : decode cX6_gather 106 = .ok (.getfield 15, 3) := by decide +kernel
theorem dX6_gather_109 : decode cX6_gather 109 = .ok (.iload_n 3, 1) := by decide +kernel
theorem dX6_gather_110 : decode cX6_gather 110 = .ok (.invokevirtual 29, 3) := by decide +kernel
theorem dX6_gather_113 : decode cX6_gather 113 = .ok (.iaload, 1) := by decide +kernel
theorem dX6_gather_114 : decode cX6_gather 114 = .ok (.invokevirtual 38, 3) := by decide +kernel
theorem dX6_gather_117 : decode cX6_gather 117 = .ok (.iinc 3 1, 3) := by decide +kernel
theorem dX6_gather_120 : decode cX6_gather 120 = .ok (.goto (-65), 3) := by decide +kernel
theorem dX6_gather_123 : decode cX6_gather 123 = .ok (.iinc 2 1, 3) := by decide +kernel
theorem dX6_gather_126 : decode cX6_gather 126 = .ok (.goto (-84), 3) := by decide +kernel
theorem dX6_gather_129 : decode cX6_gather 129 = .ok (.return_, 1) := by decide +kernel
theorem dX6_howMany_0 : decode cX6_howMany 0 = .ok (.iconst 0, 1) := by decide +kernel
theorem dX6_howMany_1 : decode cX6_howMany 1 = .ok (.istore_n 1, 1) := by decide +kernel
theorem dX6_howMany_2 : decode cX6_howMany 2 = .ok (.iconst 0, 1) := by decide +kernel
theorem dX6_howMany_3 : decode cX6_howMany 3 = .ok (.istore_n 2, 1) := by decide +kernel
theorem dX6_howMany_4 : decode cX6_howMany 4 = .ok (.iload_n 2, 1) := by decide +kernel
theorem dX6_howMany_5 : decode cX6_howMany 5 = .ok (.aload_n 0, 1) := by decide +kernel
theorem dX6_howMany_6 : decode cX6_howMany 6 = .ok (.getfield 15, 3) := by decide +kernel
theorem dX6_howMany_9 : decode cX6_howMany 9 = .ok (.invokevirtual 23, 3) := by decide +kernel
theorem dX6_howMany_12 : decode cX6_howMany 12 = .ok (.if_icmp .ge 36, 3) := by decide +kernel
theorem dX6_howMany_15 : decode cX6_howMany 15 = .ok (.aload_n 0, 1) := by decide +kernel
theorem dX6_howMany_16 : decode cX6_howMany 16 = .ok (.getfield 9, 3) := by decide +kernel
theorem dX6_howMany_19 : decode cX6_howMany 19 = .ok (.aload_n 0, 1) := by decide +kernel
theorem dX6_howMany_20 : decode cX6_howMany 20 = .ok (.getfield 15, 3) := by decide +kernel
theorem dX6_howMany_23 : decode cX6_howMany 23 = .ok (.iload_n 2, 1) := by decide +kernel
theorem dX6_howMany_24 : decode cX6_howMany 24 = .ok (.invokevirtual 29, 3) := by decide +kernel
theorem dX6_howMany_27 : decode cX6_howMany 27 = .ok (.iaload, 1) := by decide +kernel
theorem dX6_howMany_28 : decode cX6_howMany 28 = .ok (.aload_n 0, 1) := by decide +kernel
theorem dX6_howMany_29 : decode cX6_howMany 29 = .ok (.getfield 15, 3) := by decide +kernel
theorem dX6_howMany_32 : decode cX6_howMany 32 = .ok (.iload_n 2, 1) := by decide +kernel
theorem dX6_howMany_33 : decode cX6_howMany 33 = .ok (.invokevirtual 29, 3) := by decide +kernel
theorem dX6_howMany_36 : decode cX6_howMany 36 = .ok (.if_icmp .ne 6, 3) := by decide +kernel
theorem dX6_howMany_39 : decode cX6_howMany 39 = .ok (.iinc 1 1, 3) := by decide +kernel
theorem dX6_howMany_42 : decode cX6_howMany 42 = .ok (.iinc 2 1, 3) := by decide +kernel
theorem dX6_howMany_45 : decode cX6_howMany 45 = .ok (.goto (-41), 3) := by decide +kernel
theorem dX6_howMany_48 : decode cX6_howMany 48 = .ok (.iload_n 1, 1) := by decide +kernel
theorem dX6_howMany_49 : decode cX6_howMany 49 = .ok (.ireturn, 1) := by decide +kernel
theorem dX6_lowestWith_0 : decode cX6_lowestWith 0 = .ok (.aload_n 0, 1) := by decide +kernel
theorem dX6_lowestWith_1 : decode cX6_lowestWith 1 = .ok (.getfield 9, 3) := by decide +kernel
theorem dX6_lowestWith_4 : decode cX6_lowestWith 4 = .ok (.iload_n 1, 1) := by decide +kernel
theorem dX6_lowestWith_5 : decode cX6_lowestWith 5 = .ok (.iaload, 1) := by decide +kernel
theorem dX6_lowestWith_6 : decode cX6_lowestWith 6 = .ok (.ireturn, 1) := by decide +kernel
theorem dX6_join_0 : decode cX6_join 0 = .ok (.iload_n 1, 1) := by decide +kernel
theorem dX6_join_1 : decode cX6_join 1 = .ok (.iload_n 2, 1) := by decide +kernel
theorem dX6_join_2 : decode cX6_join 2 = .ok (.if_icmp .ne 4, 3) := by decide +kernel
theorem dX6_join_5 : decode cX6_join 5 = .ok (.return_, 1) := by decide +kernel
theorem dX6_join_6 : decode cX6_join 6 = .ok (.iload_n 1, 1) := by decide +kernel
theorem dX6_join_7 : decode cX6_join 7 = .ok (.iload_n 2, 1) := by decide +kernel
theorem dX6_join_8 : decode cX6_join 8 = .ok (.invokestatic 42, 3) := by decide +kernel
theorem dX6_join_11 : decode cX6_join 11 = .ok (.istore_n 3, 1) := by decide +kernel
theorem dX6_join_12 : decode cX6_join 12 = .ok (.iload_n 1, 1) := by decide +kernel
theorem dX6_join_13 : decode cX6_join 13 = .ok (.iload_n 2, 1) := by decide +kernel
theorem dX6_join_14 : decode cX6_join 14 = .ok (.invokestatic 47, 3) := by decide +kernel
theorem dX6_join_17 : decode cX6_join 17 = .ok (.istore 4, 2) := by decide +kernel
theorem dX6_join_19 : decode cX6_join 19 = .ok (.iconst 0, 1) := by decide +kernel
theorem dX6_join_20 : decode cX6_join 20 = .ok (.istore 5, 2) := by decide +kernel
theorem dX6_join_22 : decode cX6_join 22 = .ok (.iload 5, 2) := by decide +kernel
theorem dX6_join_24 : decode cX6_join 24 = .ok (.aload_n 0, 1) := by decide +kernel
theorem dX6_join_25 : decode cX6_join 25 = .ok (.getfield 15, 3) := by decide +kernel
theorem dX6_join_28 : decode cX6_join 28 = .ok (.invokevirtual 23, 3) := by decide +kernel
theorem dX6_join_31 : decode cX6_join 31 = .ok (.if_icmp .ge 43, 3) := by decide +kernel
theorem dX6_join_34 : decode cX6_join 34 = .ok (.aload_n 0, 1) := by decide +kernel
theorem dX6_join_35 : decode cX6_join 35 = .ok (.getfield 9, 3) := by decide +kernel
theorem dX6_join_38 : decode cX6_join 38 = .ok (.aload_n 0, 1) := by decide +kernel
theorem dX6_join_39 : decode cX6_join 39 = .ok (.getfield 15, 3) := by decide +kernel
theorem dX6_join_42 : decode cX6_join 42 = .ok (.iload 5, 2) := by decide +kernel
theorem dX6_join_44 : decode cX6_join 44 = .ok (.invokevirtual 29, 3) := by decide +kernel
theorem dX6_join_47 : decode cX6_join 47 = .ok (.iaload, 1) := by decide +kernel
theorem dX6_join_48 : decode cX6_join 48 = .ok (.iload 4, 2) := by decide +kernel
theorem dX6_join_50 : decode cX6_join 50 = .ok (.if_icmp .ne 18, 3) := by decide +kernel
theorem dX6_join_53 : decode cX6_join 53 = .ok (.aload_n 0, 1) := by decide +kernel
theorem dX6_join_54 : decode cX6_join 54 = .ok (.getfield 9, 3) := by decide +kernel
theorem dX6_join_57 : decode cX6_join 57 = .ok (.aload_n 0, 1) := by decide +kernel
theorem dX6_join_58 : decode cX6_join 58 = .ok (.getfield 15, 3) := by decide +kernel
theorem dX6_join_61 : decode cX6_join 61 = .ok (.iload 5, 2) := by decide +kernel
theorem dX6_join_63 : decode cX6_join 63 = .ok (.invokevirtual 29, 3) := by decide +kernel
theorem dX6_join_66 : decode cX6_join 66 = .ok (.iload_n 3, 1) := by decide +kernel
theorem dX6_join_67 : decode cX6_join 67 = .ok (.iastore, 1) := by decide +kernel
theorem dX6_join_68 : decode cX6_join 68 = .ok (.iinc 5 1, 3) := by decide +kernel
theorem dX6_join_71 : decode cX6_join 71 = .ok (.goto (-49), 3) := by decide +kernel
theorem dX6_join_74 : decode cX6_join 74 = .ok (.return_, 1) := by decide +kernel
theorem dX7_init_0 : decode cX7_init 0 = .ok (.aload_n 0, 1) := by decide +kernel
theorem dX7_init_1 : decode cX7_init 1 = .ok (.invokespecial 3, 3) := by decide +kernel
theorem dX7_init_4 : decode cX7_init 4 = .ok (.aload_n 0, 1) := by decide +kernel
theorem dX7_init_5 : decode cX7_init 5 = .ok (.bipush 60, 2) := by decide +kernel
theorem dX7_init_7 : decode cX7_init 7 = .ok (.newarray .int, 2) := by decide +kernel
theorem dX7_init_9 : decode cX7_init 9 = .ok (.putfield 9, 3) := by decide +kernel
theorem dX7_init_12 : decode cX7_init 12 = .ok (.aload_n 0, 1) := by decide +kernel
theorem dX7_init_13 : decode cX7_init 13 = .ok (.bipush 60, 2) := by decide +kernel
theorem dX7_init_15 : decode cX7_init 15 = .ok (.newarray .int, 2) := by decide +kernel
theorem dX7_init_17 : decode cX7_init 17 = .ok (.putfield 15, 3) := by decide +kernel
theorem dX7_init_20 : decode cX7_init 20 = .ok (.aload_n 0, 1) := by decide +kernel
theorem dX7_init_21 : decode cX7_init 21 = .ok (.iconst 0, 1) := by decide +kernel
theorem dX7_init_22 : decode cX7_init 22 = .ok (.putfield 18, 3) := by decide +kernel
theorem dX7_init_25 : decode cX7_init 25 = .ok (.return_, 1) := by decide +kernel
theorem dX7_size_0 : decode cX7_size 0 = .ok (.aload_n 0, 1) := by decide +kernel
theorem dX7_size_1 : decode cX7_size 1 = .ok (.getfield 18, 3) := by decide +kernel
theorem dX7_size_4 : decode cX7_size 4 = .ok (.ireturn, 1) := by decide +kernel
theorem dX7_thingAt_0 : decode cX7_thingAt 0 = .ok (.aload_n 0, 1) := by decide +kernel
theorem dX7_thingAt_1 : decode cX7_thingAt 1 = .ok (.getfield 9, 3) := by decide +kernel
theorem dX7_thingAt_4 : decode cX7_thingAt 4 = .ok (.iload_n 1, 1) := by decide +kernel
theorem dX7_thingAt_5 : decode cX7_thingAt 5 = .ok (.iaload, 1) := by decide +kernel
theorem dX7_thingAt_6 : decode cX7_thingAt 6 = .ok (.ireturn, 1) := by decide +kernel
theorem dX7_distanceAt_0 : decode cX7_distanceAt 0 = .ok (.aload_n 0, 1) := by decide +kernel
theorem dX7_distanceAt_1 : decode cX7_distanceAt 1 = .ok (.getfield 15, 3) := by decide +kernel
theorem dX7_distanceAt_4 : decode cX7_distanceAt 4 = .ok (.iload_n 1, 1) := by decide +kernel
theorem dX7_distanceAt_5 : decode cX7_distanceAt 5 = .ok (.iaload, 1) := by decide +kernel
theorem dX7_distanceAt_6 : decode cX7_distanceAt 6 = .ok (.ireturn, 1) := by decide +kernel
theorem dX7_clear_0 : decode cX7_clear 0 = .ok (.aload_n 0, 1) := by decide +kernel
theorem dX7_clear_1 : decode cX7_clear 1 = .ok (.iconst 0, 1) := by decide +kernel
theorem dX7_clear_2 : decode cX7_clear 2 = .ok (.putfield 18, 3) := by decide +kernel
theorem dX7_clear_5 : decode cX7_clear 5 = .ok (.return_, 1) := by decide +kernel
theorem dX7_append_0 : decode cX7_append 0 = .ok (.aload_n 0, 1) := by decide +kernel
theorem dX7_append_1 : decode cX7_append 1 = .ok (.getfield 18, 3) := by decide +kernel
theorem dX7_append_4 : decode cX7_append 4 = .ok (.bipush 60, 2) := by decide +kernel
theorem dX7_append_6 : decode cX7_append 6 = .ok (.if_icmp .lt 4, 3) := by decide +kernel
theorem dX7_append_9 : decode cX7_append 9 = .ok (.return_, 1) := by decide +kernel
theorem dX7_append_10 : decode cX7_append 10 = .ok (.aload_n 0, 1) := by decide +kernel
theorem dX7_append_11 : decode cX7_append 11 = .ok (.getfield 9, 3) := by decide +kernel
theorem dX7_append_14 : decode cX7_append 14 = .ok (.aload_n 0, 1) := by decide +kernel
theorem dX7_append_15 : decode cX7_append 15 = .ok (.getfield 18, 3) := by decide +kernel
theorem dX7_append_18 : decode cX7_append 18 = .ok (.iload_n 1, 1) := by decide +kernel
theorem dX7_append_19 : decode cX7_append 19 = .ok (.iastore, 1) := by decide +kernel
theorem dX7_append_20 : decode cX7_append 20 = .ok (.aload_n 0, 1) := by decide +kernel
theorem dX7_append_21 : decode cX7_append 21 = .ok (.getfield 15, 3) := by decide +kernel
theorem dX7_append_24 : decode cX7_append 24 = .ok (.aload_n 0, 1) := by decide +kernel
theorem dX7_append_25 : decode cX7_append 25 = .ok (.getfield 18, 3) := by decide +kernel
theorem dX7_append_28 : decode cX7_append 28 = .ok (.iload_n 2, 1) := by decide +kernel
theorem dX7_append_29 : decode cX7_append 29 = .ok (.iastore, 1) := by decide +kernel
theorem dX7_append_30 : decode cX7_append 30 = .ok (.aload_n 0, 1) := by decide +kernel
theorem dX7_append_31 : decode cX7_append 31 = .ok (.dup, 1) := by decide +kernel
theorem dX7_append_32 : decode cX7_append 32 = .ok (.getfield 18, 3) := by decide +kernel
theorem dX7_append_35 : decode cX7_append 35 = .ok (.iconst 1, 1) := by decide +kernel
theorem dX7_append_36 : decode cX7_append 36 = .ok (.iadd, 1) := by decide +kernel
theorem dX7_append_37 : decode cX7_append 37 = .ok (.putfield 18, 3) := by decide +kernel
theorem dX7_append_40 : decode cX7_append 40 = .ok (.return_, 1) := by decide +kernel
theorem dX8_init_0 : decode cX8_init 0 = .ok (.aload_n 0, 1) := by decide +kernel
theorem dX8_init_1 : decode cX8_init 1 = .ok (.invokespecial 3, 3) := by decide +kernel
theorem dX8_init_4 : decode cX8_init 4 = .ok (.aload_n 0, 1) := by decide +kernel
theorem dX8_init_5 : decode cX8_init 5 = .ok (.bipush 60, 2) := by decide +kernel
theorem dX8_init_7 : decode cX8_init 7 = .ok (.newarray .int, 2) := by decide +kernel
theorem dX8_init_9 : decode cX8_init 9 = .ok (.putfield 9, 3) := by decide +kernel
theorem dX8_init_12 : decode cX8_init 12 = .ok (.aload_n 0, 1) := by decide +kernel
theorem dX8_init_13 : decode cX8_init 13 = .ok (.sipush 480, 3) := by decide +kernel
theorem dX8_init_16 : decode cX8_init 16 = .ok (.newarray .int, 2) := by decide +kernel
theorem dX8_init_18 : decode cX8_init 18 = .ok (.putfield 15, 3) := by decide +kernel
theorem dX8_init_21 : decode cX8_init 21 = .ok (.aload_n 0, 1) := by decide +kernel
theorem dX8_init_22 : decode cX8_init 22 = .ok (.bipush 9, 2) := by decide +kernel
theorem dX8_init_24 : decode cX8_init 24 = .ok (.newarray .int, 2) := by decide +kernel
theorem dX8_init_26 : decode cX8_init 26 = .ok (.putfield 18, 3) := by decide +kernel
theorem dX8_init_29 : decode cX8_init 29 = .ok (.aload_n 0, 1) := by decide +kernel
theorem dX8_init_30 : decode cX8_init 30 = .ok (.iconst 0, 1) := by decide +kernel
theorem dX8_init_31 : decode cX8_init 31 = .ok (.putfield 21, 3) := by decide +kernel
theorem dX8_init_34 : decode cX8_init 34 = .ok (.return_, 1) := by decide +kernel
theorem dX8_size_0 : decode cX8_size 0 = .ok (.aload_n 0, 1) := by decide +kernel
theorem dX8_size_1 : decode cX8_size 1 = .ok (.getfield 21, 3) := by decide +kernel
theorem dX8_size_4 : decode cX8_size 4 = .ok (.ireturn, 1) := by decide +kernel
theorem dX8_holds_0 : decode cX8_holds 0 = .ok (.iload_n 1, 1) := by decide +kernel
theorem dX8_holds_1 : decode cX8_holds 1 = .ok (.ifCond .lt 15, 3) := by decide +kernel
theorem dX8_holds_4 : decode cX8_holds 4 = .ok (.iload_n 1, 1) := by decide +kernel
theorem dX8_holds_5 : decode cX8_holds 5 = .ok (.aload_n 0, 1) := by decide +kernel
theorem dX8_holds_6 : decode cX8_holds 6 = .ok (.getfield 21, 3) := by decide +kernel
theorem dX8_holds_9 : decode cX8_holds 9 = .ok (.if_icmp .ge 7, 3) := by decide +kernel
theorem dX8_holds_12 : decode cX8_holds 12 = .ok (.iconst 1, 1) := by decide +kernel
theorem dX8_holds_13 : decode cX8_holds 13 = .ok (.goto 4, 3) := by decide +kernel
theorem dX8_holds_16 : decode cX8_holds 16 = .ok (.iconst 0, 1) := by decide +kernel
theorem dX8_holds_17 : decode cX8_holds 17 = .ok (.ireturn, 1) := by decide +kernel
theorem dX8_lengthOf_0 : decode cX8_lengthOf 0 = .ok (.aload_n 0, 1) := by decide +kernel
theorem dX8_lengthOf_1 : decode cX8_lengthOf 1 = .ok (.getfield 9, 3) := by decide +kernel
theorem dX8_lengthOf_4 : decode cX8_lengthOf 4 = .ok (.iload_n 1, 1) := by decide +kernel
theorem dX8_lengthOf_5 : decode cX8_lengthOf 5 = .ok (.iaload, 1) := by decide +kernel
theorem dX8_lengthOf_6 : decode cX8_lengthOf 6 = .ok (.ireturn, 1) := by decide +kernel
theorem dX8_append_0 : decode cX8_append 0 = .ok (.aload_n 0, 1) := by decide +kernel
theorem dX8_append_1 : decode cX8_append 1 = .ok (.getfield 9, 3) := by decide +kernel
theorem dX8_append_4 : decode cX8_append 4 = .ok (.aload_n 0, 1) := by decide +kernel
theorem dX8_append_5 : decode cX8_append 5 = .ok (.getfield 21, 3) := by decide +kernel
theorem dX8_append_8 : decode cX8_append 8 = .ok (.iload_n 1, 1) := by decide +kernel
theorem dX8_append_9 : decode cX8_append 9 = .ok (.iastore, 1) := by decide +kernel
theorem dX8_append_10 : decode cX8_append 10 = .ok (.aload_n 0, 1) := by decide +kernel
theorem dX8_append_11 : decode cX8_append 11 = .ok (.dup, 1) := by decide +kernel
theorem dX8_append_12 : decode cX8_append 12 = .ok (.getfield 21, 3) := by decide +kernel
theorem dX8_append_15 : decode cX8_append 15 = .ok (.iconst 1, 1) := by decide +kernel
theorem dX8_append_16 : decode cX8_append 16 = .ok (.iadd, 1) := by decide +kernel
theorem dX8_append_17 : decode cX8_append 17 = .ok (.putfield 21, 3) := by decide +kernel
theorem dX8_append_20 : decode cX8_append 20 = .ok (.aload_n 0, 1) := by decide +kernel
theorem dX8_append_21 : decode cX8_append 21 = .ok (.getfield 21, 3) := by decide +kernel
theorem dX8_append_24 : decode cX8_append 24 = .ok (.iconst 1, 1) := by decide +kernel
theorem dX8_append_25 : decode cX8_append 25 = .ok (.isub, 1) := by decide +kernel
theorem dX8_append_26 : decode cX8_append 26 = .ok (.ireturn, 1) := by decide +kernel
theorem dX8_change_0 : decode cX8_change 0 = .ok (.aload_n 0, 1) := by decide +kernel
theorem dX8_change_1 : decode cX8_change 1 = .ok (.getfield 15, 3) := by decide +kernel
theorem dX8_change_4 : decode cX8_change 4 = .ok (.iload_n 1, 1) := by decide +kernel
theorem dX8_change_5 : decode cX8_change 5 = .ok (.bipush 8, 2) := by decide +kernel
theorem dX8_change_7 : decode cX8_change 7 = .ok (.imul, 1) := by decide +kernel
theorem dX8_change_8 : decode cX8_change 8 = .ok (.iload_n 2, 1) := by decide +kernel
theorem dX8_change_9 : decode cX8_change 9 = .ok (.iadd, 1) := by decide +kernel
theorem dX8_change_10 : decode cX8_change 10 = .ok (.iload_n 3, 1) := by decide +kernel
theorem dX8_change_11 : decode cX8_change 11 = .ok (.iastore, 1) := by decide +kernel
theorem dX8_change_12 : decode cX8_change 12 = .ok (.return_, 1) := by decide +kernel
theorem dX8_unlikePlaces_0 : decode cX8_unlikePlaces 0 = .ok (.iconst 0, 1) := by decide +kernel
theorem dX8_unlikePlaces_1 : decode cX8_unlikePlaces 1 = .ok (.istore_n 3, 1) := by decide +kernel
theorem dX8_unlikePlaces_2 : decode cX8_unlikePlaces 2 = .ok (.iconst 0, 1) := by decide +kernel
theorem dX8_unlikePlaces_3 : decode cX8_unlikePlaces 3 = .ok (.istore 4, 2) := by decide +kernel
theorem dX8_unlikePlaces_5 : decode cX8_unlikePlaces 5 = .ok (.iload 4, 2) := by decide +kernel
theorem dX8_unlikePlaces_7 : decode cX8_unlikePlaces 7 = .ok (.bipush 8, 2) := by decide +kernel
theorem dX8_unlikePlaces_9 : decode cX8_unlikePlaces 9 = .ok (.if_icmp .ge 23, 3) := by decide +kernel
theorem dX8_unlikePlaces_12 : decode cX8_unlikePlaces 12 = .ok (.aload_n 0, 1) := by decide +kernel
theorem dX8_unlikePlaces_13 : decode cX8_unlikePlaces 13 = .ok (.iload_n 1, 1) := by decide +kernel
theorem dX8_unlikePlaces_14 : decode cX8_unlikePlaces 14 = .ok (.iload_n 2, 1) := by decide +kernel
theorem dX8_unlikePlaces_15 : decode cX8_unlikePlaces 15 = .ok (.iload 4, 2) := by decide +kernel
theorem dX8_unlikePlaces_17 : decode cX8_unlikePlaces 17 = .ok (.invokevirtual 25, 3) := by decide +kernel
theorem dX8_unlikePlaces_20 : decode cX8_unlikePlaces 20 = .ok (.ifCond .eq 6, 3) := by decide +kernel
theorem dX8_unlikePlaces_23 : decode cX8_unlikePlaces 23 = .ok (.iinc 3 1, 3) := by decide +kernel
theorem dX8_unlikePlaces_26 : decode cX8_unlikePlaces 26 = .ok (.iinc 4 1, 3) := by decide +kernel
theorem dX8_unlikePlaces_29 : decode cX8_unlikePlaces 29 = .ok (.goto (-24), 3) := by decide +kernel
theorem dX8_unlikePlaces_32 : decode cX8_unlikePlaces 32 = .ok (.iload_n 3, 1) := by decide +kernel
theorem dX8_unlikePlaces_33 : decode cX8_unlikePlaces 33 = .ok (.ireturn, 1) := by decide +kernel
theorem dX8_sumOfDifferences_0 : decode cX8_sumOfDifferences 0 = .ok (.iconst 0, 1) := by decide +kernel
theorem dX8_sumOfDifferences_1 : decode cX8_sumOfDifferences 1 = .ok (.istore_n 3, 1) := by decide +kernel
theorem dX8_sumOfDifferences_2 : decode cX8_sumOfDifferences 2 = .ok (.iconst 0, 1) := by decide +kernel
theorem dX8_sumOfDifferences_3 : decode cX8_sumOfDifferences 3 = .ok (.istore 4, 2) := by decide +kernel
theorem dX8_sumOfDifferences_5 : decode cX8_sumOfDifferences 5 = .ok (.iload 4, 2) := by decide +kernel
theorem dX8_sumOfDifferences_7 : decode cX8_sumOfDifferences 7 = .ok (.bipush 8, 2) := by decide +kernel
theorem dX8_sumOfDifferences_9 : decode cX8_sumOfDifferences 9 = .ok (.if_icmp .ge 20, 3) := by decide +kernel
theorem dX8_sumOfDifferences_12 : decode cX8_sumOfDifferences 12 = .ok (.iload_n 3, 1) := by decide +kernel
theorem dX8_sumOfDifferences_13 : decode cX8_sumOfDifferences 13 = .ok (.aload_n 0, 1) := by decide +kernel
theorem dX8_sumOfDifferences_14 : decode cX8_sumOfDifferences 14 = .ok (.iload_n 1, 1) := by decide +kernel
theorem dX8_sumOfDifferences_15 : decode cX8_sumOfDifferences 15 = .ok (.iload_n 2, 1) := by decide +kernel
theorem dX8_sumOfDifferences_16 : decode cX8_sumOfDifferences 16 = .ok (.iload 4, 2) := by decide +kernel
theorem dX8_sumOfDifferences_18 : decode cX8_sumOfDifferences 18 = .ok (.invokevirtual 25, 3) := by decide +kernel
theorem dX8_sumOfDifferences_21 : decode cX8_sumOfDifferences 21 = .ok (.iadd, 1) := by decide +kernel
theorem dX8_sumOfDifferences_22 : decode cX8_sumOfDifferences 22 = .ok (.istore_n 3, 1) := by decide +kernel
theorem dX8_sumOfDifferences_23 : decode cX8_sumOfDifferences 23 = .ok (.iinc 4 1, 3) := by decide +kernel
theorem dX8_sumOfDifferences_26 : decode cX8_sumOfDifferences 26 = .ok (.goto (-21), 3) := by decide +kernel
theorem dX8_sumOfDifferences_29 : decode cX8_sumOfDifferences 29 = .ok (.iload_n 3, 1) := by decide +kernel
theorem dX8_sumOfDifferences_30 : decode cX8_sumOfDifferences 30 = .ok (.ireturn, 1) := by decide +kernel
theorem dX8_greatestDifference_0 : decode cX8_greatestDifference 0 = .ok (.iconst 0, 1) := by decide +kernel
theorem dX8_greatestDifference_1 : decode cX8_greatestDifference 1 = .ok (.istore_n 3, 1) := by decide +kernel
theorem dX8_greatestDifference_2 : decode cX8_greatestDifference 2 = .ok (.iconst 0, 1) := by decide +kernel
theorem dX8_greatestDifference_3 : decode cX8_greatestDifference 3 = .ok (.istore 4, 2) := by decide +kernel
theorem dX8_greatestDifference_5 : decode cX8_greatestDifference 5 = .ok (.iload 4, 2) := by decide +kernel
theorem dX8_greatestDifference_7 : decode cX8_greatestDifference 7 = .ok (.bipush 8, 2) := by decide +kernel
theorem dX8_greatestDifference_9 : decode cX8_greatestDifference 9 = .ok (.if_icmp .ge 22, 3) := by decide +kernel
theorem dX8_greatestDifference_12 : decode cX8_greatestDifference 12 = .ok (.iload_n 3, 1) := by decide +kernel
theorem dX8_greatestDifference_13 : decode cX8_greatestDifference 13 = .ok (.aload_n 0, 1) := by decide +kernel
theorem dX8_greatestDifference_14 : decode cX8_greatestDifference 14 = .ok (.iload_n 1, 1) := by decide +kernel
theorem dX8_greatestDifference_15 : decode cX8_greatestDifference 15 = .ok (.iload_n 2, 1) := by decide +kernel
theorem dX8_greatestDifference_16 : decode cX8_greatestDifference 16 = .ok (.iload 4, 2) := by decide +kernel
theorem dX8_greatestDifference_18 : decode cX8_greatestDifference 18 = .ok (.invokevirtual 25, 3) := by decide +kernel
theorem dX8_greatestDifference_21 : decode cX8_greatestDifference 21 = .ok (.invokestatic 29, 3) := by decide +kernel
theorem dX8_greatestDifference_24 : decode cX8_greatestDifference 24 = .ok (.istore_n 3, 1) := by decide +kernel
theorem dX8_greatestDifference_25 : decode cX8_greatestDifference 25 = .ok (.iinc 4 1, 3) := by decide +kernel
theorem dX8_greatestDifference_28 : decode cX8_greatestDifference 28 = .ok (.goto (-23), 3) := by decide +kernel
theorem dX8_greatestDifference_31 : decode cX8_greatestDifference 31 = .ok (.iload_n 3, 1) := by decide +kernel
theorem dX8_greatestDifference_32 : decode cX8_greatestDifference 32 = .ok (.ireturn, 1) := by decide +kernel
theorem dX8_fewestEdits_0 : decode cX8_fewestEdits 0 = .ok (.aload_n 0, 1) := by decide +kernel
theorem dX8_fewestEdits_1 : decode cX8_fewestEdits 1 = .ok (.getfield 9, 3) := by decide +kernel
theorem dX8_fewestEdits_4 : decode cX8_fewestEdits 4 = .ok (.iload_n 2, 1) := by decide +kernel
theorem dX8_fewestEdits_5 : decode cX8_fewestEdits 5 = .ok (.iaload, 1) := by decide +kernel
theorem dX8_fewestEdits_6 : decode cX8_fewestEdits 6 = .ok (.istore_n 3, 1) := by decide +kernel
theorem dX8_fewestEdits_7 : decode cX8_fewestEdits 7 = .ok (.iconst 0, 1) := by decide +kernel
theorem dX8_fewestEdits_8 : decode cX8_fewestEdits 8 = .ok (.istore 4, 2) := by decide +kernel
theorem dX8_fewestEdits_10 : decode cX8_fewestEdits 10 = .ok (.iload 4, 2) := by decide +kernel
theorem dX8_fewestEdits_12 : decode cX8_fewestEdits 12 = .ok (.iload_n 3, 1) := by decide +kernel
theorem dX8_fewestEdits_13 : decode cX8_fewestEdits 13 = .ok (.if_icmp .gt 18, 3) := by decide +kernel
theorem dX8_fewestEdits_16 : decode cX8_fewestEdits 16 = .ok (.aload_n 0, 1) := by decide +kernel
theorem dX8_fewestEdits_17 : decode cX8_fewestEdits 17 = .ok (.getfield 18, 3) := by decide +kernel
theorem dX8_fewestEdits_20 : decode cX8_fewestEdits 20 = .ok (.iload 4, 2) := by decide +kernel
theorem dX8_fewestEdits_22 : decode cX8_fewestEdits 22 = .ok (.iload 4, 2) := by decide +kernel
theorem dX8_fewestEdits_24 : decode cX8_fewestEdits 24 = .ok (.iastore, 1) := by decide +kernel
theorem dX8_fewestEdits_25 : decode cX8_fewestEdits 25 = .ok (.iinc 4 1, 3) := by decide +kernel
theorem dX8_fewestEdits_28 : decode cX8_fewestEdits 28 = .ok (.goto (-18), 3) := by decide +kernel
theorem dX8_fewestEdits_31 : decode cX8_fewestEdits 31 = .ok (.iconst 0, 1) := by decide +kernel
theorem dX8_fewestEdits_32 : decode cX8_fewestEdits 32 = .ok (.istore 4, 2) := by decide +kernel
theorem dX8_fewestEdits_34 : decode cX8_fewestEdits 34 = .ok (.iload 4, 2) := by decide +kernel
theorem dX8_fewestEdits_36 : decode cX8_fewestEdits 36 = .ok (.aload_n 0, 1) := by decide +kernel
theorem dX8_fewestEdits_37 : decode cX8_fewestEdits 37 = .ok (.getfield 9, 3) := by decide +kernel
theorem dX8_fewestEdits_40 : decode cX8_fewestEdits 40 = .ok (.iload_n 1, 1) := by decide +kernel
theorem dX8_fewestEdits_41 : decode cX8_fewestEdits 41 = .ok (.iaload, 1) := by decide +kernel
theorem dX8_fewestEdits_42 : decode cX8_fewestEdits 42 = .ok (.if_icmp .ge 130, 3) := by decide +kernel
theorem dX8_fewestEdits_45 : decode cX8_fewestEdits 45 = .ok (.aload_n 0, 1) := by decide +kernel
theorem dX8_fewestEdits_46 : decode cX8_fewestEdits 46 = .ok (.getfield 15, 3) := by decide +kernel
theorem dX8_fewestEdits_49 : decode cX8_fewestEdits 49 = .ok (.iload_n 1, 1) := by decide +kernel
theorem dX8_fewestEdits_50 : decode cX8_fewestEdits 50 = .ok (.bipush 8, 2) := by decide +kernel
theorem dX8_fewestEdits_52 : decode cX8_fewestEdits 52 = .ok (.imul, 1) := by decide +kernel
theorem dX8_fewestEdits_53 : decode cX8_fewestEdits 53 = .ok (.iload 4, 2) := by decide +kernel
theorem dX8_fewestEdits_55 : decode cX8_fewestEdits 55 = .ok (.iadd, 1) := by decide +kernel
theorem dX8_fewestEdits_56 : decode cX8_fewestEdits 56 = .ok (.iaload, 1) := by decide +kernel
theorem dX8_fewestEdits_57 : decode cX8_fewestEdits 57 = .ok (.istore 5, 2) := by decide +kernel
theorem dX8_fewestEdits_59 : decode cX8_fewestEdits 59 = .ok (.aload_n 0, 1) := by decide +kernel
theorem dX8_fewestEdits_60 : decode cX8_fewestEdits 60 = .ok (.getfield 18, 3) := by decide +kernel
theorem dX8_fewestEdits_63 : decode cX8_fewestEdits 63 = .ok (.iconst 0, 1) := by decide +kernel
theorem dX8_fewestEdits_64 : decode cX8_fewestEdits 64 = .ok (.iaload, 1) := by decide +kernel
theorem dX8_fewestEdits_65 : decode cX8_fewestEdits 65 = .ok (.istore 6, 2) := by decide +kernel
theorem dX8_fewestEdits_67 : decode cX8_fewestEdits 67 = .ok (.aload_n 0, 1) := by decide +kernel
theorem dX8_fewestEdits_68 : decode cX8_fewestEdits 68 = .ok (.getfield 18, 3) := by decide +kernel
theorem dX8_fewestEdits_71 : decode cX8_fewestEdits 71 = .ok (.iconst 0, 1) := by decide +kernel
theorem dX8_fewestEdits_72 : decode cX8_fewestEdits 72 = .ok (.iload 4, 2) := by decide +kernel
theorem dX8_fewestEdits_74 : decode cX8_fewestEdits 74 = .ok (.iconst 1, 1) := by decide +kernel
theorem dX8_fewestEdits_75 : decode cX8_fewestEdits 75 = .ok (.iadd, 1) := by decide +kernel
theorem dX8_fewestEdits_76 : decode cX8_fewestEdits 76 = .ok (.iastore, 1) := by decide +kernel
theorem dX8_fewestEdits_77 : decode cX8_fewestEdits 77 = .ok (.iconst 0, 1) := by decide +kernel
theorem dX8_fewestEdits_78 : decode cX8_fewestEdits 78 = .ok (.istore 7, 2) := by decide +kernel
theorem dX8_fewestEdits_80 : decode cX8_fewestEdits 80 = .ok (.iload 7, 2) := by decide +kernel
theorem dX8_fewestEdits_82 : decode cX8_fewestEdits 82 = .ok (.iload_n 3, 1) := by decide +kernel
theorem dX8_fewestEdits_83 : decode cX8_fewestEdits 83 = .ok (.if_icmp .ge 83, 3) := by decide +kernel
theorem dX8_fewestEdits_86 : decode cX8_fewestEdits 86 = .ok (.aload_n 0, 1) := by decide +kernel
theorem dX8_fewestEdits_87 : decode cX8_fewestEdits 87 = .ok (.getfield 15, 3) := by decide +kernel
theorem dX8_fewestEdits_90 : decode cX8_fewestEdits 90 = .ok (.iload_n 2, 1) := by decide +kernel
theorem dX8_fewestEdits_91 : decode cX8_fewestEdits 91 = .ok (.bipush 8, 2) := by decide +kernel
theorem dX8_fewestEdits_93 : decode cX8_fewestEdits 93 = .ok (.imul, 1) := by decide +kernel
theorem dX8_fewestEdits_94 : decode cX8_fewestEdits 94 = .ok (.iload 7, 2) := by decide +kernel
theorem dX8_fewestEdits_96 : decode cX8_fewestEdits 96 = .ok (.iadd, 1) := by decide +kernel
theorem dX8_fewestEdits_97 : decode cX8_fewestEdits 97 = .ok (.iaload, 1) := by decide +kernel
theorem dX8_fewestEdits_98 : decode cX8_fewestEdits 98 = .ok (.iload 5, 2) := by decide +kernel
theorem dX8_fewestEdits_100 : decode cX8_fewestEdits 100 = .ok (.if_icmp .ne 8, 3) := by decide +kernel
theorem dX8_fewestEdits_103 : decode cX8_fewestEdits 103 = .ok (.iload 6, 2) := by decide +kernel
theorem dX8_fewestEdits_105 : decode cX8_fewestEdits 105 = .ok (.goto 7, 3) := by decide +kernel
theorem dX8_fewestEdits_108 : decode cX8_fewestEdits 108 = .ok (.iload 6, 2) := by decide +kernel
theorem dX8_fewestEdits_110 : decode cX8_fewestEdits 110 = .ok (.iconst 1, 1) := by decide +kernel
theorem dX8_fewestEdits_111 : decode cX8_fewestEdits 111 = .ok (.iadd, 1) := by decide +kernel
theorem dX8_fewestEdits_112 : decode cX8_fewestEdits 112 = .ok (.istore 8, 2) := by decide +kernel
theorem dX8_fewestEdits_114 : decode cX8_fewestEdits 114 = .ok (.aload_n 0, 1) := by decide +kernel
theorem dX8_fewestEdits_115 : decode cX8_fewestEdits 115 = .ok (.getfield 18, 3) := by decide +kernel
theorem dX8_fewestEdits_118 : decode cX8_fewestEdits 118 = .ok (.iload 7, 2) := by decide +kernel
theorem dX8_fewestEdits_120 : decode cX8_fewestEdits 120 = .ok (.iconst 1, 1) := by decide +kernel
theorem dX8_fewestEdits_121 : decode cX8_fewestEdits 121 = .ok (.iadd, 1) := by decide +kernel
theorem dX8_fewestEdits_122 : decode cX8_fewestEdits 122 = .ok (.iaload, 1) := by decide +kernel
theorem dX8_fewestEdits_123 : decode cX8_fewestEdits 123 = .ok (.istore 6, 2) := by decide +kernel
theorem dX8_fewestEdits_125 : decode cX8_fewestEdits 125 = .ok (.aload_n 0, 1) := by decide +kernel
theorem dX8_fewestEdits_126 : decode cX8_fewestEdits 126 = .ok (.getfield 18, 3) := by decide +kernel
theorem dX8_fewestEdits_129 : decode cX8_fewestEdits 129 = .ok (.iload 7, 2) := by decide +kernel
theorem dX8_fewestEdits_131 : decode cX8_fewestEdits 131 = .ok (.iconst 1, 1) := by decide +kernel
theorem dX8_fewestEdits_132 : decode cX8_fewestEdits 132 = .ok (.iadd, 1) := by decide +kernel
theorem dX8_fewestEdits_133 : decode cX8_fewestEdits 133 = .ok (.iload 8, 2) := by decide +kernel
theorem dX8_fewestEdits_135 : decode cX8_fewestEdits 135 = .ok (.iconst 1, 1) := by decide +kernel
theorem dX8_fewestEdits_136 : decode cX8_fewestEdits 136 = .ok (.aload_n 0, 1) := by decide +kernel
theorem dX8_fewestEdits_137 : decode cX8_fewestEdits 137 = .ok (.getfield 18, 3) := by decide +kernel
theorem dX8_fewestEdits_140 : decode cX8_fewestEdits 140 = .ok (.iload 7, 2) := by decide +kernel
theorem dX8_fewestEdits_142 : decode cX8_fewestEdits 142 = .ok (.iaload, 1) := by decide +kernel
theorem dX8_fewestEdits_143 : decode cX8_fewestEdits 143 = .ok (.aload_n 0, 1) := by decide +kernel
theorem dX8_fewestEdits_144 : decode cX8_fewestEdits 144 = .ok (.getfield 18, 3) := by decide +kernel
theorem dX8_fewestEdits_147 : decode cX8_fewestEdits 147 = .ok (.iload 7, 2) := by decide +kernel
theorem dX8_fewestEdits_149 : decode cX8_fewestEdits 149 = .ok (.iconst 1, 1) := by decide +kernel
theorem dX8_fewestEdits_150 : decode cX8_fewestEdits 150 = .ok (.iadd, 1) := by decide +kernel
theorem dX8_fewestEdits_151 : decode cX8_fewestEdits 151 = .ok (.iaload, 1) := by decide +kernel
theorem dX8_fewestEdits_152 : decode cX8_fewestEdits 152 = .ok (.invokestatic 35, 3) := by decide +kernel
theorem dX8_fewestEdits_155 : decode cX8_fewestEdits 155 = .ok (.iadd, 1) := by decide +kernel
theorem dX8_fewestEdits_156 : decode cX8_fewestEdits 156 = .ok (.invokestatic 35, 3) := by decide +kernel
theorem dX8_fewestEdits_159 : decode cX8_fewestEdits 159 = .ok (.iastore, 1) := by decide +kernel
theorem dX8_fewestEdits_160 : decode cX8_fewestEdits 160 = .ok (.iinc 7 1, 3) := by decide +kernel
theorem dX8_fewestEdits_163 : decode cX8_fewestEdits 163 = .ok (.goto (-83), 3) := by decide +kernel
theorem dX8_fewestEdits_166 : decode cX8_fewestEdits 166 = .ok (.iinc 4 1, 3) := by decide +kernel
theorem dX8_fewestEdits_169 : decode cX8_fewestEdits 169 = .ok (.goto (-135), 3) := by decide +kernel
theorem dX8_fewestEdits_172 : decode cX8_fewestEdits 172 = .ok (.aload_n 0, 1) := by decide +kernel
theorem dX8_fewestEdits_173 : decode cX8_fewestEdits 173 = .ok (.getfield 18, 3) := by decide +kernel
theorem dX8_fewestEdits_176 : decode cX8_fewestEdits 176 = .ok (.iload_n 3, 1) := by decide +kernel
theorem dX8_fewestEdits_177 : decode cX8_fewestEdits 177 = .ok (.iaload, 1) := by decide +kernel
theorem dX8_fewestEdits_178 : decode cX8_fewestEdits 178 = .ok (.ireturn, 1) := by decide +kernel
theorem dX8_valuesMissing_0 : decode cX8_valuesMissing 0 = .ok (.iconst 0, 1) := by decide +kernel
theorem dX8_valuesMissing_1 : decode cX8_valuesMissing 1 = .ok (.istore_n 3, 1) := by decide +kernel
theorem dX8_valuesMissing_2 : decode cX8_valuesMissing 2 = .ok (.iconst 0, 1) := by decide +kernel
theorem dX8_valuesMissing_3 : decode cX8_valuesMissing 3 = .ok (.istore 4, 2) := by decide +kernel
theorem dX8_valuesMissing_5 : decode cX8_valuesMissing 5 = .ok (.iload 4, 2) := by decide +kernel
theorem dX8_valuesMissing_7 : decode cX8_valuesMissing 7 = .ok (.aload_n 0, 1) := by decide +kernel
theorem dX8_valuesMissing_8 : decode cX8_valuesMissing 8 = .ok (.getfield 9, 3) := by decide +kernel
theorem dX8_valuesMissing_11 : decode cX8_valuesMissing 11 = .ok (.iload_n 1, 1) := by decide +kernel
theorem dX8_valuesMissing_12 : decode cX8_valuesMissing 12 = .ok (.iaload, 1) := by decide +kernel
theorem dX8_valuesMissing_13 : decode cX8_valuesMissing 13 = .ok (.if_icmp .ge 54, 3) := by decide +kernel
theorem dX8_valuesMissing_16 : decode cX8_valuesMissing 16 = .ok (.aload_n 0, 1) := by decide +kernel
theorem dX8_valuesMissing_17 : decode cX8_valuesMissing 17 = .ok (.getfield 15, 3) := by decide +kernel
theorem dX8_valuesMissing_20 : decode cX8_valuesMissing 20 = .ok (.iload_n 1, 1) := by decide +kernel
theorem dX8_valuesMissing_21 : decode cX8_valuesMissing 21 = .ok (.bipush 8, 2) := by decide +kernel
theorem dX8_valuesMissing_23 : decode cX8_valuesMissing 23 = .ok (.imul, 1) := by decide +kernel
theorem dX8_valuesMissing_24 : decode cX8_valuesMissing 24 = .ok (.iload 4, 2) := by decide +kernel
theorem dX8_valuesMissing_26 : decode cX8_valuesMissing 26 = .ok (.iadd, 1) := by decide +kernel
theorem dX8_valuesMissing_27 : decode cX8_valuesMissing 27 = .ok (.iaload, 1) := by decide +kernel
theorem dX8_valuesMissing_28 : decode cX8_valuesMissing 28 = .ok (.istore 5, 2) := by decide +kernel
theorem dX8_valuesMissing_30 : decode cX8_valuesMissing 30 = .ok (.aload_n 0, 1) := by decide +kernel
theorem dX8_valuesMissing_31 : decode cX8_valuesMissing 31 = .ok (.iload_n 1, 1) := by decide +kernel
theorem dX8_valuesMissing_32 : decode cX8_valuesMissing 32 = .ok (.iload 4, 2) := by decide +kernel
theorem dX8_valuesMissing_34 : decode cX8_valuesMissing 34 = .ok (.iload 5, 2) := by decide +kernel
theorem dX8_valuesMissing_36 : decode cX8_valuesMissing 36 = .ok (.invokevirtual 38, 3) := by decide +kernel
theorem dX8_valuesMissing_39 : decode cX8_valuesMissing 39 = .ok (.ifCond .ne 22, 3) := by decide +kernel
theorem dX8_valuesMissing_42 : decode cX8_valuesMissing 42 = .ok (.aload_n 0, 1) := by decide +kernel
theorem dX8_valuesMissing_43 : decode cX8_valuesMissing 43 = .ok (.iload_n 2, 1) := by decide +kernel
theorem dX8_valuesMissing_44 : decode cX8_valuesMissing 44 = .ok (.aload_n 0, 1) := by decide +kernel
theorem dX8_valuesMissing_45 : decode cX8_valuesMissing 45 = .ok (.getfield 9, 3) := by decide +kernel
theorem dX8_valuesMissing_48 : decode cX8_valuesMissing 48 = .ok (.iload_n 2, 1) := by decide +kernel
theorem dX8_valuesMissing_49 : decode cX8_valuesMissing 49 = .ok (.iaload, 1) := by decide +kernel
theorem dX8_valuesMissing_50 : decode cX8_valuesMissing 50 = .ok (.iload 5, 2) := by decide +kernel
theorem dX8_valuesMissing_52 : decode cX8_valuesMissing 52 = .ok (.invokevirtual 38, 3) := by decide +kernel
theorem dX8_valuesMissing_55 : decode cX8_valuesMissing 55 = .ok (.ifCond .ne 6, 3) := by decide +kernel
theorem dX8_valuesMissing_58 : decode cX8_valuesMissing 58 = .ok (.iinc 3 1, 3) := by decide +kernel
theorem dX8_valuesMissing_61 : decode cX8_valuesMissing 61 = .ok (.iinc 4 1, 3) := by decide +kernel
theorem dX8_valuesMissing_64 : decode cX8_valuesMissing 64 = .ok (.goto (-59), 3) := by decide +kernel
theorem dX8_valuesMissing_67 : decode cX8_valuesMissing 67 = .ok (.iload_n 3, 1) := by decide +kernel
theorem dX8_valuesMissing_68 : decode cX8_valuesMissing 68 = .ok (.ireturn, 1) := by decide +kernel
theorem dX8_hasBefore_0 : decode cX8_hasBefore 0 = .ok (.iconst 0, 1) := by decide +kernel
theorem dX8_hasBefore_1 : decode cX8_hasBefore 1 = .ok (.istore 4, 2) := by decide +kernel
theorem dX8_hasBefore_3 : decode cX8_hasBefore 3 = .ok (.iload 4, 2) := by decide +kernel
theorem dX8_hasBefore_5 : decode cX8_hasBefore 5 = .ok (.iload_n 2, 1) := by decide +kernel
theorem dX8_hasBefore_6 : decode cX8_hasBefore 6 = .ok (.if_icmp .ge 27, 3) := by decide +kernel
theorem dX8_hasBefore_9 : decode cX8_hasBefore 9 = .ok (.aload_n 0, 1) := by decide +kernel
theorem dX8_hasBefore_10 : decode cX8_hasBefore 10 = .ok (.getfield 15, 3) := by decide +kernel
theorem dX8_hasBefore_13 : decode cX8_hasBefore 13 = .ok (.iload_n 1, 1) := by decide +kernel
theorem dX8_hasBefore_14 : decode cX8_hasBefore 14 = .ok (.bipush 8, 2) := by decide +kernel
theorem dX8_hasBefore_16 : decode cX8_hasBefore 16 = .ok (.imul, 1) := by decide +kernel
theorem dX8_hasBefore_17 : decode cX8_hasBefore 17 = .ok (.iload 4, 2) := by decide +kernel
theorem dX8_hasBefore_19 : decode cX8_hasBefore 19 = .ok (.iadd, 1) := by decide +kernel
theorem dX8_hasBefore_20 : decode cX8_hasBefore 20 = .ok (.iaload, 1) := by decide +kernel
theorem dX8_hasBefore_21 : decode cX8_hasBefore 21 = .ok (.iload_n 3, 1) := by decide +kernel
theorem dX8_hasBefore_22 : decode cX8_hasBefore 22 = .ok (.if_icmp .ne 5, 3) := by decide +kernel
theorem dX8_hasBefore_25 : decode cX8_hasBefore 25 = .ok (.iconst 1, 1) := by decide +kernel
theorem dX8_hasBefore_26 : decode cX8_hasBefore 26 = .ok (.ireturn, 1) := by decide +kernel
theorem dX8_hasBefore_27 : decode cX8_hasBefore 27 = .ok (.iinc 4 1, 3) := by decide +kernel
theorem dX8_hasBefore_30 : decode cX8_hasBefore 30 = .ok (.goto (-27), 3) := by decide +kernel
theorem dX8_hasBefore_33 : decode cX8_hasBefore 33 = .ok (.iconst 0, 1) := by decide +kernel
theorem dX8_hasBefore_34 : decode cX8_hasBefore 34 = .ok (.ireturn, 1) := by decide +kernel
theorem dX8_difference_0 : decode cX8_difference 0 = .ok (.aload_n 0, 1) := by decide +kernel
theorem dX8_difference_1 : decode cX8_difference 1 = .ok (.getfield 15, 3) := by decide +kernel
theorem dX8_difference_4 : decode cX8_difference 4 = .ok (.iload_n 1, 1) := by decide +kernel
theorem dX8_difference_5 : decode cX8_difference 5 = .ok (.bipush 8, 2) := by decide +kernel
theorem dX8_difference_7 : decode cX8_difference 7 = .ok (.imul, 1) := by decide +kernel
theorem dX8_difference_8 : decode cX8_difference 8 = .ok (.iload_n 3, 1) := by decide +kernel
theorem dX8_difference_9 : decode cX8_difference 9 = .ok (.iadd, 1) := by decide +kernel
theorem dX8_difference_10 : decode cX8_difference 10 = .ok (.iaload, 1) := by decide +kernel
theorem dX8_difference_11 : decode cX8_difference 11 = .ok (.aload_n 0, 1) := by decide +kernel
theorem dX8_difference_12 : decode cX8_difference 12 = .ok (.getfield 15, 3) := by decide +kernel
theorem dX8_difference_15 : decode cX8_difference 15 = .ok (.iload_n 2, 1) := by decide +kernel
theorem dX8_difference_16 : decode cX8_difference 16 = .ok (.bipush 8, 2) := by decide +kernel
theorem dX8_difference_18 : decode cX8_difference 18 = .ok (.imul, 1) := by decide +kernel
theorem dX8_difference_19 : decode cX8_difference 19 = .ok (.iload_n 3, 1) := by decide +kernel
theorem dX8_difference_20 : decode cX8_difference 20 = .ok (.iadd, 1) := by decide +kernel
theorem dX8_difference_21 : decode cX8_difference 21 = .ok (.iaload, 1) := by decide +kernel
theorem dX8_difference_22 : decode cX8_difference 22 = .ok (.isub, 1) := by decide +kernel
theorem dX8_difference_23 : decode cX8_difference 23 = .ok (.invokestatic 42, 3) := by decide +kernel
theorem dX8_difference_26 : decode cX8_difference 26 = .ok (.ireturn, 1) := by decide +kernel
theorem dX9_init_0 : decode cX9_init 0 = .ok (.aload_n 0, 1) := by decide +kernel
theorem dX9_init_1 : decode cX9_init 1 = .ok (.invokespecial 3, 3) := by decide +kernel
theorem dX9_init_4 : decode cX9_init 4 = .ok (.aload_n 0, 1) := by decide +kernel
theorem dX9_init_5 : decode cX9_init 5 = .ok (.sipush 3600, 3) := by decide +kernel
theorem dX9_init_8 : decode cX9_init 8 = .ok (.newarray .int, 2) := by decide +kernel
theorem dX9_init_10 : decode cX9_init 10 = .ok (.putfield 9, 3) := by decide +kernel
theorem dX9_init_13 : decode cX9_init 13 = .ok (.aload_n 0, 1) := by decide +kernel
theorem dX9_init_14 : decode cX9_init 14 = .ok (.iconst 3, 1) := by decide +kernel
theorem dX9_init_15 : decode cX9_init 15 = .ok (.newarray .int, 2) := by decide +kernel
theorem dX9_init_17 : decode cX9_init 17 = .ok (.putfield 15, 3) := by decide +kernel
theorem dX9_init_20 : decode cX9_init 20 = .ok (.aload_n 0, 1) := by decide +kernel
theorem dX9_init_21 : decode cX9_init 21 = .ok (.iconst 0, 1) := by decide +kernel
theorem dX9_init_22 : decode cX9_init 22 = .ok (.putfield 18, 3) := by decide +kernel
theorem dX9_init_25 : decode cX9_init 25 = .ok (.aload_n 0, 1) := by decide +kernel
theorem dX9_init_26 : decode cX9_init 26 = .ok (.iconst 0, 1) := by decide +kernel
theorem dX9_init_27 : decode cX9_init 27 = .ok (.putfield 22, 3) := by decide +kernel
theorem dX9_init_30 : decode cX9_init 30 = .ok (.return_, 1) := by decide +kernel
theorem dX9_read_0 : decode cX9_read 0 = .ok (.aload_n 0, 1) := by decide +kernel
theorem dX9_read_1 : decode cX9_read 1 = .ok (.getfield 9, 3) := by decide +kernel
theorem dX9_read_4 : decode cX9_read 4 = .ok (.iload_n 1, 1) := by decide +kernel
theorem dX9_read_5 : decode cX9_read 5 = .ok (.bipush 60, 2) := by decide +kernel
theorem dX9_read_7 : decode cX9_read 7 = .ok (.imul, 1) := by decide +kernel
theorem dX9_read_8 : decode cX9_read 8 = .ok (.iload_n 2, 1) := by decide +kernel
theorem dX9_read_9 : decode cX9_read 9 = .ok (.iadd, 1) := by decide +kernel
theorem dX9_read_10 : decode cX9_read 10 = .ok (.iaload, 1) := by decide +kernel
theorem dX9_read_11 : decode cX9_read 11 = .ok (.ireturn, 1) := by decide +kernel
theorem dX9_write_0 : decode cX9_write 0 = .ok (.aload_n 0, 1) := by decide +kernel
theorem dX9_write_1 : decode cX9_write 1 = .ok (.getfield 9, 3) := by decide +kernel
theorem dX9_write_4 : decode cX9_write 4 = .ok (.iload_n 1, 1) := by decide +kernel
theorem dX9_write_5 : decode cX9_write 5 = .ok (.bipush 60, 2) := by decide +kernel
theorem dX9_write_7 : decode cX9_write 7 = .ok (.imul, 1) := by decide +kernel
theorem dX9_write_8 : decode cX9_write 8 = .ok (.iload_n 2, 1) := by decide +kernel
theorem dX9_write_9 : decode cX9_write 9 = .ok (.iadd, 1) := by decide +kernel
theorem dX9_write_10 : decode cX9_write 10 = .ok (.iload_n 3, 1) := by decide +kernel
theorem dX9_write_11 : decode cX9_write 11 = .ok (.iastore, 1) := by decide +kernel
theorem dX9_write_12 : decode cX9_write 12 = .ok (.aload_n 0, 1) := by decide +kernel
theorem dX9_write_13 : decode cX9_write 13 = .ok (.getfield 9, 3) := by decide +kernel
theorem dX9_write_16 : decode cX9_write 16 = .ok (.iload_n 2, 1) := by decide +kernel
theorem dX9_write_17 : decode cX9_write 17 = .ok (.bipush 60, 2) := by decide +kernel
theorem dX9_write_19 : decode cX9_write 19 = .ok (.imul, 1) := by decide +kernel
theorem dX9_write_20 : decode cX9_write 20 = .ok (.iload_n 1, 1) := by decide +kernel
theorem dX9_write_21 : decode cX9_write 21 = .ok (.iadd, 1) := by decide +kernel
theorem dX9_write_22 : decode cX9_write 22 = .ok (.iload_n 3, 1) := by decide +kernel
theorem dX9_write_23 : decode cX9_write 23 = .ok (.iastore, 1) := by decide +kernel
theorem dX9_write_24 : decode cX9_write 24 = .ok (.aload_n 0, 1) := by decide +kernel
theorem dX9_write_25 : decode cX9_write 25 = .ok (.iconst (-1), 1) := by decide +kernel
theorem dX9_write_26 : decode cX9_write 26 = .ok (.putfield 22, 3) := by decide +kernel
theorem dX9_write_29 : decode cX9_write 29 = .ok (.return_, 1) := by decide +kernel
theorem dX9_breaker_0 : decode cX9_breaker 0 = .ok (.aload_n 0, 1) := by decide +kernel
theorem dX9_breaker_1 : decode cX9_breaker 1 = .ok (.getfield 15, 3) := by decide +kernel
theorem dX9_breaker_4 : decode cX9_breaker 4 = .ok (.iload_n 1, 1) := by decide +kernel
theorem dX9_breaker_5 : decode cX9_breaker 5 = .ok (.iaload, 1) := by decide +kernel
theorem dX9_breaker_6 : decode cX9_breaker 6 = .ok (.ireturn, 1) := by decide +kernel
theorem dX9_lawHolds_0 : decode cX9_lawHolds 0 = .ok (.aload_n 0, 1) := by decide +kernel
theorem dX9_lawHolds_1 : decode cX9_lawHolds 1 = .ok (.getfield 22, 3) := by decide +kernel
theorem dX9_lawHolds_4 : decode cX9_lawHolds 4 = .ok (.iload_n 1, 1) := by decide +kernel
theorem dX9_lawHolds_5 : decode cX9_lawHolds 5 = .ok (.if_icmp .eq 17, 3) := by decide +kernel
theorem dX9_lawHolds_8 : decode cX9_lawHolds 8 = .ok (.aload_n 0, 1) := by decide +kernel
theorem dX9_lawHolds_9 : decode cX9_lawHolds 9 = .ok (.aload_n 0, 1) := by decide +kernel
theorem dX9_lawHolds_10 : decode cX9_lawHolds 10 = .ok (.iload_n 1, 1) := by decide +kernel
theorem dX9_lawHolds_11 : decode cX9_lawHolds 11 = .ok (.invokevirtual 26, 3) := by decide +kernel
theorem dX9_lawHolds_14 : decode cX9_lawHolds 14 = .ok (.putfield 18, 3) := by decide +kernel
theorem dX9_lawHolds_17 : decode cX9_lawHolds 17 = .ok (.aload_n 0, 1) := by decide +kernel
theorem dX9_lawHolds_18 : decode cX9_lawHolds 18 = .ok (.iload_n 1, 1) := by decide +kernel
theorem dX9_lawHolds_19 : decode cX9_lawHolds 19 = .ok (.putfield 22, 3) := by decide +kernel
theorem dX9_lawHolds_22 : decode cX9_lawHolds 22 = .ok (.aload_n 0, 1) := by decide +kernel
theorem dX9_lawHolds_23 : decode cX9_lawHolds 23 = .ok (.getfield 18, 3) := by decide +kernel
theorem dX9_lawHolds_26 : decode cX9_lawHolds 26 = .ok (.ifCond .ne 7, 3) := by decide +kernel
theorem dX9_lawHolds_29 : decode cX9_lawHolds 29 = .ok (.iconst 1, 1) := by decide +kernel
theorem dX9_lawHolds_30 : decode cX9_lawHolds 30 = .ok (.goto 4, 3) := by decide +kernel
theorem dX9_lawHolds_33 : decode cX9_lawHolds 33 = .ok (.iconst 0, 1) := by decide +kernel
theorem dX9_lawHolds_34 : decode cX9_lawHolds 34 = .ok (.ireturn, 1) := by decide +kernel
theorem dX9_findBreakers_0 : decode cX9_findBreakers 0 = .ok (.iconst 0, 1) := by decide +kernel
theorem dX9_findBreakers_1 : decode cX9_findBreakers 1 = .ok (.istore_n 2, 1) := by decide +kernel
theorem dX9_findBreakers_2 : decode cX9_findBreakers 2 = .ok (.iload_n 2, 1) := by decide +kernel
theorem dX9_findBreakers_3 : decode cX9_findBreakers 3 = .ok (.iload_n 1, 1) := by decide +kernel
theorem dX9_findBreakers_4 : decode cX9_findBreakers 4 = .ok (.if_icmp .ge 61, 3) := by decide +kernel
theorem dX9_findBreakers_7 : decode cX9_findBreakers 7 = .ok (.iconst 0, 1) := by decide +kernel
theorem dX9_findBreakers_8 : decode cX9_findBreakers 8 = .ok (.istore_n 3, 1) := by decide +kernel
theorem dX9_findBreakers_9 : decode cX9_findBreakers 9 = .ok (.iload_n 3, 1) := by decide +kernel
theorem dX9_findBreakers_10 : decode cX9_findBreakers 10 = .ok (.iload_n 1, 1) := by decide +kernel
theorem dX9_findBreakers_11 : decode cX9_findBreakers 11 = .ok (.if_icmp .ge 48, 3) := by decide +kernel
theorem dX9_findBreakers_14 : decode cX9_findBreakers 14 = .ok (.aload_n 0, 1) := by decide +kernel
theorem dX9_findBreakers_15 : decode cX9_findBreakers 15 = .ok (.iload_n 2, 1) := by decide +kernel
theorem dX9_findBreakers_16 : decode cX9_findBreakers 16 = .ok (.iload_n 3, 1) := by decide +kernel
theorem dX9_findBreakers_17 : decode cX9_findBreakers 17 = .ok (.iload_n 1, 1) := by decide +kernel
theorem dX9_findBreakers_18 : decode cX9_findBreakers 18 = .ok (.invokevirtual 30, 3) := by decide +kernel
theorem dX9_findBreakers_21 : decode cX9_findBreakers 21 = .ok (.istore 4, 2) := by decide +kernel
theorem dX9_findBreakers_23 : decode cX9_findBreakers 23 = .ok (.iload 4, 2) := by decide +kernel
theorem dX9_findBreakers_25 : decode cX9_findBreakers 25 = .ok (.iconst (-1), 1) := by decide +kernel
theorem dX9_findBreakers_26 : decode cX9_findBreakers 26 = .ok (.if_icmp .eq 27, 3) := by decide +kernel
theorem dX9_findBreakers_29 : decode cX9_findBreakers 29 = .ok (.aload_n 0, 1) := by decide +kernel
theorem dX9_findBreakers_30 : decode cX9_findBreakers 30 = .ok (.getfield 15, 3) := by decide +kernel
theorem dX9_findBreakers_33 : decode cX9_findBreakers 33 = .ok (.iconst 0, 1) := by decide +kernel
theorem dX9_findBreakers_34 : decode cX9_findBreakers 34 = .ok (.iload_n 2, 1) := by decide +kernel
theorem dX9_findBreakers_35 : decode cX9_findBreakers 35 = .ok (.iastore, 1) := by decide +kernel
theorem dX9_findBreakers_36 : decode cX9_findBreakers 36 = .ok (.aload_n 0, 1) := by decide +kernel
theorem dX9_findBreakers_37 : decode cX9_findBreakers 37 = .ok (.getfield 15, 3) := by decide +kernel
theorem dX9_findBreakers_40 : decode cX9_findBreakers 40 = .ok (.iconst 1, 1) := by decide +kernel
theorem dX9_findBreakers_41 : decode cX9_findBreakers 41 = .ok (.iload_n 3, 1) := by decide +kernel
theorem dX9_findBreakers_42 : decode cX9_findBreakers 42 = .ok (.iastore, 1) := by decide +kernel
theorem dX9_findBreakers_43 : decode cX9_findBreakers 43 = .ok (.aload_n 0, 1) := by decide +kernel
theorem dX9_findBreakers_44 : decode cX9_findBreakers 44 = .ok (.getfield 15, 3) := by decide +kernel
theorem dX9_findBreakers_47 : decode cX9_findBreakers 47 = .ok (.iconst 2, 1) := by decide +kernel
theorem dX9_findBreakers_48 : decode cX9_findBreakers 48 = .ok (.iload 4, 2) := by decide +kernel
theorem dX9_findBreakers_50 : decode cX9_findBreakers 50 = .ok (.iastore, 1) := by decide +kernel
theorem dX9_findBreakers_51 : decode cX9_findBreakers 51 = .ok (.iconst 1, 1) := by decide +kernel
theorem dX9_findBreakers_52 : decode cX9_findBreakers 52 = .ok (.ireturn, 1) := by decide +kernel
theorem dX9_findBreakers_53 : decode cX9_findBreakers 53 = .ok (.iinc 3 1, 3) := by decide +kernel
theorem dX9_findBreakers_56 : decode cX9_findBreakers 56 = .ok (.goto (-47), 3) := by decide +kernel
theorem dX9_findBreakers_59 : decode cX9_findBreakers 59 = .ok (.iinc 2 1, 3) := by decide +kernel
theorem dX9_findBreakers_62 : decode cX9_findBreakers 62 = .ok (.goto (-60), 3) := by decide +kernel
theorem dX9_findBreakers_65 : decode cX9_findBreakers 65 = .ok (.iconst 0, 1) := by decide +kernel
theorem dX9_findBreakers_66 : decode cX9_findBreakers 66 = .ok (.ireturn, 1) := by decide +kernel
theorem dX9_endBeyond_0 : decode cX9_endBeyond 0 = .ok (.iload_n 1, 1) := by decide +kernel
theorem dX9_endBeyond_1 : decode cX9_endBeyond 1 = .ok (.bipush 60, 2) := by decide +kernel
theorem dX9_endBeyond_3 : decode cX9_endBeyond 3 = .ok (.imul, 1) := by decide +kernel
theorem dX9_endBeyond_4 : decode cX9_endBeyond 4 = .ok (.istore 4, 2) := by decide +kernel
theorem dX9_endBeyond_6 : decode cX9_endBeyond 6 = .ok (.iload_n 2, 1) := by decide +kernel
theorem dX9_endBeyond_7 : decode cX9_endBeyond 7 = .ok (.bipush 60, 2) := by decide +kernel
theorem dX9_endBeyond_9 : decode cX9_endBeyond 9 = .ok (.imul, 1) := by decide +kernel
theorem dX9_endBeyond_10 : decode cX9_endBeyond 10 = .ok (.istore 5, 2) := by decide +kernel
theorem dX9_endBeyond_12 : decode cX9_endBeyond 12 = .ok (.aload_n 0, 1) := by decide +kernel
theorem dX9_endBeyond_13 : decode cX9_endBeyond 13 = .ok (.getfield 9, 3) := by decide +kernel
theorem dX9_endBeyond_16 : decode cX9_endBeyond 16 = .ok (.iload 4, 2) := by decide +kernel
theorem dX9_endBeyond_18 : decode cX9_endBeyond 18 = .ok (.iload_n 2, 1) := by decide +kernel
theorem dX9_endBeyond_19 : decode cX9_endBeyond 19 = .ok (.iadd, 1) := by decide +kernel
theorem dX9_endBeyond_20 : decode cX9_endBeyond 20 = .ok (.iaload, 1) := by decide +kernel
theorem dX9_endBeyond_21 : decode cX9_endBeyond 21 = .ok (.istore 6, 2) := by decide +kernel
theorem dX9_endBeyond_23 : decode cX9_endBeyond 23 = .ok (.iload_n 1, 1) := by decide +kernel
theorem dX9_endBeyond_24 : decode cX9_endBeyond 24 = .ok (.iconst 1, 1) := by decide +kernel
theorem dX9_endBeyond_25 : decode cX9_endBeyond 25 = .ok (.iadd, 1) := by decide +kernel
theorem dX9_endBeyond_26 : decode cX9_endBeyond 26 = .ok (.istore 7, 2) := by decide +kernel
theorem dX9_endBeyond_28 : decode cX9_endBeyond 28 = .ok (.iload 7, 2) := by decide +kernel
theorem dX9_endBeyond_30 : decode cX9_endBeyond 30 = .ok (.iload_n 3, 1) := by decide +kernel
theorem dX9_endBeyond_31 : decode cX9_endBeyond 31 = .ok (.if_icmp .ge 38, 3) := by decide +kernel
theorem dX9_endBeyond_34 : decode cX9_endBeyond 34 = .ok (.aload_n 0, 1) := by decide +kernel
theorem dX9_endBeyond_35 : decode cX9_endBeyond 35 = .ok (.getfield 9, 3) := by decide +kernel
theorem dX9_endBeyond_38 : decode cX9_endBeyond 38 = .ok (.iload 4, 2) := by decide +kernel
theorem dX9_endBeyond_40 : decode cX9_endBeyond 40 = .ok (.iload 7, 2) := by decide +kernel
theorem dX9_endBeyond_42 : decode cX9_endBeyond 42 = .ok (.iadd, 1) := by decide +kernel
theorem dX9_endBeyond_43 : decode cX9_endBeyond 43 = .ok (.iaload, 1) := by decide +kernel
theorem dX9_endBeyond_44 : decode cX9_endBeyond 44 = .ok (.iload 6, 2) := by decide +kernel
theorem dX9_endBeyond_46 : decode cX9_endBeyond 46 = .ok (.aload_n 0, 1) := by decide +kernel
theorem dX9_endBeyond_47 : decode cX9_endBeyond 47 = .ok (.getfield 9, 3) := by decide +kernel
theorem dX9_endBeyond_50 : decode cX9_endBeyond 50 = .ok (.iload 5, 2) := by decide +kernel
theorem dX9_endBeyond_52 : decode cX9_endBeyond 52 = .ok (.iload 7, 2) := by decide +kernel
theorem dX9_endBeyond_54 : decode cX9_endBeyond 54 = .ok (.iadd, 1) := by decide +kernel
theorem dX9_endBeyond_55 : decode cX9_endBeyond 55 = .ok (.iaload, 1) := by decide +kernel
theorem dX9_endBeyond_56 : decode cX9_endBeyond 56 = .ok (.iadd, 1) := by decide +kernel
theorem dX9_endBeyond_57 : decode cX9_endBeyond 57 = .ok (.if_icmp .le 6, 3) := by decide +kernel
theorem dX9_endBeyond_60 : decode cX9_endBeyond 60 = .ok (.iload 7, 2) := by decide +kernel
theorem dX9_endBeyond_62 : decode cX9_endBeyond 62 = .ok (.ireturn, 1) := by decide +kernel
theorem dX9_endBeyond_63 : decode cX9_endBeyond 63 = .ok (.iinc 7 1, 3) := by decide +kernel
theorem dX9_endBeyond_66 : decode cX9_endBeyond 66 = .ok (.goto (-38), 3) := by decide +kernel
theorem dX9_endBeyond_69 : decode cX9_endBeyond 69 = .ok (.iconst (-1), 1) := by decide +kernel
theorem dX9_endBeyond_70 : decode cX9_endBeyond 70 = .ok (.ireturn, 1) := by decide +kernel
theorem dX10_init_0 : decode cX10_init 0 = .ok (.aload_n 0, 1) := by decide +kernel
theorem dX10_init_1 : decode cX10_init 1 = .ok (.invokespecial 1, 3) := by decide +kernel
theorem dX10_init_4 : decode cX10_init 4 = .ok (.aload_n 0, 1) := by decide +kernel
theorem dX10_init_5 : decode cX10_init 5 = .ok (.new 7, 3) := by decide +kernel
theorem dX10_init_8 : decode cX10_init 8 = .ok (.dup, 1) := by decide +kernel
theorem dX10_init_9 : decode cX10_init 9 = .ok (.invokespecial 9, 3) := by decide +kernel
theorem dX10_init_12 : decode cX10_init 12 = .ok (.putfield 10, 3) := by decide +kernel
theorem dX10_init_15 : decode cX10_init 15 = .ok (.aload_n 0, 1) := by decide +kernel
theorem dX10_init_16 : decode cX10_init 16 = .ok (.new 16, 3) := by decide +kernel
theorem dX10_init_19 : decode cX10_init 19 = .ok (.dup, 1) := by decide +kernel
theorem dX10_init_20 : decode cX10_init 20 = .ok (.invokespecial 18, 3) := by decide +kernel
theorem dX10_init_23 : decode cX10_init 23 = .ok (.putfield 19, 3) := by decide +kernel
theorem dX10_init_26 : decode cX10_init 26 = .ok (.aload_n 0, 1) := by decide +kernel
theorem dX10_init_27 : decode cX10_init 27 = .ok (.new 23, 3) := by decide +kernel
theorem dX10_init_30 : decode cX10_init 30 = .ok (.dup, 1) := by decide +kernel
theorem dX10_init_31 : decode cX10_init 31 = .ok (.aload_n 0, 1) := by decide +kernel
theorem dX10_init_32 : decode cX10_init 32 = .ok (.getfield 10, 3) := by decide +kernel
theorem dX10_init_35 : decode cX10_init 35 = .ok (.aload_n 0, 1) := by decide +kernel
theorem dX10_init_36 : decode cX10_init 36 = .ok (.getfield 19, 3) := by decide +kernel
theorem dX10_init_39 : decode cX10_init 39 = .ok (.invokespecial 25, 3) := by decide +kernel
theorem dX10_init_42 : decode cX10_init 42 = .ok (.putfield 28, 3) := by decide +kernel
theorem dX10_init_45 : decode cX10_init 45 = .ok (.aload_n 0, 1) := by decide +kernel
theorem dX10_init_46 : decode cX10_init 46 = .ok (.new 32, 3) := by decide +kernel
theorem dX10_init_49 : decode cX10_init 49 = .ok (.dup, 1) := by decide +kernel
theorem dX10_init_50 : decode cX10_init 50 = .ok (.invokespecial 34, 3) := by decide +kernel
theorem dX10_init_53 : decode cX10_init 53 = .ok (.putfield 35, 3) := by decide +kernel
theorem dX10_init_56 : decode cX10_init 56 = .ok (.aload_n 0, 1) := by decide +kernel
theorem dX10_init_57 : decode cX10_init 57 = .ok (.new 39, 3) := by decide +kernel
theorem dX10_init_60 : decode cX10_init 60 = .ok (.dup, 1) := by decide +kernel
theorem dX10_init_61 : decode cX10_init 61 = .ok (.invokespecial 41, 3) := by decide +kernel
theorem dX10_init_64 : decode cX10_init 64 = .ok (.putfield 42, 3) := by decide +kernel
theorem dX10_init_67 : decode cX10_init 67 = .ok (.aload_n 0, 1) := by decide +kernel
theorem dX10_init_68 : decode cX10_init 68 = .ok (.new 46, 3) := by decide +kernel
theorem dX10_init_71 : decode cX10_init 71 = .ok (.dup, 1) := by decide +kernel
theorem dX10_init_72 : decode cX10_init 72 = .ok (.invokespecial 48, 3) := by decide +kernel
theorem dX10_init_75 : decode cX10_init 75 = .ok (.putfield 49, 3) := by decide +kernel
theorem dX10_init_78 : decode cX10_init 78 = .ok (.aload_n 0, 1) := by decide +kernel
theorem dX10_init_79 : decode cX10_init 79 = .ok (.new 53, 3) := by decide +kernel
theorem dX10_init_82 : decode cX10_init 82 = .ok (.dup, 1) := by decide +kernel
theorem dX10_init_83 : decode cX10_init 83 = .ok (.aload_n 0, 1) := by decide +kernel
theorem dX10_init_84 : decode cX10_init 84 = .ok (.getfield 35, 3) := by decide +kernel
theorem dX10_init_87 : decode cX10_init 87 = .ok (.aload_n 0, 1) := by decide +kernel
theorem dX10_init_88 : decode cX10_init 88 = .ok (.getfield 28, 3) := by decide +kernel
theorem dX10_init_91 : decode cX10_init 91 = .ok (.invokespecial 55, 3) := by decide +kernel
theorem dX10_init_94 : decode cX10_init 94 = .ok (.putfield 58, 3) := by decide +kernel
theorem dX10_init_97 : decode cX10_init 97 = .ok (.aload_n 0, 1) := by decide +kernel
theorem dX10_init_98 : decode cX10_init 98 = .ok (.new 62, 3) := by decide +kernel
theorem dX10_init_101 : decode cX10_init 101 = .ok (.dup, 1) := by decide +kernel
theorem dX10_init_102 : decode cX10_init 102 = .ok (.aload_n 0, 1) := by decide +kernel
theorem dX10_init_103 : decode cX10_init 103 = .ok (.getfield 35, 3) := by decide +kernel
theorem dX10_init_106 : decode cX10_init 106 = .ok (.aload_n 0, 1) := by decide +kernel
theorem dX10_init_107 : decode cX10_init 107 = .ok (.getfield 28, 3) := by decide +kernel
theorem dX10_init_110 : decode cX10_init 110 = .ok (.invokespecial 64, 3) := by decide +kernel
theorem dX10_init_113 : decode cX10_init 113 = .ok (.putfield 65, 3) := by decide +kernel
theorem dX10_init_116 : decode cX10_init 116 = .ok (.aload_n 0, 1) := by decide +kernel
theorem dX10_init_117 : decode cX10_init 117 = .ok (.new 69, 3) := by decide +kernel
theorem dX10_init_120 : decode cX10_init 120 = .ok (.dup, 1) := by decide +kernel
theorem dX10_init_121 : decode cX10_init 121 = .ok (.aload_n 0, 1) := by decide +kernel
theorem dX10_init_122 : decode cX10_init 122 = .ok (.getfield 35, 3) := by decide +kernel
theorem dX10_init_125 : decode cX10_init 125 = .ok (.aload_n 0, 1) := by decide +kernel
theorem dX10_init_126 : decode cX10_init 126 = .ok (.getfield 28, 3) := by decide +kernel
theorem dX10_init_129 : decode cX10_init 129 = .ok (.invokespecial 71, 3) := by decide +kernel
theorem dX10_init_132 : decode cX10_init 132 = .ok (.putfield 72, 3) := by decide +kernel
theorem dX10_init_135 : decode cX10_init 135 = .ok (.aload_n 0, 1) := by decide +kernel
theorem dX10_init_136 : decode cX10_init 136 = .ok (.new 76, 3) := by decide +kernel
theorem dX10_init_139 : decode cX10_init 139 = .ok (.dup, 1) := by decide +kernel
theorem dX10_init_140 : decode cX10_init 140 = .ok (.aload_n 0, 1) := by decide +kernel
theorem dX10_init_141 : decode cX10_init 141 = .ok (.getfield 35, 3) := by decide +kernel
theorem dX10_init_144 : decode cX10_init 144 = .ok (.aload_n 0, 1) := by decide +kernel
theorem dX10_init_145 : decode cX10_init 145 = .ok (.getfield 28, 3) := by decide +kernel
theorem dX10_init_148 : decode cX10_init 148 = .ok (.invokespecial 78, 3) := by decide +kernel
theorem dX10_init_151 : decode cX10_init 151 = .ok (.putfield 79, 3) := by decide +kernel
theorem dX10_init_154 : decode cX10_init 154 = .ok (.return_, 1) := by decide +kernel
theorem dX10_thing_0 : decode cX10_thing 0 = .ok (.iload_n 1, 1) := by decide +kernel
theorem dX10_thing_1 : decode cX10_thing 1 = .ok (.ifCond .lt 21, 3) := by decide +kernel
theorem dX10_thing_4 : decode cX10_thing 4 = .ok (.iload_n 1, 1) := by decide +kernel
theorem dX10_thing_5 : decode cX10_thing 5 = .ok (.bipush 8, 2) := by decide +kernel
theorem dX10_thing_7 : decode cX10_thing 7 = .ok (.if_icmp .gt 15, 3) := by decide +kernel
theorem dX10_thing_10 : decode cX10_thing 10 = .ok (.aload_n 0, 1) := by decide +kernel
theorem dX10_thing_11 : decode cX10_thing 11 = .ok (.getfield 10, 3) := by decide +kernel
theorem dX10_thing_14 : decode cX10_thing 14 = .ok (.invokevirtual 83, 3) := by decide +kernel
theorem dX10_thing_17 : decode cX10_thing 17 = .ok (.bipush 60, 2) := by decide +kernel
theorem dX10_thing_19 : decode cX10_thing 19 = .ok (.if_icmp .lt 5, 3) := by decide +kernel
theorem dX10_thing_22 : decode cX10_thing 22 = .ok (.iconst (-1), 1) := by decide +kernel
theorem dX10_thing_23 : decode cX10_thing 23 = .ok (.ireturn, 1) := by decide +kernel
theorem dX10_thing_24 : decode cX10_thing 24 = .ok (.aload_n 0, 1) := by decide +kernel
theorem dX10_thing_25 : decode cX10_thing 25 = .ok (.getfield 10, 3) := by decide +kernel
theorem dX10_thing_28 : decode cX10_thing 28 = .ok (.iload_n 1, 1) := by decide +kernel
theorem dX10_thing_29 : decode cX10_thing 29 = .ok (.invokevirtual 87, 3) := by decide +kernel
theorem dX10_thing_32 : decode cX10_thing 32 = .ok (.ireturn, 1) := by decide +kernel
theorem dX10_value_0 : decode cX10_value 0 = .ok (.aload_n 0, 1) := by decide +kernel
theorem dX10_value_1 : decode cX10_value 1 = .ok (.getfield 10, 3) := by decide +kernel
theorem dX10_value_4 : decode cX10_value 4 = .ok (.iload_n 1, 1) := by decide +kernel
theorem dX10_value_5 : decode cX10_value 5 = .ok (.invokevirtual 91, 3) := by decide +kernel
theorem dX10_value_8 : decode cX10_value 8 = .ok (.ifCond .eq 19, 3) := by decide +kernel
theorem dX10_value_11 : decode cX10_value 11 = .ok (.iload_n 2, 1) := by decide +kernel
theorem dX10_value_12 : decode cX10_value 12 = .ok (.ifCond .lt 15, 3) := by decide +kernel
theorem dX10_value_15 : decode cX10_value 15 = .ok (.iload_n 2, 1) := by decide +kernel
theorem dX10_value_16 : decode cX10_value 16 = .ok (.aload_n 0, 1) := by decide +kernel
theorem dX10_value_17 : decode cX10_value 17 = .ok (.getfield 10, 3) := by decide +kernel
theorem dX10_value_20 : decode cX10_value 20 = .ok (.iload_n 1, 1) := by decide +kernel
theorem dX10_value_21 : decode cX10_value 21 = .ok (.invokevirtual 95, 3) := by decide +kernel
theorem dX10_value_24 : decode cX10_value 24 = .ok (.if_icmp .lt 5, 3) := by decide +kernel
theorem dX10_value_27 : decode cX10_value 27 = .ok (.iconst 0, 1) := by decide +kernel
theorem dX10_value_28 : decode cX10_value 28 = .ok (.ireturn, 1) := by decide +kernel
theorem dX10_value_29 : decode cX10_value 29 = .ok (.iload_n 3, 1) := by decide +kernel
theorem dX10_value_30 : decode cX10_value 30 = .ok (.sipush (-1000), 3) := by decide +kernel
theorem dX10_value_33 : decode cX10_value 33 = .ok (.if_icmp .lt 10, 3) := by decide +kernel
theorem dX10_value_36 : decode cX10_value 36 = .ok (.iload_n 3, 1) := by decide +kernel
theorem dX10_value_37 : decode cX10_value 37 = .ok (.sipush 1000, 3) := by decide +kernel
theorem dX10_value_40 : decode cX10_value 40 = .ok (.if_icmp .le 5, 3) := by decide +kernel
theorem dX10_value_43 : decode cX10_value 43 = .ok (.iconst 0, 1) := by decide +kernel
theorem dX10_value_44 : decode cX10_value 44 = .ok (.ireturn, 1) := by decide +kernel
theorem dX10_value_45 : decode cX10_value 45 = .ok (.aload_n 0, 1) := by decide +kernel
theorem dX10_value_46 : decode cX10_value 46 = .ok (.getfield 10, 3) := by decide +kernel
theorem dX10_value_49 : decode cX10_value 49 = .ok (.iload_n 1, 1) := by decide +kernel
theorem dX10_value_50 : decode cX10_value 50 = .ok (.iload_n 2, 1) := by decide +kernel
theorem dX10_value_51 : decode cX10_value 51 = .ok (.iload_n 3, 1) := by decide +kernel
theorem dX10_value_52 : decode cX10_value 52 = .ok (.invokevirtual 98, 3) := by decide +kernel
theorem dX10_value_55 : decode cX10_value 55 = .ok (.aload_n 0, 1) := by decide +kernel
theorem dX10_value_56 : decode cX10_value 56 = .ok (.getfield 28, 3) := by decide +kernel
theorem dX10_value_59 : decode cX10_value 59 = .ok (.iload_n 1, 1) := by decide +kernel
theorem dX10_value_60 : decode cX10_value 60 = .ok (.invokevirtual 102, 3) := by decide +kernel
theorem dX10_value_63 : decode cX10_value 63 = .ok (.iconst 1, 1) := by decide +kernel
theorem dX10_value_64 : decode cX10_value 64 = .ok (.ireturn, 1) := by decide +kernel
theorem dX10_tell_0 : decode cX10_tell 0 = .ok (.aload_n 0, 1) := by decide +kernel
theorem dX10_tell_1 : decode cX10_tell 1 = .ok (.getfield 10, 3) := by decide +kernel
theorem dX10_tell_4 : decode cX10_tell 4 = .ok (.iload_n 1, 1) := by decide +kernel
theorem dX10_tell_5 : decode cX10_tell 5 = .ok (.invokevirtual 91, 3) := by decide +kernel
theorem dX10_tell_8 : decode cX10_tell 8 = .ok (.ifCond .eq 29, 3) := by decide +kernel
theorem dX10_tell_11 : decode cX10_tell 11 = .ok (.aload_n 0, 1) := by decide +kernel
theorem dX10_tell_12 : decode cX10_tell 12 = .ok (.getfield 10, 3) := by decide +kernel
theorem dX10_tell_15 : decode cX10_tell 15 = .ok (.iload_n 2, 1) := by decide +kernel
theorem dX10_tell_16 : decode cX10_tell 16 = .ok (.invokevirtual 91, 3) := by decide +kernel
theorem dX10_tell_19 : decode cX10_tell 19 = .ok (.ifCond .eq 18, 3) := by decide +kernel
theorem dX10_tell_22 : decode cX10_tell 22 = .ok (.iload_n 1, 1) := by decide +kernel
theorem dX10_tell_23 : decode cX10_tell 23 = .ok (.iload_n 2, 1) := by decide +kernel
theorem dX10_tell_24 : decode cX10_tell 24 = .ok (.if_icmp .eq 13, 3) := by decide +kernel
theorem dX10_tell_27 : decode cX10_tell 27 = .ok (.iload_n 3, 1) := by decide +kernel
theorem dX10_tell_28 : decode cX10_tell 28 = .ok (.ifCond .lt 9, 3) := by decide +kernel
theorem dX10_tell_31 : decode cX10_tell 31 = .ok (.iload_n 3, 1) := by decide +kernel
theorem dX10_tell_32 : decode cX10_tell 32 = .ok (.ldc 106, 2) := by decide +kernel
theorem dX10_tell_34 : decode cX10_tell 34 = .ok (.if_icmp .le 5, 3) := by decide +kernel
theorem dX10_tell_37 : decode cX10_tell 37 = .ok (.iconst 0, 1) := by decide +kernel
theorem dX10_tell_38 : decode cX10_tell 38 = .ok (.ireturn, 1) := by decide +kernel
theorem dX10_tell_39 : decode cX10_tell 39 = .ok (.aload_n 0, 1) := by decide +kernel
theorem dX10_tell_40 : decode cX10_tell 40 = .ok (.getfield 19, 3) := by decide +kernel
theorem dX10_tell_43 : decode cX10_tell 43 = .ok (.iload_n 1, 1) := by decide +kernel
theorem dX10_tell_44 : decode cX10_tell 44 = .ok (.iload_n 2, 1) := by decide +kernel
theorem dX10_tell_45 : decode cX10_tell 45 = .ok (.iload_n 3, 1) := by decide +kernel
theorem dX10_tell_46 : decode cX10_tell 46 = .ok (.invokevirtual 107, 3) := by decide +kernel
theorem dX10_tell_49 : decode cX10_tell 49 = .ok (.aload_n 0, 1) := by decide +kernel
theorem dX10_tell_50 : decode cX10_tell 50 = .ok (.getfield 28, 3) := by decide +kernel
theorem dX10_tell_53 : decode cX10_tell 53 = .ok (.iload_n 1, 1) := by decide +kernel
theorem dX10_tell_54 : decode cX10_tell 54 = .ok (.iload_n 2, 1) := by decide +kernel
theorem dX10_tell_55 : decode cX10_tell 55 = .ok (.invokevirtual 110, 3) := by decide +kernel
theorem dX10_tell_58 : decode cX10_tell 58 = .ok (.iconst 1, 1) := by decide +kernel
theorem dX10_tell_59 : decode cX10_tell 59 = .ok (.ireturn, 1) := by decide +kernel
theorem dX10_kind_0 : decode cX10_kind 0 = .ok (.iload_n 1, 1) := by decide +kernel
theorem dX10_kind_1 : decode cX10_kind 1 = .ok (.ifCond .lt 8, 3) := by decide +kernel
theorem dX10_kind_4 : decode cX10_kind 4 = .ok (.iload_n 1, 1) := by decide +kernel
theorem dX10_kind_5 : decode cX10_kind 5 = .ok (.iconst 5, 1) := by decide +kernel
theorem dX10_kind_6 : decode cX10_kind 6 = .ok (.if_icmp .le 5, 3) := by decide +kernel
theorem dX10_kind_9 : decode cX10_kind 9 = .ok (.iconst 0, 1) := by decide +kernel
theorem dX10_kind_10 : decode cX10_kind 10 = .ok (.ireturn, 1) := by decide +kernel
theorem dX10_kind_11 : decode cX10_kind 11 = .ok (.aload_n 0, 1) := by decide +kernel
theorem dX10_kind_12 : decode cX10_kind 12 = .ok (.getfield 28, 3) := by decide +kernel
theorem dX10_kind_15 : decode cX10_kind 15 = .ok (.iload_n 1, 1) := by decide +kernel
theorem dX10_kind_16 : decode cX10_kind 16 = .ok (.invokevirtual 114, 3) := by decide +kernel
theorem dX10_kind_19 : decode cX10_kind 19 = .ok (.iconst 1, 1) := by decide +kernel
theorem dX10_kind_20 : decode cX10_kind 20 = .ok (.ireturn, 1) := by decide +kernel
theorem dX10_distance_0 : decode cX10_distance 0 = .ok (.aload_n 0, 1) := by decide +kernel
theorem dX10_distance_1 : decode cX10_distance 1 = .ok (.getfield 10, 3) := by decide +kernel
theorem dX10_distance_4 : decode cX10_distance 4 = .ok (.iload_n 1, 1) := by decide +kernel
theorem dX10_distance_5 : decode cX10_distance 5 = .ok (.invokevirtual 91, 3) := by decide +kernel
theorem dX10_distance_8 : decode cX10_distance 8 = .ok (.ifCond .eq 14, 3) := by decide +kernel
theorem dX10_distance_11 : decode cX10_distance 11 = .ok (.aload_n 0, 1) := by decide +kernel
theorem dX10_distance_12 : decode cX10_distance 12 = .ok (.getfield 10, 3) := by decide +kernel
theorem dX10_distance_15 : decode cX10_distance 15 = .ok (.iload_n 2, 1) := by decide +kernel
theorem dX10_distance_16 : decode cX10_distance 16 = .ok (.invokevirtual 91, 3) := by decide +kernel
theorem dX10_distance_19 : decode cX10_distance 19 = .ok (.ifCond .ne 5, 3) := by decide +kernel
theorem dX10_distance_22 : decode cX10_distance 22 = .ok (.iconst (-1), 1) := by decide +kernel
theorem dX10_distance_23 : decode cX10_distance 23 = .ok (.ireturn, 1) := by decide +kernel
theorem dX10_distance_24 : decode cX10_distance 24 = .ok (.aload_n 0, 1) := by decide +kernel
theorem dX10_distance_25 : decode cX10_distance 25 = .ok (.getfield 28, 3) := by decide +kernel
theorem dX10_distance_28 : decode cX10_distance 28 = .ok (.iload_n 1, 1) := by decide +kernel
theorem dX10_distance_29 : decode cX10_distance 29 = .ok (.iload_n 2, 1) := by decide +kernel
theorem dX10_distance_30 : decode cX10_distance 30 = .ok (.invokevirtual 117, 3) := by decide +kernel
theorem dX10_distance_33 : decode cX10_distance 33 = .ok (.ireturn, 1) := by decide +kernel
theorem dX10_law_0 : decode cX10_law 0 = .ok (.aload_n 0, 1) := by decide +kernel
theorem dX10_law_1 : decode cX10_law 1 = .ok (.getfield 28, 3) := by decide +kernel
theorem dX10_law_4 : decode cX10_law 4 = .ok (.invokevirtual 121, 3) := by decide +kernel
theorem dX10_law_7 : decode cX10_law 7 = .ok (.ifCond .eq 7, 3) := by decide +kernel
theorem dX10_law_10 : decode cX10_law 10 = .ok (.iconst 1, 1) := by decide +kernel
theorem dX10_law_11 : decode cX10_law 11 = .ok (.goto 4, 3) := by decide +kernel
theorem dX10_law_14 : decode cX10_law 14 = .ok (.iconst 0, 1) := by decide +kernel
theorem dX10_law_15 : decode cX10_law 15 = .ok (.ireturn, 1) := by decide +kernel
theorem dX10_three_0 : decode cX10_three 0 = .ok (.iload_n 1, 1) := by decide +kernel
theorem dX10_three_1 : decode cX10_three 1 = .ok (.ifCond .lt 18, 3) := by decide +kernel
theorem dX10_three_4 : decode cX10_three 4 = .ok (.iload_n 1, 1) := by decide +kernel
theorem dX10_three_5 : decode cX10_three 5 = .ok (.iconst 2, 1) := by decide +kernel
theorem dX10_three_6 : decode cX10_three 6 = .ok (.if_icmp .gt 13, 3) := by decide +kernel
theorem dX10_three_9 : decode cX10_three 9 = .ok (.aload_n 0, 1) := by decide +kernel
theorem dX10_three_10 : decode cX10_three 10 = .ok (.getfield 28, 3) := by decide +kernel
theorem dX10_three_13 : decode cX10_three 13 = .ok (.invokevirtual 121, 3) := by decide +kernel
theorem dX10_three_16 : decode cX10_three 16 = .ok (.ifCond .eq 5, 3) := by decide +kernel
theorem dX10_three_19 : decode cX10_three 19 = .ok (.iconst (-1), 1) := by decide +kernel
theorem dX10_three_20 : decode cX10_three 20 = .ok (.ireturn, 1) := by decide +kernel
theorem dX10_three_21 : decode cX10_three 21 = .ok (.aload_n 0, 1) := by decide +kernel
theorem dX10_three_22 : decode cX10_three 22 = .ok (.getfield 19, 3) := by decide +kernel
theorem dX10_three_25 : decode cX10_three 25 = .ok (.iload_n 1, 1) := by decide +kernel
theorem dX10_three_26 : decode cX10_three 26 = .ok (.invokevirtual 125, 3) := by decide +kernel
theorem dX10_three_29 : decode cX10_three 29 = .ok (.ireturn, 1) := by decide +kernel
theorem dX10_put_0 : decode cX10_put 0 = .ok (.aload_n 0, 1) := by decide +kernel
theorem dX10_put_1 : decode cX10_put 1 = .ok (.getfield 10, 3) := by decide +kernel
theorem dX10_put_4 : decode cX10_put 4 = .ok (.iload_n 1, 1) := by decide +kernel
theorem dX10_put_5 : decode cX10_put 5 = .ok (.invokevirtual 91, 3) := by decide +kernel
theorem dX10_put_8 : decode cX10_put 8 = .ok (.ifCond .eq 14, 3) := by decide +kernel
theorem dX10_put_11 : decode cX10_put 11 = .ok (.aload_n 0, 1) := by decide +kernel
theorem dX10_put_12 : decode cX10_put 12 = .ok (.getfield 35, 3) := by decide +kernel
theorem dX10_put_15 : decode cX10_put 15 = .ok (.iload_n 1, 1) := by decide +kernel
theorem dX10_put_16 : decode cX10_put 16 = .ok (.invokevirtual 128, 3) := by decide +kernel
theorem dX10_put_19 : decode cX10_put 19 = .ok (.ifCond .eq 5, 3) := by decide +kernel
theorem dX10_put_22 : decode cX10_put 22 = .ok (.iconst 0, 1) := by decide +kernel
theorem dX10_put_23 : decode cX10_put 23 = .ok (.ireturn, 1) := by decide +kernel
theorem dX10_put_24 : decode cX10_put 24 = .ok (.aload_n 0, 1) := by decide +kernel
theorem dX10_put_25 : decode cX10_put 25 = .ok (.getfield 35, 3) := by decide +kernel
theorem dX10_put_28 : decode cX10_put 28 = .ok (.iload_n 1, 1) := by decide +kernel
theorem dX10_put_29 : decode cX10_put 29 = .ok (.invokevirtual 129, 3) := by decide +kernel
theorem dX10_put_32 : decode cX10_put 32 = .ok (.iconst 1, 1) := by decide +kernel
theorem dX10_put_33 : decode cX10_put 33 = .ok (.ireturn, 1) := by decide +kernel
theorem dX10_drop_0 : decode cX10_drop 0 = .ok (.aload_n 0, 1) := by decide +kernel
theorem dX10_drop_1 : decode cX10_drop 1 = .ok (.getfield 35, 3) := by decide +kernel
theorem dX10_drop_4 : decode cX10_drop 4 = .ok (.iload_n 1, 1) := by decide +kernel
theorem dX10_drop_5 : decode cX10_drop 5 = .ok (.invokevirtual 128, 3) := by decide +kernel
theorem dX10_drop_8 : decode cX10_drop 8 = .ok (.ifCond .ne 5, 3) := by decide +kernel
theorem dX10_drop_11 : decode cX10_drop 11 = .ok (.iconst 0, 1) := by decide +kernel
theorem dX10_drop_12 : decode cX10_drop 12 = .ok (.ireturn, 1) := by decide +kernel
theorem dX10_drop_13 : decode cX10_drop 13 = .ok (.aload_n 0, 1) := by decide +kernel
theorem dX10_drop_14 : decode cX10_drop 14 = .ok (.getfield 35, 3) := by decide +kernel
theorem dX10_drop_17 : decode cX10_drop 17 = .ok (.iload_n 1, 1) := by decide +kernel
theorem dX10_drop_18 : decode cX10_drop 18 = .ok (.invokevirtual 132, 3) := by decide +kernel
theorem dX10_drop_21 : decode cX10_drop 21 = .ok (.iconst 1, 1) := by decide +kernel
theorem dX10_drop_22 : decode cX10_drop 22 = .ok (.ireturn, 1) := by decide +kernel
theorem dX10_has_0 : decode cX10_has 0 = .ok (.aload_n 0, 1) := by decide +kernel
theorem dX10_has_1 : decode cX10_has 1 = .ok (.getfield 10, 3) := by decide +kernel
theorem dX10_has_4 : decode cX10_has 4 = .ok (.iload_n 1, 1) := by decide +kernel
theorem dX10_has_5 : decode cX10_has 5 = .ok (.invokevirtual 91, 3) := by decide +kernel
theorem dX10_has_8 : decode cX10_has 8 = .ok (.ifCond .ne 5, 3) := by decide +kernel
theorem dX10_has_11 : decode cX10_has 11 = .ok (.iconst (-1), 1) := by decide +kernel
theorem dX10_has_12 : decode cX10_has 12 = .ok (.ireturn, 1) := by decide +kernel
theorem dX10_has_13 : decode cX10_has 13 = .ok (.aload_n 0, 1) := by decide +kernel
theorem dX10_has_14 : decode cX10_has 14 = .ok (.getfield 35, 3) := by decide +kernel
theorem dX10_has_17 : decode cX10_has 17 = .ok (.iload_n 1, 1) := by decide +kernel
theorem dX10_has_18 : decode cX10_has 18 = .ok (.invokevirtual 128, 3) := by decide +kernel
theorem dX10_has_21 : decode cX10_has 21 = .ok (.ifCond .eq 7, 3) := by decide +kernel
theorem dX10_has_24 : decode cX10_has 24 = .ok (.iconst 1, 1) := by decide +kernel
theorem dX10_has_25 : decode cX10_has 25 = .ok (.goto 4, 3) := by decide +kernel
theorem dX10_has_28 : decode cX10_has 28 = .ok (.iconst 0, 1) := by decide +kernel
theorem dX10_has_29 : decode cX10_has 29 = .ok (.ireturn, 1) := by decide +kernel
theorem dX10_nearest_0 : decode cX10_nearest 0 = .ok (.aload_n 0, 1) := by decide +kernel
theorem dX10_nearest_1 : decode cX10_nearest 1 = .ok (.getfield 10, 3) := by decide +kernel
theorem dX10_nearest_4 : decode cX10_nearest 4 = .ok (.iload_n 1, 1) := by decide +kernel
theorem dX10_nearest_5 : decode cX10_nearest 5 = .ok (.invokevirtual 91, 3) := by decide +kernel
theorem dX10_nearest_8 : decode cX10_nearest 8 = .ok (.ifCond .eq 20, 3) := by decide +kernel
theorem dX10_nearest_11 : decode cX10_nearest 11 = .ok (.iload_n 2, 1) := by decide +kernel
theorem dX10_nearest_12 : decode cX10_nearest 12 = .ok (.invokestatic 135, 3) := by decide +kernel
theorem dX10_nearest_15 : decode cX10_nearest 15 = .ok (.ifCond .eq 13, 3) := by decide +kernel
theorem dX10_nearest_18 : decode cX10_nearest 18 = .ok (.aload_n 0, 1) := by decide +kernel
theorem dX10_nearest_19 : decode cX10_nearest 19 = .ok (.getfield 28, 3) := by decide +kernel
theorem dX10_nearest_22 : decode cX10_nearest 22 = .ok (.invokevirtual 121, 3) := by decide +kernel
theorem dX10_nearest_25 : decode cX10_nearest 25 = .ok (.ifCond .ne 5, 3) := by decide +kernel
theorem dX10_nearest_28 : decode cX10_nearest 28 = .ok (.iconst (-1), 1) := by decide +kernel
theorem dX10_nearest_29 : decode cX10_nearest 29 = .ok (.ireturn, 1) := by decide +kernel
theorem dX10_nearest_30 : decode cX10_nearest 30 = .ok (.aload_n 0, 1) := by decide +kernel
theorem dX10_nearest_31 : decode cX10_nearest 31 = .ok (.iload_n 1, 1) := by decide +kernel
theorem dX10_nearest_32 : decode cX10_nearest 32 = .ok (.ldc 106, 2) := by decide +kernel
theorem dX10_nearest_34 : decode cX10_nearest 34 = .ok (.invokevirtual 138, 3) := by decide +kernel
theorem dX10_nearest_37 : decode cX10_nearest 37 = .ok (.aload_n 0, 1) := by decide +kernel
theorem dX10_nearest_38 : decode cX10_nearest 38 = .ok (.iload_n 1, 1) := by decide +kernel
theorem dX10_nearest_39 : decode cX10_nearest 39 = .ok (.iload_n 2, 1) := by decide +kernel
theorem dX10_nearest_40 : decode cX10_nearest 40 = .ok (.invokevirtual 141, 3) := by decide +kernel
theorem dX10_nearest_43 : decode cX10_nearest 43 = .ok (.ireturn, 1) := by decide +kernel
theorem dX10_within_0 : decode cX10_within 0 = .ok (.aload_n 0, 1) := by decide +kernel
theorem dX10_within_1 : decode cX10_within 1 = .ok (.getfield 10, 3) := by decide +kernel
theorem dX10_within_4 : decode cX10_within 4 = .ok (.iload_n 1, 1) := by decide +kernel
theorem dX10_within_5 : decode cX10_within 5 = .ok (.invokevirtual 91, 3) := by decide +kernel
theorem dX10_within_8 : decode cX10_within 8 = .ok (.ifCond .eq 17, 3) := by decide +kernel
theorem dX10_within_11 : decode cX10_within 11 = .ok (.iload_n 2, 1) := by decide +kernel
theorem dX10_within_12 : decode cX10_within 12 = .ok (.ifCond .lt 13, 3) := by decide +kernel
theorem dX10_within_15 : decode cX10_within 15 = .ok (.aload_n 0, 1) := by decide +kernel
theorem dX10_within_16 : decode cX10_within 16 = .ok (.getfield 28, 3) := by decide +kernel
theorem dX10_within_19 : decode cX10_within 19 = .ok (.invokevirtual 121, 3) := by decide +kernel
theorem dX10_within_22 : decode cX10_within 22 = .ok (.ifCond .ne 5, 3) := by decide +kernel
theorem dX10_within_25 : decode cX10_within 25 = .ok (.iconst (-1), 1) := by decide +kernel
theorem dX10_within_26 : decode cX10_within 26 = .ok (.ireturn, 1) := by decide +kernel
theorem dX10_within_27 : decode cX10_within 27 = .ok (.aload_n 0, 1) := by decide +kernel
theorem dX10_within_28 : decode cX10_within 28 = .ok (.iload_n 1, 1) := by decide +kernel
theorem dX10_within_29 : decode cX10_within 29 = .ok (.iload_n 2, 1) := by decide +kernel
theorem dX10_within_30 : decode cX10_within 30 = .ok (.invokevirtual 138, 3) := by decide +kernel
theorem dX10_within_33 : decode cX10_within 33 = .ok (.aload_n 0, 1) := by decide +kernel
theorem dX10_within_34 : decode cX10_within 34 = .ok (.iload_n 1, 1) := by decide +kernel
theorem dX10_within_35 : decode cX10_within 35 = .ok (.bipush 60, 2) := by decide +kernel
theorem dX10_within_37 : decode cX10_within 37 = .ok (.invokevirtual 141, 3) := by decide +kernel
theorem dX10_within_40 : decode cX10_within 40 = .ok (.ireturn, 1) := by decide +kernel
theorem dX10_farthest_0 : decode cX10_farthest 0 = .ok (.aload_n 0, 1) := by decide +kernel
theorem dX10_farthest_1 : decode cX10_farthest 1 = .ok (.getfield 10, 3) := by decide +kernel
theorem dX10_farthest_4 : decode cX10_farthest 4 = .ok (.iload_n 1, 1) := by decide +kernel
theorem dX10_farthest_5 : decode cX10_farthest 5 = .ok (.invokevirtual 91, 3) := by decide +kernel
theorem dX10_farthest_8 : decode cX10_farthest 8 = .ok (.ifCond .eq 20, 3) := by decide +kernel
theorem dX10_farthest_11 : decode cX10_farthest 11 = .ok (.iload_n 2, 1) := by decide +kernel
theorem dX10_farthest_12 : decode cX10_farthest 12 = .ok (.invokestatic 135, 3) := by decide +kernel
theorem dX10_farthest_15 : decode cX10_farthest 15 = .ok (.ifCond .eq 13, 3) := by decide +kernel
theorem dX10_farthest_18 : decode cX10_farthest 18 = .ok (.aload_n 0, 1) := by decide +kernel
theorem dX10_farthest_19 : decode cX10_farthest 19 = .ok (.getfield 28, 3) := by decide +kernel
theorem dX10_farthest_22 : decode cX10_farthest 22 = .ok (.invokevirtual 121, 3) := by decide +kernel
theorem dX10_farthest_25 : decode cX10_farthest 25 = .ok (.ifCond .ne 5, 3) := by decide +kernel
theorem dX10_farthest_28 : decode cX10_farthest 28 = .ok (.iconst (-1), 1) := by decide +kernel
theorem dX10_farthest_29 : decode cX10_farthest 29 = .ok (.ireturn, 1) := by decide +kernel
theorem dX10_farthest_30 : decode cX10_farthest 30 = .ok (.aload_n 0, 1) := by decide +kernel
theorem dX10_farthest_31 : decode cX10_farthest 31 = .ok (.iload_n 1, 1) := by decide +kernel
theorem dX10_farthest_32 : decode cX10_farthest 32 = .ok (.invokevirtual 144, 3) := by decide +kernel
theorem dX10_farthest_35 : decode cX10_farthest 35 = .ok (.aload_n 0, 1) := by decide +kernel
theorem dX10_farthest_36 : decode cX10_farthest 36 = .ok (.iload_n 1, 1) := by decide +kernel
theorem dX10_farthest_37 : decode cX10_farthest 37 = .ok (.iload_n 2, 1) := by decide +kernel
theorem dX10_farthest_38 : decode cX10_farthest 38 = .ok (.invokevirtual 141, 3) := by decide +kernel
theorem dX10_farthest_41 : decode cX10_farthest 41 = .ok (.ireturn, 1) := by decide +kernel
theorem dX10_result_0 : decode cX10_result 0 = .ok (.iload_n 1, 1) := by decide +kernel
theorem dX10_result_1 : decode cX10_result 1 = .ok (.ifCond .lt 14, 3) := by decide +kernel
theorem dX10_result_4 : decode cX10_result 4 = .ok (.iload_n 1, 1) := by decide +kernel
theorem dX10_result_5 : decode cX10_result 5 = .ok (.aload_n 0, 1) := by decide +kernel
theorem dX10_result_6 : decode cX10_result 6 = .ok (.getfield 42, 3) := by decide +kernel
theorem dX10_result_9 : decode cX10_result 9 = .ok (.invokevirtual 147, 3) := by decide +kernel
theorem dX10_result_12 : decode cX10_result 12 = .ok (.if_icmp .lt 5, 3) := by decide +kernel
theorem dX10_result_15 : decode cX10_result 15 = .ok (.iconst (-1), 1) := by decide +kernel
theorem dX10_result_16 : decode cX10_result 16 = .ok (.ireturn, 1) := by decide +kernel
theorem dX10_result_17 : decode cX10_result 17 = .ok (.iload_n 2, 1) := by decide +kernel
theorem dX10_result_18 : decode cX10_result 18 = .ok (.lookupswitch 44 #[(0, 26), (1, 35)], 26) := by decide +kernel
theorem dX10_result_44 : decode cX10_result 44 = .ok (.aload_n 0, 1) := by decide +kernel
theorem dX10_result_45 : decode cX10_result 45 = .ok (.getfield 42, 3) := by decide +kernel
theorem dX10_result_48 : decode cX10_result 48 = .ok (.iload_n 1, 1) := by decide +kernel
theorem dX10_result_49 : decode cX10_result 49 = .ok (.invokevirtual 148, 3) := by decide +kernel
theorem dX10_result_52 : decode cX10_result 52 = .ok (.ireturn, 1) := by decide +kernel
theorem dX10_result_53 : decode cX10_result 53 = .ok (.aload_n 0, 1) := by decide +kernel
theorem dX10_result_54 : decode cX10_result 54 = .ok (.getfield 42, 3) := by decide +kernel
theorem dX10_result_57 : decode cX10_result 57 = .ok (.iload_n 1, 1) := by decide +kernel
theorem dX10_result_58 : decode cX10_result 58 = .ok (.invokevirtual 151, 3) := by decide +kernel
theorem dX10_result_61 : decode cX10_result 61 = .ok (.ireturn, 1) := by decide +kernel
theorem dX10_result_62 : decode cX10_result 62 = .ok (.iconst (-1), 1) := by decide +kernel
theorem dX10_result_63 : decode cX10_result 63 = .ok (.ireturn, 1) := by decide +kernel
theorem dX10_closest_0 : decode cX10_closest 0 = .ok (.iload_n 1, 1) := by decide +kernel
theorem dX10_closest_1 : decode cX10_closest 1 = .ok (.ifCond .lt 26, 3) := by decide +kernel
theorem dX10_closest_4 : decode cX10_closest 4 = .ok (.iload_n 1, 1) := by decide +kernel
theorem dX10_closest_5 : decode cX10_closest 5 = .ok (.iconst 2, 1) := by decide +kernel
theorem dX10_closest_6 : decode cX10_closest 6 = .ok (.if_icmp .gt 21, 3) := by decide +kernel
theorem dX10_closest_9 : decode cX10_closest 9 = .ok (.aload_n 0, 1) := by decide +kernel
theorem dX10_closest_10 : decode cX10_closest 10 = .ok (.getfield 35, 3) := by decide +kernel
theorem dX10_closest_13 : decode cX10_closest 13 = .ok (.invokevirtual 154, 3) := by decide +kernel
theorem dX10_closest_16 : decode cX10_closest 16 = .ok (.iconst 2, 1) := by decide +kernel
theorem dX10_closest_17 : decode cX10_closest 17 = .ok (.if_icmp .lt 10, 3) := by decide +kernel
theorem dX10_closest_20 : decode cX10_closest 20 = .ok (.aload_n 0, 1) := by decide +kernel
theorem dX10_closest_21 : decode cX10_closest 21 = .ok (.invokevirtual 155, 3) := by decide +kernel
theorem dX10_closest_24 : decode cX10_closest 24 = .ok (.ifCond .ne 5, 3) := by decide +kernel
theorem dX10_closest_27 : decode cX10_closest 27 = .ok (.iconst (-1), 1) := by decide +kernel
theorem dX10_closest_28 : decode cX10_closest 28 = .ok (.ireturn, 1) := by decide +kernel
theorem dX10_closest_29 : decode cX10_closest 29 = .ok (.aload_n 0, 1) := by decide +kernel
theorem dX10_closest_30 : decode cX10_closest 30 = .ok (.invokevirtual 158, 3) := by decide +kernel
theorem dX10_closest_33 : decode cX10_closest 33 = .ok (.iload_n 1, 1) := by decide +kernel
theorem dX10_closest_34 : decode cX10_closest 34 = .ok (.invokestatic 161, 3) := by decide +kernel
theorem dX10_closest_37 : decode cX10_closest 37 = .ok (.ireturn, 1) := by decide +kernel
theorem dX10_centres_0 : decode cX10_centres 0 = .ok (.iload_n 1, 1) := by decide +kernel
theorem dX10_centres_1 : decode cX10_centres 1 = .ok (.invokestatic 135, 3) := by decide +kernel
theorem dX10_centres_4 : decode cX10_centres 4 = .ok (.ifCond .eq 20, 3) := by decide +kernel
theorem dX10_centres_7 : decode cX10_centres 7 = .ok (.aload_n 0, 1) := by decide +kernel
theorem dX10_centres_8 : decode cX10_centres 8 = .ok (.getfield 35, 3) := by decide +kernel
theorem dX10_centres_11 : decode cX10_centres 11 = .ok (.invokevirtual 154, 3) := by decide +kernel
theorem dX10_centres_14 : decode cX10_centres 14 = .ok (.ifCond .eq 10, 3) := by decide +kernel
theorem dX10_centres_17 : decode cX10_centres 17 = .ok (.aload_n 0, 1) := by decide +kernel
theorem dX10_centres_18 : decode cX10_centres 18 = .ok (.invokevirtual 155, 3) := by decide +kernel
theorem dX10_centres_21 : decode cX10_centres 21 = .ok (.ifCond .ne 5, 3) := by decide +kernel
theorem dX10_centres_24 : decode cX10_centres 24 = .ok (.iconst (-1), 1) := by decide +kernel
theorem dX10_centres_25 : decode cX10_centres 25 = .ok (.ireturn, 1) := by decide +kernel
theorem dX10_centres_26 : decode cX10_centres 26 = .ok (.aload_n 0, 1) := by decide +kernel
theorem dX10_centres_27 : decode cX10_centres 27 = .ok (.getfield 72, 3) := by decide +kernel
theorem dX10_centres_30 : decode cX10_centres 30 = .ok (.iload_n 1, 1) := by decide +kernel
theorem dX10_centres_31 : decode cX10_centres 31 = .ok (.aload_n 0, 1) := by decide +kernel
theorem dX10_centres_32 : decode cX10_centres 32 = .ok (.getfield 35, 3) := by decide +kernel
theorem dX10_centres_35 : decode cX10_centres 35 = .ok (.invokevirtual 154, 3) := by decide +kernel
theorem dX10_centres_38 : decode cX10_centres 38 = .ok (.invokestatic 164, 3) := by decide +kernel
theorem dX10_centres_41 : decode cX10_centres 41 = .ok (.aload_n 0, 1) := by decide +kernel
theorem dX10_centres_42 : decode cX10_centres 42 = .ok (.getfield 42, 3) := by decide +kernel
theorem dX10_centres_45 : decode cX10_centres 45 = .ok (.invokevirtual 169, 3) := by decide +kernel
theorem dX10_centres_48 : decode cX10_centres 48 = .ok (.ireturn, 1) := by decide +kernel
theorem dX10_best_0 : decode cX10_best 0 = .ok (.iload_n 1, 1) := by decide +kernel
theorem dX10_best_1 : decode cX10_best 1 = .ok (.iconst 1, 1) := by decide +kernel
theorem dX10_best_2 : decode cX10_best 2 = .ok (.if_icmp .lt 26, 3) := by decide +kernel
theorem dX10_best_5 : decode cX10_best 5 = .ok (.iload_n 1, 1) := by decide +kernel
theorem dX10_best_6 : decode cX10_best 6 = .ok (.iconst 3, 1) := by decide +kernel
theorem dX10_best_7 : decode cX10_best 7 = .ok (.if_icmp .gt 21, 3) := by decide +kernel
theorem dX10_best_10 : decode cX10_best 10 = .ok (.aload_n 0, 1) := by decide +kernel
theorem dX10_best_11 : decode cX10_best 11 = .ok (.getfield 35, 3) := by decide +kernel
theorem dX10_best_14 : decode cX10_best 14 = .ok (.invokevirtual 154, 3) := by decide +kernel
theorem dX10_best_17 : decode cX10_best 17 = .ok (.iload_n 1, 1) := by decide +kernel
theorem dX10_best_18 : decode cX10_best 18 = .ok (.if_icmp .lt 10, 3) := by decide +kernel
theorem dX10_best_21 : decode cX10_best 21 = .ok (.aload_n 0, 1) := by decide +kernel
theorem dX10_best_22 : decode cX10_best 22 = .ok (.invokevirtual 155, 3) := by decide +kernel
theorem dX10_best_25 : decode cX10_best 25 = .ok (.ifCond .ne 5, 3) := by decide +kernel
theorem dX10_best_28 : decode cX10_best 28 = .ok (.iconst (-1), 1) := by decide +kernel
theorem dX10_best_29 : decode cX10_best 29 = .ok (.ireturn, 1) := by decide +kernel
theorem dX10_best_30 : decode cX10_best 30 = .ok (.aload_n 0, 1) := by decide +kernel
theorem dX10_best_31 : decode cX10_best 31 = .ok (.getfield 79, 3) := by decide +kernel
theorem dX10_best_34 : decode cX10_best 34 = .ok (.iload_n 1, 1) := by decide +kernel
theorem dX10_best_35 : decode cX10_best 35 = .ok (.aload_n 0, 1) := by decide +kernel
theorem dX10_best_36 : decode cX10_best 36 = .ok (.getfield 42, 3) := by decide +kernel
theorem dX10_best_39 : decode cX10_best 39 = .ok (.invokevirtual 173, 3) := by decide +kernel
theorem dX10_best_42 : decode cX10_best 42 = .ok (.ireturn, 1) := by decide +kernel
theorem dX10_chain_0 : decode cX10_chain 0 = .ok (.iload_n 1, 1) := by decide +kernel
theorem dX10_chain_1 : decode cX10_chain 1 = .ok (.ifCond .lt 15, 3) := by decide +kernel
theorem dX10_chain_4 : decode cX10_chain 4 = .ok (.iload_n 1, 1) := by decide +kernel
theorem dX10_chain_5 : decode cX10_chain 5 = .ok (.iconst 1, 1) := by decide +kernel
theorem dX10_chain_6 : decode cX10_chain 6 = .ok (.if_icmp .gt 10, 3) := by decide +kernel
theorem dX10_chain_9 : decode cX10_chain 9 = .ok (.aload_n 0, 1) := by decide +kernel
theorem dX10_chain_10 : decode cX10_chain 10 = .ok (.invokevirtual 155, 3) := by decide +kernel
theorem dX10_chain_13 : decode cX10_chain 13 = .ok (.ifCond .ne 7, 3) := by decide +kernel
theorem dX10_chain_16 : decode cX10_chain 16 = .ok (.ldc2_w 174, 3) := by decide +kernel
theorem dX10_chain_19 : decode cX10_chain 19 = .ok (.lreturn, 1) := by decide +kernel
theorem dX10_chain_20 : decode cX10_chain 20 = .ok (.aload_n 0, 1) := by decide +kernel
theorem dX10_chain_21 : decode cX10_chain 21 = .ok (.getfield 58, 3) := by decide +kernel
theorem dX10_chain_24 : decode cX10_chain 24 = .ok (.invokevirtual 176, 3) := by decide +kernel
theorem dX10_chain_27 : decode cX10_chain 27 = .ok (.astore_n 2, 1) := by decide +kernel
theorem dX10_chain_28 : decode cX10_chain 28 = .ok (.iload_n 1, 1) := by decide +kernel
theorem dX10_chain_29 : decode cX10_chain 29 = .ok (.ifCond .ne 11, 3) := by decide +kernel
theorem dX10_chain_32 : decode cX10_chain 32 = .ok (.aload_n 2, 1) := by decide +kernel
theorem dX10_chain_33 : decode cX10_chain 33 = .ok (.invokevirtual 180, 3) := by decide +kernel
theorem dX10_chain_36 : decode cX10_chain 36 = .ok (.i2l, 1) := by decide +kernel
theorem dX10_chain_37 : decode cX10_chain 37 = .ok (.goto 7, 3) := by decide +kernel
theorem dX10_chain_40 : decode cX10_chain 40 = .ok (.aload_n 2, 1) := by decide +kernel
theorem dX10_chain_41 : decode cX10_chain 41 = .ok (.invokestatic 181, 3) := by decide +kernel
theorem dX10_chain_44 : decode cX10_chain 44 = .ok (.lreturn, 1) := by decide +kernel
theorem dX10_pair_0 : decode cX10_pair 0 = .ok (.iload_n 2, 1) := by decide +kernel
theorem dX10_pair_1 : decode cX10_pair 1 = .ok (.ifCond .lt 15, 3) := by decide +kernel
theorem dX10_pair_4 : decode cX10_pair 4 = .ok (.iload_n 2, 1) := by decide +kernel
theorem dX10_pair_5 : decode cX10_pair 5 = .ok (.iconst 2, 1) := by decide +kernel
theorem dX10_pair_6 : decode cX10_pair 6 = .ok (.if_icmp .gt 10, 3) := by decide +kernel
theorem dX10_pair_9 : decode cX10_pair 9 = .ok (.aload_n 0, 1) := by decide +kernel
theorem dX10_pair_10 : decode cX10_pair 10 = .ok (.invokevirtual 155, 3) := by decide +kernel
theorem dX10_pair_13 : decode cX10_pair 13 = .ok (.ifCond .ne 5, 3) := by decide +kernel
theorem dX10_pair_16 : decode cX10_pair 16 = .ok (.iconst (-1), 1) := by decide +kernel
theorem dX10_pair_17 : decode cX10_pair 17 = .ok (.ireturn, 1) := by decide +kernel
theorem dX10_pair_18 : decode cX10_pair 18 = .ok (.aload_n 0, 1) := by decide +kernel
theorem dX10_pair_19 : decode cX10_pair 19 = .ok (.getfield 58, 3) := by decide +kernel
theorem dX10_pair_22 : decode cX10_pair 22 = .ok (.invokevirtual 176, 3) := by decide +kernel
theorem dX10_pair_25 : decode cX10_pair 25 = .ok (.astore_n 3, 1) := by decide +kernel
theorem dX10_pair_26 : decode cX10_pair 26 = .ok (.iload_n 1, 1) := by decide +kernel
theorem dX10_pair_27 : decode cX10_pair 27 = .ok (.ifCond .lt 11, 3) := by decide +kernel
theorem dX10_pair_30 : decode cX10_pair 30 = .ok (.iload_n 1, 1) := by decide +kernel
theorem dX10_pair_31 : decode cX10_pair 31 = .ok (.aload_n 3, 1) := by decide +kernel
theorem dX10_pair_32 : decode cX10_pair 32 = .ok (.invokevirtual 180, 3) := by decide +kernel
theorem dX10_pair_35 : decode cX10_pair 35 = .ok (.if_icmp .lt 5, 3) := by decide +kernel
theorem dX10_pair_38 : decode cX10_pair 38 = .ok (.iconst (-1), 1) := by decide +kernel
theorem dX10_pair_39 : decode cX10_pair 39 = .ok (.ireturn, 1) := by decide +kernel
theorem dX10_pair_40 : decode cX10_pair 40 = .ok (.aload_n 3, 1) := by decide +kernel
theorem dX10_pair_41 : decode cX10_pair 41 = .ok (.iload_n 1, 1) := by decide +kernel
theorem dX10_pair_42 : decode cX10_pair 42 = .ok (.invokevirtual 185, 3) := by decide +kernel
theorem dX10_pair_45 : decode cX10_pair 45 = .ok (.iload_n 2, 1) := by decide +kernel
theorem dX10_pair_46 : decode cX10_pair 46 = .ok (.invokestatic 161, 3) := by decide +kernel
theorem dX10_pair_49 : decode cX10_pair 49 = .ok (.ireturn, 1) := by decide +kernel
theorem dX10_clusters_0 : decode cX10_clusters 0 = .ok (.iload_n 1, 1) := by decide +kernel
theorem dX10_clusters_1 : decode cX10_clusters 1 = .ok (.ifCond .lt 10, 3) := by decide +kernel
theorem dX10_clusters_4 : decode cX10_clusters 4 = .ok (.aload_n 0, 1) := by decide +kernel
theorem dX10_clusters_5 : decode cX10_clusters 5 = .ok (.invokevirtual 155, 3) := by decide +kernel
theorem dX10_clusters_8 : decode cX10_clusters 8 = .ok (.ifCond .ne 5, 3) := by decide +kernel
theorem dX10_clusters_11 : decode cX10_clusters 11 = .ok (.iconst (-1), 1) := by decide +kernel
theorem dX10_clusters_12 : decode cX10_clusters 12 = .ok (.ireturn, 1) := by decide +kernel
theorem dX10_clusters_13 : decode cX10_clusters 13 = .ok (.aload_n 0, 1) := by decide +kernel
theorem dX10_clusters_14 : decode cX10_clusters 14 = .ok (.getfield 65, 3) := by decide +kernel
theorem dX10_clusters_17 : decode cX10_clusters 17 = .ok (.iload_n 1, 1) := by decide +kernel
theorem dX10_clusters_18 : decode cX10_clusters 18 = .ok (.invokevirtual 188, 3) := by decide +kernel
theorem dX10_clusters_21 : decode cX10_clusters 21 = .ok (.aload_n 0, 1) := by decide +kernel
theorem dX10_clusters_22 : decode cX10_clusters 22 = .ok (.getfield 65, 3) := by decide +kernel
theorem dX10_clusters_25 : decode cX10_clusters 25 = .ok (.invokevirtual 191, 3) := by decide +kernel
theorem dX10_clusters_28 : decode cX10_clusters 28 = .ok (.ireturn, 1) := by decide +kernel
theorem dX10_cluster_0 : decode cX10_cluster 0 = .ok (.aload_n 0, 1) := by decide +kernel
theorem dX10_cluster_1 : decode cX10_cluster 1 = .ok (.getfield 35, 3) := by decide +kernel
theorem dX10_cluster_4 : decode cX10_cluster 4 = .ok (.iload_n 1, 1) := by decide +kernel
theorem dX10_cluster_5 : decode cX10_cluster 5 = .ok (.invokevirtual 128, 3) := by decide +kernel
theorem dX10_cluster_8 : decode cX10_cluster 8 = .ok (.ifCond .eq 14, 3) := by decide +kernel
theorem dX10_cluster_11 : decode cX10_cluster 11 = .ok (.iload_n 2, 1) := by decide +kernel
theorem dX10_cluster_12 : decode cX10_cluster 12 = .ok (.ifCond .lt 10, 3) := by decide +kernel
theorem dX10_cluster_15 : decode cX10_cluster 15 = .ok (.aload_n 0, 1) := by decide +kernel
theorem dX10_cluster_16 : decode cX10_cluster 16 = .ok (.invokevirtual 155, 3) := by decide +kernel
theorem dX10_cluster_19 : decode cX10_cluster 19 = .ok (.ifCond .ne 5, 3) := by decide +kernel
theorem dX10_cluster_22 : decode cX10_cluster 22 = .ok (.iconst (-1), 1) := by decide +kernel
theorem dX10_cluster_23 : decode cX10_cluster 23 = .ok (.ireturn, 1) := by decide +kernel
theorem dX10_cluster_24 : decode cX10_cluster 24 = .ok (.aload_n 0, 1) := by decide +kernel
theorem dX10_cluster_25 : decode cX10_cluster 25 = .ok (.getfield 65, 3) := by decide +kernel
theorem dX10_cluster_28 : decode cX10_cluster 28 = .ok (.iload_n 2, 1) := by decide +kernel
theorem dX10_cluster_29 : decode cX10_cluster 29 = .ok (.invokevirtual 188, 3) := by decide +kernel
theorem dX10_cluster_32 : decode cX10_cluster 32 = .ok (.aload_n 0, 1) := by decide +kernel
theorem dX10_cluster_33 : decode cX10_cluster 33 = .ok (.getfield 65, 3) := by decide +kernel
theorem dX10_cluster_36 : decode cX10_cluster 36 = .ok (.iload_n 1, 1) := by decide +kernel
theorem dX10_cluster_37 : decode cX10_cluster 37 = .ok (.invokevirtual 194, 3) := by decide +kernel
theorem dX10_cluster_40 : decode cX10_cluster 40 = .ok (.ireturn, 1) := by decide +kernel
theorem dX10_net_0 : decode cX10_net 0 = .ok (.iload_n 1, 1) := by decide +kernel
theorem dX10_net_1 : decode cX10_net 1 = .ok (.ifCond .lt 10, 3) := by decide +kernel
theorem dX10_net_4 : decode cX10_net 4 = .ok (.aload_n 0, 1) := by decide +kernel
theorem dX10_net_5 : decode cX10_net 5 = .ok (.invokevirtual 155, 3) := by decide +kernel
theorem dX10_net_8 : decode cX10_net 8 = .ok (.ifCond .ne 5, 3) := by decide +kernel
theorem dX10_net_11 : decode cX10_net 11 = .ok (.iconst (-1), 1) := by decide +kernel
theorem dX10_net_12 : decode cX10_net 12 = .ok (.ireturn, 1) := by decide +kernel
theorem dX10_net_13 : decode cX10_net 13 = .ok (.aload_n 0, 1) := by decide +kernel
theorem dX10_net_14 : decode cX10_net 14 = .ok (.getfield 42, 3) := by decide +kernel
theorem dX10_net_17 : decode cX10_net 17 = .ok (.invokevirtual 197, 3) := by decide +kernel
theorem dX10_net_20 : decode cX10_net 20 = .ok (.iconst 0, 1) := by decide +kernel
theorem dX10_net_21 : decode cX10_net 21 = .ok (.istore_n 2, 1) := by decide +kernel
theorem dX10_net_22 : decode cX10_net 22 = .ok (.iload_n 2, 1) := by decide +kernel
theorem dX10_net_23 : decode cX10_net 23 = .ok (.aload_n 0, 1) := by decide +kernel
theorem dX10_net_24 : decode cX10_net 24 = .ok (.getfield 35, 3) := by decide +kernel
theorem dX10_net_27 : decode cX10_net 27 = .ok (.invokevirtual 154, 3) := by decide +kernel
theorem dX10_net_30 : decode cX10_net 30 = .ok (.if_icmp .ge 36, 3) := by decide +kernel
theorem dX10_net_33 : decode cX10_net 33 = .ok (.aload_n 0, 1) := by decide +kernel
theorem dX10_net_34 : decode cX10_net 34 = .ok (.getfield 35, 3) := by decide +kernel
theorem dX10_net_37 : decode cX10_net 37 = .ok (.iload_n 2, 1) := by decide +kernel
theorem dX10_net_38 : decode cX10_net 38 = .ok (.invokevirtual 200, 3) := by decide +kernel
theorem dX10_net_41 : decode cX10_net 41 = .ok (.istore_n 3, 1) := by decide +kernel
theorem dX10_net_42 : decode cX10_net 42 = .ok (.aload_n 0, 1) := by decide +kernel
theorem dX10_net_43 : decode cX10_net 43 = .ok (.iload_n 3, 1) := by decide +kernel
theorem dX10_net_44 : decode cX10_net 44 = .ok (.iload_n 1, 1) := by decide +kernel
theorem dX10_net_45 : decode cX10_net 45 = .ok (.invokevirtual 201, 3) := by decide +kernel
theorem dX10_net_48 : decode cX10_net 48 = .ok (.ifCond .eq 12, 3) := by decide +kernel
theorem dX10_net_51 : decode cX10_net 51 = .ok (.aload_n 0, 1) := by decide +kernel
theorem dX10_net_52 : decode cX10_net 52 = .ok (.getfield 42, 3) := by decide +kernel
theorem dX10_net_55 : decode cX10_net 55 = .ok (.iload_n 3, 1) := by decide +kernel
theorem dX10_net_56 : decode cX10_net 56 = .ok (.iconst 0, 1) := by decide +kernel
theorem dX10_net_57 : decode cX10_net 57 = .ok (.invokevirtual 205, 3) := by decide +kernel
theorem dX10_net_60 : decode cX10_net 60 = .ok (.iinc 2 1, 3) := by decide +kernel
theorem dX10_net_63 : decode cX10_net 63 = .ok (.goto (-41), 3) := by decide +kernel
theorem dX10_net_66 : decode cX10_net 66 = .ok (.aload_n 0, 1) := by decide +kernel
theorem dX10_net_67 : decode cX10_net 67 = .ok (.getfield 42, 3) := by decide +kernel
theorem dX10_net_70 : decode cX10_net 70 = .ok (.invokevirtual 147, 3) := by decide +kernel
theorem dX10_net_73 : decode cX10_net 73 = .ok (.ireturn, 1) := by decide +kernel
theorem dX10_middle_0 : decode cX10_middle 0 = .ok (.iload_n 1, 1) := by decide +kernel
theorem dX10_middle_1 : decode cX10_middle 1 = .ok (.ifCond .lt 25, 3) := by decide +kernel
theorem dX10_middle_4 : decode cX10_middle 4 = .ok (.iload_n 1, 1) := by decide +kernel
theorem dX10_middle_5 : decode cX10_middle 5 = .ok (.iconst 1, 1) := by decide +kernel
theorem dX10_middle_6 : decode cX10_middle 6 = .ok (.if_icmp .gt 20, 3) := by decide +kernel
theorem dX10_middle_9 : decode cX10_middle 9 = .ok (.aload_n 0, 1) := by decide +kernel
theorem dX10_middle_10 : decode cX10_middle 10 = .ok (.getfield 35, 3) := by decide +kernel
theorem dX10_middle_13 : decode cX10_middle 13 = .ok (.invokevirtual 154, 3) := by decide +kernel
theorem dX10_middle_16 : decode cX10_middle 16 = .ok (.ifCond .eq 10, 3) := by decide +kernel
theorem dX10_middle_19 : decode cX10_middle 19 = .ok (.aload_n 0, 1) := by decide +kernel
theorem dX10_middle_20 : decode cX10_middle 20 = .ok (.invokevirtual 155, 3) := by decide +kernel
theorem dX10_middle_23 : decode cX10_middle 23 = .ok (.ifCond .ne 7, 3) := by decide +kernel
theorem dX10_middle_26 : decode cX10_middle 26 = .ok (.ldc2_w 174, 3) := by decide +kernel
theorem dX10_middle_29 : decode cX10_middle 29 = .ok (.lreturn, 1) := by decide +kernel
theorem dX10_middle_30 : decode cX10_middle 30 = .ok (.aload_n 0, 1) := by decide +kernel
theorem dX10_middle_31 : decode cX10_middle 31 = .ok (.getfield 35, 3) := by decide +kernel
theorem dX10_middle_34 : decode cX10_middle 34 = .ok (.iconst 0, 1) := by decide +kernel
theorem dX10_middle_35 : decode cX10_middle 35 = .ok (.invokevirtual 200, 3) := by decide +kernel
theorem dX10_middle_38 : decode cX10_middle 38 = .ok (.istore_n 2, 1) := by decide +kernel
theorem dX10_middle_39 : decode cX10_middle 39 = .ok (.aload_n 0, 1) := by decide +kernel
theorem dX10_middle_40 : decode cX10_middle 40 = .ok (.iload_n 2, 1) := by decide +kernel
theorem dX10_middle_41 : decode cX10_middle 41 = .ok (.invokevirtual 207, 3) := by decide +kernel
theorem dX10_middle_44 : decode cX10_middle 44 = .ok (.istore_n 3, 1) := by decide +kernel
theorem dX10_middle_45 : decode cX10_middle 45 = .ok (.iconst 1, 1) := by decide +kernel
theorem dX10_middle_46 : decode cX10_middle 46 = .ok (.istore 4, 2) := by decide +kernel
theorem dX10_middle_48 : decode cX10_middle 48 = .ok (.iload 4, 2) := by decide +kernel
theorem dX10_middle_50 : decode cX10_middle 50 = .ok (.aload_n 0, 1) := by decide +kernel
theorem dX10_middle_51 : decode cX10_middle 51 = .ok (.getfield 35, 3) := by decide +kernel
theorem dX10_middle_54 : decode cX10_middle 54 = .ok (.invokevirtual 154, 3) := by decide +kernel
theorem dX10_middle_57 : decode cX10_middle 57 = .ok (.if_icmp .ge 43, 3) := by decide +kernel
theorem dX10_middle_60 : decode cX10_middle 60 = .ok (.aload_n 0, 1) := by decide +kernel
theorem dX10_middle_61 : decode cX10_middle 61 = .ok (.aload_n 0, 1) := by decide +kernel
theorem dX10_middle_62 : decode cX10_middle 62 = .ok (.getfield 35, 3) := by decide +kernel
theorem dX10_middle_65 : decode cX10_middle 65 = .ok (.iload 4, 2) := by decide +kernel
theorem dX10_middle_67 : decode cX10_middle 67 = .ok (.invokevirtual 200, 3) := by decide +kernel
theorem dX10_middle_70 : decode cX10_middle 70 = .ok (.invokevirtual 207, 3) := by decide +kernel
theorem dX10_middle_73 : decode cX10_middle 73 = .ok (.istore 5, 2) := by decide +kernel
theorem dX10_middle_75 : decode cX10_middle 75 = .ok (.iload 5, 2) := by decide +kernel
theorem dX10_middle_77 : decode cX10_middle 77 = .ok (.iload_n 3, 1) := by decide +kernel
theorem dX10_middle_78 : decode cX10_middle 78 = .ok (.if_icmp .ge 16, 3) := by decide +kernel
theorem dX10_middle_81 : decode cX10_middle 81 = .ok (.iload 5, 2) := by decide +kernel
theorem dX10_middle_83 : decode cX10_middle 83 = .ok (.istore_n 3, 1) := by decide +kernel
theorem dX10_middle_84 : decode cX10_middle 84 = .ok (.aload_n 0, 1) := by decide +kernel
theorem dX10_middle_85 : decode cX10_middle 85 = .ok (.getfield 35, 3) := by decide +kernel
theorem dX10_middle_88 : decode cX10_middle 88 = .ok (.iload 4, 2) := by decide +kernel
theorem dX10_middle_90 : decode cX10_middle 90 = .ok (.invokevirtual 200, 3) := by decide +kernel
theorem dX10_middle_93 : decode cX10_middle 93 = .ok (.istore_n 2, 1) := by decide +kernel
theorem dX10_middle_94 : decode cX10_middle 94 = .ok (.iinc 4 1, 3) := by decide +kernel
theorem dX10_middle_97 : decode cX10_middle 97 = .ok (.goto (-49), 3) := by decide +kernel
theorem dX10_middle_100 : decode cX10_middle 100 = .ok (.iload_n 1, 1) := by decide +kernel
theorem dX10_middle_101 : decode cX10_middle 101 = .ok (.ifCond .ne 8, 3) := by decide +kernel
theorem dX10_middle_104 : decode cX10_middle 104 = .ok (.iload_n 2, 1) := by decide +kernel
theorem dX10_middle_105 : decode cX10_middle 105 = .ok (.i2l, 1) := by decide +kernel
theorem dX10_middle_106 : decode cX10_middle 106 = .ok (.goto 5, 3) := by decide +kernel
theorem dX10_middle_109 : decode cX10_middle 109 = .ok (.iload_n 3, 1) := by decide +kernel
theorem dX10_middle_110 : decode cX10_middle 110 = .ok (.i2l, 1) := by decide +kernel
theorem dX10_middle_111 : decode cX10_middle 111 = .ok (.lreturn, 1) := by decide +kernel
theorem dX10_count_0 : decode cX10_count 0 = .ok (.iload_n 1, 1) := by decide +kernel
theorem dX10_count_1 : decode cX10_count 1 = .ok (.tableswitch 83 0 4 #[35, 43, 51, 59, 67], 35) := by decide +kernel
theorem dX10_count_36 : decode cX10_count 36 = .ok (.aload_n 0, 1) := by decide +kernel
theorem dX10_count_37 : decode cX10_count 37 = .ok (.getfield 10, 3) := by decide +kernel
theorem dX10_count_40 : decode cX10_count 40 = .ok (.invokevirtual 83, 3) := by decide +kernel
theorem dX10_count_43 : decode cX10_count 43 = .ok (.ireturn, 1) := by decide +kernel
theorem dX10_count_44 : decode cX10_count 44 = .ok (.aload_n 0, 1) := by decide +kernel
theorem dX10_count_45 : decode cX10_count 45 = .ok (.getfield 35, 3) := by decide +kernel
theorem dX10_count_48 : decode cX10_count 48 = .ok (.invokevirtual 154, 3) := by decide +kernel
theorem dX10_count_51 : decode cX10_count 51 = .ok (.ireturn, 1) := by decide +kernel
theorem dX10_count_52 : decode cX10_count 52 = .ok (.aload_n 0, 1) := by decide +kernel
theorem dX10_count_53 : decode cX10_count 53 = .ok (.getfield 28, 3) := by decide +kernel
theorem dX10_count_56 : decode cX10_count 56 = .ok (.invokevirtual 210, 3) := by decide +kernel
theorem dX10_count_59 : decode cX10_count 59 = .ok (.ireturn, 1) := by decide +kernel
theorem dX10_count_60 : decode cX10_count 60 = .ok (.aload_n 0, 1) := by decide +kernel
theorem dX10_count_61 : decode cX10_count 61 = .ok (.getfield 42, 3) := by decide +kernel
theorem dX10_count_64 : decode cX10_count 64 = .ok (.invokevirtual 147, 3) := by decide +kernel
theorem dX10_count_67 : decode cX10_count 67 = .ok (.ireturn, 1) := by decide +kernel
theorem dX10_count_68 : decode cX10_count 68 = .ok (.aload_n 0, 1) := by decide +kernel
theorem dX10_count_69 : decode cX10_count 69 = .ok (.invokevirtual 155, 3) := by decide +kernel
theorem dX10_count_72 : decode cX10_count 72 = .ok (.ifCond .eq 10, 3) := by decide +kernel
theorem dX10_count_75 : decode cX10_count 75 = .ok (.aload_n 0, 1) := by decide +kernel
theorem dX10_count_76 : decode cX10_count 76 = .ok (.invokevirtual 213, 3) := by decide +kernel
theorem dX10_count_79 : decode cX10_count 79 = .ok (.goto 4, 3) := by decide +kernel
theorem dX10_count_82 : decode cX10_count 82 = .ok (.iconst (-1), 1) := by decide +kernel
theorem dX10_count_83 : decode cX10_count 83 = .ok (.ireturn, 1) := by decide +kernel
theorem dX10_count_84 : decode cX10_count 84 = .ok (.aload_n 0, 1) := by decide +kernel
theorem dX10_count_85 : decode cX10_count 85 = .ok (.iload_n 1, 1) := by decide +kernel
theorem dX10_count_86 : decode cX10_count 86 = .ok (.invokevirtual 216, 3) := by decide +kernel
theorem dX10_count_89 : decode cX10_count 89 = .ok (.ireturn, 1) := by decide +kernel
theorem dX10_openBook_0 : decode cX10_openBook 0 = .ok (.aload_n 0, 1) := by decide +kernel
theorem dX10_openBook_1 : decode cX10_openBook 1 = .ok (.getfield 28, 3) := by decide +kernel
theorem dX10_openBook_4 : decode cX10_openBook 4 = .ok (.invokevirtual 121, 3) := by decide +kernel
theorem dX10_openBook_7 : decode cX10_openBook 7 = .ok (.ifCond .ne 5, 3) := by decide +kernel
theorem dX10_openBook_10 : decode cX10_openBook 10 = .ok (.iconst 0, 1) := by decide +kernel
theorem dX10_openBook_11 : decode cX10_openBook 11 = .ok (.ireturn, 1) := by decide +kernel
theorem dX10_openBook_12 : decode cX10_openBook 12 = .ok (.iconst 0, 1) := by decide +kernel
theorem dX10_openBook_13 : decode cX10_openBook 13 = .ok (.istore_n 1, 1) := by decide +kernel
theorem dX10_openBook_14 : decode cX10_openBook 14 = .ok (.iload_n 1, 1) := by decide +kernel
theorem dX10_openBook_15 : decode cX10_openBook 15 = .ok (.aload_n 0, 1) := by decide +kernel
theorem dX10_openBook_16 : decode cX10_openBook 16 = .ok (.getfield 35, 3) := by decide +kernel
theorem dX10_openBook_19 : decode cX10_openBook 19 = .ok (.invokevirtual 154, 3) := by decide +kernel
theorem dX10_openBook_22 : decode cX10_openBook 22 = .ok (.if_icmp .ge 46, 3) := by decide +kernel
theorem dX10_openBook_25 : decode cX10_openBook 25 = .ok (.iconst 0, 1) := by decide +kernel
theorem dX10_openBook_26 : decode cX10_openBook 26 = .ok (.istore_n 2, 1) := by decide +kernel
theorem dX10_openBook_27 : decode cX10_openBook 27 = .ok (.iload_n 2, 1) := by decide +kernel
theorem dX10_openBook_28 : decode cX10_openBook 28 = .ok (.iload_n 1, 1) := by decide +kernel
theorem dX10_openBook_29 : decode cX10_openBook 29 = .ok (.if_icmp .gt 33, 3) := by decide +kernel
theorem dX10_openBook_32 : decode cX10_openBook 32 = .ok (.aload_n 0, 1) := by decide +kernel
theorem dX10_openBook_33 : decode cX10_openBook 33 = .ok (.getfield 28, 3) := by decide +kernel
theorem dX10_openBook_36 : decode cX10_openBook 36 = .ok (.aload_n 0, 1) := by decide +kernel
theorem dX10_openBook_37 : decode cX10_openBook 37 = .ok (.getfield 35, 3) := by decide +kernel
theorem dX10_openBook_40 : decode cX10_openBook 40 = .ok (.iload_n 1, 1) := by decide +kernel
theorem dX10_openBook_41 : decode cX10_openBook 41 = .ok (.invokevirtual 200, 3) := by decide +kernel
theorem dX10_openBook_44 : decode cX10_openBook 44 = .ok (.aload_n 0, 1) := by decide +kernel
theorem dX10_openBook_45 : decode cX10_openBook 45 = .ok (.getfield 35, 3) := by decide +kernel
theorem dX10_openBook_48 : decode cX10_openBook 48 = .ok (.iload_n 2, 1) := by decide +kernel
theorem dX10_openBook_49 : decode cX10_openBook 49 = .ok (.invokevirtual 200, 3) := by decide +kernel
theorem dX10_openBook_52 : decode cX10_openBook 52 = .ok (.invokevirtual 117, 3) := by decide +kernel
theorem dX10_openBook_55 : decode cX10_openBook 55 = .ok (.pop, 1) := by decide +kernel
theorem dX10_openBook_56 : decode cX10_openBook 56 = .ok (.iinc 2 1, 3) := by decide +kernel
theorem dX10_openBook_59 : decode cX10_openBook 59 = .ok (.goto (-32), 3) := by decide +kernel
theorem dX10_openBook_62 : decode cX10_openBook 62 = .ok (.iinc 1 1, 3) := by decide +kernel
theorem dX10_openBook_65 : decode cX10_openBook 65 = .ok (.goto (-51), 3) := by decide +kernel
theorem dX10_openBook_68 : decode cX10_openBook 68 = .ok (.iconst 1, 1) := by decide +kernel
theorem dX10_openBook_69 : decode cX10_openBook 69 = .ok (.ireturn, 1) := by decide +kernel
theorem dX10_lengthAsked_0 : decode cX10_lengthAsked 0 = .ok (.iload_n 1, 1) := by decide +kernel
theorem dX10_lengthAsked_1 : decode cX10_lengthAsked 1 = .ok (.bipush 10, 2) := by decide +kernel
theorem dX10_lengthAsked_3 : decode cX10_lengthAsked 3 = .ok (.if_icmp .lt 17, 3) := by decide +kernel
theorem dX10_lengthAsked_6 : decode cX10_lengthAsked 6 = .ok (.aload_n 0, 1) := by decide +kernel
theorem dX10_lengthAsked_7 : decode cX10_lengthAsked 7 = .ok (.getfield 10, 3) := by decide +kernel
theorem dX10_lengthAsked_10 : decode cX10_lengthAsked 10 = .ok (.iload_n 1, 1) := by decide +kernel
theorem dX10_lengthAsked_11 : decode cX10_lengthAsked 11 = .ok (.bipush 10, 2) := by decide +kernel
theorem dX10_lengthAsked_13 : decode cX10_lengthAsked 13 = .ok (.isub, 1) := by decide +kernel
theorem dX10_lengthAsked_14 : decode cX10_lengthAsked 14 = .ok (.invokevirtual 91, 3) := by decide +kernel
theorem dX10_lengthAsked_17 : decode cX10_lengthAsked 17 = .ok (.ifCond .ne 5, 3) := by decide +kernel
theorem dX10_lengthAsked_20 : decode cX10_lengthAsked 20 = .ok (.iconst (-1), 1) := by decide +kernel
theorem dX10_lengthAsked_21 : decode cX10_lengthAsked 21 = .ok (.ireturn, 1) := by decide +kernel
theorem dX10_lengthAsked_22 : decode cX10_lengthAsked 22 = .ok (.aload_n 0, 1) := by decide +kernel
theorem dX10_lengthAsked_23 : decode cX10_lengthAsked 23 = .ok (.getfield 10, 3) := by decide +kernel
theorem dX10_lengthAsked_26 : decode cX10_lengthAsked 26 = .ok (.iload_n 1, 1) := by decide +kernel
theorem dX10_lengthAsked_27 : decode cX10_lengthAsked 27 = .ok (.bipush 10, 2) := by decide +kernel
theorem dX10_lengthAsked_29 : decode cX10_lengthAsked 29 = .ok (.isub, 1) := by decide +kernel
theorem dX10_lengthAsked_30 : decode cX10_lengthAsked 30 = .ok (.invokevirtual 95, 3) := by decide +kernel
theorem dX10_lengthAsked_33 : decode cX10_lengthAsked 33 = .ok (.ireturn, 1) := by decide +kernel
theorem dX10_greatestInBook_0 : decode cX10_greatestInBook 0 = .ok (.iconst 0, 1) := by decide +kernel
theorem dX10_greatestInBook_1 : decode cX10_greatestInBook 1 = .ok (.istore_n 1, 1) := by decide +kernel
theorem dX10_greatestInBook_2 : decode cX10_greatestInBook 2 = .ok (.iconst 1, 1) := by decide +kernel
theorem dX10_greatestInBook_3 : decode cX10_greatestInBook 3 = .ok (.istore_n 2, 1) := by decide +kernel
theorem dX10_greatestInBook_4 : decode cX10_greatestInBook 4 = .ok (.iload_n 2, 1) := by decide +kernel
theorem dX10_greatestInBook_5 : decode cX10_greatestInBook 5 = .ok (.aload_n 0, 1) := by decide +kernel
theorem dX10_greatestInBook_6 : decode cX10_greatestInBook 6 = .ok (.getfield 35, 3) := by decide +kernel
theorem dX10_greatestInBook_9 : decode cX10_greatestInBook 9 = .ok (.invokevirtual 154, 3) := by decide +kernel
theorem dX10_greatestInBook_12 : decode cX10_greatestInBook 12 = .ok (.if_icmp .ge 50, 3) := by decide +kernel
theorem dX10_greatestInBook_15 : decode cX10_greatestInBook 15 = .ok (.iconst 0, 1) := by decide +kernel
theorem dX10_greatestInBook_16 : decode cX10_greatestInBook 16 = .ok (.istore_n 3, 1) := by decide +kernel
theorem dX10_greatestInBook_17 : decode cX10_greatestInBook 17 = .ok (.iload_n 3, 1) := by decide +kernel
theorem dX10_greatestInBook_18 : decode cX10_greatestInBook 18 = .ok (.iload_n 2, 1) := by decide +kernel
theorem dX10_greatestInBook_19 : decode cX10_greatestInBook 19 = .ok (.if_icmp .ge 37, 3) := by decide +kernel
theorem dX10_greatestInBook_22 : decode cX10_greatestInBook 22 = .ok (.iload_n 1, 1) := by decide +kernel
theorem dX10_greatestInBook_23 : decode cX10_greatestInBook 23 = .ok (.aload_n 0, 1) := by decide +kernel
theorem dX10_greatestInBook_24 : decode cX10_greatestInBook 24 = .ok (.getfield 28, 3) := by decide +kernel
theorem dX10_greatestInBook_27 : decode cX10_greatestInBook 27 = .ok (.aload_n 0, 1) := by decide +kernel
theorem dX10_greatestInBook_28 : decode cX10_greatestInBook 28 = .ok (.getfield 35, 3) := by decide +kernel
theorem dX10_greatestInBook_31 : decode cX10_greatestInBook 31 = .ok (.iload_n 2, 1) := by decide +kernel
theorem dX10_greatestInBook_32 : decode cX10_greatestInBook 32 = .ok (.invokevirtual 200, 3) := by decide +kernel
theorem dX10_greatestInBook_35 : decode cX10_greatestInBook 35 = .ok (.aload_n 0, 1) := by decide +kernel
theorem dX10_greatestInBook_36 : decode cX10_greatestInBook 36 = .ok (.getfield 35, 3) := by decide +kernel
theorem dX10_greatestInBook_39 : decode cX10_greatestInBook 39 = .ok (.iload_n 3, 1) := by decide +kernel
theorem dX10_greatestInBook_40 : decode cX10_greatestInBook 40 = .ok (.invokevirtual 200, 3) := by decide +kernel
theorem dX10_greatestInBook_43 : decode cX10_greatestInBook 43 = .ok (.invokevirtual 219, 3) := by decide +kernel
theorem dX10_greatestInBook_46 : decode cX10_greatestInBook 46 = .ok (.invokestatic 221, 3) := by decide +kernel
theorem dX10_greatestInBook_49 : decode cX10_greatestInBook 49 = .ok (.istore_n 1, 1) := by decide +kernel
theorem dX10_greatestInBook_50 : decode cX10_greatestInBook 50 = .ok (.iinc 3 1, 3) := by decide +kernel
theorem dX10_greatestInBook_53 : decode cX10_greatestInBook 53 = .ok (.goto (-36), 3) := by decide +kernel
theorem dX10_greatestInBook_56 : decode cX10_greatestInBook 56 = .ok (.iinc 2 1, 3) := by decide +kernel
theorem dX10_greatestInBook_59 : decode cX10_greatestInBook 59 = .ok (.goto (-55), 3) := by decide +kernel
theorem dX10_greatestInBook_62 : decode cX10_greatestInBook 62 = .ok (.iload_n 1, 1) := by decide +kernel
theorem dX10_greatestInBook_63 : decode cX10_greatestInBook 63 = .ok (.ireturn, 1) := by decide +kernel
theorem dX10_closestKey_0 : decode cX10_closestKey 0 = .ok (.ldc 226, 2) := by decide +kernel
theorem dX10_closestKey_2 : decode cX10_closestKey 2 = .ok (.istore_n 1, 1) := by decide +kernel
theorem dX10_closestKey_3 : decode cX10_closestKey 3 = .ok (.iconst 0, 1) := by decide +kernel
theorem dX10_closestKey_4 : decode cX10_closestKey 4 = .ok (.istore_n 2, 1) := by decide +kernel
theorem dX10_closestKey_5 : decode cX10_closestKey 5 = .ok (.iload_n 2, 1) := by decide +kernel
theorem dX10_closestKey_6 : decode cX10_closestKey 6 = .ok (.aload_n 0, 1) := by decide +kernel
theorem dX10_closestKey_7 : decode cX10_closestKey 7 = .ok (.getfield 35, 3) := by decide +kernel
theorem dX10_closestKey_10 : decode cX10_closestKey 10 = .ok (.invokevirtual 154, 3) := by decide +kernel
theorem dX10_closestKey_13 : decode cX10_closestKey 13 = .ok (.if_icmp .ge 58, 3) := by decide +kernel
theorem dX10_closestKey_16 : decode cX10_closestKey 16 = .ok (.iload_n 2, 1) := by decide +kernel
theorem dX10_closestKey_17 : decode cX10_closestKey 17 = .ok (.iconst 1, 1) := by decide +kernel
theorem dX10_closestKey_18 : decode cX10_closestKey 18 = .ok (.iadd, 1) := by decide +kernel
theorem dX10_closestKey_19 : decode cX10_closestKey 19 = .ok (.istore_n 3, 1) := by decide +kernel
theorem dX10_closestKey_20 : decode cX10_closestKey 20 = .ok (.iload_n 3, 1) := by decide +kernel
theorem dX10_closestKey_21 : decode cX10_closestKey 21 = .ok (.aload_n 0, 1) := by decide +kernel
theorem dX10_closestKey_22 : decode cX10_closestKey 22 = .ok (.getfield 35, 3) := by decide +kernel
theorem dX10_closestKey_25 : decode cX10_closestKey 25 = .ok (.invokevirtual 154, 3) := by decide +kernel
theorem dX10_closestKey_28 : decode cX10_closestKey 28 = .ok (.if_icmp .ge 37, 3) := by decide +kernel
theorem dX10_closestKey_31 : decode cX10_closestKey 31 = .ok (.iload_n 1, 1) := by decide +kernel
theorem dX10_closestKey_32 : decode cX10_closestKey 32 = .ok (.aload_n 0, 1) := by decide +kernel
theorem dX10_closestKey_33 : decode cX10_closestKey 33 = .ok (.getfield 28, 3) := by decide +kernel
theorem dX10_closestKey_36 : decode cX10_closestKey 36 = .ok (.aload_n 0, 1) := by decide +kernel
theorem dX10_closestKey_37 : decode cX10_closestKey 37 = .ok (.getfield 35, 3) := by decide +kernel
theorem dX10_closestKey_40 : decode cX10_closestKey 40 = .ok (.iload_n 2, 1) := by decide +kernel
theorem dX10_closestKey_41 : decode cX10_closestKey 41 = .ok (.invokevirtual 200, 3) := by decide +kernel
theorem dX10_closestKey_44 : decode cX10_closestKey 44 = .ok (.aload_n 0, 1) := by decide +kernel
theorem dX10_closestKey_45 : decode cX10_closestKey 45 = .ok (.getfield 35, 3) := by decide +kernel
theorem dX10_closestKey_48 : decode cX10_closestKey 48 = .ok (.iload_n 3, 1) := by decide +kernel
theorem dX10_closestKey_49 : decode cX10_closestKey 49 = .ok (.invokevirtual 200, 3) := by decide +kernel
theorem dX10_closestKey_52 : decode cX10_closestKey 52 = .ok (.invokevirtual 227, 3) := by decide +kernel
theorem dX10_closestKey_55 : decode cX10_closestKey 55 = .ok (.invokestatic 164, 3) := by decide +kernel
theorem dX10_closestKey_58 : decode cX10_closestKey 58 = .ok (.istore_n 1, 1) := by decide +kernel
theorem dX10_closestKey_59 : decode cX10_closestKey 59 = .ok (.iinc 3 1, 3) := by decide +kernel
theorem dX10_closestKey_62 : decode cX10_closestKey 62 = .ok (.goto (-42), 3) := by decide +kernel
theorem dX10_closestKey_65 : decode cX10_closestKey 65 = .ok (.iinc 2 1, 3) := by decide +kernel
theorem dX10_closestKey_68 : decode cX10_closestKey 68 = .ok (.goto (-63), 3) := by decide +kernel
theorem dX10_closestKey_71 : decode cX10_closestKey 71 = .ok (.iload_n 1, 1) := by decide +kernel
theorem dX10_closestKey_72 : decode cX10_closestKey 72 = .ok (.ireturn, 1) := by decide +kernel
theorem dX10_sumFrom_0 : decode cX10_sumFrom 0 = .ok (.iconst 0, 1) := by decide +kernel
theorem dX10_sumFrom_1 : decode cX10_sumFrom 1 = .ok (.istore_n 2, 1) := by decide +kernel
theorem dX10_sumFrom_2 : decode cX10_sumFrom 2 = .ok (.iconst 0, 1) := by decide +kernel
theorem dX10_sumFrom_3 : decode cX10_sumFrom 3 = .ok (.istore_n 3, 1) := by decide +kernel
theorem dX10_sumFrom_4 : decode cX10_sumFrom 4 = .ok (.iload_n 3, 1) := by decide +kernel
theorem dX10_sumFrom_5 : decode cX10_sumFrom 5 = .ok (.aload_n 0, 1) := by decide +kernel
theorem dX10_sumFrom_6 : decode cX10_sumFrom 6 = .ok (.getfield 35, 3) := by decide +kernel
theorem dX10_sumFrom_9 : decode cX10_sumFrom 9 = .ok (.invokevirtual 154, 3) := by decide +kernel
theorem dX10_sumFrom_12 : decode cX10_sumFrom 12 = .ok (.if_icmp .ge 28, 3) := by decide +kernel
theorem dX10_sumFrom_15 : decode cX10_sumFrom 15 = .ok (.iload_n 2, 1) := by decide +kernel
theorem dX10_sumFrom_16 : decode cX10_sumFrom 16 = .ok (.aload_n 0, 1) := by decide +kernel
theorem dX10_sumFrom_17 : decode cX10_sumFrom 17 = .ok (.getfield 28, 3) := by decide +kernel
theorem dX10_sumFrom_20 : decode cX10_sumFrom 20 = .ok (.iload_n 1, 1) := by decide +kernel
theorem dX10_sumFrom_21 : decode cX10_sumFrom 21 = .ok (.aload_n 0, 1) := by decide +kernel
theorem dX10_sumFrom_22 : decode cX10_sumFrom 22 = .ok (.getfield 35, 3) := by decide +kernel
theorem dX10_sumFrom_25 : decode cX10_sumFrom 25 = .ok (.iload_n 3, 1) := by decide +kernel
theorem dX10_sumFrom_26 : decode cX10_sumFrom 26 = .ok (.invokevirtual 200, 3) := by decide +kernel
theorem dX10_sumFrom_29 : decode cX10_sumFrom 29 = .ok (.invokevirtual 219, 3) := by decide +kernel
theorem dX10_sumFrom_32 : decode cX10_sumFrom 32 = .ok (.iadd, 1) := by decide +kernel
theorem dX10_sumFrom_33 : decode cX10_sumFrom 33 = .ok (.istore_n 2, 1) := by decide +kernel
theorem dX10_sumFrom_34 : decode cX10_sumFrom 34 = .ok (.iinc 3 1, 3) := by decide +kernel
theorem dX10_sumFrom_37 : decode cX10_sumFrom 37 = .ok (.goto (-33), 3) := by decide +kernel
theorem dX10_sumFrom_40 : decode cX10_sumFrom 40 = .ok (.iload_n 2, 1) := by decide +kernel
theorem dX10_sumFrom_41 : decode cX10_sumFrom 41 = .ok (.ireturn, 1) := by decide +kernel
theorem dX10_isBeyondResults_0 : decode cX10_isBeyondResults 0 = .ok (.iconst 0, 1) := by decide +kernel
theorem dX10_isBeyondResults_1 : decode cX10_isBeyondResults 1 = .ok (.istore_n 3, 1) := by decide +kernel
theorem dX10_isBeyondResults_2 : decode cX10_isBeyondResults 2 = .ok (.iload_n 3, 1) := by decide +kernel
theorem dX10_isBeyondResults_3 : decode cX10_isBeyondResults 3 = .ok (.aload_n 0, 1) := by decide +kernel
theorem dX10_isBeyondResults_4 : decode cX10_isBeyondResults 4 = .ok (.getfield 42, 3) := by decide +kernel
theorem dX10_isBeyondResults_7 : decode cX10_isBeyondResults 7 = .ok (.invokevirtual 147, 3) := by decide +kernel
theorem dX10_isBeyondResults_10 : decode cX10_isBeyondResults 10 = .ok (.if_icmp .ge 31, 3) := by decide +kernel
theorem dX10_isBeyondResults_13 : decode cX10_isBeyondResults 13 = .ok (.aload_n 0, 1) := by decide +kernel
theorem dX10_isBeyondResults_14 : decode cX10_isBeyondResults 14 = .ok (.getfield 28, 3) := by decide +kernel
theorem dX10_isBeyondResults_17 : decode cX10_isBeyondResults 17 = .ok (.iload_n 1, 1) := by decide +kernel
theorem dX10_isBeyondResults_18 : decode cX10_isBeyondResults 18 = .ok (.aload_n 0, 1) := by decide +kernel
theorem dX10_isBeyondResults_19 : decode cX10_isBeyondResults 19 = .ok (.getfield 42, 3) := by decide +kernel
theorem dX10_isBeyondResults_22 : decode cX10_isBeyondResults 22 = .ok (.iload_n 3, 1) := by decide +kernel
theorem dX10_isBeyondResults_23 : decode cX10_isBeyondResults 23 = .ok (.invokevirtual 148, 3) := by decide +kernel
theorem dX10_isBeyondResults_26 : decode cX10_isBeyondResults 26 = .ok (.invokevirtual 219, 3) := by decide +kernel
theorem dX10_isBeyondResults_29 : decode cX10_isBeyondResults 29 = .ok (.iload_n 2, 1) := by decide +kernel
theorem dX10_isBeyondResults_30 : decode cX10_isBeyondResults 30 = .ok (.if_icmp .gt 5, 3) := by decide +kernel
theorem dX10_isBeyondResults_33 : decode cX10_isBeyondResults 33 = .ok (.iconst 0, 1) := by decide +kernel
theorem dX10_isBeyondResults_34 : decode cX10_isBeyondResults 34 = .ok (.ireturn, 1) := by decide +kernel
theorem dX10_isBeyondResults_35 : decode cX10_isBeyondResults 35 = .ok (.iinc 3 1, 3) := by decide +kernel
theorem dX10_isBeyondResults_38 : decode cX10_isBeyondResults 38 = .ok (.goto (-36), 3) := by decide +kernel
theorem dX10_isBeyondResults_41 : decode cX10_isBeyondResults 41 = .ok (.iconst 1, 1) := by decide +kernel
theorem dX10_isBeyondResults_42 : decode cX10_isBeyondResults 42 = .ok (.ireturn, 1) := by decide +kernel
theorem dX10_rankNearFirst_0 : decode cX10_rankNearFirst 0 = .ok (.aload_n 0, 1) := by decide +kernel
theorem dX10_rankNearFirst_1 : decode cX10_rankNearFirst 1 = .ok (.getfield 49, 3) := by decide +kernel
theorem dX10_rankNearFirst_4 : decode cX10_rankNearFirst 4 = .ok (.invokevirtual 230, 3) := by decide +kernel
theorem dX10_rankNearFirst_7 : decode cX10_rankNearFirst 7 = .ok (.iconst 0, 1) := by decide +kernel
theorem dX10_rankNearFirst_8 : decode cX10_rankNearFirst 8 = .ok (.istore_n 3, 1) := by decide +kernel
theorem dX10_rankNearFirst_9 : decode cX10_rankNearFirst 9 = .ok (.iload_n 3, 1) := by decide +kernel
theorem dX10_rankNearFirst_10 : decode cX10_rankNearFirst 10 = .ok (.aload_n 0, 1) := by decide +kernel
theorem dX10_rankNearFirst_11 : decode cX10_rankNearFirst 11 = .ok (.getfield 35, 3) := by decide +kernel
theorem dX10_rankNearFirst_14 : decode cX10_rankNearFirst 14 = .ok (.invokevirtual 154, 3) := by decide +kernel
theorem dX10_rankNearFirst_17 : decode cX10_rankNearFirst 17 = .ok (.if_icmp .ge 52, 3) := by decide +kernel
theorem dX10_rankNearFirst_20 : decode cX10_rankNearFirst 20 = .ok (.aload_n 0, 1) := by decide +kernel
theorem dX10_rankNearFirst_21 : decode cX10_rankNearFirst 21 = .ok (.getfield 35, 3) := by decide +kernel
theorem dX10_rankNearFirst_24 : decode cX10_rankNearFirst 24 = .ok (.iload_n 3, 1) := by decide +kernel
theorem dX10_rankNearFirst_25 : decode cX10_rankNearFirst 25 = .ok (.invokevirtual 200, 3) := by decide +kernel
theorem dX10_rankNearFirst_28 : decode cX10_rankNearFirst 28 = .ok (.istore 4, 2) := by decide +kernel
theorem dX10_rankNearFirst_30 : decode cX10_rankNearFirst 30 = .ok (.aload_n 0, 1) := by decide +kernel
theorem dX10_rankNearFirst_31 : decode cX10_rankNearFirst 31 = .ok (.getfield 28, 3) := by decide +kernel
theorem dX10_rankNearFirst_34 : decode cX10_rankNearFirst 34 = .ok (.iload_n 1, 1) := by decide +kernel
theorem dX10_rankNearFirst_35 : decode cX10_rankNearFirst 35 = .ok (.iload 4, 2) := by decide +kernel
theorem dX10_rankNearFirst_37 : decode cX10_rankNearFirst 37 = .ok (.invokevirtual 117, 3) := by decide +kernel
theorem dX10_rankNearFirst_40 : decode cX10_rankNearFirst 40 = .ok (.istore 5, 2) := by decide +kernel
theorem dX10_rankNearFirst_42 : decode cX10_rankNearFirst 42 = .ok (.iload 5, 2) := by decide +kernel
theorem dX10_rankNearFirst_44 : decode cX10_rankNearFirst 44 = .ok (.iload_n 2, 1) := by decide +kernel
theorem dX10_rankNearFirst_45 : decode cX10_rankNearFirst 45 = .ok (.if_icmp .gt 18, 3) := by decide +kernel
theorem dX10_rankNearFirst_48 : decode cX10_rankNearFirst 48 = .ok (.aload_n 0, 1) := by decide +kernel
theorem dX10_rankNearFirst_49 : decode cX10_rankNearFirst 49 = .ok (.getfield 49, 3) := by decide +kernel
theorem dX10_rankNearFirst_52 : decode cX10_rankNearFirst 52 = .ok (.iload 5, 2) := by decide +kernel
theorem dX10_rankNearFirst_54 : decode cX10_rankNearFirst 54 = .ok (.bipush 60, 2) := by decide +kernel
theorem dX10_rankNearFirst_56 : decode cX10_rankNearFirst 56 = .ok (.imul, 1) := by decide +kernel
theorem dX10_rankNearFirst_57 : decode cX10_rankNearFirst 57 = .ok (.iload 4, 2) := by decide +kernel
theorem dX10_rankNearFirst_59 : decode cX10_rankNearFirst 59 = .ok (.iadd, 1) := by decide +kernel
theorem dX10_rankNearFirst_60 : decode cX10_rankNearFirst 60 = .ok (.invokevirtual 231, 3) := by decide +kernel
theorem dX10_rankNearFirst_63 : decode cX10_rankNearFirst 63 = .ok (.iinc 3 1, 3) := by decide +kernel
theorem dX10_rankNearFirst_66 : decode cX10_rankNearFirst 66 = .ok (.goto (-57), 3) := by decide +kernel
theorem dX10_rankNearFirst_69 : decode cX10_rankNearFirst 69 = .ok (.return_, 1) := by decide +kernel
theorem dX10_rankFarFirst_0 : decode cX10_rankFarFirst 0 = .ok (.aload_n 0, 1) := by decide +kernel
theorem dX10_rankFarFirst_1 : decode cX10_rankFarFirst 1 = .ok (.getfield 49, 3) := by decide +kernel
theorem dX10_rankFarFirst_4 : decode cX10_rankFarFirst 4 = .ok (.invokevirtual 230, 3) := by decide +kernel
theorem dX10_rankFarFirst_7 : decode cX10_rankFarFirst 7 = .ok (.iconst 0, 1) := by decide +kernel
theorem dX10_rankFarFirst_8 : decode cX10_rankFarFirst 8 = .ok (.istore_n 2, 1) := by decide +kernel
theorem dX10_rankFarFirst_9 : decode cX10_rankFarFirst 9 = .ok (.iload_n 2, 1) := by decide +kernel
theorem dX10_rankFarFirst_10 : decode cX10_rankFarFirst 10 = .ok (.aload_n 0, 1) := by decide +kernel
theorem dX10_rankFarFirst_11 : decode cX10_rankFarFirst 11 = .ok (.getfield 35, 3) := by decide +kernel
theorem dX10_rankFarFirst_14 : decode cX10_rankFarFirst 14 = .ok (.invokevirtual 154, 3) := by decide +kernel
theorem dX10_rankFarFirst_17 : decode cX10_rankFarFirst 17 = .ok (.if_icmp .ge 46, 3) := by decide +kernel
theorem dX10_rankFarFirst_20 : decode cX10_rankFarFirst 20 = .ok (.aload_n 0, 1) := by decide +kernel
theorem dX10_rankFarFirst_21 : decode cX10_rankFarFirst 21 = .ok (.getfield 35, 3) := by decide +kernel
theorem dX10_rankFarFirst_24 : decode cX10_rankFarFirst 24 = .ok (.iload_n 2, 1) := by decide +kernel
theorem dX10_rankFarFirst_25 : decode cX10_rankFarFirst 25 = .ok (.invokevirtual 200, 3) := by decide +kernel
theorem dX10_rankFarFirst_28 : decode cX10_rankFarFirst 28 = .ok (.istore_n 3, 1) := by decide +kernel
theorem dX10_rankFarFirst_29 : decode cX10_rankFarFirst 29 = .ok (.ldc 106, 2) := by decide +kernel
theorem dX10_rankFarFirst_31 : decode cX10_rankFarFirst 31 = .ok (.aload_n 0, 1) := by decide +kernel
theorem dX10_rankFarFirst_32 : decode cX10_rankFarFirst 32 = .ok (.getfield 28, 3) := by decide +kernel
theorem dX10_rankFarFirst_35 : decode cX10_rankFarFirst 35 = .ok (.iload_n 1, 1) := by decide +kernel
theorem dX10_rankFarFirst_36 : decode cX10_rankFarFirst 36 = .ok (.iload_n 3, 1) := by decide +kernel
theorem dX10_rankFarFirst_37 : decode cX10_rankFarFirst 37 = .ok (.invokevirtual 117, 3) := by decide +kernel
theorem dX10_rankFarFirst_40 : decode cX10_rankFarFirst 40 = .ok (.isub, 1) := by decide +kernel
theorem dX10_rankFarFirst_41 : decode cX10_rankFarFirst 41 = .ok (.istore 4, 2) := by decide +kernel
theorem dX10_rankFarFirst_43 : decode cX10_rankFarFirst 43 = .ok (.aload_n 0, 1) := by decide +kernel
theorem dX10_rankFarFirst_44 : decode cX10_rankFarFirst 44 = .ok (.getfield 49, 3) := by decide +kernel
theorem dX10_rankFarFirst_47 : decode cX10_rankFarFirst 47 = .ok (.iload 4, 2) := by decide +kernel
theorem dX10_rankFarFirst_49 : decode cX10_rankFarFirst 49 = .ok (.bipush 60, 2) := by decide +kernel
theorem dX10_rankFarFirst_51 : decode cX10_rankFarFirst 51 = .ok (.imul, 1) := by decide +kernel
theorem dX10_rankFarFirst_52 : decode cX10_rankFarFirst 52 = .ok (.iload_n 3, 1) := by decide +kernel
theorem dX10_rankFarFirst_53 : decode cX10_rankFarFirst 53 = .ok (.iadd, 1) := by decide +kernel
theorem dX10_rankFarFirst_54 : decode cX10_rankFarFirst 54 = .ok (.invokevirtual 231, 3) := by decide +kernel
theorem dX10_rankFarFirst_57 : decode cX10_rankFarFirst 57 = .ok (.iinc 2 1, 3) := by decide +kernel
theorem dX10_rankFarFirst_60 : decode cX10_rankFarFirst 60 = .ok (.goto (-51), 3) := by decide +kernel
theorem dX10_rankFarFirst_63 : decode cX10_rankFarFirst 63 = .ok (.return_, 1) := by decide +kernel
theorem dX10_takeRanked_0 : decode cX10_takeRanked 0 = .ok (.iload_n 2, 1) := by decide +kernel
theorem dX10_takeRanked_1 : decode cX10_takeRanked 1 = .ok (.aload_n 0, 1) := by decide +kernel
theorem dX10_takeRanked_2 : decode cX10_takeRanked 2 = .ok (.getfield 49, 3) := by decide +kernel
theorem dX10_takeRanked_5 : decode cX10_takeRanked 5 = .ok (.invokevirtual 180, 3) := by decide +kernel
theorem dX10_takeRanked_8 : decode cX10_takeRanked 8 = .ok (.invokestatic 164, 3) := by decide +kernel
theorem dX10_takeRanked_11 : decode cX10_takeRanked 11 = .ok (.istore_n 3, 1) := by decide +kernel
theorem dX10_takeRanked_12 : decode cX10_takeRanked 12 = .ok (.aload_n 0, 1) := by decide +kernel
theorem dX10_takeRanked_13 : decode cX10_takeRanked 13 = .ok (.getfield 42, 3) := by decide +kernel
theorem dX10_takeRanked_16 : decode cX10_takeRanked 16 = .ok (.invokevirtual 197, 3) := by decide +kernel
theorem dX10_takeRanked_19 : decode cX10_takeRanked 19 = .ok (.iconst 0, 1) := by decide +kernel
theorem dX10_takeRanked_20 : decode cX10_takeRanked 20 = .ok (.istore 4, 2) := by decide +kernel
theorem dX10_takeRanked_22 : decode cX10_takeRanked 22 = .ok (.iload 4, 2) := by decide +kernel
theorem dX10_takeRanked_24 : decode cX10_takeRanked 24 = .ok (.iload_n 3, 1) := by decide +kernel
theorem dX10_takeRanked_25 : decode cX10_takeRanked 25 = .ok (.if_icmp .ge 42, 3) := by decide +kernel
theorem dX10_takeRanked_28 : decode cX10_takeRanked 28 = .ok (.aload_n 0, 1) := by decide +kernel
theorem dX10_takeRanked_29 : decode cX10_takeRanked 29 = .ok (.getfield 49, 3) := by decide +kernel
theorem dX10_takeRanked_32 : decode cX10_takeRanked 32 = .ok (.iload 4, 2) := by decide +kernel
theorem dX10_takeRanked_34 : decode cX10_takeRanked 34 = .ok (.invokevirtual 185, 3) := by decide +kernel
theorem dX10_takeRanked_37 : decode cX10_takeRanked 37 = .ok (.bipush 60, 2) := by decide +kernel
theorem dX10_takeRanked_39 : decode cX10_takeRanked 39 = .ok (.irem, 1) := by decide +kernel
theorem dX10_takeRanked_40 : decode cX10_takeRanked 40 = .ok (.istore 5, 2) := by decide +kernel
theorem dX10_takeRanked_42 : decode cX10_takeRanked 42 = .ok (.aload_n 0, 1) := by decide +kernel
theorem dX10_takeRanked_43 : decode cX10_takeRanked 43 = .ok (.getfield 42, 3) := by decide +kernel
theorem dX10_takeRanked_46 : decode cX10_takeRanked 46 = .ok (.iload 5, 2) := by decide +kernel
theorem dX10_takeRanked_48 : decode cX10_takeRanked 48 = .ok (.aload_n 0, 1) := by decide +kernel
theorem dX10_takeRanked_49 : decode cX10_takeRanked 49 = .ok (.getfield 28, 3) := by decide +kernel
theorem dX10_takeRanked_52 : decode cX10_takeRanked 52 = .ok (.iload_n 1, 1) := by decide +kernel
theorem dX10_takeRanked_53 : decode cX10_takeRanked 53 = .ok (.iload 5, 2) := by decide +kernel
theorem dX10_takeRanked_55 : decode cX10_takeRanked 55 = .ok (.invokevirtual 117, 3) := by decide +kernel
theorem dX10_takeRanked_58 : decode cX10_takeRanked 58 = .ok (.invokevirtual 205, 3) := by decide +kernel
theorem dX10_takeRanked_61 : decode cX10_takeRanked 61 = .ok (.iinc 4 1, 3) := by decide +kernel
theorem dX10_takeRanked_64 : decode cX10_takeRanked 64 = .ok (.goto (-42), 3) := by decide +kernel
theorem dX10_takeRanked_67 : decode cX10_takeRanked 67 = .ok (.iload_n 3, 1) := by decide +kernel
theorem dX10_takeRanked_68 : decode cX10_takeRanked 68 = .ok (.ireturn, 1) := by decide +kernel
theorem dX10_isHowMany_0 : decode cX10_isHowMany 0 = .ok (.iload_n 0, 1) := by decide +kernel
theorem dX10_isHowMany_1 : decode cX10_isHowMany 1 = .ok (.iconst 1, 1) := by decide +kernel
theorem dX10_isHowMany_2 : decode cX10_isHowMany 2 = .ok (.if_icmp .lt 13, 3) := by decide +kernel
theorem dX10_isHowMany_5 : decode cX10_isHowMany 5 = .ok (.iload_n 0, 1) := by decide +kernel
theorem dX10_isHowMany_6 : decode cX10_isHowMany 6 = .ok (.bipush 60, 2) := by decide +kernel
theorem dX10_isHowMany_8 : decode cX10_isHowMany 8 = .ok (.if_icmp .gt 7, 3) := by decide +kernel
theorem dX10_isHowMany_11 : decode cX10_isHowMany 11 = .ok (.iconst 1, 1) := by decide +kernel
theorem dX10_isHowMany_12 : decode cX10_isHowMany 12 = .ok (.goto 4, 3) := by decide +kernel
theorem dX10_isHowMany_15 : decode cX10_isHowMany 15 = .ok (.iconst 0, 1) := by decide +kernel
theorem dX10_isHowMany_16 : decode cX10_isHowMany 16 = .ok (.ireturn, 1) := by decide +kernel
theorem dX10_sumOfPairs_0 : decode cX10_sumOfPairs 0 = .ok (.lconst 0, 1) := by decide +kernel
theorem dX10_sumOfPairs_1 : decode cX10_sumOfPairs 1 = .ok (.lstore_n 1, 1) := by decide +kernel
theorem dX10_sumOfPairs_2 : decode cX10_sumOfPairs 2 = .ok (.iconst 0, 1) := by decide +kernel
theorem dX10_sumOfPairs_3 : decode cX10_sumOfPairs 3 = .ok (.istore_n 3, 1) := by decide +kernel
theorem dX10_sumOfPairs_4 : decode cX10_sumOfPairs 4 = .ok (.iload_n 3, 1) := by decide +kernel
theorem dX10_sumOfPairs_5 : decode cX10_sumOfPairs 5 = .ok (.aload_n 0, 1) := by decide +kernel
theorem dX10_sumOfPairs_6 : decode cX10_sumOfPairs 6 = .ok (.invokevirtual 180, 3) := by decide +kernel
theorem dX10_sumOfPairs_9 : decode cX10_sumOfPairs 9 = .ok (.if_icmp .ge 22, 3) := by decide +kernel
theorem dX10_sumOfPairs_12 : decode cX10_sumOfPairs 12 = .ok (.lload_n 1, 1) := by decide +kernel
theorem dX10_sumOfPairs_13 : decode cX10_sumOfPairs 13 = .ok (.aload_n 0, 1) := by decide +kernel
theorem dX10_sumOfPairs_14 : decode cX10_sumOfPairs 14 = .ok (.iload_n 3, 1) := by decide +kernel
theorem dX10_sumOfPairs_15 : decode cX10_sumOfPairs 15 = .ok (.invokevirtual 185, 3) := by decide +kernel
theorem dX10_sumOfPairs_18 : decode cX10_sumOfPairs 18 = .ok (.iconst 2, 1) := by decide +kernel
theorem dX10_sumOfPairs_19 : decode cX10_sumOfPairs 19 = .ok (.invokestatic 161, 3) := by decide +kernel
theorem dX10_sumOfPairs_22 : decode cX10_sumOfPairs 22 = .ok (.i2l, 1) := by decide +kernel
theorem dX10_sumOfPairs_23 : decode cX10_sumOfPairs 23 = .ok (.ladd, 1) := by decide +kernel
theorem dX10_sumOfPairs_24 : decode cX10_sumOfPairs 24 = .ok (.lstore_n 1, 1) := by decide +kernel
theorem dX10_sumOfPairs_25 : decode cX10_sumOfPairs 25 = .ok (.iinc 3 1, 3) := by decide +kernel
theorem dX10_sumOfPairs_28 : decode cX10_sumOfPairs 28 = .ok (.goto (-24), 3) := by decide +kernel
theorem dX10_sumOfPairs_31 : decode cX10_sumOfPairs 31 = .ok (.lload_n 1, 1) := by decide +kernel
theorem dX10_sumOfPairs_32 : decode cX10_sumOfPairs 32 = .ok (.lreturn, 1) := by decide +kernel
theorem dX10_partOfPair_0 : decode cX10_partOfPair 0 = .ok (.iload_n 1, 1) := by decide +kernel
theorem dX10_partOfPair_1 : decode cX10_partOfPair 1 = .ok (.lookupswitch 40 #[(0, 27), (1, 35)], 27) := by decide +kernel
theorem dX10_partOfPair_28 : decode cX10_partOfPair 28 = .ok (.iload_n 0, 1) := by decide +kernel
theorem dX10_partOfPair_29 : decode cX10_partOfPair 29 = .ok (.bipush 60, 2) := by decide +kernel
theorem dX10_partOfPair_31 : decode cX10_partOfPair 31 = .ok (.idiv, 1) := by decide +kernel
theorem dX10_partOfPair_32 : decode cX10_partOfPair 32 = .ok (.bipush 60, 2) := by decide +kernel
theorem dX10_partOfPair_34 : decode cX10_partOfPair 34 = .ok (.irem, 1) := by decide +kernel
theorem dX10_partOfPair_35 : decode cX10_partOfPair 35 = .ok (.ireturn, 1) := by decide +kernel
