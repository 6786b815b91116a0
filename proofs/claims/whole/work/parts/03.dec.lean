theorem dX10_partOfPair_36 : decode cX10_partOfPair 36 = .ok (.iload_n 0, 1) := by decide +kernel
theorem dX10_partOfPair_37 : decode cX10_partOfPair 37 = .ok (.bipush 60, 2) := by decide +kernel
theorem dX10_partOfPair_39 : decode cX10_partOfPair 39 = .ok (.irem, 1) := by decide +kernel
theorem dX10_partOfPair_40 : decode cX10_partOfPair 40 = .ok (.ireturn, 1) := by decide +kernel
theorem dX10_partOfPair_41 : decode cX10_partOfPair 41 = .ok (.iload_n 0, 1) := by decide +kernel
theorem dX10_partOfPair_42 : decode cX10_partOfPair 42 = .ok (.sipush 3600, 3) := by decide +kernel
theorem dX10_partOfPair_45 : decode cX10_partOfPair 45 = .ok (.idiv, 1) := by decide +kernel
theorem dX10_partOfPair_46 : decode cX10_partOfPair 46 = .ok (.ireturn, 1) := by decide +kernel
theorem dX11_init_0 : decode cX11_init 0 = .ok (.aload_n 0, 1) := by decide +kernel
theorem dX11_init_1 : decode cX11_init 1 = .ok (.invokespecial 1, 3) := by decide +kernel
theorem dX11_init_4 : decode cX11_init 4 = .ok (.aload_n 0, 1) := by decide +kernel
theorem dX11_init_5 : decode cX11_init 5 = .ok (.bipush 60, 2) := by decide +kernel
theorem dX11_init_7 : decode cX11_init 7 = .ok (.newarray .int, 2) := by decide +kernel
theorem dX11_init_9 : decode cX11_init 9 = .ok (.putfield 7, 3) := by decide +kernel
theorem dX11_init_12 : decode cX11_init 12 = .ok (.aload_n 0, 1) := by decide +kernel
theorem dX11_init_13 : decode cX11_init 13 = .ok (.sipush 480, 3) := by decide +kernel
theorem dX11_init_16 : decode cX11_init 16 = .ok (.newarray .int, 2) := by decide +kernel
theorem dX11_init_18 : decode cX11_init 18 = .ok (.putfield 13, 3) := by decide +kernel
theorem dX11_init_21 : decode cX11_init 21 = .ok (.aload_n 0, 1) := by decide +kernel
theorem dX11_init_22 : decode cX11_init 22 = .ok (.sipush 3600, 3) := by decide +kernel
theorem dX11_init_25 : decode cX11_init 25 = .ok (.newarray .int, 2) := by decide +kernel
theorem dX11_init_27 : decode cX11_init 27 = .ok (.putfield 16, 3) := by decide +kernel
theorem dX11_init_30 : decode cX11_init 30 = .ok (.aload_n 0, 1) := by decide +kernel
theorem dX11_init_31 : decode cX11_init 31 = .ok (.bipush 60, 2) := by decide +kernel
theorem dX11_init_33 : decode cX11_init 33 = .ok (.newarray .boolean, 2) := by decide +kernel
theorem dX11_init_35 : decode cX11_init 35 = .ok (.putfield 19, 3) := by decide +kernel
theorem dX11_init_38 : decode cX11_init 38 = .ok (.aload_n 0, 1) := by decide +kernel
theorem dX11_init_39 : decode cX11_init 39 = .ok (.bipush 60, 2) := by decide +kernel
theorem dX11_init_41 : decode cX11_init 41 = .ok (.newarray .int, 2) := by decide +kernel
theorem dX11_init_43 : decode cX11_init 43 = .ok (.putfield 23, 3) := by decide +kernel
theorem dX11_init_46 : decode cX11_init 46 = .ok (.aload_n 0, 1) := by decide +kernel
theorem dX11_init_47 : decode cX11_init 47 = .ok (.bipush 60, 2) := by decide +kernel
theorem dX11_init_49 : decode cX11_init 49 = .ok (.newarray .int, 2) := by decide +kernel
theorem dX11_init_51 : decode cX11_init 51 = .ok (.putfield 26, 3) := by decide +kernel
theorem dX11_init_54 : decode cX11_init 54 = .ok (.aload_n 0, 1) := by decide +kernel
theorem dX11_init_55 : decode cX11_init 55 = .ok (.bipush 81, 2) := by decide +kernel
theorem dX11_init_57 : decode cX11_init 57 = .ok (.newarray .int, 2) := by decide +kernel
theorem dX11_init_59 : decode cX11_init 59 = .ok (.putfield 29, 3) := by decide +kernel
theorem dX11_init_62 : decode cX11_init 62 = .ok (.aload_n 0, 1) := by decide +kernel
theorem dX11_init_63 : decode cX11_init 63 = .ok (.iconst 3, 1) := by decide +kernel
theorem dX11_init_64 : decode cX11_init 64 = .ok (.newarray .int, 2) := by decide +kernel
theorem dX11_init_66 : decode cX11_init 66 = .ok (.putfield 32, 3) := by decide +kernel
theorem dX11_init_69 : decode cX11_init 69 = .ok (.aload_n 0, 1) := by decide +kernel
theorem dX11_init_70 : decode cX11_init 70 = .ok (.bipush 60, 2) := by decide +kernel
theorem dX11_init_72 : decode cX11_init 72 = .ok (.newarray .boolean, 2) := by decide +kernel
theorem dX11_init_74 : decode cX11_init 74 = .ok (.putfield 35, 3) := by decide +kernel
theorem dX11_init_77 : decode cX11_init 77 = .ok (.aload_n 0, 1) := by decide +kernel
theorem dX11_init_78 : decode cX11_init 78 = .ok (.sipush 3600, 3) := by decide +kernel
theorem dX11_init_81 : decode cX11_init 81 = .ok (.newarray .int, 2) := by decide +kernel
theorem dX11_init_83 : decode cX11_init 83 = .ok (.putfield 38, 3) := by decide +kernel
theorem dX11_init_86 : decode cX11_init 86 = .ok (.aload_n 0, 1) := by decide +kernel
theorem dX11_init_87 : decode cX11_init 87 = .ok (.bipush 60, 2) := by decide +kernel
theorem dX11_init_89 : decode cX11_init 89 = .ok (.newarray .int, 2) := by decide +kernel
theorem dX11_init_91 : decode cX11_init 91 = .ok (.putfield 41, 3) := by decide +kernel
theorem dX11_init_94 : decode cX11_init 94 = .ok (.aload_n 0, 1) := by decide +kernel
theorem dX11_init_95 : decode cX11_init 95 = .ok (.bipush 60, 2) := by decide +kernel
theorem dX11_init_97 : decode cX11_init 97 = .ok (.newarray .int, 2) := by decide +kernel
theorem dX11_init_99 : decode cX11_init 99 = .ok (.putfield 44, 3) := by decide +kernel
theorem dX11_init_102 : decode cX11_init 102 = .ok (.aload_n 0, 1) := by decide +kernel
theorem dX11_init_103 : decode cX11_init 103 = .ok (.bipush 60, 2) := by decide +kernel
theorem dX11_init_105 : decode cX11_init 105 = .ok (.newarray .int, 2) := by decide +kernel
theorem dX11_init_107 : decode cX11_init 107 = .ok (.putfield 47, 3) := by decide +kernel
theorem dX11_init_110 : decode cX11_init 110 = .ok (.return_, 1) := by decide +kernel
theorem dX11_lies_0 : decode cX11_lies 0 = .ok (.iload_n 0, 1) := by decide +kernel
theorem dX11_lies_1 : decode cX11_lies 1 = .ok (.iload_n 1, 1) := by decide +kernel
theorem dX11_lies_2 : decode cX11_lies 2 = .ok (.if_icmp .lt 12, 3) := by decide +kernel
theorem dX11_lies_5 : decode cX11_lies 5 = .ok (.iload_n 0, 1) := by decide +kernel
theorem dX11_lies_6 : decode cX11_lies 6 = .ok (.iload_n 2, 1) := by decide +kernel
theorem dX11_lies_7 : decode cX11_lies 7 = .ok (.if_icmp .gt 7, 3) := by decide +kernel
theorem dX11_lies_10 : decode cX11_lies 10 = .ok (.iconst 1, 1) := by decide +kernel
theorem dX11_lies_11 : decode cX11_lies 11 = .ok (.goto 4, 3) := by decide +kernel
theorem dX11_lies_14 : decode cX11_lies 14 = .ok (.iconst 0, 1) := by decide +kernel
theorem dX11_lies_15 : decode cX11_lies 15 = .ok (.ireturn, 1) := by decide +kernel
theorem dX11_isThing_0 : decode cX11_isThing 0 = .ok (.iload_n 1, 1) := by decide +kernel
theorem dX11_isThing_1 : decode cX11_isThing 1 = .ok (.iconst 0, 1) := by decide +kernel
theorem dX11_isThing_2 : decode cX11_isThing 2 = .ok (.aload_n 0, 1) := by decide +kernel
theorem dX11_isThing_3 : decode cX11_isThing 3 = .ok (.getfield 50, 3) := by decide +kernel
theorem dX11_isThing_6 : decode cX11_isThing 6 = .ok (.iconst 1, 1) := by decide +kernel
theorem dX11_isThing_7 : decode cX11_isThing 7 = .ok (.isub, 1) := by decide +kernel
theorem dX11_isThing_8 : decode cX11_isThing 8 = .ok (.invokestatic 54, 3) := by decide +kernel
theorem dX11_isThing_11 : decode cX11_isThing 11 = .ok (.ireturn, 1) := by decide +kernel
theorem dX11_thing_0 : decode cX11_thing 0 = .ok (.iload_n 1, 1) := by decide +kernel
theorem dX11_thing_1 : decode cX11_thing 1 = .ok (.iconst 0, 1) := by decide +kernel
theorem dX11_thing_2 : decode cX11_thing 2 = .ok (.bipush 8, 2) := by decide +kernel
theorem dX11_thing_4 : decode cX11_thing 4 = .ok (.invokestatic 54, 3) := by decide +kernel
theorem dX11_thing_7 : decode cX11_thing 7 = .ok (.ifCond .eq 12, 3) := by decide +kernel
theorem dX11_thing_10 : decode cX11_thing 10 = .ok (.aload_n 0, 1) := by decide +kernel
theorem dX11_thing_11 : decode cX11_thing 11 = .ok (.getfield 50, 3) := by decide +kernel
theorem dX11_thing_14 : decode cX11_thing 14 = .ok (.bipush 60, 2) := by decide +kernel
theorem dX11_thing_16 : decode cX11_thing 16 = .ok (.if_icmp .ne 5, 3) := by decide +kernel
theorem dX11_thing_19 : decode cX11_thing 19 = .ok (.iconst (-1), 1) := by decide +kernel
theorem dX11_thing_20 : decode cX11_thing 20 = .ok (.ireturn, 1) := by decide +kernel
theorem dX11_thing_21 : decode cX11_thing 21 = .ok (.aload_n 0, 1) := by decide +kernel
theorem dX11_thing_22 : decode cX11_thing 22 = .ok (.getfield 7, 3) := by decide +kernel
theorem dX11_thing_25 : decode cX11_thing 25 = .ok (.aload_n 0, 1) := by decide +kernel
theorem dX11_thing_26 : decode cX11_thing 26 = .ok (.getfield 50, 3) := by decide +kernel
theorem dX11_thing_29 : decode cX11_thing 29 = .ok (.iload_n 1, 1) := by decide +kernel
theorem dX11_thing_30 : decode cX11_thing 30 = .ok (.iastore, 1) := by decide +kernel
theorem dX11_thing_31 : decode cX11_thing 31 = .ok (.aload_n 0, 1) := by decide +kernel
theorem dX11_thing_32 : decode cX11_thing 32 = .ok (.dup, 1) := by decide +kernel
theorem dX11_thing_33 : decode cX11_thing 33 = .ok (.getfield 50, 3) := by decide +kernel
theorem dX11_thing_36 : decode cX11_thing 36 = .ok (.iconst 1, 1) := by decide +kernel
theorem dX11_thing_37 : decode cX11_thing 37 = .ok (.iadd, 1) := by decide +kernel
theorem dX11_thing_38 : decode cX11_thing 38 = .ok (.putfield 50, 3) := by decide +kernel
theorem dX11_thing_41 : decode cX11_thing 41 = .ok (.aload_n 0, 1) := by decide +kernel
theorem dX11_thing_42 : decode cX11_thing 42 = .ok (.getfield 50, 3) := by decide +kernel
theorem dX11_thing_45 : decode cX11_thing 45 = .ok (.iconst 1, 1) := by decide +kernel
theorem dX11_thing_46 : decode cX11_thing 46 = .ok (.isub, 1) := by decide +kernel
theorem dX11_thing_47 : decode cX11_thing 47 = .ok (.ireturn, 1) := by decide +kernel
theorem dX11_value_0 : decode cX11_value 0 = .ok (.aload_n 0, 1) := by decide +kernel
theorem dX11_value_1 : decode cX11_value 1 = .ok (.iload_n 1, 1) := by decide +kernel
theorem dX11_value_2 : decode cX11_value 2 = .ok (.invokevirtual 58, 3) := by decide +kernel
theorem dX11_value_5 : decode cX11_value 5 = .ok (.ifCond .eq 32, 3) := by decide +kernel
theorem dX11_value_8 : decode cX11_value 8 = .ok (.iload_n 2, 1) := by decide +kernel
theorem dX11_value_9 : decode cX11_value 9 = .ok (.iconst 0, 1) := by decide +kernel
theorem dX11_value_10 : decode cX11_value 10 = .ok (.aload_n 0, 1) := by decide +kernel
theorem dX11_value_11 : decode cX11_value 11 = .ok (.getfield 7, 3) := by decide +kernel
theorem dX11_value_14 : decode cX11_value 14 = .ok (.iload_n 1, 1) := by decide +kernel
theorem dX11_value_15 : decode cX11_value 15 = .ok (.iaload, 1) := by decide +kernel
theorem dX11_value_16 : decode cX11_value 16 = .ok (.iconst 1, 1) := by decide +kernel
theorem dX11_value_17 : decode cX11_value 17 = .ok (.isub, 1) := by decide +kernel
theorem dX11_value_18 : decode cX11_value 18 = .ok (.invokestatic 54, 3) := by decide +kernel
theorem dX11_value_21 : decode cX11_value 21 = .ok (.ifCond .eq 16, 3) := by decide +kernel
theorem dX11_value_24 : decode cX11_value 24 = .ok (.iload_n 3, 1) := by decide +kernel
theorem dX11_value_25 : decode cX11_value 25 = .ok (.sipush (-1000), 3) := by decide +kernel
theorem dX11_value_28 : decode cX11_value 28 = .ok (.sipush 1000, 3) := by decide +kernel
theorem dX11_value_31 : decode cX11_value 31 = .ok (.invokestatic 54, 3) := by decide +kernel
theorem dX11_value_34 : decode cX11_value 34 = .ok (.ifCond .ne 5, 3) := by decide +kernel
theorem dX11_value_37 : decode cX11_value 37 = .ok (.iconst 0, 1) := by decide +kernel
theorem dX11_value_38 : decode cX11_value 38 = .ok (.ireturn, 1) := by decide +kernel
theorem dX11_value_39 : decode cX11_value 39 = .ok (.aload_n 0, 1) := by decide +kernel
theorem dX11_value_40 : decode cX11_value 40 = .ok (.getfield 13, 3) := by decide +kernel
theorem dX11_value_43 : decode cX11_value 43 = .ok (.bipush 8, 2) := by decide +kernel
theorem dX11_value_45 : decode cX11_value 45 = .ok (.iload_n 1, 1) := by decide +kernel
theorem dX11_value_46 : decode cX11_value 46 = .ok (.imul, 1) := by decide +kernel
theorem dX11_value_47 : decode cX11_value 47 = .ok (.iload_n 2, 1) := by decide +kernel
theorem dX11_value_48 : decode cX11_value 48 = .ok (.iadd, 1) := by decide +kernel
theorem dX11_value_49 : decode cX11_value 49 = .ok (.iload_n 3, 1) := by decide +kernel
theorem dX11_value_50 : decode cX11_value 50 = .ok (.iastore, 1) := by decide +kernel
theorem dX11_value_51 : decode cX11_value 51 = .ok (.iconst 1, 1) := by decide +kernel
theorem dX11_value_52 : decode cX11_value 52 = .ok (.ireturn, 1) := by decide +kernel
theorem dX11_tell_0 : decode cX11_tell 0 = .ok (.aload_n 0, 1) := by decide +kernel
theorem dX11_tell_1 : decode cX11_tell 1 = .ok (.iload_n 1, 1) := by decide +kernel
theorem dX11_tell_2 : decode cX11_tell 2 = .ok (.invokevirtual 58, 3) := by decide +kernel
theorem dX11_tell_5 : decode cX11_tell 5 = .ok (.ifCond .eq 26, 3) := by decide +kernel
theorem dX11_tell_8 : decode cX11_tell 8 = .ok (.aload_n 0, 1) := by decide +kernel
theorem dX11_tell_9 : decode cX11_tell 9 = .ok (.iload_n 2, 1) := by decide +kernel
theorem dX11_tell_10 : decode cX11_tell 10 = .ok (.invokevirtual 58, 3) := by decide +kernel
theorem dX11_tell_13 : decode cX11_tell 13 = .ok (.ifCond .eq 18, 3) := by decide +kernel
theorem dX11_tell_16 : decode cX11_tell 16 = .ok (.iload_n 1, 1) := by decide +kernel
theorem dX11_tell_17 : decode cX11_tell 17 = .ok (.iload_n 2, 1) := by decide +kernel
theorem dX11_tell_18 : decode cX11_tell 18 = .ok (.if_icmp .eq 13, 3) := by decide +kernel
theorem dX11_tell_21 : decode cX11_tell 21 = .ok (.iload_n 3, 1) := by decide +kernel
theorem dX11_tell_22 : decode cX11_tell 22 = .ok (.iconst 0, 1) := by decide +kernel
theorem dX11_tell_23 : decode cX11_tell 23 = .ok (.ldc 62, 2) := by decide +kernel
theorem dX11_tell_25 : decode cX11_tell 25 = .ok (.invokestatic 54, 3) := by decide +kernel
theorem dX11_tell_28 : decode cX11_tell 28 = .ok (.ifCond .ne 5, 3) := by decide +kernel
theorem dX11_tell_31 : decode cX11_tell 31 = .ok (.iconst 0, 1) := by decide +kernel
theorem dX11_tell_32 : decode cX11_tell 32 = .ok (.ireturn, 1) := by decide +kernel
theorem dX11_tell_33 : decode cX11_tell 33 = .ok (.aload_n 0, 1) := by decide +kernel
theorem dX11_tell_34 : decode cX11_tell 34 = .ok (.getfield 16, 3) := by decide +kernel
theorem dX11_tell_37 : decode cX11_tell 37 = .ok (.bipush 60, 2) := by decide +kernel
theorem dX11_tell_39 : decode cX11_tell 39 = .ok (.iload_n 1, 1) := by decide +kernel
theorem dX11_tell_40 : decode cX11_tell 40 = .ok (.imul, 1) := by decide +kernel
theorem dX11_tell_41 : decode cX11_tell 41 = .ok (.iload_n 2, 1) := by decide +kernel
theorem dX11_tell_42 : decode cX11_tell 42 = .ok (.iadd, 1) := by decide +kernel
theorem dX11_tell_43 : decode cX11_tell 43 = .ok (.iload_n 3, 1) := by decide +kernel
theorem dX11_tell_44 : decode cX11_tell 44 = .ok (.iastore, 1) := by decide +kernel
theorem dX11_tell_45 : decode cX11_tell 45 = .ok (.aload_n 0, 1) := by decide +kernel
theorem dX11_tell_46 : decode cX11_tell 46 = .ok (.getfield 16, 3) := by decide +kernel
theorem dX11_tell_49 : decode cX11_tell 49 = .ok (.bipush 60, 2) := by decide +kernel
theorem dX11_tell_51 : decode cX11_tell 51 = .ok (.iload_n 2, 1) := by decide +kernel
theorem dX11_tell_52 : decode cX11_tell 52 = .ok (.imul, 1) := by decide +kernel
theorem dX11_tell_53 : decode cX11_tell 53 = .ok (.iload_n 1, 1) := by decide +kernel
theorem dX11_tell_54 : decode cX11_tell 54 = .ok (.iadd, 1) := by decide +kernel
theorem dX11_tell_55 : decode cX11_tell 55 = .ok (.iload_n 3, 1) := by decide +kernel
theorem dX11_tell_56 : decode cX11_tell 56 = .ok (.iastore, 1) := by decide +kernel
theorem dX11_tell_57 : decode cX11_tell 57 = .ok (.iconst 1, 1) := by decide +kernel
theorem dX11_tell_58 : decode cX11_tell 58 = .ok (.ireturn, 1) := by decide +kernel
theorem dX11_kind_0 : decode cX11_kind 0 = .ok (.iload_n 1, 1) := by decide +kernel
theorem dX11_kind_1 : decode cX11_kind 1 = .ok (.iconst 0, 1) := by decide +kernel
theorem dX11_kind_2 : decode cX11_kind 2 = .ok (.iconst 5, 1) := by decide +kernel
theorem dX11_kind_3 : decode cX11_kind 3 = .ok (.invokestatic 54, 3) := by decide +kernel
theorem dX11_kind_6 : decode cX11_kind 6 = .ok (.ifCond .ne 5, 3) := by decide +kernel
theorem dX11_kind_9 : decode cX11_kind 9 = .ok (.iconst 0, 1) := by decide +kernel
theorem dX11_kind_10 : decode cX11_kind 10 = .ok (.ireturn, 1) := by decide +kernel
theorem dX11_kind_11 : decode cX11_kind 11 = .ok (.aload_n 0, 1) := by decide +kernel
theorem dX11_kind_12 : decode cX11_kind 12 = .ok (.iload_n 1, 1) := by decide +kernel
theorem dX11_kind_13 : decode cX11_kind 13 = .ok (.putfield 63, 3) := by decide +kernel
theorem dX11_kind_16 : decode cX11_kind 16 = .ok (.iconst 1, 1) := by decide +kernel
theorem dX11_kind_17 : decode cX11_kind 17 = .ok (.ireturn, 1) := by decide +kernel
theorem dX11_size_0 : decode cX11_size 0 = .ok (.iload_n 0, 1) := by decide +kernel
theorem dX11_size_1 : decode cX11_size 1 = .ok (.ifCond .ge 8, 3) := by decide +kernel
theorem dX11_size_4 : decode cX11_size 4 = .ok (.iload_n 0, 1) := by decide +kernel
theorem dX11_size_5 : decode cX11_size 5 = .ok (.ineg, 1) := by decide +kernel
theorem dX11_size_6 : decode cX11_size 6 = .ok (.goto 4, 3) := by decide +kernel
theorem dX11_size_9 : decode cX11_size 9 = .ok (.iload_n 0, 1) := by decide +kernel
theorem dX11_size_10 : decode cX11_size 10 = .ok (.ireturn, 1) := by decide +kernel
theorem dX11_unlike_0 : decode cX11_unlike 0 = .ok (.iconst 0, 1) := by decide +kernel
theorem dX11_unlike_1 : decode cX11_unlike 1 = .ok (.istore_n 3, 1) := by decide +kernel
theorem dX11_unlike_2 : decode cX11_unlike 2 = .ok (.iconst 0, 1) := by decide +kernel
theorem dX11_unlike_3 : decode cX11_unlike 3 = .ok (.istore 4, 2) := by decide +kernel
theorem dX11_unlike_5 : decode cX11_unlike 5 = .ok (.iload 4, 2) := by decide +kernel
theorem dX11_unlike_7 : decode cX11_unlike 7 = .ok (.bipush 8, 2) := by decide +kernel
theorem dX11_unlike_9 : decode cX11_unlike 9 = .ok (.if_icmp .ge 44, 3) := by decide +kernel
theorem dX11_unlike_12 : decode cX11_unlike 12 = .ok (.iload_n 3, 1) := by decide +kernel
theorem dX11_unlike_13 : decode cX11_unlike 13 = .ok (.aload_n 0, 1) := by decide +kernel
theorem dX11_unlike_14 : decode cX11_unlike 14 = .ok (.getfield 13, 3) := by decide +kernel
theorem dX11_unlike_17 : decode cX11_unlike 17 = .ok (.bipush 8, 2) := by decide +kernel
theorem dX11_unlike_19 : decode cX11_unlike 19 = .ok (.iload_n 1, 1) := by decide +kernel
theorem dX11_unlike_20 : decode cX11_unlike 20 = .ok (.imul, 1) := by decide +kernel
theorem dX11_unlike_21 : decode cX11_unlike 21 = .ok (.iload 4, 2) := by decide +kernel
theorem dX11_unlike_23 : decode cX11_unlike 23 = .ok (.iadd, 1) := by decide +kernel
theorem dX11_unlike_24 : decode cX11_unlike 24 = .ok (.iaload, 1) := by decide +kernel
theorem dX11_unlike_25 : decode cX11_unlike 25 = .ok (.aload_n 0, 1) := by decide +kernel
theorem dX11_unlike_26 : decode cX11_unlike 26 = .ok (.getfield 13, 3) := by decide +kernel
theorem dX11_unlike_29 : decode cX11_unlike 29 = .ok (.bipush 8, 2) := by decide +kernel
theorem dX11_unlike_31 : decode cX11_unlike 31 = .ok (.iload_n 2, 1) := by decide +kernel
theorem dX11_unlike_32 : decode cX11_unlike 32 = .ok (.imul, 1) := by decide +kernel
theorem dX11_unlike_33 : decode cX11_unlike 33 = .ok (.iload 4, 2) := by decide +kernel
theorem dX11_unlike_35 : decode cX11_unlike 35 = .ok (.iadd, 1) := by decide +kernel
theorem dX11_unlike_36 : decode cX11_unlike 36 = .ok (.iaload, 1) := by decide +kernel
theorem dX11_unlike_37 : decode cX11_unlike 37 = .ok (.if_icmp .ne 7, 3) := by decide +kernel
theorem dX11_unlike_40 : decode cX11_unlike 40 = .ok (.iconst 0, 1) := by decide +kernel
theorem dX11_unlike_41 : decode cX11_unlike 41 = .ok (.goto 4, 3) := by decide +kernel
theorem dX11_unlike_44 : decode cX11_unlike 44 = .ok (.iconst 1, 1) := by decide +kernel
theorem dX11_unlike_45 : decode cX11_unlike 45 = .ok (.iadd, 1) := by decide +kernel
theorem dX11_unlike_46 : decode cX11_unlike 46 = .ok (.istore_n 3, 1) := by decide +kernel
theorem dX11_unlike_47 : decode cX11_unlike 47 = .ok (.iinc 4 1, 3) := by decide +kernel
theorem dX11_unlike_50 : decode cX11_unlike 50 = .ok (.goto (-45), 3) := by decide +kernel
theorem dX11_unlike_53 : decode cX11_unlike 53 = .ok (.iload_n 3, 1) := by decide +kernel
theorem dX11_unlike_54 : decode cX11_unlike 54 = .ok (.ireturn, 1) := by decide +kernel
theorem dX11_least_0 : decode cX11_least 0 = .ok (.iload_n 0, 1) := by decide +kernel
theorem dX11_least_1 : decode cX11_least 1 = .ok (.iload_n 1, 1) := by decide +kernel
theorem dX11_least_2 : decode cX11_least 2 = .ok (.if_icmp .ge 7, 3) := by decide +kernel
theorem dX11_least_5 : decode cX11_least 5 = .ok (.iload_n 0, 1) := by decide +kernel
theorem dX11_least_6 : decode cX11_least 6 = .ok (.goto 4, 3) := by decide +kernel
theorem dX11_least_9 : decode cX11_least 9 = .ok (.iload_n 1, 1) := by decide +kernel
theorem dX11_least_10 : decode cX11_least 10 = .ok (.ireturn, 1) := by decide +kernel
theorem dX11_edits_0 : decode cX11_edits 0 = .ok (.iconst 0, 1) := by decide +kernel
theorem dX11_edits_1 : decode cX11_edits 1 = .ok (.istore_n 3, 1) := by decide +kernel
theorem dX11_edits_2 : decode cX11_edits 2 = .ok (.iload_n 3, 1) := by decide +kernel
theorem dX11_edits_3 : decode cX11_edits 3 = .ok (.aload_n 0, 1) := by decide +kernel
theorem dX11_edits_4 : decode cX11_edits 4 = .ok (.getfield 7, 3) := by decide +kernel
theorem dX11_edits_7 : decode cX11_edits 7 = .ok (.iload_n 1, 1) := by decide +kernel
theorem dX11_edits_8 : decode cX11_edits 8 = .ok (.iaload, 1) := by decide +kernel
theorem dX11_edits_9 : decode cX11_edits 9 = .ok (.if_icmp .gt 161, 3) := by decide +kernel
theorem dX11_edits_12 : decode cX11_edits 12 = .ok (.iconst 0, 1) := by decide +kernel
theorem dX11_edits_13 : decode cX11_edits 13 = .ok (.istore 4, 2) := by decide +kernel
theorem dX11_edits_15 : decode cX11_edits 15 = .ok (.iload 4, 2) := by decide +kernel
theorem dX11_edits_17 : decode cX11_edits 17 = .ok (.aload_n 0, 1) := by decide +kernel
theorem dX11_edits_18 : decode cX11_edits 18 = .ok (.getfield 7, 3) := by decide +kernel
theorem dX11_edits_21 : decode cX11_edits 21 = .ok (.iload_n 2, 1) := by decide +kernel
theorem dX11_edits_22 : decode cX11_edits 22 = .ok (.iaload, 1) := by decide +kernel
theorem dX11_edits_23 : decode cX11_edits 23 = .ok (.if_icmp .gt 141, 3) := by decide +kernel
theorem dX11_edits_26 : decode cX11_edits 26 = .ok (.iload_n 3, 1) := by decide +kernel
theorem dX11_edits_27 : decode cX11_edits 27 = .ok (.ifCond .eq 8, 3) := by decide +kernel
theorem dX11_edits_30 : decode cX11_edits 30 = .ok (.iload 4, 2) := by decide +kernel
theorem dX11_edits_32 : decode cX11_edits 32 = .ok (.ifCond .ne 22, 3) := by decide +kernel
theorem dX11_edits_35 : decode cX11_edits 35 = .ok (.aload_n 0, 1) := by decide +kernel
theorem dX11_edits_36 : decode cX11_edits 36 = .ok (.getfield 29, 3) := by decide +kernel
theorem dX11_edits_39 : decode cX11_edits 39 = .ok (.bipush 9, 2) := by decide +kernel
theorem dX11_edits_41 : decode cX11_edits 41 = .ok (.iload_n 3, 1) := by decide +kernel
theorem dX11_edits_42 : decode cX11_edits 42 = .ok (.imul, 1) := by decide +kernel
theorem dX11_edits_43 : decode cX11_edits 43 = .ok (.iload 4, 2) := by decide +kernel
theorem dX11_edits_45 : decode cX11_edits 45 = .ok (.iadd, 1) := by decide +kernel
theorem dX11_edits_46 : decode cX11_edits 46 = .ok (.iload_n 3, 1) := by decide +kernel
theorem dX11_edits_47 : decode cX11_edits 47 = .ok (.iload 4, 2) := by decide +kernel
theorem dX11_edits_49 : decode cX11_edits 49 = .ok (.iadd, 1) := by decide +kernel
theorem dX11_edits_50 : decode cX11_edits 50 = .ok (.iastore, 1) := by decide +kernel
theorem dX11_edits_51 : decode cX11_edits 51 = .ok (.goto 107, 3) := by decide +kernel
theorem dX11_edits_54 : decode cX11_edits 54 = .ok (.aload_n 0, 1) := by decide +kernel
theorem dX11_edits_55 : decode cX11_edits 55 = .ok (.getfield 29, 3) := by decide +kernel
theorem dX11_edits_58 : decode cX11_edits 58 = .ok (.bipush 9, 2) := by decide +kernel
theorem dX11_edits_60 : decode cX11_edits 60 = .ok (.iload_n 3, 1) := by decide +kernel
theorem dX11_edits_61 : decode cX11_edits 61 = .ok (.imul, 1) := by decide +kernel
theorem dX11_edits_62 : decode cX11_edits 62 = .ok (.iload 4, 2) := by decide +kernel
theorem dX11_edits_64 : decode cX11_edits 64 = .ok (.iadd, 1) := by decide +kernel
theorem dX11_edits_65 : decode cX11_edits 65 = .ok (.bipush 10, 2) := by decide +kernel
theorem dX11_edits_67 : decode cX11_edits 67 = .ok (.isub, 1) := by decide +kernel
theorem dX11_edits_68 : decode cX11_edits 68 = .ok (.iaload, 1) := by decide +kernel
theorem dX11_edits_69 : decode cX11_edits 69 = .ok (.aload_n 0, 1) := by decide +kernel
theorem dX11_edits_70 : decode cX11_edits 70 = .ok (.getfield 13, 3) := by decide +kernel
theorem dX11_edits_73 : decode cX11_edits 73 = .ok (.bipush 8, 2) := by decide +kernel
theorem dX11_edits_75 : decode cX11_edits 75 = .ok (.iload_n 1, 1) := by decide +kernel
theorem dX11_edits_76 : decode cX11_edits 76 = .ok (.imul, 1) := by decide +kernel
theorem dX11_edits_77 : decode cX11_edits 77 = .ok (.iload_n 3, 1) := by decide +kernel
theorem dX11_edits_78 : decode cX11_edits 78 = .ok (.iadd, 1) := by decide +kernel
theorem dX11_edits_79 : decode cX11_edits 79 = .ok (.iconst 1, 1) := by decide +kernel
theorem dX11_edits_80 : decode cX11_edits 80 = .ok (.isub, 1) := by decide +kernel
theorem dX11_edits_81 : decode cX11_edits 81 = .ok (.iaload, 1) := by decide +kernel
theorem dX11_edits_82 : decode cX11_edits 82 = .ok (.aload_n 0, 1) := by decide +kernel
theorem dX11_edits_83 : decode cX11_edits 83 = .ok (.getfield 13, 3) := by decide +kernel
theorem dX11_edits_86 : decode cX11_edits 86 = .ok (.bipush 8, 2) := by decide +kernel
theorem dX11_edits_88 : decode cX11_edits 88 = .ok (.iload_n 2, 1) := by decide +kernel
theorem dX11_edits_89 : decode cX11_edits 89 = .ok (.imul, 1) := by decide +kernel
theorem dX11_edits_90 : decode cX11_edits 90 = .ok (.iload 4, 2) := by decide +kernel
theorem dX11_edits_92 : decode cX11_edits 92 = .ok (.iadd, 1) := by decide +kernel
theorem dX11_edits_93 : decode cX11_edits 93 = .ok (.iconst 1, 1) := by decide +kernel
theorem dX11_edits_94 : decode cX11_edits 94 = .ok (.isub, 1) := by decide +kernel
theorem dX11_edits_95 : decode cX11_edits 95 = .ok (.iaload, 1) := by decide +kernel
theorem dX11_edits_96 : decode cX11_edits 96 = .ok (.if_icmp .ne 7, 3) := by decide +kernel
theorem dX11_edits_99 : decode cX11_edits 99 = .ok (.iconst 0, 1) := by decide +kernel
theorem dX11_edits_100 : decode cX11_edits 100 = .ok (.goto 4, 3) := by decide +kernel
theorem dX11_edits_103 : decode cX11_edits 103 = .ok (.iconst 1, 1) := by decide +kernel
theorem dX11_edits_104 : decode cX11_edits 104 = .ok (.iadd, 1) := by decide +kernel
theorem dX11_edits_105 : decode cX11_edits 105 = .ok (.istore 5, 2) := by decide +kernel
theorem dX11_edits_107 : decode cX11_edits 107 = .ok (.aload_n 0, 1) := by decide +kernel
theorem dX11_edits_108 : decode cX11_edits 108 = .ok (.getfield 29, 3) := by decide +kernel
theorem dX11_edits_111 : decode cX11_edits 111 = .ok (.bipush 9, 2) := by decide +kernel
theorem dX11_edits_113 : decode cX11_edits 113 = .ok (.iload_n 3, 1) := by decide +kernel
theorem dX11_edits_114 : decode cX11_edits 114 = .ok (.imul, 1) := by decide +kernel
theorem dX11_edits_115 : decode cX11_edits 115 = .ok (.iload 4, 2) := by decide +kernel
theorem dX11_edits_117 : decode cX11_edits 117 = .ok (.iadd, 1) := by decide +kernel
theorem dX11_edits_118 : decode cX11_edits 118 = .ok (.iload 5, 2) := by decide +kernel
theorem dX11_edits_120 : decode cX11_edits 120 = .ok (.iconst 1, 1) := by decide +kernel
theorem dX11_edits_121 : decode cX11_edits 121 = .ok (.aload_n 0, 1) := by decide +kernel
theorem dX11_edits_122 : decode cX11_edits 122 = .ok (.getfield 29, 3) := by decide +kernel
theorem dX11_edits_125 : decode cX11_edits 125 = .ok (.bipush 9, 2) := by decide +kernel
theorem dX11_edits_127 : decode cX11_edits 127 = .ok (.iload_n 3, 1) := by decide +kernel
theorem dX11_edits_128 : decode cX11_edits 128 = .ok (.imul, 1) := by decide +kernel
theorem dX11_edits_129 : decode cX11_edits 129 = .ok (.iload 4, 2) := by decide +kernel
theorem dX11_edits_131 : decode cX11_edits 131 = .ok (.iadd, 1) := by decide +kernel
theorem dX11_edits_132 : decode cX11_edits 132 = .ok (.bipush 9, 2) := by decide +kernel
theorem dX11_edits_134 : decode cX11_edits 134 = .ok (.isub, 1) := by decide +kernel
theorem dX11_edits_135 : decode cX11_edits 135 = .ok (.iaload, 1) := by decide +kernel
theorem dX11_edits_136 : decode cX11_edits 136 = .ok (.aload_n 0, 1) := by decide +kernel
theorem dX11_edits_137 : decode cX11_edits 137 = .ok (.getfield 29, 3) := by decide +kernel
theorem dX11_edits_140 : decode cX11_edits 140 = .ok (.bipush 9, 2) := by decide +kernel
theorem dX11_edits_142 : decode cX11_edits 142 = .ok (.iload_n 3, 1) := by decide +kernel
theorem dX11_edits_143 : decode cX11_edits 143 = .ok (.imul, 1) := by decide +kernel
theorem dX11_edits_144 : decode cX11_edits 144 = .ok (.iload 4, 2) := by decide +kernel
theorem dX11_edits_146 : decode cX11_edits 146 = .ok (.iadd, 1) := by decide +kernel
theorem dX11_edits_147 : decode cX11_edits 147 = .ok (.iconst 1, 1) := by decide +kernel
theorem dX11_edits_148 : decode cX11_edits 148 = .ok (.isub, 1) := by decide +kernel
theorem dX11_edits_149 : decode cX11_edits 149 = .ok (.iaload, 1) := by decide +kernel
theorem dX11_edits_150 : decode cX11_edits 150 = .ok (.invokestatic 66, 3) := by decide +kernel
theorem dX11_edits_153 : decode cX11_edits 153 = .ok (.iadd, 1) := by decide +kernel
theorem dX11_edits_154 : decode cX11_edits 154 = .ok (.invokestatic 66, 3) := by decide +kernel
theorem dX11_edits_157 : decode cX11_edits 157 = .ok (.iastore, 1) := by decide +kernel
theorem dX11_edits_158 : decode cX11_edits 158 = .ok (.iinc 4 1, 3) := by decide +kernel
theorem dX11_edits_161 : decode cX11_edits 161 = .ok (.goto (-146), 3) := by decide +kernel
theorem dX11_edits_164 : decode cX11_edits 164 = .ok (.iinc 3 1, 3) := by decide +kernel
theorem dX11_edits_167 : decode cX11_edits 167 = .ok (.goto (-165), 3) := by decide +kernel
theorem dX11_edits_170 : decode cX11_edits 170 = .ok (.aload_n 0, 1) := by decide +kernel
theorem dX11_edits_171 : decode cX11_edits 171 = .ok (.getfield 29, 3) := by decide +kernel
theorem dX11_edits_174 : decode cX11_edits 174 = .ok (.bipush 9, 2) := by decide +kernel
theorem dX11_edits_176 : decode cX11_edits 176 = .ok (.aload_n 0, 1) := by decide +kernel
theorem dX11_edits_177 : decode cX11_edits 177 = .ok (.getfield 7, 3) := by decide +kernel
theorem dX11_edits_180 : decode cX11_edits 180 = .ok (.iload_n 1, 1) := by decide +kernel
theorem dX11_edits_181 : decode cX11_edits 181 = .ok (.iaload, 1) := by decide +kernel
theorem dX11_edits_182 : decode cX11_edits 182 = .ok (.imul, 1) := by decide +kernel
theorem dX11_edits_183 : decode cX11_edits 183 = .ok (.aload_n 0, 1) := by decide +kernel
theorem dX11_edits_184 : decode cX11_edits 184 = .ok (.getfield 7, 3) := by decide +kernel
theorem dX11_edits_187 : decode cX11_edits 187 = .ok (.iload_n 2, 1) := by decide +kernel
theorem dX11_edits_188 : decode cX11_edits 188 = .ok (.iaload, 1) := by decide +kernel
theorem dX11_edits_189 : decode cX11_edits 189 = .ok (.iadd, 1) := by decide +kernel
theorem dX11_edits_190 : decode cX11_edits 190 = .ok (.iaload, 1) := by decide +kernel
theorem dX11_edits_191 : decode cX11_edits 191 = .ok (.ireturn, 1) := by decide +kernel
theorem dX11_has_0 : decode cX11_has 0 = .ok (.iconst 0, 1) := by decide +kernel
theorem dX11_has_1 : decode cX11_has 1 = .ok (.istore 4, 2) := by decide +kernel
theorem dX11_has_3 : decode cX11_has 3 = .ok (.iload 4, 2) := by decide +kernel
theorem dX11_has_5 : decode cX11_has 5 = .ok (.iload_n 3, 1) := by decide +kernel
theorem dX11_has_6 : decode cX11_has 6 = .ok (.if_icmp .ge 27, 3) := by decide +kernel
theorem dX11_has_9 : decode cX11_has 9 = .ok (.aload_n 0, 1) := by decide +kernel
theorem dX11_has_10 : decode cX11_has 10 = .ok (.getfield 13, 3) := by decide +kernel
theorem dX11_has_13 : decode cX11_has 13 = .ok (.bipush 8, 2) := by decide +kernel
theorem dX11_has_15 : decode cX11_has 15 = .ok (.iload_n 1, 1) := by decide +kernel
theorem dX11_has_16 : decode cX11_has 16 = .ok (.imul, 1) := by decide +kernel
theorem dX11_has_17 : decode cX11_has 17 = .ok (.iload 4, 2) := by decide +kernel
theorem dX11_has_19 : decode cX11_has 19 = .ok (.iadd, 1) := by decide +kernel
theorem dX11_has_20 : decode cX11_has 20 = .ok (.iaload, 1) := by decide +kernel
theorem dX11_has_21 : decode cX11_has 21 = .ok (.iload_n 2, 1) := by decide +kernel
theorem dX11_has_22 : decode cX11_has 22 = .ok (.if_icmp .ne 5, 3) := by decide +kernel
theorem dX11_has_25 : decode cX11_has 25 = .ok (.iconst 1, 1) := by decide +kernel
theorem dX11_has_26 : decode cX11_has 26 = .ok (.ireturn, 1) := by decide +kernel
theorem dX11_has_27 : decode cX11_has 27 = .ok (.iinc 4 1, 3) := by decide +kernel
theorem dX11_has_30 : decode cX11_has 30 = .ok (.goto (-27), 3) := by decide +kernel
theorem dX11_has_33 : decode cX11_has 33 = .ok (.iconst 0, 1) := by decide +kernel
theorem dX11_has_34 : decode cX11_has 34 = .ok (.ireturn, 1) := by decide +kernel
theorem dX11_alone_0 : decode cX11_alone 0 = .ok (.iconst 0, 1) := by decide +kernel
theorem dX11_alone_1 : decode cX11_alone 1 = .ok (.istore_n 3, 1) := by decide +kernel
theorem dX11_alone_2 : decode cX11_alone 2 = .ok (.iconst 0, 1) := by decide +kernel
theorem dX11_alone_3 : decode cX11_alone 3 = .ok (.istore 4, 2) := by decide +kernel
theorem dX11_alone_5 : decode cX11_alone 5 = .ok (.iload 4, 2) := by decide +kernel
theorem dX11_alone_7 : decode cX11_alone 7 = .ok (.aload_n 0, 1) := by decide +kernel
theorem dX11_alone_8 : decode cX11_alone 8 = .ok (.getfield 7, 3) := by decide +kernel
theorem dX11_alone_11 : decode cX11_alone 11 = .ok (.iload_n 1, 1) := by decide +kernel
theorem dX11_alone_12 : decode cX11_alone 12 = .ok (.iaload, 1) := by decide +kernel
theorem dX11_alone_13 : decode cX11_alone 13 = .ok (.if_icmp .ge 59, 3) := by decide +kernel
theorem dX11_alone_16 : decode cX11_alone 16 = .ok (.aload_n 0, 1) := by decide +kernel
theorem dX11_alone_17 : decode cX11_alone 17 = .ok (.getfield 13, 3) := by decide +kernel
theorem dX11_alone_20 : decode cX11_alone 20 = .ok (.bipush 8, 2) := by decide +kernel
theorem dX11_alone_22 : decode cX11_alone 22 = .ok (.iload_n 1, 1) := by decide +kernel
theorem dX11_alone_23 : decode cX11_alone 23 = .ok (.imul, 1) := by decide +kernel
theorem dX11_alone_24 : decode cX11_alone 24 = .ok (.iload 4, 2) := by decide +kernel
theorem dX11_alone_26 : decode cX11_alone 26 = .ok (.iadd, 1) := by decide +kernel
theorem dX11_alone_27 : decode cX11_alone 27 = .ok (.iaload, 1) := by decide +kernel
theorem dX11_alone_28 : decode cX11_alone 28 = .ok (.istore 5, 2) := by decide +kernel
theorem dX11_alone_30 : decode cX11_alone 30 = .ok (.iload_n 3, 1) := by decide +kernel
theorem dX11_alone_31 : decode cX11_alone 31 = .ok (.aload_n 0, 1) := by decide +kernel
theorem dX11_alone_32 : decode cX11_alone 32 = .ok (.iload_n 1, 1) := by decide +kernel
theorem dX11_alone_33 : decode cX11_alone 33 = .ok (.iload 5, 2) := by decide +kernel
theorem dX11_alone_35 : decode cX11_alone 35 = .ok (.iload 4, 2) := by decide +kernel
theorem dX11_alone_37 : decode cX11_alone 37 = .ok (.invokevirtual 70, 3) := by decide +kernel
theorem dX11_alone_40 : decode cX11_alone 40 = .ok (.ifCond .ne 23, 3) := by decide +kernel
theorem dX11_alone_43 : decode cX11_alone 43 = .ok (.aload_n 0, 1) := by decide +kernel
theorem dX11_alone_44 : decode cX11_alone 44 = .ok (.iload_n 2, 1) := by decide +kernel
theorem dX11_alone_45 : decode cX11_alone 45 = .ok (.iload 5, 2) := by decide +kernel
theorem dX11_alone_47 : decode cX11_alone 47 = .ok (.aload_n 0, 1) := by decide +kernel
theorem dX11_alone_48 : decode cX11_alone 48 = .ok (.getfield 7, 3) := by decide +kernel
theorem dX11_alone_51 : decode cX11_alone 51 = .ok (.iload_n 2, 1) := by decide +kernel
theorem dX11_alone_52 : decode cX11_alone 52 = .ok (.iaload, 1) := by decide +kernel
theorem dX11_alone_53 : decode cX11_alone 53 = .ok (.invokevirtual 70, 3) := by decide +kernel
theorem dX11_alone_56 : decode cX11_alone 56 = .ok (.ifCond .ne 7, 3) := by decide +kernel
theorem dX11_alone_59 : decode cX11_alone 59 = .ok (.iconst 1, 1) := by decide +kernel
theorem dX11_alone_60 : decode cX11_alone 60 = .ok (.goto 4, 3) := by decide +kernel
theorem dX11_alone_63 : decode cX11_alone 63 = .ok (.iconst 0, 1) := by decide +kernel
theorem dX11_alone_64 : decode cX11_alone 64 = .ok (.iadd, 1) := by decide +kernel
theorem dX11_alone_65 : decode cX11_alone 65 = .ok (.istore_n 3, 1) := by decide +kernel
theorem dX11_alone_66 : decode cX11_alone 66 = .ok (.iinc 4 1, 3) := by decide +kernel
theorem dX11_alone_69 : decode cX11_alone 69 = .ok (.goto (-64), 3) := by decide +kernel
theorem dX11_alone_72 : decode cX11_alone 72 = .ok (.iload_n 3, 1) := by decide +kernel
theorem dX11_alone_73 : decode cX11_alone 73 = .ok (.ireturn, 1) := by decide +kernel
theorem dX11_far_0 : decode cX11_far 0 = .ok (.iconst 0, 1) := by decide +kernel
theorem dX11_far_1 : decode cX11_far 1 = .ok (.istore_n 3, 1) := by decide +kernel
theorem dX11_far_2 : decode cX11_far 2 = .ok (.iconst 0, 1) := by decide +kernel
theorem dX11_far_3 : decode cX11_far 3 = .ok (.istore 4, 2) := by decide +kernel
theorem dX11_far_5 : decode cX11_far 5 = .ok (.iconst 0, 1) := by decide +kernel
theorem dX11_far_6 : decode cX11_far 6 = .ok (.istore 5, 2) := by decide +kernel
theorem dX11_far_8 : decode cX11_far 8 = .ok (.iload 5, 2) := by decide +kernel
theorem dX11_far_10 : decode cX11_far 10 = .ok (.bipush 8, 2) := by decide +kernel
theorem dX11_far_12 : decode cX11_far 12 = .ok (.if_icmp .ge 60, 3) := by decide +kernel
theorem dX11_far_15 : decode cX11_far 15 = .ok (.aload_n 0, 1) := by decide +kernel
theorem dX11_far_16 : decode cX11_far 16 = .ok (.getfield 13, 3) := by decide +kernel
theorem dX11_far_19 : decode cX11_far 19 = .ok (.bipush 8, 2) := by decide +kernel
theorem dX11_far_21 : decode cX11_far 21 = .ok (.iload_n 1, 1) := by decide +kernel
theorem dX11_far_22 : decode cX11_far 22 = .ok (.imul, 1) := by decide +kernel
theorem dX11_far_23 : decode cX11_far 23 = .ok (.iload 5, 2) := by decide +kernel
theorem dX11_far_25 : decode cX11_far 25 = .ok (.iadd, 1) := by decide +kernel
theorem dX11_far_26 : decode cX11_far 26 = .ok (.iaload, 1) := by decide +kernel
theorem dX11_far_27 : decode cX11_far 27 = .ok (.aload_n 0, 1) := by decide +kernel
theorem dX11_far_28 : decode cX11_far 28 = .ok (.getfield 13, 3) := by decide +kernel
theorem dX11_far_31 : decode cX11_far 31 = .ok (.bipush 8, 2) := by decide +kernel
theorem dX11_far_33 : decode cX11_far 33 = .ok (.iload_n 2, 1) := by decide +kernel
theorem dX11_far_34 : decode cX11_far 34 = .ok (.imul, 1) := by decide +kernel
theorem dX11_far_35 : decode cX11_far 35 = .ok (.iload 5, 2) := by decide +kernel
theorem dX11_far_37 : decode cX11_far 37 = .ok (.iadd, 1) := by decide +kernel
theorem dX11_far_38 : decode cX11_far 38 = .ok (.iaload, 1) := by decide +kernel
theorem dX11_far_39 : decode cX11_far 39 = .ok (.isub, 1) := by decide +kernel
theorem dX11_far_40 : decode cX11_far 40 = .ok (.invokestatic 73, 3) := by decide +kernel
theorem dX11_far_43 : decode cX11_far 43 = .ok (.istore 6, 2) := by decide +kernel
theorem dX11_far_45 : decode cX11_far 45 = .ok (.iload_n 3, 1) := by decide +kernel
theorem dX11_far_46 : decode cX11_far 46 = .ok (.iload 6, 2) := by decide +kernel
theorem dX11_far_48 : decode cX11_far 48 = .ok (.iadd, 1) := by decide +kernel
theorem dX11_far_49 : decode cX11_far 49 = .ok (.istore_n 3, 1) := by decide +kernel
theorem dX11_far_50 : decode cX11_far 50 = .ok (.iload 6, 2) := by decide +kernel
theorem dX11_far_52 : decode cX11_far 52 = .ok (.iload 4, 2) := by decide +kernel
theorem dX11_far_54 : decode cX11_far 54 = .ok (.if_icmp .le 8, 3) := by decide +kernel
theorem dX11_far_57 : decode cX11_far 57 = .ok (.iload 6, 2) := by decide +kernel
theorem dX11_far_59 : decode cX11_far 59 = .ok (.goto 5, 3) := by decide +kernel
theorem dX11_far_62 : decode cX11_far 62 = .ok (.iload 4, 2) := by decide +kernel
theorem dX11_far_64 : decode cX11_far 64 = .ok (.istore 4, 2) := by decide +kernel
theorem dX11_far_66 : decode cX11_far 66 = .ok (.iinc 5 1, 3) := by decide +kernel
theorem dX11_far_69 : decode cX11_far 69 = .ok (.goto (-61), 3) := by decide +kernel
theorem dX11_far_72 : decode cX11_far 72 = .ok (.aload_n 0, 1) := by decide +kernel
theorem dX11_far_73 : decode cX11_far 73 = .ok (.getfield 63, 3) := by decide +kernel
theorem dX11_far_76 : decode cX11_far 76 = .ok (.tableswitch 69 0 4 #[36, 43, 50, 52, 55], 36) := by decide +kernel
theorem dX11_far_112 : decode cX11_far 112 = .ok (.aload_n 0, 1) := by decide +kernel
theorem dX11_far_113 : decode cX11_far 113 = .ok (.iload_n 1, 1) := by decide +kernel
theorem dX11_far_114 : decode cX11_far 114 = .ok (.iload_n 2, 1) := by decide +kernel
theorem dX11_far_115 : decode cX11_far 115 = .ok (.invokevirtual 77, 3) := by decide +kernel
theorem dX11_far_118 : decode cX11_far 118 = .ok (.ireturn, 1) := by decide +kernel
theorem dX11_far_119 : decode cX11_far 119 = .ok (.aload_n 0, 1) := by decide +kernel
theorem dX11_far_120 : decode cX11_far 120 = .ok (.iload_n 1, 1) := by decide +kernel
theorem dX11_far_121 : decode cX11_far 121 = .ok (.iload_n 2, 1) := by decide +kernel
theorem dX11_far_122 : decode cX11_far 122 = .ok (.invokevirtual 80, 3) := by decide +kernel
theorem dX11_far_125 : decode cX11_far 125 = .ok (.ireturn, 1) := by decide +kernel
theorem dX11_far_126 : decode cX11_far 126 = .ok (.iload_n 3, 1) := by decide +kernel
theorem dX11_far_127 : decode cX11_far 127 = .ok (.ireturn, 1) := by decide +kernel
theorem dX11_far_128 : decode cX11_far 128 = .ok (.iload 4, 2) := by decide +kernel
theorem dX11_far_130 : decode cX11_far 130 = .ok (.ireturn, 1) := by decide +kernel
theorem dX11_far_131 : decode cX11_far 131 = .ok (.aload_n 0, 1) := by decide +kernel
theorem dX11_far_132 : decode cX11_far 132 = .ok (.iload_n 1, 1) := by decide +kernel
theorem dX11_far_133 : decode cX11_far 133 = .ok (.iload_n 2, 1) := by decide +kernel
theorem dX11_far_134 : decode cX11_far 134 = .ok (.invokevirtual 83, 3) := by decide +kernel
theorem dX11_far_137 : decode cX11_far 137 = .ok (.aload_n 0, 1) := by decide +kernel
theorem dX11_far_138 : decode cX11_far 138 = .ok (.iload_n 2, 1) := by decide +kernel
theorem dX11_far_139 : decode cX11_far 139 = .ok (.iload_n 1, 1) := by decide +kernel
theorem dX11_far_140 : decode cX11_far 140 = .ok (.invokevirtual 83, 3) := by decide +kernel
theorem dX11_far_143 : decode cX11_far 143 = .ok (.iadd, 1) := by decide +kernel
theorem dX11_far_144 : decode cX11_far 144 = .ok (.ireturn, 1) := by decide +kernel
theorem dX11_far_145 : decode cX11_far 145 = .ok (.aload_n 0, 1) := by decide +kernel
theorem dX11_far_146 : decode cX11_far 146 = .ok (.getfield 16, 3) := by decide +kernel
theorem dX11_far_149 : decode cX11_far 149 = .ok (.bipush 60, 2) := by decide +kernel
theorem dX11_far_151 : decode cX11_far 151 = .ok (.iload_n 1, 1) := by decide +kernel
theorem dX11_far_152 : decode cX11_far 152 = .ok (.imul, 1) := by decide +kernel
theorem dX11_far_153 : decode cX11_far 153 = .ok (.iload_n 2, 1) := by decide +kernel
theorem dX11_far_154 : decode cX11_far 154 = .ok (.iadd, 1) := by decide +kernel
theorem dX11_far_155 : decode cX11_far 155 = .ok (.iaload, 1) := by decide +kernel
theorem dX11_far_156 : decode cX11_far 156 = .ok (.ireturn, 1) := by decide +kernel
theorem dX11_distance_0 : decode cX11_distance 0 = .ok (.aload_n 0, 1) := by decide +kernel
theorem dX11_distance_1 : decode cX11_distance 1 = .ok (.iload_n 1, 1) := by decide +kernel
theorem dX11_distance_2 : decode cX11_distance 2 = .ok (.invokevirtual 58, 3) := by decide +kernel
theorem dX11_distance_5 : decode cX11_distance 5 = .ok (.ifCond .eq 20, 3) := by decide +kernel
theorem dX11_distance_8 : decode cX11_distance 8 = .ok (.aload_n 0, 1) := by decide +kernel
theorem dX11_distance_9 : decode cX11_distance 9 = .ok (.iload_n 2, 1) := by decide +kernel
theorem dX11_distance_10 : decode cX11_distance 10 = .ok (.invokevirtual 58, 3) := by decide +kernel
theorem dX11_distance_13 : decode cX11_distance 13 = .ok (.ifCond .eq 12, 3) := by decide +kernel
theorem dX11_distance_16 : decode cX11_distance 16 = .ok (.aload_n 0, 1) := by decide +kernel
theorem dX11_distance_17 : decode cX11_distance 17 = .ok (.iload_n 1, 1) := by decide +kernel
theorem dX11_distance_18 : decode cX11_distance 18 = .ok (.iload_n 2, 1) := by decide +kernel
theorem dX11_distance_19 : decode cX11_distance 19 = .ok (.invokevirtual 86, 3) := by decide +kernel
theorem dX11_distance_22 : decode cX11_distance 22 = .ok (.goto 4, 3) := by decide +kernel
theorem dX11_distance_25 : decode cX11_distance 25 = .ok (.iconst (-1), 1) := by decide +kernel
theorem dX11_distance_26 : decode cX11_distance 26 = .ok (.ireturn, 1) := by decide +kernel
theorem dX11_holds_0 : decode cX11_holds 0 = .ok (.aload_n 0, 1) := by decide +kernel
theorem dX11_holds_1 : decode cX11_holds 1 = .ok (.getfield 63, 3) := by decide +kernel
theorem dX11_holds_4 : decode cX11_holds 4 = .ok (.iconst 5, 1) := by decide +kernel
theorem dX11_holds_5 : decode cX11_holds 5 = .ok (.if_icmp .ge 5, 3) := by decide +kernel
theorem dX11_holds_8 : decode cX11_holds 8 = .ok (.iconst 1, 1) := by decide +kernel
theorem dX11_holds_9 : decode cX11_holds 9 = .ok (.ireturn, 1) := by decide +kernel
theorem dX11_holds_10 : decode cX11_holds 10 = .ok (.iconst 0, 1) := by decide +kernel
theorem dX11_holds_11 : decode cX11_holds 11 = .ok (.istore_n 1, 1) := by decide +kernel
theorem dX11_holds_12 : decode cX11_holds 12 = .ok (.iload_n 1, 1) := by decide +kernel
theorem dX11_holds_13 : decode cX11_holds 13 = .ok (.aload_n 0, 1) := by decide +kernel
theorem dX11_holds_14 : decode cX11_holds 14 = .ok (.getfield 50, 3) := by decide +kernel
theorem dX11_holds_17 : decode cX11_holds 17 = .ok (.if_icmp .ge 104, 3) := by decide +kernel
theorem dX11_holds_20 : decode cX11_holds 20 = .ok (.iconst 0, 1) := by decide +kernel
theorem dX11_holds_21 : decode cX11_holds 21 = .ok (.istore_n 2, 1) := by decide +kernel
theorem dX11_holds_22 : decode cX11_holds 22 = .ok (.iload_n 2, 1) := by decide +kernel
theorem dX11_holds_23 : decode cX11_holds 23 = .ok (.aload_n 0, 1) := by decide +kernel
theorem dX11_holds_24 : decode cX11_holds 24 = .ok (.getfield 50, 3) := by decide +kernel
theorem dX11_holds_27 : decode cX11_holds 27 = .ok (.if_icmp .ge 88, 3) := by decide +kernel
theorem dX11_holds_30 : decode cX11_holds 30 = .ok (.iconst 0, 1) := by decide +kernel
theorem dX11_holds_31 : decode cX11_holds 31 = .ok (.istore_n 3, 1) := by decide +kernel
theorem dX11_holds_32 : decode cX11_holds 32 = .ok (.iload_n 3, 1) := by decide +kernel
theorem dX11_holds_33 : decode cX11_holds 33 = .ok (.aload_n 0, 1) := by decide +kernel
theorem dX11_holds_34 : decode cX11_holds 34 = .ok (.getfield 50, 3) := by decide +kernel
theorem dX11_holds_37 : decode cX11_holds 37 = .ok (.if_icmp .ge 72, 3) := by decide +kernel
theorem dX11_holds_40 : decode cX11_holds 40 = .ok (.aload_n 0, 1) := by decide +kernel
theorem dX11_holds_41 : decode cX11_holds 41 = .ok (.getfield 16, 3) := by decide +kernel
theorem dX11_holds_44 : decode cX11_holds 44 = .ok (.bipush 60, 2) := by decide +kernel
theorem dX11_holds_46 : decode cX11_holds 46 = .ok (.iload_n 1, 1) := by decide +kernel
theorem dX11_holds_47 : decode cX11_holds 47 = .ok (.imul, 1) := by decide +kernel
theorem dX11_holds_48 : decode cX11_holds 48 = .ok (.iload_n 3, 1) := by decide +kernel
theorem dX11_holds_49 : decode cX11_holds 49 = .ok (.iadd, 1) := by decide +kernel
theorem dX11_holds_50 : decode cX11_holds 50 = .ok (.iaload, 1) := by decide +kernel
theorem dX11_holds_51 : decode cX11_holds 51 = .ok (.aload_n 0, 1) := by decide +kernel
theorem dX11_holds_52 : decode cX11_holds 52 = .ok (.getfield 16, 3) := by decide +kernel
theorem dX11_holds_55 : decode cX11_holds 55 = .ok (.bipush 60, 2) := by decide +kernel
theorem dX11_holds_57 : decode cX11_holds 57 = .ok (.iload_n 1, 1) := by decide +kernel
theorem dX11_holds_58 : decode cX11_holds 58 = .ok (.imul, 1) := by decide +kernel
theorem dX11_holds_59 : decode cX11_holds 59 = .ok (.iload_n 2, 1) := by decide +kernel
theorem dX11_holds_60 : decode cX11_holds 60 = .ok (.iadd, 1) := by decide +kernel
theorem dX11_holds_61 : decode cX11_holds 61 = .ok (.iaload, 1) := by decide +kernel
theorem dX11_holds_62 : decode cX11_holds 62 = .ok (.aload_n 0, 1) := by decide +kernel
theorem dX11_holds_63 : decode cX11_holds 63 = .ok (.getfield 16, 3) := by decide +kernel
theorem dX11_holds_66 : decode cX11_holds 66 = .ok (.bipush 60, 2) := by decide +kernel
theorem dX11_holds_68 : decode cX11_holds 68 = .ok (.iload_n 2, 1) := by decide +kernel
theorem dX11_holds_69 : decode cX11_holds 69 = .ok (.imul, 1) := by decide +kernel
theorem dX11_holds_70 : decode cX11_holds 70 = .ok (.iload_n 3, 1) := by decide +kernel
theorem dX11_holds_71 : decode cX11_holds 71 = .ok (.iadd, 1) := by decide +kernel
theorem dX11_holds_72 : decode cX11_holds 72 = .ok (.iaload, 1) := by decide +kernel
theorem dX11_holds_73 : decode cX11_holds 73 = .ok (.iadd, 1) := by decide +kernel
theorem dX11_holds_74 : decode cX11_holds 74 = .ok (.if_icmp .gt 6, 3) := by decide +kernel
theorem dX11_holds_77 : decode cX11_holds 77 = .ok (.goto 26, 3) := by decide +kernel
theorem dX11_holds_80 : decode cX11_holds 80 = .ok (.aload_n 0, 1) := by decide +kernel
theorem dX11_holds_81 : decode cX11_holds 81 = .ok (.getfield 32, 3) := by decide +kernel
theorem dX11_holds_84 : decode cX11_holds 84 = .ok (.iconst 0, 1) := by decide +kernel
theorem dX11_holds_85 : decode cX11_holds 85 = .ok (.iload_n 1, 1) := by decide +kernel
theorem dX11_holds_86 : decode cX11_holds 86 = .ok (.iastore, 1) := by decide +kernel
theorem dX11_holds_87 : decode cX11_holds 87 = .ok (.aload_n 0, 1) := by decide +kernel
theorem dX11_holds_88 : decode cX11_holds 88 = .ok (.getfield 32, 3) := by decide +kernel
theorem dX11_holds_91 : decode cX11_holds 91 = .ok (.iconst 1, 1) := by decide +kernel
theorem dX11_holds_92 : decode cX11_holds 92 = .ok (.iload_n 2, 1) := by decide +kernel
theorem dX11_holds_93 : decode cX11_holds 93 = .ok (.iastore, 1) := by decide +kernel
theorem dX11_holds_94 : decode cX11_holds 94 = .ok (.aload_n 0, 1) := by decide +kernel
theorem dX11_holds_95 : decode cX11_holds 95 = .ok (.getfield 32, 3) := by decide +kernel
theorem dX11_holds_98 : decode cX11_holds 98 = .ok (.iconst 2, 1) := by decide +kernel
theorem dX11_holds_99 : decode cX11_holds 99 = .ok (.iload_n 3, 1) := by decide +kernel
theorem dX11_holds_100 : decode cX11_holds 100 = .ok (.iastore, 1) := by decide +kernel
theorem dX11_holds_101 : decode cX11_holds 101 = .ok (.iconst 0, 1) := by decide +kernel
theorem dX11_holds_102 : decode cX11_holds 102 = .ok (.ireturn, 1) := by decide +kernel
theorem dX11_holds_103 : decode cX11_holds 103 = .ok (.iinc 3 1, 3) := by decide +kernel
theorem dX11_holds_106 : decode cX11_holds 106 = .ok (.goto (-74), 3) := by decide +kernel
theorem dX11_holds_109 : decode cX11_holds 109 = .ok (.iinc 2 1, 3) := by decide +kernel
theorem dX11_holds_112 : decode cX11_holds 112 = .ok (.goto (-90), 3) := by decide +kernel
theorem dX11_holds_115 : decode cX11_holds 115 = .ok (.iinc 1 1, 3) := by decide +kernel
theorem dX11_holds_118 : decode cX11_holds 118 = .ok (.goto (-106), 3) := by decide +kernel
theorem dX11_holds_121 : decode cX11_holds 121 = .ok (.iconst 1, 1) := by decide +kernel
theorem dX11_holds_122 : decode cX11_holds 122 = .ok (.ireturn, 1) := by decide +kernel
theorem dX11_law_0 : decode cX11_law 0 = .ok (.aload_n 0, 1) := by decide +kernel
theorem dX11_law_1 : decode cX11_law 1 = .ok (.invokevirtual 89, 3) := by decide +kernel
theorem dX11_law_4 : decode cX11_law 4 = .ok (.ifCond .eq 7, 3) := by decide +kernel
theorem dX11_law_7 : decode cX11_law 7 = .ok (.iconst 1, 1) := by decide +kernel
theorem dX11_law_8 : decode cX11_law 8 = .ok (.goto 4, 3) := by decide +kernel
theorem dX11_law_11 : decode cX11_law 11 = .ok (.iconst 0, 1) := by decide +kernel
theorem dX11_law_12 : decode cX11_law 12 = .ok (.ireturn, 1) := by decide +kernel
theorem dX11_three_0 : decode cX11_three 0 = .ok (.aload_n 0, 1) := by decide +kernel
theorem dX11_three_1 : decode cX11_three 1 = .ok (.invokevirtual 89, 3) := by decide +kernel
theorem dX11_three_4 : decode cX11_three 4 = .ok (.ifCond .ne 12, 3) := by decide +kernel
theorem dX11_three_7 : decode cX11_three 7 = .ok (.iload_n 1, 1) := by decide +kernel
theorem dX11_three_8 : decode cX11_three 8 = .ok (.iconst 0, 1) := by decide +kernel
theorem dX11_three_9 : decode cX11_three 9 = .ok (.iconst 2, 1) := by decide +kernel
theorem dX11_three_10 : decode cX11_three 10 = .ok (.invokestatic 54, 3) := by decide +kernel
theorem dX11_three_13 : decode cX11_three 13 = .ok (.ifCond .ne 7, 3) := by decide +kernel
theorem dX11_three_16 : decode cX11_three 16 = .ok (.iconst (-1), 1) := by decide +kernel
theorem dX11_three_17 : decode cX11_three 17 = .ok (.goto 9, 3) := by decide +kernel
theorem dX11_three_20 : decode cX11_three 20 = .ok (.aload_n 0, 1) := by decide +kernel
theorem dX11_three_21 : decode cX11_three 21 = .ok (.getfield 32, 3) := by decide +kernel
theorem dX11_three_24 : decode cX11_three 24 = .ok (.iload_n 1, 1) := by decide +kernel
theorem dX11_three_25 : decode cX11_three 25 = .ok (.iaload, 1) := by decide +kernel
theorem dX11_three_26 : decode cX11_three 26 = .ok (.ireturn, 1) := by decide +kernel
theorem dX11_put_0 : decode cX11_put 0 = .ok (.aload_n 0, 1) := by decide +kernel
theorem dX11_put_1 : decode cX11_put 1 = .ok (.iload_n 1, 1) := by decide +kernel
theorem dX11_put_2 : decode cX11_put 2 = .ok (.invokevirtual 58, 3) := by decide +kernel
theorem dX11_put_5 : decode cX11_put 5 = .ok (.ifCond .eq 12, 3) := by decide +kernel
theorem dX11_put_8 : decode cX11_put 8 = .ok (.aload_n 0, 1) := by decide +kernel
theorem dX11_put_9 : decode cX11_put 9 = .ok (.getfield 19, 3) := by decide +kernel
theorem dX11_put_12 : decode cX11_put 12 = .ok (.iload_n 1, 1) := by decide +kernel
theorem dX11_put_13 : decode cX11_put 13 = .ok (.baload, 1) := by decide +kernel
theorem dX11_put_14 : decode cX11_put 14 = .ok (.ifCond .eq 5, 3) := by decide +kernel
theorem dX11_put_17 : decode cX11_put 17 = .ok (.iconst 0, 1) := by decide +kernel
theorem dX11_put_18 : decode cX11_put 18 = .ok (.ireturn, 1) := by decide +kernel
theorem dX11_put_19 : decode cX11_put 19 = .ok (.aload_n 0, 1) := by decide +kernel
theorem dX11_put_20 : decode cX11_put 20 = .ok (.getfield 19, 3) := by decide +kernel
theorem dX11_put_23 : decode cX11_put 23 = .ok (.iload_n 1, 1) := by decide +kernel
theorem dX11_put_24 : decode cX11_put 24 = .ok (.iconst 1, 1) := by decide +kernel
theorem dX11_put_25 : decode cX11_put 25 = .ok (.bastore, 1) := by decide +kernel
theorem dX11_put_26 : decode cX11_put 26 = .ok (.iconst 1, 1) := by decide +kernel
theorem dX11_put_27 : decode cX11_put 27 = .ok (.ireturn, 1) := by decide +kernel
theorem dX11_drop_0 : decode cX11_drop 0 = .ok (.aload_n 0, 1) := by decide +kernel
theorem dX11_drop_1 : decode cX11_drop 1 = .ok (.iload_n 1, 1) := by decide +kernel
theorem dX11_drop_2 : decode cX11_drop 2 = .ok (.invokevirtual 58, 3) := by decide +kernel
theorem dX11_drop_5 : decode cX11_drop 5 = .ok (.ifCond .eq 12, 3) := by decide +kernel
theorem dX11_drop_8 : decode cX11_drop 8 = .ok (.aload_n 0, 1) := by decide +kernel
theorem dX11_drop_9 : decode cX11_drop 9 = .ok (.getfield 19, 3) := by decide +kernel
theorem dX11_drop_12 : decode cX11_drop 12 = .ok (.iload_n 1, 1) := by decide +kernel
theorem dX11_drop_13 : decode cX11_drop 13 = .ok (.baload, 1) := by decide +kernel
theorem dX11_drop_14 : decode cX11_drop 14 = .ok (.ifCond .ne 5, 3) := by decide +kernel
theorem dX11_drop_17 : decode cX11_drop 17 = .ok (.iconst 0, 1) := by decide +kernel
theorem dX11_drop_18 : decode cX11_drop 18 = .ok (.ireturn, 1) := by decide +kernel
theorem dX11_drop_19 : decode cX11_drop 19 = .ok (.aload_n 0, 1) := by decide +kernel
theorem dX11_drop_20 : decode cX11_drop 20 = .ok (.getfield 19, 3) := by decide +kernel
theorem dX11_drop_23 : decode cX11_drop 23 = .ok (.iload_n 1, 1) := by decide +kernel
theorem dX11_drop_24 : decode cX11_drop 24 = .ok (.iconst 0, 1) := by decide +kernel
theorem dX11_drop_25 : decode cX11_drop 25 = .ok (.bastore, 1) := by decide +kernel
theorem dX11_drop_26 : decode cX11_drop 26 = .ok (.iconst 1, 1) := by decide +kernel
theorem dX11_drop_27 : decode cX11_drop 27 = .ok (.ireturn, 1) := by decide +kernel
theorem dX11_has__0 : decode cX11_has_ 0 = .ok (.aload_n 0, 1) := by decide +kernel
theorem dX11_has__1 : decode cX11_has_ 1 = .ok (.iload_n 1, 1) := by decide +kernel
theorem dX11_has__2 : decode cX11_has_ 2 = .ok (.invokevirtual 58, 3) := by decide +kernel
theorem dX11_has__5 : decode cX11_has_ 5 = .ok (.ifCond .ne 7, 3) := by decide +kernel
theorem dX11_has__8 : decode cX11_has_ 8 = .ok (.iconst (-1), 1) := by decide +kernel
theorem dX11_has__9 : decode cX11_has_ 9 = .ok (.goto 17, 3) := by decide +kernel
theorem dX11_has__12 : decode cX11_has_ 12 = .ok (.aload_n 0, 1) := by decide +kernel
theorem dX11_has__13 : decode cX11_has_ 13 = .ok (.getfield 19, 3) := by decide +kernel
theorem dX11_has__16 : decode cX11_has_ 16 = .ok (.iload_n 1, 1) := by decide +kernel
theorem dX11_has__17 : decode cX11_has_ 17 = .ok (.baload, 1) := by decide +kernel
theorem dX11_has__18 : decode cX11_has_ 18 = .ok (.ifCond .eq 7, 3) := by decide +kernel
theorem dX11_has__21 : decode cX11_has_ 21 = .ok (.iconst 1, 1) := by decide +kernel
theorem dX11_has__22 : decode cX11_has_ 22 = .ok (.goto 4, 3) := by decide +kernel
theorem dX11_has__25 : decode cX11_has_ 25 = .ok (.iconst 0, 1) := by decide +kernel
theorem dX11_has__26 : decode cX11_has_ 26 = .ok (.ireturn, 1) := by decide +kernel
theorem dX11_inBook_0 : decode cX11_inBook 0 = .ok (.iconst 0, 1) := by decide +kernel
theorem dX11_inBook_1 : decode cX11_inBook 1 = .ok (.istore_n 1, 1) := by decide +kernel
theorem dX11_inBook_2 : decode cX11_inBook 2 = .ok (.iconst 0, 1) := by decide +kernel
theorem dX11_inBook_3 : decode cX11_inBook 3 = .ok (.istore_n 2, 1) := by decide +kernel
theorem dX11_inBook_4 : decode cX11_inBook 4 = .ok (.iload_n 2, 1) := by decide +kernel
theorem dX11_inBook_5 : decode cX11_inBook 5 = .ok (.aload_n 0, 1) := by decide +kernel
theorem dX11_inBook_6 : decode cX11_inBook 6 = .ok (.getfield 50, 3) := by decide +kernel
theorem dX11_inBook_9 : decode cX11_inBook 9 = .ok (.if_icmp .ge 26, 3) := by decide +kernel
theorem dX11_inBook_12 : decode cX11_inBook 12 = .ok (.iload_n 1, 1) := by decide +kernel
theorem dX11_inBook_13 : decode cX11_inBook 13 = .ok (.aload_n 0, 1) := by decide +kernel
theorem dX11_inBook_14 : decode cX11_inBook 14 = .ok (.getfield 19, 3) := by decide +kernel
theorem dX11_inBook_17 : decode cX11_inBook 17 = .ok (.iload_n 2, 1) := by decide +kernel
theorem dX11_inBook_18 : decode cX11_inBook 18 = .ok (.baload, 1) := by decide +kernel
theorem dX11_inBook_19 : decode cX11_inBook 19 = .ok (.ifCond .eq 7, 3) := by decide +kernel
theorem dX11_inBook_22 : decode cX11_inBook 22 = .ok (.iconst 1, 1) := by decide +kernel
theorem dX11_inBook_23 : decode cX11_inBook 23 = .ok (.goto 4, 3) := by decide +kernel
theorem dX11_inBook_26 : decode cX11_inBook 26 = .ok (.iconst 0, 1) := by decide +kernel
theorem dX11_inBook_27 : decode cX11_inBook 27 = .ok (.iadd, 1) := by decide +kernel
theorem dX11_inBook_28 : decode cX11_inBook 28 = .ok (.istore_n 1, 1) := by decide +kernel
theorem dX11_inBook_29 : decode cX11_inBook 29 = .ok (.iinc 2 1, 3) := by decide +kernel
theorem dX11_inBook_32 : decode cX11_inBook 32 = .ok (.goto (-28), 3) := by decide +kernel
theorem dX11_inBook_35 : decode cX11_inBook 35 = .ok (.iload_n 1, 1) := by decide +kernel
theorem dX11_inBook_36 : decode cX11_inBook 36 = .ok (.ireturn, 1) := by decide +kernel
theorem dX11_takesNone_0 : decode cX11_takesNone 0 = .ok (.iconst 0, 1) := by decide +kernel
theorem dX11_takesNone_1 : decode cX11_takesNone 1 = .ok (.istore_n 1, 1) := by decide +kernel
theorem dX11_takesNone_2 : decode cX11_takesNone 2 = .ok (.iload_n 1, 1) := by decide +kernel
theorem dX11_takesNone_3 : decode cX11_takesNone 3 = .ok (.bipush 60, 2) := by decide +kernel
theorem dX11_takesNone_5 : decode cX11_takesNone 5 = .ok (.if_icmp .ge 16, 3) := by decide +kernel
theorem dX11_takesNone_8 : decode cX11_takesNone 8 = .ok (.aload_n 0, 1) := by decide +kernel
theorem dX11_takesNone_9 : decode cX11_takesNone 9 = .ok (.getfield 35, 3) := by decide +kernel
theorem dX11_takesNone_12 : decode cX11_takesNone 12 = .ok (.iload_n 1, 1) := by decide +kernel
theorem dX11_takesNone_13 : decode cX11_takesNone 13 = .ok (.iconst 0, 1) := by decide +kernel
theorem dX11_takesNone_14 : decode cX11_takesNone 14 = .ok (.bastore, 1) := by decide +kernel
theorem dX11_takesNone_15 : decode cX11_takesNone 15 = .ok (.iinc 1 1, 3) := by decide +kernel
theorem dX11_takesNone_18 : decode cX11_takesNone 18 = .ok (.goto (-16), 3) := by decide +kernel
theorem dX11_takesNone_21 : decode cX11_takesNone 21 = .ok (.return_, 1) := by decide +kernel
theorem dX11_gives_0 : decode cX11_gives 0 = .ok (.aload_n 0, 1) := by decide +kernel
theorem dX11_gives_1 : decode cX11_gives 1 = .ok (.getfield 23, 3) := by decide +kernel
theorem dX11_gives_4 : decode cX11_gives 4 = .ok (.aload_n 0, 1) := by decide +kernel
theorem dX11_gives_5 : decode cX11_gives 5 = .ok (.getfield 93, 3) := by decide +kernel
theorem dX11_gives_8 : decode cX11_gives 8 = .ok (.iload_n 1, 1) := by decide +kernel
theorem dX11_gives_9 : decode cX11_gives 9 = .ok (.iastore, 1) := by decide +kernel
theorem dX11_gives_10 : decode cX11_gives 10 = .ok (.aload_n 0, 1) := by decide +kernel
theorem dX11_gives_11 : decode cX11_gives 11 = .ok (.getfield 26, 3) := by decide +kernel
theorem dX11_gives_14 : decode cX11_gives 14 = .ok (.aload_n 0, 1) := by decide +kernel
theorem dX11_gives_15 : decode cX11_gives 15 = .ok (.getfield 93, 3) := by decide +kernel
theorem dX11_gives_18 : decode cX11_gives 18 = .ok (.iload_n 2, 1) := by decide +kernel
theorem dX11_gives_19 : decode cX11_gives 19 = .ok (.iastore, 1) := by decide +kernel
theorem dX11_gives_20 : decode cX11_gives 20 = .ok (.aload_n 0, 1) := by decide +kernel
theorem dX11_gives_21 : decode cX11_gives 21 = .ok (.dup, 1) := by decide +kernel
theorem dX11_gives_22 : decode cX11_gives 22 = .ok (.getfield 93, 3) := by decide +kernel
theorem dX11_gives_25 : decode cX11_gives 25 = .ok (.iconst 1, 1) := by decide +kernel
theorem dX11_gives_26 : decode cX11_gives 26 = .ok (.iadd, 1) := by decide +kernel
theorem dX11_gives_27 : decode cX11_gives 27 = .ok (.putfield 93, 3) := by decide +kernel
theorem dX11_gives_30 : decode cX11_gives 30 = .ok (.aload_n 0, 1) := by decide +kernel
theorem dX11_gives_31 : decode cX11_gives 31 = .ok (.getfield 35, 3) := by decide +kernel
theorem dX11_gives_34 : decode cX11_gives 34 = .ok (.iload_n 1, 1) := by decide +kernel
theorem dX11_gives_35 : decode cX11_gives 35 = .ok (.iconst 1, 1) := by decide +kernel
theorem dX11_gives_36 : decode cX11_gives 36 = .ok (.bastore, 1) := by decide +kernel
theorem dX11_gives_37 : decode cX11_gives 37 = .ok (.return_, 1) := by decide +kernel
theorem dX11_next_0 : decode cX11_next 0 = .ok (.iconst (-1), 1) := by decide +kernel
theorem dX11_next_1 : decode cX11_next 1 = .ok (.istore_n 3, 1) := by decide +kernel
theorem dX11_next_2 : decode cX11_next 2 = .ok (.iconst 0, 1) := by decide +kernel
theorem dX11_next_3 : decode cX11_next 3 = .ok (.istore 4, 2) := by decide +kernel
theorem dX11_next_5 : decode cX11_next 5 = .ok (.iload 4, 2) := by decide +kernel
theorem dX11_next_7 : decode cX11_next 7 = .ok (.aload_n 0, 1) := by decide +kernel
theorem dX11_next_8 : decode cX11_next 8 = .ok (.getfield 50, 3) := by decide +kernel
theorem dX11_next_11 : decode cX11_next 11 = .ok (.if_icmp .ge 79, 3) := by decide +kernel
theorem dX11_next_14 : decode cX11_next 14 = .ok (.aload_n 0, 1) := by decide +kernel
theorem dX11_next_15 : decode cX11_next 15 = .ok (.getfield 19, 3) := by decide +kernel
theorem dX11_next_18 : decode cX11_next 18 = .ok (.iload 4, 2) := by decide +kernel
theorem dX11_next_20 : decode cX11_next 20 = .ok (.baload, 1) := by decide +kernel
theorem dX11_next_21 : decode cX11_next 21 = .ok (.ifCond .eq 63, 3) := by decide +kernel
theorem dX11_next_24 : decode cX11_next 24 = .ok (.aload_n 0, 1) := by decide +kernel
theorem dX11_next_25 : decode cX11_next 25 = .ok (.getfield 35, 3) := by decide +kernel
theorem dX11_next_28 : decode cX11_next 28 = .ok (.iload 4, 2) := by decide +kernel
theorem dX11_next_30 : decode cX11_next 30 = .ok (.baload, 1) := by decide +kernel
theorem dX11_next_31 : decode cX11_next 31 = .ok (.ifCond .eq 6, 3) := by decide +kernel
theorem dX11_next_34 : decode cX11_next 34 = .ok (.goto 50, 3) := by decide +kernel
theorem dX11_next_37 : decode cX11_next 37 = .ok (.iload_n 3, 1) := by decide +kernel
theorem dX11_next_38 : decode cX11_next 38 = .ok (.iconst (-1), 1) := by decide +kernel
theorem dX11_next_39 : decode cX11_next 39 = .ok (.if_icmp .eq 42, 3) := by decide +kernel
theorem dX11_next_42 : decode cX11_next 42 = .ok (.iload_n 2, 1) := by decide +kernel
theorem dX11_next_43 : decode cX11_next 43 = .ok (.ifCond .eq 22, 3) := by decide +kernel
theorem dX11_next_46 : decode cX11_next 46 = .ok (.aload_n 0, 1) := by decide +kernel
theorem dX11_next_47 : decode cX11_next 47 = .ok (.iload_n 1, 1) := by decide +kernel
theorem dX11_next_48 : decode cX11_next 48 = .ok (.iload 4, 2) := by decide +kernel
theorem dX11_next_50 : decode cX11_next 50 = .ok (.invokevirtual 86, 3) := by decide +kernel
theorem dX11_next_53 : decode cX11_next 53 = .ok (.aload_n 0, 1) := by decide +kernel
theorem dX11_next_54 : decode cX11_next 54 = .ok (.iload_n 1, 1) := by decide +kernel
theorem dX11_next_55 : decode cX11_next 55 = .ok (.iload_n 3, 1) := by decide +kernel
theorem dX11_next_56 : decode cX11_next 56 = .ok (.invokevirtual 86, 3) := by decide +kernel
theorem dX11_next_59 : decode cX11_next 59 = .ok (.if_icmp .ge 25, 3) := by decide +kernel
theorem dX11_next_62 : decode cX11_next 62 = .ok (.goto 19, 3) := by decide +kernel
theorem dX11_next_65 : decode cX11_next 65 = .ok (.aload_n 0, 1) := by decide +kernel
theorem dX11_next_66 : decode cX11_next 66 = .ok (.iload_n 1, 1) := by decide +kernel
theorem dX11_next_67 : decode cX11_next 67 = .ok (.iload 4, 2) := by decide +kernel
theorem dX11_next_69 : decode cX11_next 69 = .ok (.invokevirtual 86, 3) := by decide +kernel
theorem dX11_next_72 : decode cX11_next 72 = .ok (.aload_n 0, 1) := by decide +kernel
theorem dX11_next_73 : decode cX11_next 73 = .ok (.iload_n 1, 1) := by decide +kernel
theorem dX11_next_74 : decode cX11_next 74 = .ok (.iload_n 3, 1) := by decide +kernel
theorem dX11_next_75 : decode cX11_next 75 = .ok (.invokevirtual 86, 3) := by decide +kernel
theorem dX11_next_78 : decode cX11_next 78 = .ok (.if_icmp .le 6, 3) := by decide +kernel
theorem dX11_next_81 : decode cX11_next 81 = .ok (.iload 4, 2) := by decide +kernel
theorem dX11_next_83 : decode cX11_next 83 = .ok (.istore_n 3, 1) := by decide +kernel
theorem dX11_next_84 : decode cX11_next 84 = .ok (.iinc 4 1, 3) := by decide +kernel
theorem dX11_next_87 : decode cX11_next 87 = .ok (.goto (-82), 3) := by decide +kernel
theorem dX11_next_90 : decode cX11_next 90 = .ok (.iload_n 3, 1) := by decide +kernel
theorem dX11_next_91 : decode cX11_next 91 = .ok (.ireturn, 1) := by decide +kernel
theorem dX11_those_0 : decode cX11_those 0 = .ok (.aload_n 0, 1) := by decide +kernel
theorem dX11_those_1 : decode cX11_those 1 = .ok (.invokevirtual 96, 3) := by decide +kernel
theorem dX11_those_4 : decode cX11_those 4 = .ok (.aload_n 0, 1) := by decide +kernel
theorem dX11_those_5 : decode cX11_those 5 = .ok (.iconst 0, 1) := by decide +kernel
theorem dX11_those_6 : decode cX11_those 6 = .ok (.putfield 93, 3) := by decide +kernel
theorem dX11_those_9 : decode cX11_those 9 = .ok (.aload_n 0, 1) := by decide +kernel
theorem dX11_those_10 : decode cX11_those 10 = .ok (.iload_n 1, 1) := by decide +kernel
theorem dX11_those_11 : decode cX11_those 11 = .ok (.iload_n 3, 1) := by decide +kernel
theorem dX11_those_12 : decode cX11_those 12 = .ok (.invokevirtual 99, 3) := by decide +kernel
theorem dX11_those_15 : decode cX11_those 15 = .ok (.istore 5, 2) := by decide +kernel
theorem dX11_those_17 : decode cX11_those 17 = .ok (.iload 5, 2) := by decide +kernel
theorem dX11_those_19 : decode cX11_those 19 = .ok (.iconst (-1), 1) := by decide +kernel
theorem dX11_those_20 : decode cX11_those 20 = .ok (.if_icmp .eq 47, 3) := by decide +kernel
theorem dX11_those_23 : decode cX11_those 23 = .ok (.aload_n 0, 1) := by decide +kernel
theorem dX11_those_24 : decode cX11_those 24 = .ok (.getfield 93, 3) := by decide +kernel
theorem dX11_those_27 : decode cX11_those 27 = .ok (.iload_n 2, 1) := by decide +kernel
theorem dX11_those_28 : decode cX11_those 28 = .ok (.if_icmp .ge 39, 3) := by decide +kernel
theorem dX11_those_31 : decode cX11_those 31 = .ok (.aload_n 0, 1) := by decide +kernel
theorem dX11_those_32 : decode cX11_those 32 = .ok (.iload_n 1, 1) := by decide +kernel
theorem dX11_those_33 : decode cX11_those 33 = .ok (.iload 5, 2) := by decide +kernel
theorem dX11_those_35 : decode cX11_those 35 = .ok (.invokevirtual 86, 3) := by decide +kernel
theorem dX11_those_38 : decode cX11_those 38 = .ok (.iload 4, 2) := by decide +kernel
theorem dX11_those_40 : decode cX11_those 40 = .ok (.if_icmp .gt 27, 3) := by decide +kernel
theorem dX11_those_43 : decode cX11_those 43 = .ok (.aload_n 0, 1) := by decide +kernel
theorem dX11_those_44 : decode cX11_those 44 = .ok (.iload 5, 2) := by decide +kernel
theorem dX11_those_46 : decode cX11_those 46 = .ok (.aload_n 0, 1) := by decide +kernel
theorem dX11_those_47 : decode cX11_those 47 = .ok (.iload_n 1, 1) := by decide +kernel
theorem dX11_those_48 : decode cX11_those 48 = .ok (.iload 5, 2) := by decide +kernel
theorem dX11_those_50 : decode cX11_those 50 = .ok (.invokevirtual 86, 3) := by decide +kernel
theorem dX11_those_53 : decode cX11_those 53 = .ok (.invokevirtual 103, 3) := by decide +kernel
theorem dX11_those_56 : decode cX11_those 56 = .ok (.aload_n 0, 1) := by decide +kernel
theorem dX11_those_57 : decode cX11_those 57 = .ok (.iload_n 1, 1) := by decide +kernel
theorem dX11_those_58 : decode cX11_those 58 = .ok (.iload_n 3, 1) := by decide +kernel
theorem dX11_those_59 : decode cX11_those 59 = .ok (.invokevirtual 99, 3) := by decide +kernel
theorem dX11_those_62 : decode cX11_those 62 = .ok (.istore 5, 2) := by decide +kernel
theorem dX11_those_64 : decode cX11_those 64 = .ok (.goto (-47), 3) := by decide +kernel
theorem dX11_those_67 : decode cX11_those 67 = .ok (.aload_n 0, 1) := by decide +kernel
theorem dX11_those_68 : decode cX11_those 68 = .ok (.getfield 93, 3) := by decide +kernel
theorem dX11_those_71 : decode cX11_those 71 = .ok (.ireturn, 1) := by decide +kernel
theorem dX11_nearest_0 : decode cX11_nearest 0 = .ok (.aload_n 0, 1) := by decide +kernel
theorem dX11_nearest_1 : decode cX11_nearest 1 = .ok (.iload_n 1, 1) := by decide +kernel
theorem dX11_nearest_2 : decode cX11_nearest 2 = .ok (.invokevirtual 58, 3) := by decide +kernel
theorem dX11_nearest_5 : decode cX11_nearest 5 = .ok (.ifCond .eq 32, 3) := by decide +kernel
theorem dX11_nearest_8 : decode cX11_nearest 8 = .ok (.iload_n 2, 1) := by decide +kernel
theorem dX11_nearest_9 : decode cX11_nearest 9 = .ok (.iconst 1, 1) := by decide +kernel
theorem dX11_nearest_10 : decode cX11_nearest 10 = .ok (.bipush 60, 2) := by decide +kernel
theorem dX11_nearest_12 : decode cX11_nearest 12 = .ok (.invokestatic 54, 3) := by decide +kernel
theorem dX11_nearest_15 : decode cX11_nearest 15 = .ok (.ifCond .eq 22, 3) := by decide +kernel
theorem dX11_nearest_18 : decode cX11_nearest 18 = .ok (.aload_n 0, 1) := by decide +kernel
theorem dX11_nearest_19 : decode cX11_nearest 19 = .ok (.invokevirtual 89, 3) := by decide +kernel
theorem dX11_nearest_22 : decode cX11_nearest 22 = .ok (.ifCond .eq 15, 3) := by decide +kernel
theorem dX11_nearest_25 : decode cX11_nearest 25 = .ok (.aload_n 0, 1) := by decide +kernel
theorem dX11_nearest_26 : decode cX11_nearest 26 = .ok (.iload_n 1, 1) := by decide +kernel
theorem dX11_nearest_27 : decode cX11_nearest 27 = .ok (.iload_n 2, 1) := by decide +kernel
theorem dX11_nearest_28 : decode cX11_nearest 28 = .ok (.iconst 1, 1) := by decide +kernel
theorem dX11_nearest_29 : decode cX11_nearest 29 = .ok (.ldc 107, 2) := by decide +kernel
theorem dX11_nearest_31 : decode cX11_nearest 31 = .ok (.invokevirtual 108, 3) := by decide +kernel
theorem dX11_nearest_34 : decode cX11_nearest 34 = .ok (.goto 4, 3) := by decide +kernel
theorem dX11_nearest_37 : decode cX11_nearest 37 = .ok (.iconst (-1), 1) := by decide +kernel
theorem dX11_nearest_38 : decode cX11_nearest 38 = .ok (.ireturn, 1) := by decide +kernel
theorem dX11_within_0 : decode cX11_within 0 = .ok (.aload_n 0, 1) := by decide +kernel
theorem dX11_within_1 : decode cX11_within 1 = .ok (.iload_n 1, 1) := by decide +kernel
theorem dX11_within_2 : decode cX11_within 2 = .ok (.invokevirtual 58, 3) := by decide +kernel
theorem dX11_within_5 : decode cX11_within 5 = .ok (.ifCond .eq 26, 3) := by decide +kernel
theorem dX11_within_8 : decode cX11_within 8 = .ok (.iload_n 2, 1) := by decide +kernel
theorem dX11_within_9 : decode cX11_within 9 = .ok (.ifCond .lt 22, 3) := by decide +kernel
theorem dX11_within_12 : decode cX11_within 12 = .ok (.aload_n 0, 1) := by decide +kernel
theorem dX11_within_13 : decode cX11_within 13 = .ok (.invokevirtual 89, 3) := by decide +kernel
theorem dX11_within_16 : decode cX11_within 16 = .ok (.ifCond .eq 15, 3) := by decide +kernel
theorem dX11_within_19 : decode cX11_within 19 = .ok (.aload_n 0, 1) := by decide +kernel
theorem dX11_within_20 : decode cX11_within 20 = .ok (.iload_n 1, 1) := by decide +kernel
theorem dX11_within_21 : decode cX11_within 21 = .ok (.bipush 60, 2) := by decide +kernel
theorem dX11_within_23 : decode cX11_within 23 = .ok (.iconst 1, 1) := by decide +kernel
theorem dX11_within_24 : decode cX11_within 24 = .ok (.iload_n 2, 1) := by decide +kernel
theorem dX11_within_25 : decode cX11_within 25 = .ok (.invokevirtual 108, 3) := by decide +kernel
theorem dX11_within_28 : decode cX11_within 28 = .ok (.goto 4, 3) := by decide +kernel
theorem dX11_within_31 : decode cX11_within 31 = .ok (.iconst (-1), 1) := by decide +kernel
theorem dX11_within_32 : decode cX11_within 32 = .ok (.ireturn, 1) := by decide +kernel
theorem dX11_farthest_0 : decode cX11_farthest 0 = .ok (.aload_n 0, 1) := by decide +kernel
theorem dX11_farthest_1 : decode cX11_farthest 1 = .ok (.iload_n 1, 1) := by decide +kernel
theorem dX11_farthest_2 : decode cX11_farthest 2 = .ok (.invokevirtual 58, 3) := by decide +kernel
theorem dX11_farthest_5 : decode cX11_farthest 5 = .ok (.ifCond .eq 32, 3) := by decide +kernel
theorem dX11_farthest_8 : decode cX11_farthest 8 = .ok (.iload_n 2, 1) := by decide +kernel
theorem dX11_farthest_9 : decode cX11_farthest 9 = .ok (.iconst 1, 1) := by decide +kernel
theorem dX11_farthest_10 : decode cX11_farthest 10 = .ok (.bipush 60, 2) := by decide +kernel
theorem dX11_farthest_12 : decode cX11_farthest 12 = .ok (.invokestatic 54, 3) := by decide +kernel
theorem dX11_farthest_15 : decode cX11_farthest 15 = .ok (.ifCond .eq 22, 3) := by decide +kernel
theorem dX11_farthest_18 : decode cX11_farthest 18 = .ok (.aload_n 0, 1) := by decide +kernel
theorem dX11_farthest_19 : decode cX11_farthest 19 = .ok (.invokevirtual 89, 3) := by decide +kernel
theorem dX11_farthest_22 : decode cX11_farthest 22 = .ok (.ifCond .eq 15, 3) := by decide +kernel
theorem dX11_farthest_25 : decode cX11_farthest 25 = .ok (.aload_n 0, 1) := by decide +kernel
theorem dX11_farthest_26 : decode cX11_farthest 26 = .ok (.iload_n 1, 1) := by decide +kernel
theorem dX11_farthest_27 : decode cX11_farthest 27 = .ok (.iload_n 2, 1) := by decide +kernel
theorem dX11_farthest_28 : decode cX11_farthest 28 = .ok (.iconst 0, 1) := by decide +kernel
theorem dX11_farthest_29 : decode cX11_farthest 29 = .ok (.ldc 107, 2) := by decide +kernel
theorem dX11_farthest_31 : decode cX11_farthest 31 = .ok (.invokevirtual 108, 3) := by decide +kernel
theorem dX11_farthest_34 : decode cX11_farthest 34 = .ok (.goto 4, 3) := by decide +kernel
theorem dX11_farthest_37 : decode cX11_farthest 37 = .ok (.iconst (-1), 1) := by decide +kernel
theorem dX11_farthest_38 : decode cX11_farthest 38 = .ok (.ireturn, 1) := by decide +kernel
theorem dX11_result_0 : decode cX11_result 0 = .ok (.iload_n 1, 1) := by decide +kernel
theorem dX11_result_1 : decode cX11_result 1 = .ok (.iconst 0, 1) := by decide +kernel
theorem dX11_result_2 : decode cX11_result 2 = .ok (.aload_n 0, 1) := by decide +kernel
theorem dX11_result_3 : decode cX11_result 3 = .ok (.getfield 93, 3) := by decide +kernel
theorem dX11_result_6 : decode cX11_result 6 = .ok (.iconst 1, 1) := by decide +kernel
theorem dX11_result_7 : decode cX11_result 7 = .ok (.isub, 1) := by decide +kernel
theorem dX11_result_8 : decode cX11_result 8 = .ok (.invokestatic 54, 3) := by decide +kernel
theorem dX11_result_11 : decode cX11_result 11 = .ok (.ifCond .ne 7, 3) := by decide +kernel
theorem dX11_result_14 : decode cX11_result 14 = .ok (.iconst (-1), 1) := by decide +kernel
theorem dX11_result_15 : decode cX11_result 15 = .ok (.goto 31, 3) := by decide +kernel
theorem dX11_result_18 : decode cX11_result 18 = .ok (.iload_n 2, 1) := by decide +kernel
theorem dX11_result_19 : decode cX11_result 19 = .ok (.ifCond .ne 12, 3) := by decide +kernel
theorem dX11_result_22 : decode cX11_result 22 = .ok (.aload_n 0, 1) := by decide +kernel
theorem dX11_result_23 : decode cX11_result 23 = .ok (.getfield 23, 3) := by decide +kernel
theorem dX11_result_26 : decode cX11_result 26 = .ok (.iload_n 1, 1) := by decide +kernel
theorem dX11_result_27 : decode cX11_result 27 = .ok (.iaload, 1) := by decide +kernel
theorem dX11_result_28 : decode cX11_result 28 = .ok (.goto 18, 3) := by decide +kernel
theorem dX11_result_31 : decode cX11_result 31 = .ok (.iload_n 2, 1) := by decide +kernel
theorem dX11_result_32 : decode cX11_result 32 = .ok (.iconst 1, 1) := by decide +kernel
theorem dX11_result_33 : decode cX11_result 33 = .ok (.if_icmp .ne 12, 3) := by decide +kernel
theorem dX11_result_36 : decode cX11_result 36 = .ok (.aload_n 0, 1) := by decide +kernel
theorem dX11_result_37 : decode cX11_result 37 = .ok (.getfield 26, 3) := by decide +kernel
theorem dX11_result_40 : decode cX11_result 40 = .ok (.iload_n 1, 1) := by decide +kernel
theorem dX11_result_41 : decode cX11_result 41 = .ok (.iaload, 1) := by decide +kernel
theorem dX11_result_42 : decode cX11_result 42 = .ok (.goto 4, 3) := by decide +kernel
theorem dX11_result_45 : decode cX11_result 45 = .ok (.iconst (-1), 1) := by decide +kernel
theorem dX11_result_46 : decode cX11_result 46 = .ok (.ireturn, 1) := by decide +kernel
theorem dX11_closest_0 : decode cX11_closest 0 = .ok (.iload_n 1, 1) := by decide +kernel
theorem dX11_closest_1 : decode cX11_closest 1 = .ok (.iconst 0, 1) := by decide +kernel
theorem dX11_closest_2 : decode cX11_closest 2 = .ok (.iconst 2, 1) := by decide +kernel
theorem dX11_closest_3 : decode cX11_closest 3 = .ok (.invokestatic 54, 3) := by decide +kernel
theorem dX11_closest_6 : decode cX11_closest 6 = .ok (.ifCond .eq 18, 3) := by decide +kernel
theorem dX11_closest_9 : decode cX11_closest 9 = .ok (.aload_n 0, 1) := by decide +kernel
theorem dX11_closest_10 : decode cX11_closest 10 = .ok (.invokevirtual 112, 3) := by decide +kernel
theorem dX11_closest_13 : decode cX11_closest 13 = .ok (.iconst 2, 1) := by decide +kernel
theorem dX11_closest_14 : decode cX11_closest 14 = .ok (.if_icmp .lt 10, 3) := by decide +kernel
theorem dX11_closest_17 : decode cX11_closest 17 = .ok (.aload_n 0, 1) := by decide +kernel
theorem dX11_closest_18 : decode cX11_closest 18 = .ok (.invokevirtual 89, 3) := by decide +kernel
theorem dX11_closest_21 : decode cX11_closest 21 = .ok (.ifCond .ne 5, 3) := by decide +kernel
theorem dX11_closest_24 : decode cX11_closest 24 = .ok (.iconst (-1), 1) := by decide +kernel
theorem dX11_closest_25 : decode cX11_closest 25 = .ok (.ireturn, 1) := by decide +kernel
theorem dX11_closest_26 : decode cX11_closest 26 = .ok (.iconst (-1), 1) := by decide +kernel
theorem dX11_closest_27 : decode cX11_closest 27 = .ok (.istore_n 2, 1) := by decide +kernel
theorem dX11_closest_28 : decode cX11_closest 28 = .ok (.iconst (-1), 1) := by decide +kernel
theorem dX11_closest_29 : decode cX11_closest 29 = .ok (.istore_n 3, 1) := by decide +kernel
theorem dX11_closest_30 : decode cX11_closest 30 = .ok (.iconst 0, 1) := by decide +kernel
theorem dX11_closest_31 : decode cX11_closest 31 = .ok (.istore 4, 2) := by decide +kernel
theorem dX11_closest_33 : decode cX11_closest 33 = .ok (.iload 4, 2) := by decide +kernel
theorem dX11_closest_35 : decode cX11_closest 35 = .ok (.aload_n 0, 1) := by decide +kernel
theorem dX11_closest_36 : decode cX11_closest 36 = .ok (.getfield 50, 3) := by decide +kernel
theorem dX11_closest_39 : decode cX11_closest 39 = .ok (.if_icmp .ge 81, 3) := by decide +kernel
theorem dX11_closest_42 : decode cX11_closest 42 = .ok (.iload 4, 2) := by decide +kernel
theorem dX11_closest_44 : decode cX11_closest 44 = .ok (.iconst 1, 1) := by decide +kernel
theorem dX11_closest_45 : decode cX11_closest 45 = .ok (.iadd, 1) := by decide +kernel
theorem dX11_closest_46 : decode cX11_closest 46 = .ok (.istore 5, 2) := by decide +kernel
theorem dX11_closest_48 : decode cX11_closest 48 = .ok (.iload 5, 2) := by decide +kernel
theorem dX11_closest_50 : decode cX11_closest 50 = .ok (.aload_n 0, 1) := by decide +kernel
theorem dX11_closest_51 : decode cX11_closest 51 = .ok (.getfield 50, 3) := by decide +kernel
theorem dX11_closest_54 : decode cX11_closest 54 = .ok (.if_icmp .ge 60, 3) := by decide +kernel
theorem dX11_closest_57 : decode cX11_closest 57 = .ok (.aload_n 0, 1) := by decide +kernel
theorem dX11_closest_58 : decode cX11_closest 58 = .ok (.getfield 19, 3) := by decide +kernel
theorem dX11_closest_61 : decode cX11_closest 61 = .ok (.iload 4, 2) := by decide +kernel
theorem dX11_closest_63 : decode cX11_closest 63 = .ok (.baload, 1) := by decide +kernel
theorem dX11_closest_64 : decode cX11_closest 64 = .ok (.ifCond .eq 44, 3) := by decide +kernel
theorem dX11_closest_67 : decode cX11_closest 67 = .ok (.aload_n 0, 1) := by decide +kernel
theorem dX11_closest_68 : decode cX11_closest 68 = .ok (.getfield 19, 3) := by decide +kernel
theorem dX11_closest_71 : decode cX11_closest 71 = .ok (.iload 5, 2) := by decide +kernel
theorem dX11_closest_73 : decode cX11_closest 73 = .ok (.baload, 1) := by decide +kernel
theorem dX11_closest_74 : decode cX11_closest 74 = .ok (.ifCond .eq 34, 3) := by decide +kernel
theorem dX11_closest_77 : decode cX11_closest 77 = .ok (.iload_n 2, 1) := by decide +kernel
theorem dX11_closest_78 : decode cX11_closest 78 = .ok (.iconst (-1), 1) := by decide +kernel
theorem dX11_closest_79 : decode cX11_closest 79 = .ok (.if_icmp .eq 23, 3) := by decide +kernel
theorem dX11_closest_82 : decode cX11_closest 82 = .ok (.aload_n 0, 1) := by decide +kernel
theorem dX11_closest_83 : decode cX11_closest 83 = .ok (.iload 4, 2) := by decide +kernel
theorem dX11_closest_85 : decode cX11_closest 85 = .ok (.iload 5, 2) := by decide +kernel
theorem dX11_closest_87 : decode cX11_closest 87 = .ok (.invokevirtual 86, 3) := by decide +kernel
theorem dX11_closest_90 : decode cX11_closest 90 = .ok (.aload_n 0, 1) := by decide +kernel
theorem dX11_closest_91 : decode cX11_closest 91 = .ok (.iload_n 2, 1) := by decide +kernel
theorem dX11_closest_92 : decode cX11_closest 92 = .ok (.iload_n 3, 1) := by decide +kernel
theorem dX11_closest_93 : decode cX11_closest 93 = .ok (.invokevirtual 86, 3) := by decide +kernel
theorem dX11_closest_96 : decode cX11_closest 96 = .ok (.if_icmp .lt 6, 3) := by decide +kernel
theorem dX11_closest_99 : decode cX11_closest 99 = .ok (.goto 9, 3) := by decide +kernel
theorem dX11_closest_102 : decode cX11_closest 102 = .ok (.iload 4, 2) := by decide +kernel
theorem dX11_closest_104 : decode cX11_closest 104 = .ok (.istore_n 2, 1) := by decide +kernel
theorem dX11_closest_105 : decode cX11_closest 105 = .ok (.iload 5, 2) := by decide +kernel
theorem dX11_closest_107 : decode cX11_closest 107 = .ok (.istore_n 3, 1) := by decide +kernel
theorem dX11_closest_108 : decode cX11_closest 108 = .ok (.iinc 5 1, 3) := by decide +kernel
theorem dX11_closest_111 : decode cX11_closest 111 = .ok (.goto (-63), 3) := by decide +kernel
theorem dX11_closest_114 : decode cX11_closest 114 = .ok (.iinc 4 1, 3) := by decide +kernel
theorem dX11_closest_117 : decode cX11_closest 117 = .ok (.goto (-84), 3) := by decide +kernel
theorem dX11_closest_120 : decode cX11_closest 120 = .ok (.iload_n 1, 1) := by decide +kernel
theorem dX11_closest_121 : decode cX11_closest 121 = .ok (.ifCond .ne 7, 3) := by decide +kernel
theorem dX11_closest_124 : decode cX11_closest 124 = .ok (.iload_n 2, 1) := by decide +kernel
theorem dX11_closest_125 : decode cX11_closest 125 = .ok (.goto 18, 3) := by decide +kernel
theorem dX11_closest_128 : decode cX11_closest 128 = .ok (.iload_n 1, 1) := by decide +kernel
theorem dX11_closest_129 : decode cX11_closest 129 = .ok (.iconst 1, 1) := by decide +kernel
theorem dX11_closest_130 : decode cX11_closest 130 = .ok (.if_icmp .ne 7, 3) := by decide +kernel
theorem dX11_closest_133 : decode cX11_closest 133 = .ok (.iload_n 3, 1) := by decide +kernel
theorem dX11_closest_134 : decode cX11_closest 134 = .ok (.goto 9, 3) := by decide +kernel
theorem dX11_closest_137 : decode cX11_closest 137 = .ok (.aload_n 0, 1) := by decide +kernel
theorem dX11_closest_138 : decode cX11_closest 138 = .ok (.iload_n 2, 1) := by decide +kernel
theorem dX11_closest_139 : decode cX11_closest 139 = .ok (.iload_n 3, 1) := by decide +kernel
theorem dX11_closest_140 : decode cX11_closest 140 = .ok (.invokevirtual 86, 3) := by decide +kernel
theorem dX11_closest_143 : decode cX11_closest 143 = .ok (.ireturn, 1) := by decide +kernel
theorem dX11_fromResults_0 : decode cX11_fromResults 0 = .ok (.ldc 107, 2) := by decide +kernel
theorem dX11_fromResults_2 : decode cX11_fromResults 2 = .ok (.istore_n 2, 1) := by decide +kernel
theorem dX11_fromResults_3 : decode cX11_fromResults 3 = .ok (.iconst 0, 1) := by decide +kernel
theorem dX11_fromResults_4 : decode cX11_fromResults 4 = .ok (.istore_n 3, 1) := by decide +kernel
theorem dX11_fromResults_5 : decode cX11_fromResults 5 = .ok (.iload_n 3, 1) := by decide +kernel
theorem dX11_fromResults_6 : decode cX11_fromResults 6 = .ok (.aload_n 0, 1) := by decide +kernel
theorem dX11_fromResults_7 : decode cX11_fromResults 7 = .ok (.getfield 93, 3) := by decide +kernel
theorem dX11_fromResults_10 : decode cX11_fromResults 10 = .ok (.if_icmp .ge 25, 3) := by decide +kernel
theorem dX11_fromResults_13 : decode cX11_fromResults 13 = .ok (.iload_n 2, 1) := by decide +kernel
theorem dX11_fromResults_14 : decode cX11_fromResults 14 = .ok (.aload_n 0, 1) := by decide +kernel
theorem dX11_fromResults_15 : decode cX11_fromResults 15 = .ok (.iload_n 1, 1) := by decide +kernel
theorem dX11_fromResults_16 : decode cX11_fromResults 16 = .ok (.aload_n 0, 1) := by decide +kernel
theorem dX11_fromResults_17 : decode cX11_fromResults 17 = .ok (.getfield 23, 3) := by decide +kernel
theorem dX11_fromResults_20 : decode cX11_fromResults 20 = .ok (.iload_n 3, 1) := by decide +kernel
theorem dX11_fromResults_21 : decode cX11_fromResults 21 = .ok (.iaload, 1) := by decide +kernel
theorem dX11_fromResults_22 : decode cX11_fromResults 22 = .ok (.invokevirtual 86, 3) := by decide +kernel
theorem dX11_fromResults_25 : decode cX11_fromResults 25 = .ok (.invokestatic 66, 3) := by decide +kernel
theorem dX11_fromResults_28 : decode cX11_fromResults 28 = .ok (.istore_n 2, 1) := by decide +kernel
theorem dX11_fromResults_29 : decode cX11_fromResults 29 = .ok (.iinc 3 1, 3) := by decide +kernel
theorem dX11_fromResults_32 : decode cX11_fromResults 32 = .ok (.goto (-27), 3) := by decide +kernel
theorem dX11_fromResults_35 : decode cX11_fromResults 35 = .ok (.iload_n 2, 1) := by decide +kernel
theorem dX11_fromResults_36 : decode cX11_fromResults 36 = .ok (.ireturn, 1) := by decide +kernel
theorem dX11_radius_0 : decode cX11_radius 0 = .ok (.iconst 0, 1) := by decide +kernel
theorem dX11_radius_1 : decode cX11_radius 1 = .ok (.istore_n 1, 1) := by decide +kernel
theorem dX11_radius_2 : decode cX11_radius 2 = .ok (.iconst 0, 1) := by decide +kernel
theorem dX11_radius_3 : decode cX11_radius 3 = .ok (.istore_n 2, 1) := by decide +kernel
theorem dX11_radius_4 : decode cX11_radius 4 = .ok (.iload_n 2, 1) := by decide +kernel
theorem dX11_radius_5 : decode cX11_radius 5 = .ok (.aload_n 0, 1) := by decide +kernel
theorem dX11_radius_6 : decode cX11_radius 6 = .ok (.getfield 50, 3) := by decide +kernel
theorem dX11_radius_9 : decode cX11_radius 9 = .ok (.if_icmp .ge 39, 3) := by decide +kernel
theorem dX11_radius_12 : decode cX11_radius 12 = .ok (.aload_n 0, 1) := by decide +kernel
theorem dX11_radius_13 : decode cX11_radius 13 = .ok (.getfield 19, 3) := by decide +kernel
theorem dX11_radius_16 : decode cX11_radius 16 = .ok (.iload_n 2, 1) := by decide +kernel
theorem dX11_radius_17 : decode cX11_radius 17 = .ok (.baload, 1) := by decide +kernel
theorem dX11_radius_18 : decode cX11_radius 18 = .ok (.ifCond .eq 11, 3) := by decide +kernel
theorem dX11_radius_21 : decode cX11_radius 21 = .ok (.aload_n 0, 1) := by decide +kernel
theorem dX11_radius_22 : decode cX11_radius 22 = .ok (.iload_n 2, 1) := by decide +kernel
theorem dX11_radius_23 : decode cX11_radius 23 = .ok (.invokevirtual 116, 3) := by decide +kernel
theorem dX11_radius_26 : decode cX11_radius 26 = .ok (.goto 4, 3) := by decide +kernel
theorem dX11_radius_29 : decode cX11_radius 29 = .ok (.iconst 0, 1) := by decide +kernel
theorem dX11_radius_30 : decode cX11_radius 30 = .ok (.istore_n 3, 1) := by decide +kernel
theorem dX11_radius_31 : decode cX11_radius 31 = .ok (.iload_n 3, 1) := by decide +kernel
theorem dX11_radius_32 : decode cX11_radius 32 = .ok (.iload_n 1, 1) := by decide +kernel
theorem dX11_radius_33 : decode cX11_radius 33 = .ok (.if_icmp .le 7, 3) := by decide +kernel
theorem dX11_radius_36 : decode cX11_radius 36 = .ok (.iload_n 3, 1) := by decide +kernel
theorem dX11_radius_37 : decode cX11_radius 37 = .ok (.goto 4, 3) := by decide +kernel
theorem dX11_radius_40 : decode cX11_radius 40 = .ok (.iload_n 1, 1) := by decide +kernel
theorem dX11_radius_41 : decode cX11_radius 41 = .ok (.istore_n 1, 1) := by decide +kernel
theorem dX11_radius_42 : decode cX11_radius 42 = .ok (.iinc 2 1, 3) := by decide +kernel
theorem dX11_radius_45 : decode cX11_radius 45 = .ok (.goto (-41), 3) := by decide +kernel
theorem dX11_radius_48 : decode cX11_radius 48 = .ok (.iload_n 1, 1) := by decide +kernel
theorem dX11_radius_49 : decode cX11_radius 49 = .ok (.ireturn, 1) := by decide +kernel
theorem dX11_centres_0 : decode cX11_centres 0 = .ok (.iload_n 1, 1) := by decide +kernel
theorem dX11_centres_1 : decode cX11_centres 1 = .ok (.iconst 1, 1) := by decide +kernel
theorem dX11_centres_2 : decode cX11_centres 2 = .ok (.bipush 60, 2) := by decide +kernel
theorem dX11_centres_4 : decode cX11_centres 4 = .ok (.invokestatic 54, 3) := by decide +kernel
theorem dX11_centres_7 : decode cX11_centres 7 = .ok (.ifCond .eq 17, 3) := by decide +kernel
theorem dX11_centres_10 : decode cX11_centres 10 = .ok (.aload_n 0, 1) := by decide +kernel
theorem dX11_centres_11 : decode cX11_centres 11 = .ok (.invokevirtual 112, 3) := by decide +kernel
theorem dX11_centres_14 : decode cX11_centres 14 = .ok (.ifCond .eq 10, 3) := by decide +kernel
theorem dX11_centres_17 : decode cX11_centres 17 = .ok (.aload_n 0, 1) := by decide +kernel
theorem dX11_centres_18 : decode cX11_centres 18 = .ok (.invokevirtual 89, 3) := by decide +kernel
theorem dX11_centres_21 : decode cX11_centres 21 = .ok (.ifCond .ne 5, 3) := by decide +kernel
theorem dX11_centres_24 : decode cX11_centres 24 = .ok (.iconst (-1), 1) := by decide +kernel
theorem dX11_centres_25 : decode cX11_centres 25 = .ok (.ireturn, 1) := by decide +kernel
theorem dX11_centres_26 : decode cX11_centres 26 = .ok (.aload_n 0, 1) := by decide +kernel
theorem dX11_centres_27 : decode cX11_centres 27 = .ok (.invokevirtual 96, 3) := by decide +kernel
theorem dX11_centres_30 : decode cX11_centres 30 = .ok (.aload_n 0, 1) := by decide +kernel
theorem dX11_centres_31 : decode cX11_centres 31 = .ok (.iconst 0, 1) := by decide +kernel
theorem dX11_centres_32 : decode cX11_centres 32 = .ok (.putfield 93, 3) := by decide +kernel
theorem dX11_centres_35 : decode cX11_centres 35 = .ok (.iconst 0, 1) := by decide +kernel
theorem dX11_centres_36 : decode cX11_centres 36 = .ok (.istore_n 2, 1) := by decide +kernel
theorem dX11_centres_37 : decode cX11_centres 37 = .ok (.aload_n 0, 1) := by decide +kernel
theorem dX11_centres_38 : decode cX11_centres 38 = .ok (.getfield 19, 3) := by decide +kernel
theorem dX11_centres_41 : decode cX11_centres 41 = .ok (.iload_n 2, 1) := by decide +kernel
theorem dX11_centres_42 : decode cX11_centres 42 = .ok (.baload, 1) := by decide +kernel
theorem dX11_centres_43 : decode cX11_centres 43 = .ok (.ifCond .ne 9, 3) := by decide +kernel
theorem dX11_centres_46 : decode cX11_centres 46 = .ok (.iinc 2 1, 3) := by decide +kernel
theorem dX11_centres_49 : decode cX11_centres 49 = .ok (.goto (-12), 3) := by decide +kernel
theorem dX11_centres_52 : decode cX11_centres 52 = .ok (.aload_n 0, 1) := by decide +kernel
theorem dX11_centres_53 : decode cX11_centres 53 = .ok (.iload_n 2, 1) := by decide +kernel
theorem dX11_centres_54 : decode cX11_centres 54 = .ok (.iconst 0, 1) := by decide +kernel
theorem dX11_centres_55 : decode cX11_centres 55 = .ok (.invokevirtual 103, 3) := by decide +kernel
theorem dX11_centres_58 : decode cX11_centres 58 = .ok (.aload_n 0, 1) := by decide +kernel
theorem dX11_centres_59 : decode cX11_centres 59 = .ok (.getfield 93, 3) := by decide +kernel
theorem dX11_centres_62 : decode cX11_centres 62 = .ok (.iload_n 1, 1) := by decide +kernel
theorem dX11_centres_63 : decode cX11_centres 63 = .ok (.if_icmp .ge 89, 3) := by decide +kernel
theorem dX11_centres_66 : decode cX11_centres 66 = .ok (.aload_n 0, 1) := by decide +kernel
theorem dX11_centres_67 : decode cX11_centres 67 = .ok (.getfield 93, 3) := by decide +kernel
theorem dX11_centres_70 : decode cX11_centres 70 = .ok (.aload_n 0, 1) := by decide +kernel
theorem dX11_centres_71 : decode cX11_centres 71 = .ok (.invokevirtual 112, 3) := by decide +kernel
theorem dX11_centres_74 : decode cX11_centres 74 = .ok (.if_icmp .ge 78, 3) := by decide +kernel
theorem dX11_centres_77 : decode cX11_centres 77 = .ok (.iconst (-1), 1) := by decide +kernel
theorem dX11_centres_78 : decode cX11_centres 78 = .ok (.istore_n 3, 1) := by decide +kernel
theorem dX11_centres_79 : decode cX11_centres 79 = .ok (.iconst 0, 1) := by decide +kernel
theorem dX11_centres_80 : decode cX11_centres 80 = .ok (.istore 4, 2) := by decide +kernel
theorem dX11_centres_82 : decode cX11_centres 82 = .ok (.iload 4, 2) := by decide +kernel
theorem dX11_centres_84 : decode cX11_centres 84 = .ok (.aload_n 0, 1) := by decide +kernel
theorem dX11_centres_85 : decode cX11_centres 85 = .ok (.getfield 50, 3) := by decide +kernel
theorem dX11_centres_88 : decode cX11_centres 88 = .ok (.if_icmp .ge 51, 3) := by decide +kernel
theorem dX11_centres_91 : decode cX11_centres 91 = .ok (.aload_n 0, 1) := by decide +kernel
theorem dX11_centres_92 : decode cX11_centres 92 = .ok (.getfield 19, 3) := by decide +kernel
theorem dX11_centres_95 : decode cX11_centres 95 = .ok (.iload 4, 2) := by decide +kernel
theorem dX11_centres_97 : decode cX11_centres 97 = .ok (.baload, 1) := by decide +kernel
theorem dX11_centres_98 : decode cX11_centres 98 = .ok (.ifCond .eq 35, 3) := by decide +kernel
theorem dX11_centres_101 : decode cX11_centres 101 = .ok (.aload_n 0, 1) := by decide +kernel
theorem dX11_centres_102 : decode cX11_centres 102 = .ok (.getfield 35, 3) := by decide +kernel
theorem dX11_centres_105 : decode cX11_centres 105 = .ok (.iload 4, 2) := by decide +kernel
theorem dX11_centres_107 : decode cX11_centres 107 = .ok (.baload, 1) := by decide +kernel
theorem dX11_centres_108 : decode cX11_centres 108 = .ok (.ifCond .ne 25, 3) := by decide +kernel
theorem dX11_centres_111 : decode cX11_centres 111 = .ok (.iload_n 3, 1) := by decide +kernel
theorem dX11_centres_112 : decode cX11_centres 112 = .ok (.iconst (-1), 1) := by decide +kernel
theorem dX11_centres_113 : decode cX11_centres 113 = .ok (.if_icmp .eq 17, 3) := by decide +kernel
theorem dX11_centres_116 : decode cX11_centres 116 = .ok (.aload_n 0, 1) := by decide +kernel
theorem dX11_centres_117 : decode cX11_centres 117 = .ok (.iload 4, 2) := by decide +kernel
theorem dX11_centres_119 : decode cX11_centres 119 = .ok (.invokevirtual 116, 3) := by decide +kernel
theorem dX11_centres_122 : decode cX11_centres 122 = .ok (.aload_n 0, 1) := by decide +kernel
theorem dX11_centres_123 : decode cX11_centres 123 = .ok (.iload_n 3, 1) := by decide +kernel
theorem dX11_centres_124 : decode cX11_centres 124 = .ok (.invokevirtual 116, 3) := by decide +kernel
theorem dX11_centres_127 : decode cX11_centres 127 = .ok (.if_icmp .le 6, 3) := by decide +kernel
theorem dX11_centres_130 : decode cX11_centres 130 = .ok (.iload 4, 2) := by decide +kernel
theorem dX11_centres_132 : decode cX11_centres 132 = .ok (.istore_n 3, 1) := by decide +kernel
theorem dX11_centres_133 : decode cX11_centres 133 = .ok (.iinc 4 1, 3) := by decide +kernel
theorem dX11_centres_136 : decode cX11_centres 136 = .ok (.goto (-54), 3) := by decide +kernel
theorem dX11_centres_139 : decode cX11_centres 139 = .ok (.aload_n 0, 1) := by decide +kernel
theorem dX11_centres_140 : decode cX11_centres 140 = .ok (.iload_n 3, 1) := by decide +kernel
theorem dX11_centres_141 : decode cX11_centres 141 = .ok (.aload_n 0, 1) := by decide +kernel
theorem dX11_centres_142 : decode cX11_centres 142 = .ok (.iload_n 3, 1) := by decide +kernel
theorem dX11_centres_143 : decode cX11_centres 143 = .ok (.invokevirtual 116, 3) := by decide +kernel
theorem dX11_centres_146 : decode cX11_centres 146 = .ok (.invokevirtual 103, 3) := by decide +kernel
theorem dX11_centres_149 : decode cX11_centres 149 = .ok (.goto (-91), 3) := by decide +kernel
theorem dX11_centres_152 : decode cX11_centres 152 = .ok (.aload_n 0, 1) := by decide +kernel
theorem dX11_centres_153 : decode cX11_centres 153 = .ok (.invokevirtual 119, 3) := by decide +kernel
theorem dX11_centres_156 : decode cX11_centres 156 = .ok (.ireturn, 1) := by decide +kernel
theorem dX11_radiusOf_0 : decode cX11_radiusOf 0 = .ok (.iconst 0, 1) := by decide +kernel
theorem dX11_radiusOf_1 : decode cX11_radiusOf 1 = .ok (.istore 4, 2) := by decide +kernel
theorem dX11_radiusOf_3 : decode cX11_radiusOf 3 = .ok (.iconst 0, 1) := by decide +kernel
theorem dX11_radiusOf_4 : decode cX11_radiusOf 4 = .ok (.istore 5, 2) := by decide +kernel
theorem dX11_radiusOf_6 : decode cX11_radiusOf 6 = .ok (.iload 5, 2) := by decide +kernel
theorem dX11_radiusOf_8 : decode cX11_radiusOf 8 = .ok (.aload_n 0, 1) := by decide +kernel
theorem dX11_radiusOf_9 : decode cX11_radiusOf 9 = .ok (.getfield 50, 3) := by decide +kernel
theorem dX11_radiusOf_12 : decode cX11_radiusOf 12 = .ok (.if_icmp .ge 82, 3) := by decide +kernel
theorem dX11_radiusOf_15 : decode cX11_radiusOf 15 = .ok (.aload_n 0, 1) := by decide +kernel
theorem dX11_radiusOf_16 : decode cX11_radiusOf 16 = .ok (.getfield 19, 3) := by decide +kernel
theorem dX11_radiusOf_19 : decode cX11_radiusOf 19 = .ok (.iload 5, 2) := by decide +kernel
theorem dX11_radiusOf_21 : decode cX11_radiusOf 21 = .ok (.baload, 1) := by decide +kernel
theorem dX11_radiusOf_22 : decode cX11_radiusOf 22 = .ok (.ifCond .ne 6, 3) := by decide +kernel
theorem dX11_radiusOf_25 : decode cX11_radiusOf 25 = .ok (.goto 63, 3) := by decide +kernel
theorem dX11_radiusOf_28 : decode cX11_radiusOf 28 = .ok (.aload_n 0, 1) := by decide +kernel
theorem dX11_radiusOf_29 : decode cX11_radiusOf 29 = .ok (.getfield 38, 3) := by decide +kernel
theorem dX11_radiusOf_32 : decode cX11_radiusOf 32 = .ok (.bipush 60, 2) := by decide +kernel
theorem dX11_radiusOf_34 : decode cX11_radiusOf 34 = .ok (.iload 5, 2) := by decide +kernel
theorem dX11_radiusOf_36 : decode cX11_radiusOf 36 = .ok (.imul, 1) := by decide +kernel
theorem dX11_radiusOf_37 : decode cX11_radiusOf 37 = .ok (.iload_n 1, 1) := by decide +kernel
theorem dX11_radiusOf_38 : decode cX11_radiusOf 38 = .ok (.iadd, 1) := by decide +kernel
theorem dX11_radiusOf_39 : decode cX11_radiusOf 39 = .ok (.iaload, 1) := by decide +kernel
theorem dX11_radiusOf_40 : decode cX11_radiusOf 40 = .ok (.aload_n 0, 1) := by decide +kernel
theorem dX11_radiusOf_41 : decode cX11_radiusOf 41 = .ok (.getfield 38, 3) := by decide +kernel
theorem dX11_radiusOf_44 : decode cX11_radiusOf 44 = .ok (.bipush 60, 2) := by decide +kernel
theorem dX11_radiusOf_46 : decode cX11_radiusOf 46 = .ok (.iload 5, 2) := by decide +kernel
theorem dX11_radiusOf_48 : decode cX11_radiusOf 48 = .ok (.imul, 1) := by decide +kernel
theorem dX11_radiusOf_49 : decode cX11_radiusOf 49 = .ok (.iload_n 2, 1) := by decide +kernel
theorem dX11_radiusOf_50 : decode cX11_radiusOf 50 = .ok (.iadd, 1) := by decide +kernel
theorem dX11_radiusOf_51 : decode cX11_radiusOf 51 = .ok (.iaload, 1) := by decide +kernel
theorem dX11_radiusOf_52 : decode cX11_radiusOf 52 = .ok (.aload_n 0, 1) := by decide +kernel
theorem dX11_radiusOf_53 : decode cX11_radiusOf 53 = .ok (.getfield 38, 3) := by decide +kernel
theorem dX11_radiusOf_56 : decode cX11_radiusOf 56 = .ok (.bipush 60, 2) := by decide +kernel
theorem dX11_radiusOf_58 : decode cX11_radiusOf 58 = .ok (.iload 5, 2) := by decide +kernel
theorem dX11_radiusOf_60 : decode cX11_radiusOf 60 = .ok (.imul, 1) := by decide +kernel
theorem dX11_radiusOf_61 : decode cX11_radiusOf 61 = .ok (.iload_n 3, 1) := by decide +kernel
theorem dX11_radiusOf_62 : decode cX11_radiusOf 62 = .ok (.iadd, 1) := by decide +kernel
theorem dX11_radiusOf_63 : decode cX11_radiusOf 63 = .ok (.iaload, 1) := by decide +kernel
theorem dX11_radiusOf_64 : decode cX11_radiusOf 64 = .ok (.invokestatic 66, 3) := by decide +kernel
theorem dX11_radiusOf_67 : decode cX11_radiusOf 67 = .ok (.invokestatic 66, 3) := by decide +kernel
theorem dX11_radiusOf_70 : decode cX11_radiusOf 70 = .ok (.istore 6, 2) := by decide +kernel
theorem dX11_radiusOf_72 : decode cX11_radiusOf 72 = .ok (.iload 6, 2) := by decide +kernel
theorem dX11_radiusOf_74 : decode cX11_radiusOf 74 = .ok (.iload 4, 2) := by decide +kernel
theorem dX11_radiusOf_76 : decode cX11_radiusOf 76 = .ok (.if_icmp .le 8, 3) := by decide +kernel
theorem dX11_radiusOf_79 : decode cX11_radiusOf 79 = .ok (.iload 6, 2) := by decide +kernel
theorem dX11_radiusOf_81 : decode cX11_radiusOf 81 = .ok (.goto 5, 3) := by decide +kernel
theorem dX11_radiusOf_84 : decode cX11_radiusOf 84 = .ok (.iload 4, 2) := by decide +kernel
theorem dX11_radiusOf_86 : decode cX11_radiusOf 86 = .ok (.istore 4, 2) := by decide +kernel
theorem dX11_radiusOf_88 : decode cX11_radiusOf 88 = .ok (.iinc 5 1, 3) := by decide +kernel
theorem dX11_radiusOf_91 : decode cX11_radiusOf 91 = .ok (.goto (-85), 3) := by decide +kernel
theorem dX11_radiusOf_94 : decode cX11_radiusOf 94 = .ok (.iload 4, 2) := by decide +kernel
theorem dX11_radiusOf_96 : decode cX11_radiusOf 96 = .ok (.ireturn, 1) := by decide +kernel
theorem dX11_best_0 : decode cX11_best 0 = .ok (.iload_n 1, 1) := by decide +kernel
theorem dX11_best_1 : decode cX11_best 1 = .ok (.iconst 1, 1) := by decide +kernel
theorem dX11_best_2 : decode cX11_best 2 = .ok (.iconst 3, 1) := by decide +kernel
theorem dX11_best_3 : decode cX11_best 3 = .ok (.invokestatic 54, 3) := by decide +kernel
theorem dX11_best_6 : decode cX11_best 6 = .ok (.ifCond .eq 18, 3) := by decide +kernel
theorem dX11_best_9 : decode cX11_best 9 = .ok (.aload_n 0, 1) := by decide +kernel
theorem dX11_best_10 : decode cX11_best 10 = .ok (.invokevirtual 112, 3) := by decide +kernel
theorem dX11_best_13 : decode cX11_best 13 = .ok (.iload_n 1, 1) := by decide +kernel
theorem dX11_best_14 : decode cX11_best 14 = .ok (.if_icmp .lt 10, 3) := by decide +kernel
theorem dX11_best_17 : decode cX11_best 17 = .ok (.aload_n 0, 1) := by decide +kernel
theorem dX11_best_18 : decode cX11_best 18 = .ok (.invokevirtual 89, 3) := by decide +kernel
theorem dX11_best_21 : decode cX11_best 21 = .ok (.ifCond .ne 5, 3) := by decide +kernel
theorem dX11_best_24 : decode cX11_best 24 = .ok (.iconst (-1), 1) := by decide +kernel
theorem dX11_best_25 : decode cX11_best 25 = .ok (.ireturn, 1) := by decide +kernel
theorem dX11_best_26 : decode cX11_best 26 = .ok (.iconst 0, 1) := by decide +kernel
theorem dX11_best_27 : decode cX11_best 27 = .ok (.istore_n 2, 1) := by decide +kernel
theorem dX11_best_28 : decode cX11_best 28 = .ok (.iload_n 2, 1) := by decide +kernel
theorem dX11_best_29 : decode cX11_best 29 = .ok (.aload_n 0, 1) := by decide +kernel
theorem dX11_best_30 : decode cX11_best 30 = .ok (.getfield 50, 3) := by decide +kernel
theorem dX11_best_33 : decode cX11_best 33 = .ok (.if_icmp .ge 42, 3) := by decide +kernel
theorem dX11_best_36 : decode cX11_best 36 = .ok (.iconst 0, 1) := by decide +kernel
theorem dX11_best_37 : decode cX11_best 37 = .ok (.istore_n 3, 1) := by decide +kernel
theorem dX11_best_38 : decode cX11_best 38 = .ok (.iload_n 3, 1) := by decide +kernel
theorem dX11_best_39 : decode cX11_best 39 = .ok (.aload_n 0, 1) := by decide +kernel
theorem dX11_best_40 : decode cX11_best 40 = .ok (.getfield 50, 3) := by decide +kernel
theorem dX11_best_43 : decode cX11_best 43 = .ok (.if_icmp .ge 26, 3) := by decide +kernel
theorem dX11_best_46 : decode cX11_best 46 = .ok (.aload_n 0, 1) := by decide +kernel
theorem dX11_best_47 : decode cX11_best 47 = .ok (.getfield 38, 3) := by decide +kernel
theorem dX11_best_50 : decode cX11_best 50 = .ok (.bipush 60, 2) := by decide +kernel
theorem dX11_best_52 : decode cX11_best 52 = .ok (.iload_n 2, 1) := by decide +kernel
theorem dX11_best_53 : decode cX11_best 53 = .ok (.imul, 1) := by decide +kernel
theorem dX11_best_54 : decode cX11_best 54 = .ok (.iload_n 3, 1) := by decide +kernel
theorem dX11_best_55 : decode cX11_best 55 = .ok (.iadd, 1) := by decide +kernel
theorem dX11_best_56 : decode cX11_best 56 = .ok (.aload_n 0, 1) := by decide +kernel
theorem dX11_best_57 : decode cX11_best 57 = .ok (.iload_n 2, 1) := by decide +kernel
theorem dX11_best_58 : decode cX11_best 58 = .ok (.iload_n 3, 1) := by decide +kernel
theorem dX11_best_59 : decode cX11_best 59 = .ok (.invokevirtual 86, 3) := by decide +kernel
theorem dX11_best_62 : decode cX11_best 62 = .ok (.iastore, 1) := by decide +kernel
theorem dX11_best_63 : decode cX11_best 63 = .ok (.iinc 3 1, 3) := by decide +kernel
theorem dX11_best_66 : decode cX11_best 66 = .ok (.goto (-28), 3) := by decide +kernel
theorem dX11_best_69 : decode cX11_best 69 = .ok (.iinc 2 1, 3) := by decide +kernel
theorem dX11_best_72 : decode cX11_best 72 = .ok (.goto (-44), 3) := by decide +kernel
theorem dX11_best_75 : decode cX11_best 75 = .ok (.iconst (-1), 1) := by decide +kernel
theorem dX11_best_76 : decode cX11_best 76 = .ok (.istore_n 2, 1) := by decide +kernel
theorem dX11_best_77 : decode cX11_best 77 = .ok (.iconst (-1), 1) := by decide +kernel
theorem dX11_best_78 : decode cX11_best 78 = .ok (.istore_n 3, 1) := by decide +kernel
theorem dX11_best_79 : decode cX11_best 79 = .ok (.iconst (-1), 1) := by decide +kernel
theorem dX11_best_80 : decode cX11_best 80 = .ok (.istore 4, 2) := by decide +kernel
theorem dX11_best_82 : decode cX11_best 82 = .ok (.iconst (-1), 1) := by decide +kernel
theorem dX11_best_83 : decode cX11_best 83 = .ok (.istore 5, 2) := by decide +kernel
theorem dX11_best_85 : decode cX11_best 85 = .ok (.iconst 0, 1) := by decide +kernel
theorem dX11_best_86 : decode cX11_best 86 = .ok (.istore 6, 2) := by decide +kernel
theorem dX11_best_88 : decode cX11_best 88 = .ok (.iload 6, 2) := by decide +kernel
theorem dX11_best_90 : decode cX11_best 90 = .ok (.aload_n 0, 1) := by decide +kernel
theorem dX11_best_91 : decode cX11_best 91 = .ok (.getfield 50, 3) := by decide +kernel
theorem dX11_best_94 : decode cX11_best 94 = .ok (.if_icmp .ge 168, 3) := by decide +kernel
theorem dX11_best_97 : decode cX11_best 97 = .ok (.iload_n 1, 1) := by decide +kernel
theorem dX11_best_98 : decode cX11_best 98 = .ok (.iconst 1, 1) := by decide +kernel
theorem dX11_best_99 : decode cX11_best 99 = .ok (.if_icmp .le 10, 3) := by decide +kernel
theorem dX11_best_102 : decode cX11_best 102 = .ok (.iload 6, 2) := by decide +kernel
theorem dX11_best_104 : decode cX11_best 104 = .ok (.iconst 1, 1) := by decide +kernel
theorem dX11_best_105 : decode cX11_best 105 = .ok (.iadd, 1) := by decide +kernel
theorem dX11_best_106 : decode cX11_best 106 = .ok (.goto 5, 3) := by decide +kernel
theorem dX11_best_109 : decode cX11_best 109 = .ok (.iload 6, 2) := by decide +kernel
theorem dX11_best_111 : decode cX11_best 111 = .ok (.istore 7, 2) := by decide +kernel
theorem dX11_best_113 : decode cX11_best 113 = .ok (.iload 7, 2) := by decide +kernel
theorem dX11_best_115 : decode cX11_best 115 = .ok (.aload_n 0, 1) := by decide +kernel
theorem dX11_best_116 : decode cX11_best 116 = .ok (.getfield 50, 3) := by decide +kernel
theorem dX11_best_119 : decode cX11_best 119 = .ok (.if_icmp .ge 137, 3) := by decide +kernel
theorem dX11_best_122 : decode cX11_best 122 = .ok (.iload_n 1, 1) := by decide +kernel
theorem dX11_best_123 : decode cX11_best 123 = .ok (.iconst 1, 1) := by decide +kernel
theorem dX11_best_124 : decode cX11_best 124 = .ok (.if_icmp .gt 10, 3) := by decide +kernel
theorem dX11_best_127 : decode cX11_best 127 = .ok (.iload 7, 2) := by decide +kernel
theorem dX11_best_129 : decode cX11_best 129 = .ok (.iload 6, 2) := by decide +kernel
theorem dX11_best_131 : decode cX11_best 131 = .ok (.if_icmp .ne 125, 3) := by decide +kernel
theorem dX11_best_134 : decode cX11_best 134 = .ok (.iload_n 1, 1) := by decide +kernel
theorem dX11_best_135 : decode cX11_best 135 = .ok (.iconst 2, 1) := by decide +kernel
theorem dX11_best_136 : decode cX11_best 136 = .ok (.if_icmp .le 10, 3) := by decide +kernel
theorem dX11_best_139 : decode cX11_best 139 = .ok (.iload 7, 2) := by decide +kernel
theorem dX11_best_141 : decode cX11_best 141 = .ok (.iconst 1, 1) := by decide +kernel
theorem dX11_best_142 : decode cX11_best 142 = .ok (.iadd, 1) := by decide +kernel
theorem dX11_best_143 : decode cX11_best 143 = .ok (.goto 5, 3) := by decide +kernel
theorem dX11_best_146 : decode cX11_best 146 = .ok (.iload 7, 2) := by decide +kernel
theorem dX11_best_148 : decode cX11_best 148 = .ok (.istore 8, 2) := by decide +kernel
theorem dX11_best_150 : decode cX11_best 150 = .ok (.iload 8, 2) := by decide +kernel
theorem dX11_best_152 : decode cX11_best 152 = .ok (.aload_n 0, 1) := by decide +kernel
theorem dX11_best_153 : decode cX11_best 153 = .ok (.getfield 50, 3) := by decide +kernel
theorem dX11_best_156 : decode cX11_best 156 = .ok (.if_icmp .ge 94, 3) := by decide +kernel
theorem dX11_best_159 : decode cX11_best 159 = .ok (.iload_n 1, 1) := by decide +kernel
theorem dX11_best_160 : decode cX11_best 160 = .ok (.iconst 2, 1) := by decide +kernel
theorem dX11_best_161 : decode cX11_best 161 = .ok (.if_icmp .gt 10, 3) := by decide +kernel
theorem dX11_best_164 : decode cX11_best 164 = .ok (.iload 8, 2) := by decide +kernel
theorem dX11_best_166 : decode cX11_best 166 = .ok (.iload 7, 2) := by decide +kernel
theorem dX11_best_168 : decode cX11_best 168 = .ok (.if_icmp .ne 82, 3) := by decide +kernel
theorem dX11_best_171 : decode cX11_best 171 = .ok (.aload_n 0, 1) := by decide +kernel
theorem dX11_best_172 : decode cX11_best 172 = .ok (.getfield 19, 3) := by decide +kernel
theorem dX11_best_175 : decode cX11_best 175 = .ok (.iload 6, 2) := by decide +kernel
theorem dX11_best_177 : decode cX11_best 177 = .ok (.baload, 1) := by decide +kernel
theorem dX11_best_178 : decode cX11_best 178 = .ok (.ifCond .eq 66, 3) := by decide +kernel
theorem dX11_best_181 : decode cX11_best 181 = .ok (.aload_n 0, 1) := by decide +kernel
theorem dX11_best_182 : decode cX11_best 182 = .ok (.getfield 19, 3) := by decide +kernel
theorem dX11_best_185 : decode cX11_best 185 = .ok (.iload 7, 2) := by decide +kernel
theorem dX11_best_187 : decode cX11_best 187 = .ok (.baload, 1) := by decide +kernel
theorem dX11_best_188 : decode cX11_best 188 = .ok (.ifCond .eq 56, 3) := by decide +kernel
theorem dX11_best_191 : decode cX11_best 191 = .ok (.aload_n 0, 1) := by decide +kernel
theorem dX11_best_192 : decode cX11_best 192 = .ok (.getfield 19, 3) := by decide +kernel
theorem dX11_best_195 : decode cX11_best 195 = .ok (.iload 8, 2) := by decide +kernel
theorem dX11_best_197 : decode cX11_best 197 = .ok (.baload, 1) := by decide +kernel
theorem dX11_best_198 : decode cX11_best 198 = .ok (.ifCond .ne 6, 3) := by decide +kernel
theorem dX11_best_201 : decode cX11_best 201 = .ok (.goto 43, 3) := by decide +kernel
theorem dX11_best_204 : decode cX11_best 204 = .ok (.aload_n 0, 1) := by decide +kernel
theorem dX11_best_205 : decode cX11_best 205 = .ok (.iload 6, 2) := by decide +kernel
theorem dX11_best_207 : decode cX11_best 207 = .ok (.iload 7, 2) := by decide +kernel
theorem dX11_best_209 : decode cX11_best 209 = .ok (.iload 8, 2) := by decide +kernel
theorem dX11_best_211 : decode cX11_best 211 = .ok (.invokevirtual 122, 3) := by decide +kernel
theorem dX11_best_214 : decode cX11_best 214 = .ok (.istore 9, 2) := by decide +kernel
theorem dX11_best_216 : decode cX11_best 216 = .ok (.iload_n 2, 1) := by decide +kernel
theorem dX11_best_217 : decode cX11_best 217 = .ok (.iconst (-1), 1) := by decide +kernel
theorem dX11_best_218 : decode cX11_best 218 = .ok (.if_icmp .eq 12, 3) := by decide +kernel
theorem dX11_best_221 : decode cX11_best 221 = .ok (.iload 9, 2) := by decide +kernel
theorem dX11_best_223 : decode cX11_best 223 = .ok (.iload_n 2, 1) := by decide +kernel
theorem dX11_best_224 : decode cX11_best 224 = .ok (.if_icmp .lt 6, 3) := by decide +kernel
theorem dX11_best_227 : decode cX11_best 227 = .ok (.goto 17, 3) := by decide +kernel
theorem dX11_best_230 : decode cX11_best 230 = .ok (.iload 9, 2) := by decide +kernel
theorem dX11_best_232 : decode cX11_best 232 = .ok (.istore_n 2, 1) := by decide +kernel
theorem dX11_best_233 : decode cX11_best 233 = .ok (.iload 6, 2) := by decide +kernel
theorem dX11_best_235 : decode cX11_best 235 = .ok (.istore_n 3, 1) := by decide +kernel
theorem dX11_best_236 : decode cX11_best 236 = .ok (.iload 7, 2) := by decide +kernel
theorem dX11_best_238 : decode cX11_best 238 = .ok (.istore 4, 2) := by decide +kernel
theorem dX11_best_240 : decode cX11_best 240 = .ok (.iload 8, 2) := by decide +kernel
theorem dX11_best_242 : decode cX11_best 242 = .ok (.istore 5, 2) := by decide +kernel
theorem dX11_best_244 : decode cX11_best 244 = .ok (.iinc 8 1, 3) := by decide +kernel
theorem dX11_best_247 : decode cX11_best 247 = .ok (.goto (-97), 3) := by decide +kernel
theorem dX11_best_250 : decode cX11_best 250 = .ok (.iinc 7 1, 3) := by decide +kernel
theorem dX11_best_253 : decode cX11_best 253 = .ok (.goto (-140), 3) := by decide +kernel
theorem dX11_best_256 : decode cX11_best 256 = .ok (.iinc 6 1, 3) := by decide +kernel
theorem dX11_best_259 : decode cX11_best 259 = .ok (.goto (-171), 3) := by decide +kernel
theorem dX11_best_262 : decode cX11_best 262 = .ok (.aload_n 0, 1) := by decide +kernel
theorem dX11_best_263 : decode cX11_best 263 = .ok (.iconst 0, 1) := by decide +kernel
theorem dX11_best_264 : decode cX11_best 264 = .ok (.putfield 93, 3) := by decide +kernel
theorem dX11_best_267 : decode cX11_best 267 = .ok (.aload_n 0, 1) := by decide +kernel
theorem dX11_best_268 : decode cX11_best 268 = .ok (.iload_n 3, 1) := by decide +kernel
theorem dX11_best_269 : decode cX11_best 269 = .ok (.iconst 0, 1) := by decide +kernel
theorem dX11_best_270 : decode cX11_best 270 = .ok (.invokevirtual 103, 3) := by decide +kernel
theorem dX11_best_273 : decode cX11_best 273 = .ok (.iload_n 1, 1) := by decide +kernel
theorem dX11_best_274 : decode cX11_best 274 = .ok (.iconst 1, 1) := by decide +kernel
theorem dX11_best_275 : decode cX11_best 275 = .ok (.if_icmp .le 10, 3) := by decide +kernel
theorem dX11_best_278 : decode cX11_best 278 = .ok (.aload_n 0, 1) := by decide +kernel
theorem dX11_best_279 : decode cX11_best 279 = .ok (.iload 4, 2) := by decide +kernel
theorem dX11_best_281 : decode cX11_best 281 = .ok (.iconst 0, 1) := by decide +kernel
theorem dX11_best_282 : decode cX11_best 282 = .ok (.invokevirtual 103, 3) := by decide +kernel
theorem dX11_best_285 : decode cX11_best 285 = .ok (.iload_n 1, 1) := by decide +kernel
theorem dX11_best_286 : decode cX11_best 286 = .ok (.iconst 2, 1) := by decide +kernel
theorem dX11_best_287 : decode cX11_best 287 = .ok (.if_icmp .le 10, 3) := by decide +kernel
theorem dX11_best_290 : decode cX11_best 290 = .ok (.aload_n 0, 1) := by decide +kernel
theorem dX11_best_291 : decode cX11_best 291 = .ok (.iload 5, 2) := by decide +kernel
theorem dX11_best_293 : decode cX11_best 293 = .ok (.iconst 0, 1) := by decide +kernel
theorem dX11_best_294 : decode cX11_best 294 = .ok (.invokevirtual 103, 3) := by decide +kernel
theorem dX11_best_297 : decode cX11_best 297 = .ok (.iload_n 2, 1) := by decide +kernel
theorem dX11_best_298 : decode cX11_best 298 = .ok (.ireturn, 1) := by decide +kernel
theorem dX11_joins_0 : decode cX11_joins 0 = .ok (.aload_n 0, 1) := by decide +kernel
theorem dX11_joins_1 : decode cX11_joins 1 = .ok (.getfield 41, 3) := by decide +kernel
theorem dX11_joins_4 : decode cX11_joins 4 = .ok (.iload_n 1, 1) := by decide +kernel
theorem dX11_joins_5 : decode cX11_joins 5 = .ok (.iaload, 1) := by decide +kernel
theorem dX11_joins_6 : decode cX11_joins 6 = .ok (.aload_n 0, 1) := by decide +kernel
theorem dX11_joins_7 : decode cX11_joins 7 = .ok (.getfield 41, 3) := by decide +kernel
theorem dX11_joins_10 : decode cX11_joins 10 = .ok (.iload_n 2, 1) := by decide +kernel
theorem dX11_joins_11 : decode cX11_joins 11 = .ok (.iaload, 1) := by decide +kernel
theorem dX11_joins_12 : decode cX11_joins 12 = .ok (.if_icmp .le 12, 3) := by decide +kernel
theorem dX11_joins_15 : decode cX11_joins 15 = .ok (.aload_n 0, 1) := by decide +kernel
theorem dX11_joins_16 : decode cX11_joins 16 = .ok (.getfield 41, 3) := by decide +kernel
theorem dX11_joins_19 : decode cX11_joins 19 = .ok (.iload_n 1, 1) := by decide +kernel
theorem dX11_joins_20 : decode cX11_joins 20 = .ok (.iaload, 1) := by decide +kernel
theorem dX11_joins_21 : decode cX11_joins 21 = .ok (.goto 9, 3) := by decide +kernel
theorem dX11_joins_24 : decode cX11_joins 24 = .ok (.aload_n 0, 1) := by decide +kernel
theorem dX11_joins_25 : decode cX11_joins 25 = .ok (.getfield 41, 3) := by decide +kernel
theorem dX11_joins_28 : decode cX11_joins 28 = .ok (.iload_n 2, 1) := by decide +kernel
theorem dX11_joins_29 : decode cX11_joins 29 = .ok (.iaload, 1) := by decide +kernel
theorem dX11_joins_30 : decode cX11_joins 30 = .ok (.istore_n 3, 1) := by decide +kernel
theorem dX11_joins_31 : decode cX11_joins 31 = .ok (.aload_n 0, 1) := by decide +kernel
theorem dX11_joins_32 : decode cX11_joins 32 = .ok (.getfield 41, 3) := by decide +kernel
theorem dX11_joins_35 : decode cX11_joins 35 = .ok (.iload_n 1, 1) := by decide +kernel
theorem dX11_joins_36 : decode cX11_joins 36 = .ok (.iaload, 1) := by decide +kernel
theorem dX11_joins_37 : decode cX11_joins 37 = .ok (.aload_n 0, 1) := by decide +kernel
theorem dX11_joins_38 : decode cX11_joins 38 = .ok (.getfield 41, 3) := by decide +kernel
theorem dX11_joins_41 : decode cX11_joins 41 = .ok (.iload_n 2, 1) := by decide +kernel
theorem dX11_joins_42 : decode cX11_joins 42 = .ok (.iaload, 1) := by decide +kernel
theorem dX11_joins_43 : decode cX11_joins 43 = .ok (.if_icmp .le 12, 3) := by decide +kernel
theorem dX11_joins_46 : decode cX11_joins 46 = .ok (.aload_n 0, 1) := by decide +kernel
theorem dX11_joins_47 : decode cX11_joins 47 = .ok (.getfield 41, 3) := by decide +kernel
theorem dX11_joins_50 : decode cX11_joins 50 = .ok (.iload_n 2, 1) := by decide +kernel
theorem dX11_joins_51 : decode cX11_joins 51 = .ok (.iaload, 1) := by decide +kernel
theorem dX11_joins_52 : decode cX11_joins 52 = .ok (.goto 9, 3) := by decide +kernel
theorem dX11_joins_55 : decode cX11_joins 55 = .ok (.aload_n 0, 1) := by decide +kernel
theorem dX11_joins_56 : decode cX11_joins 56 = .ok (.getfield 41, 3) := by decide +kernel
theorem dX11_joins_59 : decode cX11_joins 59 = .ok (.iload_n 1, 1) := by decide +kernel
theorem dX11_joins_60 : decode cX11_joins 60 = .ok (.iaload, 1) := by decide +kernel
theorem dX11_joins_61 : decode cX11_joins 61 = .ok (.istore 4, 2) := by decide +kernel
theorem dX11_joins_63 : decode cX11_joins 63 = .ok (.iconst 0, 1) := by decide +kernel
theorem dX11_joins_64 : decode cX11_joins 64 = .ok (.istore 5, 2) := by decide +kernel
theorem dX11_joins_66 : decode cX11_joins 66 = .ok (.iload 5, 2) := by decide +kernel
theorem dX11_joins_68 : decode cX11_joins 68 = .ok (.aload_n 0, 1) := by decide +kernel
theorem dX11_joins_69 : decode cX11_joins 69 = .ok (.getfield 50, 3) := by decide +kernel
theorem dX11_joins_72 : decode cX11_joins 72 = .ok (.if_icmp .ge 39, 3) := by decide +kernel
theorem dX11_joins_75 : decode cX11_joins 75 = .ok (.aload_n 0, 1) := by decide +kernel
theorem dX11_joins_76 : decode cX11_joins 76 = .ok (.getfield 41, 3) := by decide +kernel
theorem dX11_joins_79 : decode cX11_joins 79 = .ok (.iload 5, 2) := by decide +kernel
theorem dX11_joins_81 : decode cX11_joins 81 = .ok (.aload_n 0, 1) := by decide +kernel
theorem dX11_joins_82 : decode cX11_joins 82 = .ok (.getfield 41, 3) := by decide +kernel
theorem dX11_joins_85 : decode cX11_joins 85 = .ok (.iload 5, 2) := by decide +kernel
theorem dX11_joins_87 : decode cX11_joins 87 = .ok (.iaload, 1) := by decide +kernel
theorem dX11_joins_88 : decode cX11_joins 88 = .ok (.iload_n 3, 1) := by decide +kernel
theorem dX11_joins_89 : decode cX11_joins 89 = .ok (.if_icmp .ne 8, 3) := by decide +kernel
theorem dX11_joins_92 : decode cX11_joins 92 = .ok (.iload 4, 2) := by decide +kernel
theorem dX11_joins_94 : decode cX11_joins 94 = .ok (.goto 10, 3) := by decide +kernel
theorem dX11_joins_97 : decode cX11_joins 97 = .ok (.aload_n 0, 1) := by decide +kernel
theorem dX11_joins_98 : decode cX11_joins 98 = .ok (.getfield 41, 3) := by decide +kernel
theorem dX11_joins_101 : decode cX11_joins 101 = .ok (.iload 5, 2) := by decide +kernel
theorem dX11_joins_103 : decode cX11_joins 103 = .ok (.iaload, 1) := by decide +kernel
theorem dX11_joins_104 : decode cX11_joins 104 = .ok (.iastore, 1) := by decide +kernel
theorem dX11_joins_105 : decode cX11_joins 105 = .ok (.iinc 5 1, 3) := by decide +kernel
theorem dX11_joins_108 : decode cX11_joins 108 = .ok (.goto (-42), 3) := by decide +kernel
theorem dX11_joins_111 : decode cX11_joins 111 = .ok (.return_, 1) := by decide +kernel
theorem dX11_alonePieces_0 : decode cX11_alonePieces 0 = .ok (.iconst 0, 1) := by decide +kernel
theorem dX11_alonePieces_1 : decode cX11_alonePieces 1 = .ok (.istore_n 1, 1) := by decide +kernel
theorem dX11_alonePieces_2 : decode cX11_alonePieces 2 = .ok (.iload_n 1, 1) := by decide +kernel
theorem dX11_alonePieces_3 : decode cX11_alonePieces 3 = .ok (.bipush 60, 2) := by decide +kernel
theorem dX11_alonePieces_5 : decode cX11_alonePieces 5 = .ok (.if_icmp .ge 16, 3) := by decide +kernel
theorem dX11_alonePieces_8 : decode cX11_alonePieces 8 = .ok (.aload_n 0, 1) := by decide +kernel
theorem dX11_alonePieces_9 : decode cX11_alonePieces 9 = .ok (.getfield 41, 3) := by decide +kernel
theorem dX11_alonePieces_12 : decode cX11_alonePieces 12 = .ok (.iload_n 1, 1) := by decide +kernel
theorem dX11_alonePieces_13 : decode cX11_alonePieces 13 = .ok (.iload_n 1, 1) := by decide +kernel
theorem dX11_alonePieces_14 : decode cX11_alonePieces 14 = .ok (.iastore, 1) := by decide +kernel
theorem dX11_alonePieces_15 : decode cX11_alonePieces 15 = .ok (.iinc 1 1, 3) := by decide +kernel
theorem dX11_alonePieces_18 : decode cX11_alonePieces 18 = .ok (.goto (-16), 3) := by decide +kernel
theorem dX11_alonePieces_21 : decode cX11_alonePieces 21 = .ok (.return_, 1) := by decide +kernel
theorem dX11_chains_0 : decode cX11_chains 0 = .ok (.aload_n 0, 1) := by decide +kernel
theorem dX11_chains_1 : decode cX11_chains 1 = .ok (.invokevirtual 126, 3) := by decide +kernel
theorem dX11_chains_4 : decode cX11_chains 4 = .ok (.aload_n 0, 1) := by decide +kernel
theorem dX11_chains_5 : decode cX11_chains 5 = .ok (.iconst 0, 1) := by decide +kernel
theorem dX11_chains_6 : decode cX11_chains 6 = .ok (.putfield 129, 3) := by decide +kernel
theorem dX11_chains_9 : decode cX11_chains 9 = .ok (.aload_n 0, 1) := by decide +kernel
theorem dX11_chains_10 : decode cX11_chains 10 = .ok (.invokevirtual 112, 3) := by decide +kernel
theorem dX11_chains_13 : decode cX11_chains 13 = .ok (.istore_n 1, 1) := by decide +kernel
theorem dX11_chains_14 : decode cX11_chains 14 = .ok (.aload_n 0, 1) := by decide +kernel
theorem dX11_chains_15 : decode cX11_chains 15 = .ok (.getfield 129, 3) := by decide +kernel
theorem dX11_chains_18 : decode cX11_chains 18 = .ok (.iconst 1, 1) := by decide +kernel
theorem dX11_chains_19 : decode cX11_chains 19 = .ok (.iadd, 1) := by decide +kernel
theorem dX11_chains_20 : decode cX11_chains 20 = .ok (.iload_n 1, 1) := by decide +kernel
theorem dX11_chains_21 : decode cX11_chains 21 = .ok (.if_icmp .ge 153, 3) := by decide +kernel
theorem dX11_chains_24 : decode cX11_chains 24 = .ok (.iconst (-1), 1) := by decide +kernel
theorem dX11_chains_25 : decode cX11_chains 25 = .ok (.istore_n 2, 1) := by decide +kernel
theorem dX11_chains_26 : decode cX11_chains 26 = .ok (.iconst (-1), 1) := by decide +kernel
theorem dX11_chains_27 : decode cX11_chains 27 = .ok (.istore_n 3, 1) := by decide +kernel
theorem dX11_chains_28 : decode cX11_chains 28 = .ok (.iconst 0, 1) := by decide +kernel
theorem dX11_chains_29 : decode cX11_chains 29 = .ok (.istore 4, 2) := by decide +kernel
theorem dX11_chains_31 : decode cX11_chains 31 = .ok (.iload 4, 2) := by decide +kernel
theorem dX11_chains_33 : decode cX11_chains 33 = .ok (.aload_n 0, 1) := by decide +kernel
theorem dX11_chains_34 : decode cX11_chains 34 = .ok (.getfield 50, 3) := by decide +kernel
theorem dX11_chains_37 : decode cX11_chains 37 = .ok (.if_icmp .ge 98, 3) := by decide +kernel
theorem dX11_chains_40 : decode cX11_chains 40 = .ok (.iload 4, 2) := by decide +kernel
theorem dX11_chains_42 : decode cX11_chains 42 = .ok (.iconst 1, 1) := by decide +kernel
theorem dX11_chains_43 : decode cX11_chains 43 = .ok (.iadd, 1) := by decide +kernel
theorem dX11_chains_44 : decode cX11_chains 44 = .ok (.istore 5, 2) := by decide +kernel
theorem dX11_chains_46 : decode cX11_chains 46 = .ok (.iload 5, 2) := by decide +kernel
theorem dX11_chains_48 : decode cX11_chains 48 = .ok (.aload_n 0, 1) := by decide +kernel
theorem dX11_chains_49 : decode cX11_chains 49 = .ok (.getfield 50, 3) := by decide +kernel
theorem dX11_chains_52 : decode cX11_chains 52 = .ok (.if_icmp .ge 77, 3) := by decide +kernel
theorem dX11_chains_55 : decode cX11_chains 55 = .ok (.aload_n 0, 1) := by decide +kernel
theorem dX11_chains_56 : decode cX11_chains 56 = .ok (.getfield 19, 3) := by decide +kernel
theorem dX11_chains_59 : decode cX11_chains 59 = .ok (.iload 4, 2) := by decide +kernel
theorem dX11_chains_61 : decode cX11_chains 61 = .ok (.baload, 1) := by decide +kernel
theorem dX11_chains_62 : decode cX11_chains 62 = .ok (.ifCond .eq 61, 3) := by decide +kernel
theorem dX11_chains_65 : decode cX11_chains 65 = .ok (.aload_n 0, 1) := by decide +kernel
theorem dX11_chains_66 : decode cX11_chains 66 = .ok (.getfield 19, 3) := by decide +kernel
theorem dX11_chains_69 : decode cX11_chains 69 = .ok (.iload 5, 2) := by decide +kernel
theorem dX11_chains_71 : decode cX11_chains 71 = .ok (.baload, 1) := by decide +kernel
theorem dX11_chains_72 : decode cX11_chains 72 = .ok (.ifCond .eq 51, 3) := by decide +kernel
theorem dX11_chains_75 : decode cX11_chains 75 = .ok (.aload_n 0, 1) := by decide +kernel
theorem dX11_chains_76 : decode cX11_chains 76 = .ok (.getfield 41, 3) := by decide +kernel
theorem dX11_chains_79 : decode cX11_chains 79 = .ok (.iload 4, 2) := by decide +kernel
theorem dX11_chains_81 : decode cX11_chains 81 = .ok (.iaload, 1) := by decide +kernel
theorem dX11_chains_82 : decode cX11_chains 82 = .ok (.aload_n 0, 1) := by decide +kernel
theorem dX11_chains_83 : decode cX11_chains 83 = .ok (.getfield 41, 3) := by decide +kernel
theorem dX11_chains_86 : decode cX11_chains 86 = .ok (.iload 5, 2) := by decide +kernel
theorem dX11_chains_88 : decode cX11_chains 88 = .ok (.iaload, 1) := by decide +kernel
theorem dX11_chains_89 : decode cX11_chains 89 = .ok (.if_icmp .eq 34, 3) := by decide +kernel
theorem dX11_chains_92 : decode cX11_chains 92 = .ok (.iload_n 2, 1) := by decide +kernel
theorem dX11_chains_93 : decode cX11_chains 93 = .ok (.iconst (-1), 1) := by decide +kernel
theorem dX11_chains_94 : decode cX11_chains 94 = .ok (.if_icmp .eq 23, 3) := by decide +kernel
theorem dX11_chains_97 : decode cX11_chains 97 = .ok (.aload_n 0, 1) := by decide +kernel
theorem dX11_chains_98 : decode cX11_chains 98 = .ok (.iload 4, 2) := by decide +kernel
theorem dX11_chains_100 : decode cX11_chains 100 = .ok (.iload 5, 2) := by decide +kernel
theorem dX11_chains_102 : decode cX11_chains 102 = .ok (.invokevirtual 86, 3) := by decide +kernel
theorem dX11_chains_105 : decode cX11_chains 105 = .ok (.aload_n 0, 1) := by decide +kernel
theorem dX11_chains_106 : decode cX11_chains 106 = .ok (.iload_n 2, 1) := by decide +kernel
theorem dX11_chains_107 : decode cX11_chains 107 = .ok (.iload_n 3, 1) := by decide +kernel
theorem dX11_chains_108 : decode cX11_chains 108 = .ok (.invokevirtual 86, 3) := by decide +kernel
theorem dX11_chains_111 : decode cX11_chains 111 = .ok (.if_icmp .lt 6, 3) := by decide +kernel
theorem dX11_chains_114 : decode cX11_chains 114 = .ok (.goto 9, 3) := by decide +kernel
theorem dX11_chains_117 : decode cX11_chains 117 = .ok (.iload 4, 2) := by decide +kernel
theorem dX11_chains_119 : decode cX11_chains 119 = .ok (.istore_n 2, 1) := by decide +kernel
theorem dX11_chains_120 : decode cX11_chains 120 = .ok (.iload 5, 2) := by decide +kernel
theorem dX11_chains_122 : decode cX11_chains 122 = .ok (.istore_n 3, 1) := by decide +kernel
theorem dX11_chains_123 : decode cX11_chains 123 = .ok (.iinc 5 1, 3) := by decide +kernel
theorem dX11_chains_126 : decode cX11_chains 126 = .ok (.goto (-80), 3) := by decide +kernel
theorem dX11_chains_129 : decode cX11_chains 129 = .ok (.iinc 4 1, 3) := by decide +kernel
theorem dX11_chains_132 : decode cX11_chains 132 = .ok (.goto (-101), 3) := by decide +kernel
theorem dX11_chains_135 : decode cX11_chains 135 = .ok (.aload_n 0, 1) := by decide +kernel
theorem dX11_chains_136 : decode cX11_chains 136 = .ok (.getfield 44, 3) := by decide +kernel
theorem dX11_chains_139 : decode cX11_chains 139 = .ok (.aload_n 0, 1) := by decide +kernel
theorem dX11_chains_140 : decode cX11_chains 140 = .ok (.getfield 129, 3) := by decide +kernel
theorem dX11_chains_143 : decode cX11_chains 143 = .ok (.iload_n 2, 1) := by decide +kernel
theorem dX11_chains_144 : decode cX11_chains 144 = .ok (.iastore, 1) := by decide +kernel
theorem dX11_chains_145 : decode cX11_chains 145 = .ok (.aload_n 0, 1) := by decide +kernel
theorem dX11_chains_146 : decode cX11_chains 146 = .ok (.getfield 47, 3) := by decide +kernel
theorem dX11_chains_149 : decode cX11_chains 149 = .ok (.aload_n 0, 1) := by decide +kernel
theorem dX11_chains_150 : decode cX11_chains 150 = .ok (.getfield 129, 3) := by decide +kernel
theorem dX11_chains_153 : decode cX11_chains 153 = .ok (.iload_n 3, 1) := by decide +kernel
theorem dX11_chains_154 : decode cX11_chains 154 = .ok (.iastore, 1) := by decide +kernel
theorem dX11_chains_155 : decode cX11_chains 155 = .ok (.aload_n 0, 1) := by decide +kernel
theorem dX11_chains_156 : decode cX11_chains 156 = .ok (.dup, 1) := by decide +kernel
theorem dX11_chains_157 : decode cX11_chains 157 = .ok (.getfield 129, 3) := by decide +kernel
theorem dX11_chains_160 : decode cX11_chains 160 = .ok (.iconst 1, 1) := by decide +kernel
theorem dX11_chains_161 : decode cX11_chains 161 = .ok (.iadd, 1) := by decide +kernel
theorem dX11_chains_162 : decode cX11_chains 162 = .ok (.putfield 129, 3) := by decide +kernel
theorem dX11_chains_165 : decode cX11_chains 165 = .ok (.aload_n 0, 1) := by decide +kernel
theorem dX11_chains_166 : decode cX11_chains 166 = .ok (.iload_n 2, 1) := by decide +kernel
theorem dX11_chains_167 : decode cX11_chains 167 = .ok (.iload_n 3, 1) := by decide +kernel
theorem dX11_chains_168 : decode cX11_chains 168 = .ok (.invokevirtual 132, 3) := by decide +kernel
theorem dX11_chains_171 : decode cX11_chains 171 = .ok (.goto (-157), 3) := by decide +kernel
theorem dX11_chains_174 : decode cX11_chains 174 = .ok (.return_, 1) := by decide +kernel
theorem dX11_chain_0 : decode cX11_chain 0 = .ok (.iload_n 1, 1) := by decide +kernel
theorem dX11_chain_1 : decode cX11_chain 1 = .ok (.iconst 0, 1) := by decide +kernel
theorem dX11_chain_2 : decode cX11_chain 2 = .ok (.iconst 1, 1) := by decide +kernel
theorem dX11_chain_3 : decode cX11_chain 3 = .ok (.invokestatic 54, 3) := by decide +kernel
theorem dX11_chain_6 : decode cX11_chain 6 = .ok (.ifCond .eq 10, 3) := by decide +kernel
theorem dX11_chain_9 : decode cX11_chain 9 = .ok (.aload_n 0, 1) := by decide +kernel
theorem dX11_chain_10 : decode cX11_chain 10 = .ok (.invokevirtual 89, 3) := by decide +kernel
theorem dX11_chain_13 : decode cX11_chain 13 = .ok (.ifCond .ne 7, 3) := by decide +kernel
theorem dX11_chain_16 : decode cX11_chain 16 = .ok (.ldc2_w 135, 3) := by decide +kernel
theorem dX11_chain_19 : decode cX11_chain 19 = .ok (.lreturn, 1) := by decide +kernel
theorem dX11_chain_20 : decode cX11_chain 20 = .ok (.aload_n 0, 1) := by decide +kernel
theorem dX11_chain_21 : decode cX11_chain 21 = .ok (.invokevirtual 137, 3) := by decide +kernel
theorem dX11_chain_24 : decode cX11_chain 24 = .ok (.lconst 0, 1) := by decide +kernel
theorem dX11_chain_25 : decode cX11_chain 25 = .ok (.lstore_n 2, 1) := by decide +kernel
theorem dX11_chain_26 : decode cX11_chain 26 = .ok (.iconst 0, 1) := by decide +kernel
theorem dX11_chain_27 : decode cX11_chain 27 = .ok (.istore 4, 2) := by decide +kernel
theorem dX11_chain_29 : decode cX11_chain 29 = .ok (.iload 4, 2) := by decide +kernel
theorem dX11_chain_31 : decode cX11_chain 31 = .ok (.aload_n 0, 1) := by decide +kernel
theorem dX11_chain_32 : decode cX11_chain 32 = .ok (.getfield 129, 3) := by decide +kernel
theorem dX11_chain_35 : decode cX11_chain 35 = .ok (.if_icmp .ge 31, 3) := by decide +kernel
theorem dX11_chain_38 : decode cX11_chain 38 = .ok (.lload_n 2, 1) := by decide +kernel
theorem dX11_chain_39 : decode cX11_chain 39 = .ok (.aload_n 0, 1) := by decide +kernel
theorem dX11_chain_40 : decode cX11_chain 40 = .ok (.aload_n 0, 1) := by decide +kernel
theorem dX11_chain_41 : decode cX11_chain 41 = .ok (.getfield 44, 3) := by decide +kernel
theorem dX11_chain_44 : decode cX11_chain 44 = .ok (.iload 4, 2) := by decide +kernel
theorem dX11_chain_46 : decode cX11_chain 46 = .ok (.iaload, 1) := by decide +kernel
theorem dX11_chain_47 : decode cX11_chain 47 = .ok (.aload_n 0, 1) := by decide +kernel
theorem dX11_chain_48 : decode cX11_chain 48 = .ok (.getfield 47, 3) := by decide +kernel
theorem dX11_chain_51 : decode cX11_chain 51 = .ok (.iload 4, 2) := by decide +kernel
theorem dX11_chain_53 : decode cX11_chain 53 = .ok (.iaload, 1) := by decide +kernel
theorem dX11_chain_54 : decode cX11_chain 54 = .ok (.invokevirtual 86, 3) := by decide +kernel
theorem dX11_chain_57 : decode cX11_chain 57 = .ok (.i2l, 1) := by decide +kernel
theorem dX11_chain_58 : decode cX11_chain 58 = .ok (.ladd, 1) := by decide +kernel
theorem dX11_chain_59 : decode cX11_chain 59 = .ok (.lstore_n 2, 1) := by decide +kernel
theorem dX11_chain_60 : decode cX11_chain 60 = .ok (.iinc 4 1, 3) := by decide +kernel
theorem dX11_chain_63 : decode cX11_chain 63 = .ok (.goto (-34), 3) := by decide +kernel
theorem dX11_chain_66 : decode cX11_chain 66 = .ok (.iload_n 1, 1) := by decide +kernel
theorem dX11_chain_67 : decode cX11_chain 67 = .ok (.ifCond .ne 11, 3) := by decide +kernel
theorem dX11_chain_70 : decode cX11_chain 70 = .ok (.aload_n 0, 1) := by decide +kernel
theorem dX11_chain_71 : decode cX11_chain 71 = .ok (.getfield 129, 3) := by decide +kernel
theorem dX11_chain_74 : decode cX11_chain 74 = .ok (.i2l, 1) := by decide +kernel
theorem dX11_chain_75 : decode cX11_chain 75 = .ok (.goto 4, 3) := by decide +kernel
theorem dX11_chain_78 : decode cX11_chain 78 = .ok (.lload_n 2, 1) := by decide +kernel
theorem dX11_chain_79 : decode cX11_chain 79 = .ok (.lreturn, 1) := by decide +kernel
theorem dX11_pair_0 : decode cX11_pair 0 = .ok (.iload_n 2, 1) := by decide +kernel
theorem dX11_pair_1 : decode cX11_pair 1 = .ok (.iconst 0, 1) := by decide +kernel
theorem dX11_pair_2 : decode cX11_pair 2 = .ok (.iconst 2, 1) := by decide +kernel
theorem dX11_pair_3 : decode cX11_pair 3 = .ok (.invokestatic 54, 3) := by decide +kernel
theorem dX11_pair_6 : decode cX11_pair 6 = .ok (.ifCond .eq 10, 3) := by decide +kernel
theorem dX11_pair_9 : decode cX11_pair 9 = .ok (.aload_n 0, 1) := by decide +kernel
theorem dX11_pair_10 : decode cX11_pair 10 = .ok (.invokevirtual 89, 3) := by decide +kernel
theorem dX11_pair_13 : decode cX11_pair 13 = .ok (.ifCond .ne 5, 3) := by decide +kernel
theorem dX11_pair_16 : decode cX11_pair 16 = .ok (.iconst (-1), 1) := by decide +kernel
theorem dX11_pair_17 : decode cX11_pair 17 = .ok (.ireturn, 1) := by decide +kernel
theorem dX11_pair_18 : decode cX11_pair 18 = .ok (.aload_n 0, 1) := by decide +kernel
theorem dX11_pair_19 : decode cX11_pair 19 = .ok (.invokevirtual 137, 3) := by decide +kernel
theorem dX11_pair_22 : decode cX11_pair 22 = .ok (.iload_n 1, 1) := by decide +kernel
theorem dX11_pair_23 : decode cX11_pair 23 = .ok (.iconst 0, 1) := by decide +kernel
theorem dX11_pair_24 : decode cX11_pair 24 = .ok (.aload_n 0, 1) := by decide +kernel
theorem dX11_pair_25 : decode cX11_pair 25 = .ok (.getfield 129, 3) := by decide +kernel
theorem dX11_pair_28 : decode cX11_pair 28 = .ok (.iconst 1, 1) := by decide +kernel
theorem dX11_pair_29 : decode cX11_pair 29 = .ok (.isub, 1) := by decide +kernel
theorem dX11_pair_30 : decode cX11_pair 30 = .ok (.invokestatic 54, 3) := by decide +kernel
theorem dX11_pair_33 : decode cX11_pair 33 = .ok (.ifCond .ne 5, 3) := by decide +kernel
theorem dX11_pair_36 : decode cX11_pair 36 = .ok (.iconst (-1), 1) := by decide +kernel
theorem dX11_pair_37 : decode cX11_pair 37 = .ok (.ireturn, 1) := by decide +kernel
theorem dX11_pair_38 : decode cX11_pair 38 = .ok (.iload_n 2, 1) := by decide +kernel
theorem dX11_pair_39 : decode cX11_pair 39 = .ok (.ifCond .ne 12, 3) := by decide +kernel
theorem dX11_pair_42 : decode cX11_pair 42 = .ok (.aload_n 0, 1) := by decide +kernel
theorem dX11_pair_43 : decode cX11_pair 43 = .ok (.getfield 44, 3) := by decide +kernel
theorem dX11_pair_46 : decode cX11_pair 46 = .ok (.iload_n 1, 1) := by decide +kernel
theorem dX11_pair_47 : decode cX11_pair 47 = .ok (.iaload, 1) := by decide +kernel
theorem dX11_pair_48 : decode cX11_pair 48 = .ok (.goto 33, 3) := by decide +kernel
theorem dX11_pair_51 : decode cX11_pair 51 = .ok (.iload_n 2, 1) := by decide +kernel
theorem dX11_pair_52 : decode cX11_pair 52 = .ok (.iconst 1, 1) := by decide +kernel
theorem dX11_pair_53 : decode cX11_pair 53 = .ok (.if_icmp .ne 12, 3) := by decide +kernel
theorem dX11_pair_56 : decode cX11_pair 56 = .ok (.aload_n 0, 1) := by decide +kernel
theorem dX11_pair_57 : decode cX11_pair 57 = .ok (.getfield 47, 3) := by decide +kernel
theorem dX11_pair_60 : decode cX11_pair 60 = .ok (.iload_n 1, 1) := by decide +kernel
theorem dX11_pair_61 : decode cX11_pair 61 = .ok (.iaload, 1) := by decide +kernel
theorem dX11_pair_62 : decode cX11_pair 62 = .ok (.goto 19, 3) := by decide +kernel
theorem dX11_pair_65 : decode cX11_pair 65 = .ok (.aload_n 0, 1) := by decide +kernel
theorem dX11_pair_66 : decode cX11_pair 66 = .ok (.aload_n 0, 1) := by decide +kernel
theorem dX11_pair_67 : decode cX11_pair 67 = .ok (.getfield 44, 3) := by decide +kernel
theorem dX11_pair_70 : decode cX11_pair 70 = .ok (.iload_n 1, 1) := by decide +kernel
theorem dX11_pair_71 : decode cX11_pair 71 = .ok (.iaload, 1) := by decide +kernel
theorem dX11_pair_72 : decode cX11_pair 72 = .ok (.aload_n 0, 1) := by decide +kernel
theorem dX11_pair_73 : decode cX11_pair 73 = .ok (.getfield 47, 3) := by decide +kernel
theorem dX11_pair_76 : decode cX11_pair 76 = .ok (.iload_n 1, 1) := by decide +kernel
theorem dX11_pair_77 : decode cX11_pair 77 = .ok (.iaload, 1) := by decide +kernel
theorem dX11_pair_78 : decode cX11_pair 78 = .ok (.invokevirtual 86, 3) := by decide +kernel
theorem dX11_pair_81 : decode cX11_pair 81 = .ok (.ireturn, 1) := by decide +kernel
theorem dX11_pieces_0 : decode cX11_pieces 0 = .ok (.aload_n 0, 1) := by decide +kernel
theorem dX11_pieces_1 : decode cX11_pieces 1 = .ok (.invokevirtual 126, 3) := by decide +kernel
theorem dX11_pieces_4 : decode cX11_pieces 4 = .ok (.iconst 0, 1) := by decide +kernel
theorem dX11_pieces_5 : decode cX11_pieces 5 = .ok (.istore_n 2, 1) := by decide +kernel
theorem dX11_pieces_6 : decode cX11_pieces 6 = .ok (.iload_n 2, 1) := by decide +kernel
theorem dX11_pieces_7 : decode cX11_pieces 7 = .ok (.aload_n 0, 1) := by decide +kernel
theorem dX11_pieces_8 : decode cX11_pieces 8 = .ok (.getfield 50, 3) := by decide +kernel
theorem dX11_pieces_11 : decode cX11_pieces 11 = .ok (.if_icmp .ge 76, 3) := by decide +kernel
theorem dX11_pieces_14 : decode cX11_pieces 14 = .ok (.iload_n 2, 1) := by decide +kernel
theorem dX11_pieces_15 : decode cX11_pieces 15 = .ok (.iconst 1, 1) := by decide +kernel
theorem dX11_pieces_16 : decode cX11_pieces 16 = .ok (.iadd, 1) := by decide +kernel
theorem dX11_pieces_17 : decode cX11_pieces 17 = .ok (.istore_n 3, 1) := by decide +kernel
theorem dX11_pieces_18 : decode cX11_pieces 18 = .ok (.iload_n 3, 1) := by decide +kernel
theorem dX11_pieces_19 : decode cX11_pieces 19 = .ok (.aload_n 0, 1) := by decide +kernel
theorem dX11_pieces_20 : decode cX11_pieces 20 = .ok (.getfield 50, 3) := by decide +kernel
theorem dX11_pieces_23 : decode cX11_pieces 23 = .ok (.if_icmp .ge 58, 3) := by decide +kernel
theorem dX11_pieces_26 : decode cX11_pieces 26 = .ok (.aload_n 0, 1) := by decide +kernel
theorem dX11_pieces_27 : decode cX11_pieces 27 = .ok (.getfield 19, 3) := by decide +kernel
theorem dX11_pieces_30 : decode cX11_pieces 30 = .ok (.iload_n 2, 1) := by decide +kernel
theorem dX11_pieces_31 : decode cX11_pieces 31 = .ok (.baload, 1) := by decide +kernel
theorem dX11_pieces_32 : decode cX11_pieces 32 = .ok (.ifCond .eq 43, 3) := by decide +kernel
theorem dX11_pieces_35 : decode cX11_pieces 35 = .ok (.aload_n 0, 1) := by decide +kernel
theorem dX11_pieces_36 : decode cX11_pieces 36 = .ok (.getfield 19, 3) := by decide +kernel
theorem dX11_pieces_39 : decode cX11_pieces 39 = .ok (.iload_n 3, 1) := by decide +kernel
theorem dX11_pieces_40 : decode cX11_pieces 40 = .ok (.baload, 1) := by decide +kernel
theorem dX11_pieces_41 : decode cX11_pieces 41 = .ok (.ifCond .eq 34, 3) := by decide +kernel
theorem dX11_pieces_44 : decode cX11_pieces 44 = .ok (.aload_n 0, 1) := by decide +kernel
theorem dX11_pieces_45 : decode cX11_pieces 45 = .ok (.getfield 41, 3) := by decide +kernel
theorem dX11_pieces_48 : decode cX11_pieces 48 = .ok (.iload_n 2, 1) := by decide +kernel
theorem dX11_pieces_49 : decode cX11_pieces 49 = .ok (.iaload, 1) := by decide +kernel
theorem dX11_pieces_50 : decode cX11_pieces 50 = .ok (.aload_n 0, 1) := by decide +kernel
theorem dX11_pieces_51 : decode cX11_pieces 51 = .ok (.getfield 41, 3) := by decide +kernel
theorem dX11_pieces_54 : decode cX11_pieces 54 = .ok (.iload_n 3, 1) := by decide +kernel
theorem dX11_pieces_55 : decode cX11_pieces 55 = .ok (.iaload, 1) := by decide +kernel
theorem dX11_pieces_56 : decode cX11_pieces 56 = .ok (.if_icmp .eq 19, 3) := by decide +kernel
theorem dX11_pieces_59 : decode cX11_pieces 59 = .ok (.aload_n 0, 1) := by decide +kernel
theorem dX11_pieces_60 : decode cX11_pieces 60 = .ok (.iload_n 2, 1) := by decide +kernel
theorem dX11_pieces_61 : decode cX11_pieces 61 = .ok (.iload_n 3, 1) := by decide +kernel
theorem dX11_pieces_62 : decode cX11_pieces 62 = .ok (.invokevirtual 86, 3) := by decide +kernel
theorem dX11_pieces_65 : decode cX11_pieces 65 = .ok (.iload_n 1, 1) := by decide +kernel
theorem dX11_pieces_66 : decode cX11_pieces 66 = .ok (.if_icmp .gt 9, 3) := by decide +kernel
theorem dX11_pieces_69 : decode cX11_pieces 69 = .ok (.aload_n 0, 1) := by decide +kernel
theorem dX11_pieces_70 : decode cX11_pieces 70 = .ok (.iload_n 2, 1) := by decide +kernel
theorem dX11_pieces_71 : decode cX11_pieces 71 = .ok (.iload_n 3, 1) := by decide +kernel
theorem dX11_pieces_72 : decode cX11_pieces 72 = .ok (.invokevirtual 132, 3) := by decide +kernel
theorem dX11_pieces_75 : decode cX11_pieces 75 = .ok (.iinc 3 1, 3) := by decide +kernel
theorem dX11_pieces_78 : decode cX11_pieces 78 = .ok (.goto (-60), 3) := by decide +kernel
theorem dX11_pieces_81 : decode cX11_pieces 81 = .ok (.iinc 2 1, 3) := by decide +kernel
theorem dX11_pieces_84 : decode cX11_pieces 84 = .ok (.goto (-78), 3) := by decide +kernel
theorem dX11_pieces_87 : decode cX11_pieces 87 = .ok (.return_, 1) := by decide +kernel
theorem dX11_clusters_0 : decode cX11_clusters 0 = .ok (.iload_n 1, 1) := by decide +kernel
theorem dX11_clusters_1 : decode cX11_clusters 1 = .ok (.ifCond .lt 10, 3) := by decide +kernel
theorem dX11_clusters_4 : decode cX11_clusters 4 = .ok (.aload_n 0, 1) := by decide +kernel
theorem dX11_clusters_5 : decode cX11_clusters 5 = .ok (.invokevirtual 89, 3) := by decide +kernel
theorem dX11_clusters_8 : decode cX11_clusters 8 = .ok (.ifCond .ne 5, 3) := by decide +kernel
theorem dX11_clusters_11 : decode cX11_clusters 11 = .ok (.iconst (-1), 1) := by decide +kernel
theorem dX11_clusters_12 : decode cX11_clusters 12 = .ok (.ireturn, 1) := by decide +kernel
theorem dX11_clusters_13 : decode cX11_clusters 13 = .ok (.aload_n 0, 1) := by decide +kernel
theorem dX11_clusters_14 : decode cX11_clusters 14 = .ok (.iload_n 1, 1) := by decide +kernel
theorem dX11_clusters_15 : decode cX11_clusters 15 = .ok (.invokevirtual 140, 3) := by decide +kernel
theorem dX11_clusters_18 : decode cX11_clusters 18 = .ok (.iconst 0, 1) := by decide +kernel
theorem dX11_clusters_19 : decode cX11_clusters 19 = .ok (.istore_n 2, 1) := by decide +kernel
theorem dX11_clusters_20 : decode cX11_clusters 20 = .ok (.iconst 0, 1) := by decide +kernel
theorem dX11_clusters_21 : decode cX11_clusters 21 = .ok (.istore_n 3, 1) := by decide +kernel
theorem dX11_clusters_22 : decode cX11_clusters 22 = .ok (.iload_n 3, 1) := by decide +kernel
theorem dX11_clusters_23 : decode cX11_clusters 23 = .ok (.aload_n 0, 1) := by decide +kernel
theorem dX11_clusters_24 : decode cX11_clusters 24 = .ok (.getfield 50, 3) := by decide +kernel
theorem dX11_clusters_27 : decode cX11_clusters 27 = .ok (.if_icmp .ge 36, 3) := by decide +kernel
theorem dX11_clusters_30 : decode cX11_clusters 30 = .ok (.iload_n 2, 1) := by decide +kernel
theorem dX11_clusters_31 : decode cX11_clusters 31 = .ok (.aload_n 0, 1) := by decide +kernel
theorem dX11_clusters_32 : decode cX11_clusters 32 = .ok (.getfield 19, 3) := by decide +kernel
theorem dX11_clusters_35 : decode cX11_clusters 35 = .ok (.iload_n 3, 1) := by decide +kernel
theorem dX11_clusters_36 : decode cX11_clusters 36 = .ok (.baload, 1) := by decide +kernel
theorem dX11_clusters_37 : decode cX11_clusters 37 = .ok (.ifCond .eq 17, 3) := by decide +kernel
theorem dX11_clusters_40 : decode cX11_clusters 40 = .ok (.aload_n 0, 1) := by decide +kernel
theorem dX11_clusters_41 : decode cX11_clusters 41 = .ok (.getfield 41, 3) := by decide +kernel
theorem dX11_clusters_44 : decode cX11_clusters 44 = .ok (.iload_n 3, 1) := by decide +kernel
theorem dX11_clusters_45 : decode cX11_clusters 45 = .ok (.iaload, 1) := by decide +kernel
theorem dX11_clusters_46 : decode cX11_clusters 46 = .ok (.iload_n 3, 1) := by decide +kernel
theorem dX11_clusters_47 : decode cX11_clusters 47 = .ok (.if_icmp .ne 7, 3) := by decide +kernel
theorem dX11_clusters_50 : decode cX11_clusters 50 = .ok (.iconst 1, 1) := by decide +kernel
theorem dX11_clusters_51 : decode cX11_clusters 51 = .ok (.goto 4, 3) := by decide +kernel
theorem dX11_clusters_54 : decode cX11_clusters 54 = .ok (.iconst 0, 1) := by decide +kernel
theorem dX11_clusters_55 : decode cX11_clusters 55 = .ok (.iadd, 1) := by decide +kernel
theorem dX11_clusters_56 : decode cX11_clusters 56 = .ok (.istore_n 2, 1) := by decide +kernel
theorem dX11_clusters_57 : decode cX11_clusters 57 = .ok (.iinc 3 1, 3) := by decide +kernel
theorem dX11_clusters_60 : decode cX11_clusters 60 = .ok (.goto (-38), 3) := by decide +kernel
theorem dX11_clusters_63 : decode cX11_clusters 63 = .ok (.iload_n 2, 1) := by decide +kernel
theorem dX11_clusters_64 : decode cX11_clusters 64 = .ok (.ireturn, 1) := by decide +kernel
theorem dX11_cluster_0 : decode cX11_cluster 0 = .ok (.aload_n 0, 1) := by decide +kernel
theorem dX11_cluster_1 : decode cX11_cluster 1 = .ok (.iload_n 1, 1) := by decide +kernel
theorem dX11_cluster_2 : decode cX11_cluster 2 = .ok (.invokevirtual 58, 3) := by decide +kernel
theorem dX11_cluster_5 : decode cX11_cluster 5 = .ok (.ifCond .eq 23, 3) := by decide +kernel
theorem dX11_cluster_8 : decode cX11_cluster 8 = .ok (.aload_n 0, 1) := by decide +kernel
theorem dX11_cluster_9 : decode cX11_cluster 9 = .ok (.getfield 19, 3) := by decide +kernel
theorem dX11_cluster_12 : decode cX11_cluster 12 = .ok (.iload_n 1, 1) := by decide +kernel
theorem dX11_cluster_13 : decode cX11_cluster 13 = .ok (.baload, 1) := by decide +kernel
theorem dX11_cluster_14 : decode cX11_cluster 14 = .ok (.ifCond .eq 14, 3) := by decide +kernel
theorem dX11_cluster_17 : decode cX11_cluster 17 = .ok (.iload_n 2, 1) := by decide +kernel
theorem dX11_cluster_18 : decode cX11_cluster 18 = .ok (.ifCond .lt 10, 3) := by decide +kernel
theorem dX11_cluster_21 : decode cX11_cluster 21 = .ok (.aload_n 0, 1) := by decide +kernel
theorem dX11_cluster_22 : decode cX11_cluster 22 = .ok (.invokevirtual 89, 3) := by decide +kernel
theorem dX11_cluster_25 : decode cX11_cluster 25 = .ok (.ifCond .ne 5, 3) := by decide +kernel
theorem dX11_cluster_28 : decode cX11_cluster 28 = .ok (.iconst (-1), 1) := by decide +kernel
theorem dX11_cluster_29 : decode cX11_cluster 29 = .ok (.ireturn, 1) := by decide +kernel
theorem dX11_cluster_30 : decode cX11_cluster 30 = .ok (.aload_n 0, 1) := by decide +kernel
theorem dX11_cluster_31 : decode cX11_cluster 31 = .ok (.iload_n 2, 1) := by decide +kernel
theorem dX11_cluster_32 : decode cX11_cluster 32 = .ok (.invokevirtual 140, 3) := by decide +kernel
theorem dX11_cluster_35 : decode cX11_cluster 35 = .ok (.aload_n 0, 1) := by decide +kernel
theorem dX11_cluster_36 : decode cX11_cluster 36 = .ok (.getfield 41, 3) := by decide +kernel
theorem dX11_cluster_39 : decode cX11_cluster 39 = .ok (.iload_n 1, 1) := by decide +kernel
theorem dX11_cluster_40 : decode cX11_cluster 40 = .ok (.iaload, 1) := by decide +kernel
theorem dX11_cluster_41 : decode cX11_cluster 41 = .ok (.ireturn, 1) := by decide +kernel
theorem dX11_net_0 : decode cX11_net 0 = .ok (.iload_n 1, 1) := by decide +kernel
theorem dX11_net_1 : decode cX11_net 1 = .ok (.ifCond .lt 10, 3) := by decide +kernel
theorem dX11_net_4 : decode cX11_net 4 = .ok (.aload_n 0, 1) := by decide +kernel
theorem dX11_net_5 : decode cX11_net 5 = .ok (.invokevirtual 89, 3) := by decide +kernel
theorem dX11_net_8 : decode cX11_net 8 = .ok (.ifCond .ne 5, 3) := by decide +kernel
theorem dX11_net_11 : decode cX11_net 11 = .ok (.iconst (-1), 1) := by decide +kernel
theorem dX11_net_12 : decode cX11_net 12 = .ok (.ireturn, 1) := by decide +kernel
theorem dX11_net_13 : decode cX11_net 13 = .ok (.aload_n 0, 1) := by decide +kernel
theorem dX11_net_14 : decode cX11_net 14 = .ok (.iconst 0, 1) := by decide +kernel
theorem dX11_net_15 : decode cX11_net 15 = .ok (.putfield 93, 3) := by decide +kernel
theorem dX11_net_18 : decode cX11_net 18 = .ok (.iconst 0, 1) := by decide +kernel
theorem dX11_net_19 : decode cX11_net 19 = .ok (.istore_n 2, 1) := by decide +kernel
theorem dX11_net_20 : decode cX11_net 20 = .ok (.iload_n 2, 1) := by decide +kernel
theorem dX11_net_21 : decode cX11_net 21 = .ok (.aload_n 0, 1) := by decide +kernel
theorem dX11_net_22 : decode cX11_net 22 = .ok (.getfield 50, 3) := by decide +kernel
theorem dX11_net_25 : decode cX11_net 25 = .ok (.if_icmp .ge 49, 3) := by decide +kernel
theorem dX11_net_28 : decode cX11_net 28 = .ok (.aload_n 0, 1) := by decide +kernel
theorem dX11_net_29 : decode cX11_net 29 = .ok (.getfield 19, 3) := by decide +kernel
theorem dX11_net_32 : decode cX11_net 32 = .ok (.iload_n 2, 1) := by decide +kernel
theorem dX11_net_33 : decode cX11_net 33 = .ok (.baload, 1) := by decide +kernel
theorem dX11_net_34 : decode cX11_net 34 = .ok (.ifCond .eq 12, 3) := by decide +kernel
theorem dX11_net_37 : decode cX11_net 37 = .ok (.aload_n 0, 1) := by decide +kernel
theorem dX11_net_38 : decode cX11_net 38 = .ok (.iload_n 2, 1) := by decide +kernel
theorem dX11_net_39 : decode cX11_net 39 = .ok (.invokevirtual 116, 3) := by decide +kernel
theorem dX11_net_42 : decode cX11_net 42 = .ok (.iload_n 1, 1) := by decide +kernel
theorem dX11_net_43 : decode cX11_net 43 = .ok (.if_icmp .gt 19, 3) := by decide +kernel
theorem dX11_net_46 : decode cX11_net 46 = .ok (.aload_n 0, 1) := by decide +kernel
theorem dX11_net_47 : decode cX11_net 47 = .ok (.getfield 19, 3) := by decide +kernel
theorem dX11_net_50 : decode cX11_net 50 = .ok (.iload_n 2, 1) := by decide +kernel
theorem dX11_net_51 : decode cX11_net 51 = .ok (.baload, 1) := by decide +kernel
theorem dX11_net_52 : decode cX11_net 52 = .ok (.ifCond .eq 16, 3) := by decide +kernel
theorem dX11_net_55 : decode cX11_net 55 = .ok (.aload_n 0, 1) := by decide +kernel
theorem dX11_net_56 : decode cX11_net 56 = .ok (.getfield 93, 3) := by decide +kernel
theorem dX11_net_59 : decode cX11_net 59 = .ok (.ifCond .ne 9, 3) := by decide +kernel
theorem dX11_net_62 : decode cX11_net 62 = .ok (.aload_n 0, 1) := by decide +kernel
theorem dX11_net_63 : decode cX11_net 63 = .ok (.iload_n 2, 1) := by decide +kernel
theorem dX11_net_64 : decode cX11_net 64 = .ok (.iconst 0, 1) := by decide +kernel
theorem dX11_net_65 : decode cX11_net 65 = .ok (.invokevirtual 103, 3) := by decide +kernel
theorem dX11_net_68 : decode cX11_net 68 = .ok (.iinc 2 1, 3) := by decide +kernel
theorem dX11_net_71 : decode cX11_net 71 = .ok (.goto (-51), 3) := by decide +kernel
theorem dX11_net_74 : decode cX11_net 74 = .ok (.aload_n 0, 1) := by decide +kernel
theorem dX11_net_75 : decode cX11_net 75 = .ok (.getfield 93, 3) := by decide +kernel
theorem dX11_net_78 : decode cX11_net 78 = .ok (.ireturn, 1) := by decide +kernel
theorem dX11_middle_0 : decode cX11_middle 0 = .ok (.iload_n 1, 1) := by decide +kernel
theorem dX11_middle_1 : decode cX11_middle 1 = .ok (.iconst 0, 1) := by decide +kernel
theorem dX11_middle_2 : decode cX11_middle 2 = .ok (.iconst 1, 1) := by decide +kernel
theorem dX11_middle_3 : decode cX11_middle 3 = .ok (.invokestatic 54, 3) := by decide +kernel
theorem dX11_middle_6 : decode cX11_middle 6 = .ok (.ifCond .eq 17, 3) := by decide +kernel
theorem dX11_middle_9 : decode cX11_middle 9 = .ok (.aload_n 0, 1) := by decide +kernel
theorem dX11_middle_10 : decode cX11_middle 10 = .ok (.invokevirtual 112, 3) := by decide +kernel
theorem dX11_middle_13 : decode cX11_middle 13 = .ok (.ifCond .eq 10, 3) := by decide +kernel
theorem dX11_middle_16 : decode cX11_middle 16 = .ok (.aload_n 0, 1) := by decide +kernel
theorem dX11_middle_17 : decode cX11_middle 17 = .ok (.invokevirtual 89, 3) := by decide +kernel
theorem dX11_middle_20 : decode cX11_middle 20 = .ok (.ifCond .ne 7, 3) := by decide +kernel
theorem dX11_middle_23 : decode cX11_middle 23 = .ok (.ldc2_w 135, 3) := by decide +kernel
theorem dX11_middle_26 : decode cX11_middle 26 = .ok (.lreturn, 1) := by decide +kernel
theorem dX11_middle_27 : decode cX11_middle 27 = .ok (.iconst (-1), 1) := by decide +kernel
theorem dX11_middle_28 : decode cX11_middle 28 = .ok (.istore_n 2, 1) := by decide +kernel
theorem dX11_middle_29 : decode cX11_middle 29 = .ok (.lconst 0, 1) := by decide +kernel
theorem dX11_middle_30 : decode cX11_middle 30 = .ok (.lstore_n 3, 1) := by decide +kernel
theorem dX11_middle_31 : decode cX11_middle 31 = .ok (.iconst 0, 1) := by decide +kernel
theorem dX11_middle_32 : decode cX11_middle 32 = .ok (.istore 5, 2) := by decide +kernel
theorem dX11_middle_34 : decode cX11_middle 34 = .ok (.iload 5, 2) := by decide +kernel
theorem dX11_middle_36 : decode cX11_middle 36 = .ok (.aload_n 0, 1) := by decide +kernel
theorem dX11_middle_37 : decode cX11_middle 37 = .ok (.getfield 50, 3) := by decide +kernel
theorem dX11_middle_40 : decode cX11_middle 40 = .ok (.if_icmp .ge 92, 3) := by decide +kernel
theorem dX11_middle_43 : decode cX11_middle 43 = .ok (.aload_n 0, 1) := by decide +kernel
theorem dX11_middle_44 : decode cX11_middle 44 = .ok (.getfield 19, 3) := by decide +kernel
theorem dX11_middle_47 : decode cX11_middle 47 = .ok (.iload 5, 2) := by decide +kernel
theorem dX11_middle_49 : decode cX11_middle 49 = .ok (.baload, 1) := by decide +kernel
theorem dX11_middle_50 : decode cX11_middle 50 = .ok (.ifCond .ne 6, 3) := by decide +kernel
theorem dX11_middle_53 : decode cX11_middle 53 = .ok (.goto 73, 3) := by decide +kernel
theorem dX11_middle_56 : decode cX11_middle 56 = .ok (.lconst 0, 1) := by decide +kernel
theorem dX11_middle_57 : decode cX11_middle 57 = .ok (.lstore 6, 2) := by decide +kernel
theorem dX11_middle_59 : decode cX11_middle 59 = .ok (.iconst 0, 1) := by decide +kernel
theorem dX11_middle_60 : decode cX11_middle 60 = .ok (.istore 8, 2) := by decide +kernel
theorem dX11_middle_62 : decode cX11_middle 62 = .ok (.iload 8, 2) := by decide +kernel
theorem dX11_middle_64 : decode cX11_middle 64 = .ok (.aload_n 0, 1) := by decide +kernel
theorem dX11_middle_65 : decode cX11_middle 65 = .ok (.getfield 50, 3) := by decide +kernel
theorem dX11_middle_68 : decode cX11_middle 68 = .ok (.if_icmp .ge 37, 3) := by decide +kernel
theorem dX11_middle_71 : decode cX11_middle 71 = .ok (.lload 6, 2) := by decide +kernel
theorem dX11_middle_73 : decode cX11_middle 73 = .ok (.aload_n 0, 1) := by decide +kernel
theorem dX11_middle_74 : decode cX11_middle 74 = .ok (.getfield 19, 3) := by decide +kernel
theorem dX11_middle_77 : decode cX11_middle 77 = .ok (.iload 8, 2) := by decide +kernel
theorem dX11_middle_79 : decode cX11_middle 79 = .ok (.baload, 1) := by decide +kernel
theorem dX11_middle_80 : decode cX11_middle 80 = .ok (.ifCond .eq 15, 3) := by decide +kernel
theorem dX11_middle_83 : decode cX11_middle 83 = .ok (.aload_n 0, 1) := by decide +kernel
theorem dX11_middle_84 : decode cX11_middle 84 = .ok (.iload 5, 2) := by decide +kernel
theorem dX11_middle_86 : decode cX11_middle 86 = .ok (.iload 8, 2) := by decide +kernel
theorem dX11_middle_88 : decode cX11_middle 88 = .ok (.invokevirtual 86, 3) := by decide +kernel
theorem dX11_middle_91 : decode cX11_middle 91 = .ok (.i2l, 1) := by decide +kernel
theorem dX11_middle_92 : decode cX11_middle 92 = .ok (.goto 4, 3) := by decide +kernel
theorem dX11_middle_95 : decode cX11_middle 95 = .ok (.lconst 0, 1) := by decide +kernel
theorem dX11_middle_96 : decode cX11_middle 96 = .ok (.ladd, 1) := by decide +kernel
theorem dX11_middle_97 : decode cX11_middle 97 = .ok (.lstore 6, 2) := by decide +kernel
theorem dX11_middle_99 : decode cX11_middle 99 = .ok (.iinc 8 1, 3) := by decide +kernel
theorem dX11_middle_102 : decode cX11_middle 102 = .ok (.goto (-40), 3) := by decide +kernel
theorem dX11_middle_105 : decode cX11_middle 105 = .ok (.iload_n 2, 1) := by decide +kernel
theorem dX11_middle_106 : decode cX11_middle 106 = .ok (.iconst (-1), 1) := by decide +kernel
theorem dX11_middle_107 : decode cX11_middle 107 = .ok (.if_icmp .eq 13, 3) := by decide +kernel
theorem dX11_middle_110 : decode cX11_middle 110 = .ok (.lload 6, 2) := by decide +kernel
theorem dX11_middle_112 : decode cX11_middle 112 = .ok (.lload_n 3, 1) := by decide +kernel
theorem dX11_middle_113 : decode cX11_middle 113 = .ok (.lcmp, 1) := by decide +kernel
theorem dX11_middle_114 : decode cX11_middle 114 = .ok (.ifCond .lt 6, 3) := by decide +kernel
theorem dX11_middle_117 : decode cX11_middle 117 = .ok (.goto 9, 3) := by decide +kernel
theorem dX11_middle_120 : decode cX11_middle 120 = .ok (.iload 5, 2) := by decide +kernel
theorem dX11_middle_122 : decode cX11_middle 122 = .ok (.istore_n 2, 1) := by decide +kernel
theorem dX11_middle_123 : decode cX11_middle 123 = .ok (.lload 6, 2) := by decide +kernel
theorem dX11_middle_125 : decode cX11_middle 125 = .ok (.lstore_n 3, 1) := by decide +kernel
theorem dX11_middle_126 : decode cX11_middle 126 = .ok (.iinc 5 1, 3) := by decide +kernel
theorem dX11_middle_129 : decode cX11_middle 129 = .ok (.goto (-95), 3) := by decide +kernel
theorem dX11_middle_132 : decode cX11_middle 132 = .ok (.iload_n 1, 1) := by decide +kernel
theorem dX11_middle_133 : decode cX11_middle 133 = .ok (.ifCond .ne 8, 3) := by decide +kernel
theorem dX11_middle_136 : decode cX11_middle 136 = .ok (.iload_n 2, 1) := by decide +kernel
theorem dX11_middle_137 : decode cX11_middle 137 = .ok (.i2l, 1) := by decide +kernel
theorem dX11_middle_138 : decode cX11_middle 138 = .ok (.goto 4, 3) := by decide +kernel
theorem dX11_middle_141 : decode cX11_middle 141 = .ok (.lload_n 3, 1) := by decide +kernel
theorem dX11_middle_142 : decode cX11_middle 142 = .ok (.lreturn, 1) := by decide +kernel
theorem dX11_count_0 : decode cX11_count 0 = .ok (.iload_n 1, 1) := by decide +kernel
theorem dX11_count_1 : decode cX11_count 1 = .ok (.bipush 10, 2) := by decide +kernel
theorem dX11_count_3 : decode cX11_count 3 = .ok (.isub, 1) := by decide +kernel
theorem dX11_count_4 : decode cX11_count 4 = .ok (.iconst 0, 1) := by decide +kernel
theorem dX11_count_5 : decode cX11_count 5 = .ok (.aload_n 0, 1) := by decide +kernel
theorem dX11_count_6 : decode cX11_count 6 = .ok (.getfield 50, 3) := by decide +kernel
theorem dX11_count_9 : decode cX11_count 9 = .ok (.iconst 1, 1) := by decide +kernel
theorem dX11_count_10 : decode cX11_count 10 = .ok (.isub, 1) := by decide +kernel
theorem dX11_count_11 : decode cX11_count 11 = .ok (.invokestatic 54, 3) := by decide +kernel
theorem dX11_count_14 : decode cX11_count 14 = .ok (.ifCond .eq 13, 3) := by decide +kernel
theorem dX11_count_17 : decode cX11_count 17 = .ok (.aload_n 0, 1) := by decide +kernel
theorem dX11_count_18 : decode cX11_count 18 = .ok (.getfield 7, 3) := by decide +kernel
theorem dX11_count_21 : decode cX11_count 21 = .ok (.iload_n 1, 1) := by decide +kernel
theorem dX11_count_22 : decode cX11_count 22 = .ok (.bipush 10, 2) := by decide +kernel
theorem dX11_count_24 : decode cX11_count 24 = .ok (.isub, 1) := by decide +kernel
theorem dX11_count_25 : decode cX11_count 25 = .ok (.iaload, 1) := by decide +kernel
theorem dX11_count_26 : decode cX11_count 26 = .ok (.ireturn, 1) := by decide +kernel
theorem dX11_count_27 : decode cX11_count 27 = .ok (.iconst 0, 1) := by decide +kernel
theorem dX11_count_28 : decode cX11_count 28 = .ok (.istore_n 2, 1) := by decide +kernel
theorem dX11_count_29 : decode cX11_count 29 = .ok (.iload_n 1, 1) := by decide +kernel
theorem dX11_count_30 : decode cX11_count 30 = .ok (.tableswitch 140 0 4 #[34, 39, 44, 49, 54], 34) := by decide +kernel
theorem dX11_count_64 : decode cX11_count 64 = .ok (.aload_n 0, 1) := by decide +kernel
theorem dX11_count_65 : decode cX11_count 65 = .ok (.getfield 50, 3) := by decide +kernel
theorem dX11_count_68 : decode cX11_count 68 = .ok (.ireturn, 1) := by decide +kernel
theorem dX11_count_69 : decode cX11_count 69 = .ok (.aload_n 0, 1) := by decide +kernel
theorem dX11_count_70 : decode cX11_count 70 = .ok (.invokevirtual 112, 3) := by decide +kernel
theorem dX11_count_73 : decode cX11_count 73 = .ok (.ireturn, 1) := by decide +kernel
theorem dX11_count_74 : decode cX11_count 74 = .ok (.aload_n 0, 1) := by decide +kernel
theorem dX11_count_75 : decode cX11_count 75 = .ok (.getfield 63, 3) := by decide +kernel
theorem dX11_count_78 : decode cX11_count 78 = .ok (.ireturn, 1) := by decide +kernel
theorem dX11_count_79 : decode cX11_count 79 = .ok (.aload_n 0, 1) := by decide +kernel
theorem dX11_count_80 : decode cX11_count 80 = .ok (.getfield 93, 3) := by decide +kernel
theorem dX11_count_83 : decode cX11_count 83 = .ok (.ireturn, 1) := by decide +kernel
theorem dX11_count_84 : decode cX11_count 84 = .ok (.iconst 0, 1) := by decide +kernel
theorem dX11_count_85 : decode cX11_count 85 = .ok (.istore_n 3, 1) := by decide +kernel
theorem dX11_count_86 : decode cX11_count 86 = .ok (.iload_n 3, 1) := by decide +kernel
theorem dX11_count_87 : decode cX11_count 87 = .ok (.aload_n 0, 1) := by decide +kernel
theorem dX11_count_88 : decode cX11_count 88 = .ok (.getfield 50, 3) := by decide +kernel
theorem dX11_count_91 : decode cX11_count 91 = .ok (.if_icmp .ge 66, 3) := by decide +kernel
theorem dX11_count_94 : decode cX11_count 94 = .ok (.iconst 0, 1) := by decide +kernel
theorem dX11_count_95 : decode cX11_count 95 = .ok (.istore 4, 2) := by decide +kernel
theorem dX11_count_97 : decode cX11_count 97 = .ok (.iload 4, 2) := by decide +kernel
theorem dX11_count_99 : decode cX11_count 99 = .ok (.iload_n 3, 1) := by decide +kernel
theorem dX11_count_100 : decode cX11_count 100 = .ok (.if_icmp .ge 51, 3) := by decide +kernel
theorem dX11_count_103 : decode cX11_count 103 = .ok (.aload_n 0, 1) := by decide +kernel
theorem dX11_count_104 : decode cX11_count 104 = .ok (.getfield 19, 3) := by decide +kernel
theorem dX11_count_107 : decode cX11_count 107 = .ok (.iload_n 3, 1) := by decide +kernel
theorem dX11_count_108 : decode cX11_count 108 = .ok (.baload, 1) := by decide +kernel
theorem dX11_count_109 : decode cX11_count 109 = .ok (.ifCond .eq 34, 3) := by decide +kernel
theorem dX11_count_112 : decode cX11_count 112 = .ok (.aload_n 0, 1) := by decide +kernel
theorem dX11_count_113 : decode cX11_count 113 = .ok (.getfield 19, 3) := by decide +kernel
theorem dX11_count_116 : decode cX11_count 116 = .ok (.iload 4, 2) := by decide +kernel
theorem dX11_count_118 : decode cX11_count 118 = .ok (.baload, 1) := by decide +kernel
theorem dX11_count_119 : decode cX11_count 119 = .ok (.ifCond .eq 24, 3) := by decide +kernel
theorem dX11_count_122 : decode cX11_count 122 = .ok (.aload_n 0, 1) := by decide +kernel
theorem dX11_count_123 : decode cX11_count 123 = .ok (.iload_n 3, 1) := by decide +kernel
theorem dX11_count_124 : decode cX11_count 124 = .ok (.iload 4, 2) := by decide +kernel
theorem dX11_count_126 : decode cX11_count 126 = .ok (.invokevirtual 86, 3) := by decide +kernel
theorem dX11_count_129 : decode cX11_count 129 = .ok (.iload_n 2, 1) := by decide +kernel
theorem dX11_count_130 : decode cX11_count 130 = .ok (.if_icmp .le 13, 3) := by decide +kernel
theorem dX11_count_133 : decode cX11_count 133 = .ok (.aload_n 0, 1) := by decide +kernel
theorem dX11_count_134 : decode cX11_count 134 = .ok (.iload_n 3, 1) := by decide +kernel
theorem dX11_count_135 : decode cX11_count 135 = .ok (.iload 4, 2) := by decide +kernel
theorem dX11_count_137 : decode cX11_count 137 = .ok (.invokevirtual 86, 3) := by decide +kernel
theorem dX11_count_140 : decode cX11_count 140 = .ok (.goto 4, 3) := by decide +kernel
theorem dX11_count_143 : decode cX11_count 143 = .ok (.iload_n 2, 1) := by decide +kernel
theorem dX11_count_144 : decode cX11_count 144 = .ok (.istore_n 2, 1) := by decide +kernel
theorem dX11_count_145 : decode cX11_count 145 = .ok (.iinc 4 1, 3) := by decide +kernel
theorem dX11_count_148 : decode cX11_count 148 = .ok (.goto (-51), 3) := by decide +kernel
theorem dX11_count_151 : decode cX11_count 151 = .ok (.iinc 3 1, 3) := by decide +kernel
theorem dX11_count_154 : decode cX11_count 154 = .ok (.goto (-68), 3) := by decide +kernel
theorem dX11_count_157 : decode cX11_count 157 = .ok (.aload_n 0, 1) := by decide +kernel
theorem dX11_count_158 : decode cX11_count 158 = .ok (.invokevirtual 89, 3) := by decide +kernel
theorem dX11_count_161 : decode cX11_count 161 = .ok (.ifCond .eq 7, 3) := by decide +kernel
theorem dX11_count_164 : decode cX11_count 164 = .ok (.iload_n 2, 1) := by decide +kernel
theorem dX11_count_165 : decode cX11_count 165 = .ok (.goto 4, 3) := by decide +kernel
theorem dX11_count_168 : decode cX11_count 168 = .ok (.iconst (-1), 1) := by decide +kernel
theorem dX11_count_169 : decode cX11_count 169 = .ok (.ireturn, 1) := by decide +kernel
theorem dX11_count_170 : decode cX11_count 170 = .ok (.iconst (-1), 1) := by decide +kernel
theorem dX11_count_171 : decode cX11_count 171 = .ok (.ireturn, 1) := by decide +kernel
theorem dJ9_abs_0f7a4_0 : decode cJ9_abs_0f7a4 0 = .ok (.iload_n 0, 1) := by decide +kernel
theorem dJ9_abs_0f7a4_1 : decode cJ9_abs_0f7a4 1 = .ok (.ifCond .ge 8, 3) := by decide +kernel
theorem dJ9_abs_0f7a4_4 : decode cJ9_abs_0f7a4 4 = .ok (.iload_n 0, 1) := by decide +kernel
theorem dJ9_abs_0f7a4_5 : decode cJ9_abs_0f7a4 5 = .ok (.ineg, 1) := by decide +kernel
theorem dJ9_abs_0f7a4_6 : decode cJ9_abs_0f7a4 6 = .ok (.goto 4, 3) := by decide +kernel
theorem dJ9_abs_0f7a4_9 : decode cJ9_abs_0f7a4 9 = .ok (.iload_n 0, 1) := by decide +kernel
theorem dJ9_abs_0f7a4_10 : decode cJ9_abs_0f7a4 10 = .ok (.ireturn, 1) := by decide +kernel
theorem dJ9_max_7cf53_0 : decode cJ9_max_7cf53 0 = .ok (.iload_n 0, 1) := by decide +kernel
theorem dJ9_max_7cf53_1 : decode cJ9_max_7cf53 1 = .ok (.iload_n 1, 1) := by decide +kernel
theorem dJ9_max_7cf53_2 : decode cJ9_max_7cf53 2 = .ok (.if_icmp .lt 7, 3) := by decide +kernel
theorem dJ9_max_7cf53_5 : decode cJ9_max_7cf53 5 = .ok (.iload_n 0, 1) := by decide +kernel
theorem dJ9_max_7cf53_6 : decode cJ9_max_7cf53 6 = .ok (.goto 4, 3) := by decide +kernel
theorem dJ9_max_7cf53_9 : decode cJ9_max_7cf53 9 = .ok (.iload_n 1, 1) := by decide +kernel
theorem dJ9_max_7cf53_10 : decode cJ9_max_7cf53 10 = .ok (.ireturn, 1) := by decide +kernel
theorem dJ9_min_7cf53_0 : decode cJ9_min_7cf53 0 = .ok (.iload_n 0, 1) := by decide +kernel
theorem dJ9_min_7cf53_1 : decode cJ9_min_7cf53 1 = .ok (.iload_n 1, 1) := by decide +kernel
theorem dJ9_min_7cf53_2 : decode cJ9_min_7cf53 2 = .ok (.if_icmp .gt 7, 3) := by decide +kernel
theorem dJ9_min_7cf53_5 : decode cJ9_min_7cf53 5 = .ok (.iload_n 0, 1) := by decide +kernel
theorem dJ9_min_7cf53_6 : decode cJ9_min_7cf53 6 = .ok (.goto 4, 3) := by decide +kernel
theorem dJ9_min_7cf53_9 : decode cJ9_min_7cf53 9 = .ok (.iload_n 1, 1) := by decide +kernel
theorem dJ9_min_7cf53_10 : decode cJ9_min_7cf53 10 = .ok (.ireturn, 1) := by decide +kernel
theorem dJ7_fill_53178_0 : decode cJ7_fill_53178 0 = .ok (.iconst 0, 1) := by decide +kernel
theorem dJ7_fill_53178_1 : decode cJ7_fill_53178 1 = .ok (.istore_n 2, 1) := by decide +kernel
theorem dJ7_fill_53178_2 : decode cJ7_fill_53178 2 = .ok (.aload_n 0, 1) := by decide +kernel
theorem dJ7_fill_53178_3 : decode cJ7_fill_53178 3 = .ok (.arraylength, 1) := by decide +kernel
theorem dJ7_fill_53178_4 : decode cJ7_fill_53178 4 = .ok (.istore_n 3, 1) := by decide +kernel
theorem dJ7_fill_53178_5 : decode cJ7_fill_53178 5 = .ok (.iload_n 2, 1) := by decide +kernel
theorem dJ7_fill_53178_6 : decode cJ7_fill_53178 6 = .ok (.iload_n 3, 1) := by decide +kernel
theorem dJ7_fill_53178_7 : decode cJ7_fill_53178 7 = .ok (.if_icmp .ge 13, 3) := by decide +kernel
theorem dJ7_fill_53178_10 : decode cJ7_fill_53178 10 = .ok (.aload_n 0, 1) := by decide +kernel
theorem dJ7_fill_53178_11 : decode cJ7_fill_53178 11 = .ok (.iload_n 2, 1) := by decide +kernel
theorem dJ7_fill_53178_12 : decode cJ7_fill_53178 12 = .ok (.iload_n 1, 1) := by decide +kernel
theorem dJ7_fill_53178_13 : decode cJ7_fill_53178 13 = .ok (.iastore, 1) := by decide +kernel
theorem dJ7_fill_53178_14 : decode cJ7_fill_53178 14 = .ok (.iinc 2 1, 3) := by decide +kernel
theorem dJ7_fill_53178_17 : decode cJ7_fill_53178 17 = .ok (.goto (-12), 3) := by decide +kernel
theorem dJ7_fill_53178_20 : decode cJ7_fill_53178 20 = .ok (.return_, 1) := by decide +kernel
theorem dL_law_0 : decode cL_law 0 = .ok (.new 7, 3) := by decide +kernel
theorem dL_law_3 : decode cL_law 3 = .ok (.dup, 1) := by decide +kernel
theorem dL_law_4 : decode cL_law 4 = .ok (.invokespecial 9, 3) := by decide +kernel
theorem dL_law_7 : decode cL_law 7 = .ok (.astore_n 1, 1) := by decide +kernel
theorem dL_law_8 : decode cL_law 8 = .ok (.new 10, 3) := by decide +kernel
theorem dL_law_11 : decode cL_law 11 = .ok (.dup, 1) := by decide +kernel
theorem dL_law_12 : decode cL_law 12 = .ok (.invokespecial 12, 3) := by decide +kernel
theorem dL_law_15 : decode cL_law 15 = .ok (.astore_n 2, 1) := by decide +kernel
theorem dL_law_16 : decode cL_law 16 = .ok (.iconst 0, 1) := by decide +kernel
theorem dL_law_17 : decode cL_law 17 = .ok (.istore_n 3, 1) := by decide +kernel
theorem dL_law_18 : decode cL_law 18 = .ok (.iload_n 3, 1) := by decide +kernel
theorem dL_law_19 : decode cL_law 19 = .ok (.aload_n 0, 1) := by decide +kernel
theorem dL_law_20 : decode cL_law 20 = .ok (.arraylength, 1) := by decide +kernel
theorem dL_law_21 : decode cL_law 21 = .ok (.iconst 4, 1) := by decide +kernel
theorem dL_law_22 : decode cL_law 22 = .ok (.isub, 1) := by decide +kernel
theorem dL_law_23 : decode cL_law 23 = .ok (.if_icmp .gt 781, 3) := by decide +kernel
theorem dL_law_26 : decode cL_law 26 = .ok (.aload_n 0, 1) := by decide +kernel
theorem dL_law_27 : decode cL_law 27 = .ok (.iload_n 3, 1) := by decide +kernel
theorem dL_law_28 : decode cL_law 28 = .ok (.iaload, 1) := by decide +kernel
theorem dL_law_29 : decode cL_law 29 = .ok (.bipush 31, 2) := by decide +kernel
theorem dL_law_31 : decode cL_law 31 = .ok (.iand, 1) := by decide +kernel
theorem dL_law_32 : decode cL_law 32 = .ok (.tableswitch 766 0 23 #[112, 135, 178, 221, 244, 277, 290, 313, 336, 359, 382, 415, 448, 481, 514, 537, 560, 583, 607, 640, 663, 696, 719, 743], 112) := by decide +kernel
theorem dL_law_144 : decode cL_law 144 = .ok (.aload_n 1, 1) := by decide +kernel
theorem dL_law_145 : decode cL_law 145 = .ok (.aload_n 0, 1) := by decide +kernel
theorem dL_law_146 : decode cL_law 146 = .ok (.iload_n 3, 1) := by decide +kernel
theorem dL_law_147 : decode cL_law 147 = .ok (.iconst 1, 1) := by decide +kernel
theorem dL_law_148 : decode cL_law 148 = .ok (.iadd, 1) := by decide +kernel
theorem dL_law_149 : decode cL_law 149 = .ok (.iaload, 1) := by decide +kernel
theorem dL_law_150 : decode cL_law 150 = .ok (.invokevirtual 13, 3) := by decide +kernel
theorem dL_law_153 : decode cL_law 153 = .ok (.aload_n 2, 1) := by decide +kernel
theorem dL_law_154 : decode cL_law 154 = .ok (.aload_n 0, 1) := by decide +kernel
theorem dL_law_155 : decode cL_law 155 = .ok (.iload_n 3, 1) := by decide +kernel
theorem dL_law_156 : decode cL_law 156 = .ok (.iconst 1, 1) := by decide +kernel
theorem dL_law_157 : decode cL_law 157 = .ok (.iadd, 1) := by decide +kernel
theorem dL_law_158 : decode cL_law 158 = .ok (.iaload, 1) := by decide +kernel
theorem dL_law_159 : decode cL_law 159 = .ok (.invokevirtual 17, 3) := by decide +kernel
theorem dL_law_162 : decode cL_law 162 = .ok (.if_icmp .eq 636, 3) := by decide +kernel
theorem dL_law_165 : decode cL_law 165 = .ok (.iconst 0, 1) := by decide +kernel
theorem dL_law_166 : decode cL_law 166 = .ok (.ireturn, 1) := by decide +kernel
theorem dL_law_167 : decode cL_law 167 = .ok (.aload_n 1, 1) := by decide +kernel
theorem dL_law_168 : decode cL_law 168 = .ok (.aload_n 0, 1) := by decide +kernel
theorem dL_law_169 : decode cL_law 169 = .ok (.iload_n 3, 1) := by decide +kernel
theorem dL_law_170 : decode cL_law 170 = .ok (.iconst 1, 1) := by decide +kernel
theorem dL_law_171 : decode cL_law 171 = .ok (.iadd, 1) := by decide +kernel
theorem dL_law_172 : decode cL_law 172 = .ok (.iaload, 1) := by decide +kernel
theorem dL_law_173 : decode cL_law 173 = .ok (.aload_n 0, 1) := by decide +kernel
theorem dL_law_174 : decode cL_law 174 = .ok (.iload_n 3, 1) := by decide +kernel
theorem dL_law_175 : decode cL_law 175 = .ok (.iconst 2, 1) := by decide +kernel
theorem dL_law_176 : decode cL_law 176 = .ok (.iadd, 1) := by decide +kernel
theorem dL_law_177 : decode cL_law 177 = .ok (.iaload, 1) := by decide +kernel
theorem dL_law_178 : decode cL_law 178 = .ok (.aload_n 0, 1) := by decide +kernel
theorem dL_law_179 : decode cL_law 179 = .ok (.iload_n 3, 1) := by decide +kernel
theorem dL_law_180 : decode cL_law 180 = .ok (.iconst 3, 1) := by decide +kernel
theorem dL_law_181 : decode cL_law 181 = .ok (.iadd, 1) := by decide +kernel
theorem dL_law_182 : decode cL_law 182 = .ok (.iaload, 1) := by decide +kernel
theorem dL_law_183 : decode cL_law 183 = .ok (.invokevirtual 18, 3) := by decide +kernel
theorem dL_law_186 : decode cL_law 186 = .ok (.aload_n 2, 1) := by decide +kernel
theorem dL_law_187 : decode cL_law 187 = .ok (.aload_n 0, 1) := by decide +kernel
theorem dL_law_188 : decode cL_law 188 = .ok (.iload_n 3, 1) := by decide +kernel
theorem dL_law_189 : decode cL_law 189 = .ok (.iconst 1, 1) := by decide +kernel
theorem dL_law_190 : decode cL_law 190 = .ok (.iadd, 1) := by decide +kernel
theorem dL_law_191 : decode cL_law 191 = .ok (.iaload, 1) := by decide +kernel
theorem dL_law_192 : decode cL_law 192 = .ok (.aload_n 0, 1) := by decide +kernel
theorem dL_law_193 : decode cL_law 193 = .ok (.iload_n 3, 1) := by decide +kernel
theorem dL_law_194 : decode cL_law 194 = .ok (.iconst 2, 1) := by decide +kernel
theorem dL_law_195 : decode cL_law 195 = .ok (.iadd, 1) := by decide +kernel
theorem dL_law_196 : decode cL_law 196 = .ok (.iaload, 1) := by decide +kernel
theorem dL_law_197 : decode cL_law 197 = .ok (.aload_n 0, 1) := by decide +kernel
theorem dL_law_198 : decode cL_law 198 = .ok (.iload_n 3, 1) := by decide +kernel
theorem dL_law_199 : decode cL_law 199 = .ok (.iconst 3, 1) := by decide +kernel
theorem dL_law_200 : decode cL_law 200 = .ok (.iadd, 1) := by decide +kernel
theorem dL_law_201 : decode cL_law 201 = .ok (.iaload, 1) := by decide +kernel
theorem dL_law_202 : decode cL_law 202 = .ok (.invokevirtual 22, 3) := by decide +kernel
theorem dL_law_205 : decode cL_law 205 = .ok (.if_icmp .eq 593, 3) := by decide +kernel
theorem dL_law_208 : decode cL_law 208 = .ok (.iconst 0, 1) := by decide +kernel
theorem dL_law_209 : decode cL_law 209 = .ok (.ireturn, 1) := by decide +kernel
theorem dL_law_210 : decode cL_law 210 = .ok (.aload_n 1, 1) := by decide +kernel
theorem dL_law_211 : decode cL_law 211 = .ok (.aload_n 0, 1) := by decide +kernel
theorem dL_law_212 : decode cL_law 212 = .ok (.iload_n 3, 1) := by decide +kernel
theorem dL_law_213 : decode cL_law 213 = .ok (.iconst 1, 1) := by decide +kernel
theorem dL_law_214 : decode cL_law 214 = .ok (.iadd, 1) := by decide +kernel
theorem dL_law_215 : decode cL_law 215 = .ok (.iaload, 1) := by decide +kernel
theorem dL_law_216 : decode cL_law 216 = .ok (.aload_n 0, 1) := by decide +kernel
theorem dL_law_217 : decode cL_law 217 = .ok (.iload_n 3, 1) := by decide +kernel
theorem dL_law_218 : decode cL_law 218 = .ok (.iconst 2, 1) := by decide +kernel
theorem dL_law_219 : decode cL_law 219 = .ok (.iadd, 1) := by decide +kernel
theorem dL_law_220 : decode cL_law 220 = .ok (.iaload, 1) := by decide +kernel
theorem dL_law_221 : decode cL_law 221 = .ok (.aload_n 0, 1) := by decide +kernel
theorem dL_law_222 : decode cL_law 222 = .ok (.iload_n 3, 1) := by decide +kernel
theorem dL_law_223 : decode cL_law 223 = .ok (.iconst 3, 1) := by decide +kernel
theorem dL_law_224 : decode cL_law 224 = .ok (.iadd, 1) := by decide +kernel
theorem dL_law_225 : decode cL_law 225 = .ok (.iaload, 1) := by decide +kernel
theorem dL_law_226 : decode cL_law 226 = .ok (.invokevirtual 23, 3) := by decide +kernel
theorem dL_law_229 : decode cL_law 229 = .ok (.aload_n 2, 1) := by decide +kernel
theorem dL_law_230 : decode cL_law 230 = .ok (.aload_n 0, 1) := by decide +kernel
theorem dL_law_231 : decode cL_law 231 = .ok (.iload_n 3, 1) := by decide +kernel
theorem dL_law_232 : decode cL_law 232 = .ok (.iconst 1, 1) := by decide +kernel
theorem dL_law_233 : decode cL_law 233 = .ok (.iadd, 1) := by decide +kernel
theorem dL_law_234 : decode cL_law 234 = .ok (.iaload, 1) := by decide +kernel
theorem dL_law_235 : decode cL_law 235 = .ok (.aload_n 0, 1) := by decide +kernel
theorem dL_law_236 : decode cL_law 236 = .ok (.iload_n 3, 1) := by decide +kernel
theorem dL_law_237 : decode cL_law 237 = .ok (.iconst 2, 1) := by decide +kernel
theorem dL_law_238 : decode cL_law 238 = .ok (.iadd, 1) := by decide +kernel
theorem dL_law_239 : decode cL_law 239 = .ok (.iaload, 1) := by decide +kernel
theorem dL_law_240 : decode cL_law 240 = .ok (.aload_n 0, 1) := by decide +kernel
theorem dL_law_241 : decode cL_law 241 = .ok (.iload_n 3, 1) := by decide +kernel
theorem dL_law_242 : decode cL_law 242 = .ok (.iconst 3, 1) := by decide +kernel
theorem dL_law_243 : decode cL_law 243 = .ok (.iadd, 1) := by decide +kernel
theorem dL_law_244 : decode cL_law 244 = .ok (.iaload, 1) := by decide +kernel
theorem dL_law_245 : decode cL_law 245 = .ok (.invokevirtual 26, 3) := by decide +kernel
theorem dL_law_248 : decode cL_law 248 = .ok (.if_icmp .eq 550, 3) := by decide +kernel
theorem dL_law_251 : decode cL_law 251 = .ok (.iconst 0, 1) := by decide +kernel
theorem dL_law_252 : decode cL_law 252 = .ok (.ireturn, 1) := by decide +kernel
theorem dL_law_253 : decode cL_law 253 = .ok (.aload_n 1, 1) := by decide +kernel
theorem dL_law_254 : decode cL_law 254 = .ok (.aload_n 0, 1) := by decide +kernel
theorem dL_law_255 : decode cL_law 255 = .ok (.iload_n 3, 1) := by decide +kernel
theorem dL_law_256 : decode cL_law 256 = .ok (.iconst 1, 1) := by decide +kernel
theorem dL_law_257 : decode cL_law 257 = .ok (.iadd, 1) := by decide +kernel
theorem dL_law_258 : decode cL_law 258 = .ok (.iaload, 1) := by decide +kernel
theorem dL_law_259 : decode cL_law 259 = .ok (.invokevirtual 27, 3) := by decide +kernel
theorem dL_law_262 : decode cL_law 262 = .ok (.aload_n 2, 1) := by decide +kernel
theorem dL_law_263 : decode cL_law 263 = .ok (.aload_n 0, 1) := by decide +kernel
theorem dL_law_264 : decode cL_law 264 = .ok (.iload_n 3, 1) := by decide +kernel
theorem dL_law_265 : decode cL_law 265 = .ok (.iconst 1, 1) := by decide +kernel
theorem dL_law_266 : decode cL_law 266 = .ok (.iadd, 1) := by decide +kernel
theorem dL_law_267 : decode cL_law 267 = .ok (.iaload, 1) := by decide +kernel
theorem dL_law_268 : decode cL_law 268 = .ok (.invokevirtual 31, 3) := by decide +kernel
theorem dL_law_271 : decode cL_law 271 = .ok (.if_icmp .eq 527, 3) := by decide +kernel
theorem dL_law_274 : decode cL_law 274 = .ok (.iconst 0, 1) := by decide +kernel
theorem dL_law_275 : decode cL_law 275 = .ok (.ireturn, 1) := by decide +kernel
theorem dL_law_276 : decode cL_law 276 = .ok (.aload_n 1, 1) := by decide +kernel
theorem dL_law_277 : decode cL_law 277 = .ok (.aload_n 0, 1) := by decide +kernel
theorem dL_law_278 : decode cL_law 278 = .ok (.iload_n 3, 1) := by decide +kernel
theorem dL_law_279 : decode cL_law 279 = .ok (.iconst 1, 1) := by decide +kernel
theorem dL_law_280 : decode cL_law 280 = .ok (.iadd, 1) := by decide +kernel
theorem dL_law_281 : decode cL_law 281 = .ok (.iaload, 1) := by decide +kernel
theorem dL_law_282 : decode cL_law 282 = .ok (.aload_n 0, 1) := by decide +kernel
theorem dL_law_283 : decode cL_law 283 = .ok (.iload_n 3, 1) := by decide +kernel
theorem dL_law_284 : decode cL_law 284 = .ok (.iconst 2, 1) := by decide +kernel
theorem dL_law_285 : decode cL_law 285 = .ok (.iadd, 1) := by decide +kernel
theorem dL_law_286 : decode cL_law 286 = .ok (.iaload, 1) := by decide +kernel
theorem dL_law_287 : decode cL_law 287 = .ok (.invokevirtual 32, 3) := by decide +kernel
theorem dL_law_290 : decode cL_law 290 = .ok (.aload_n 2, 1) := by decide +kernel
theorem dL_law_291 : decode cL_law 291 = .ok (.aload_n 0, 1) := by decide +kernel
theorem dL_law_292 : decode cL_law 292 = .ok (.iload_n 3, 1) := by decide +kernel
theorem dL_law_293 : decode cL_law 293 = .ok (.iconst 1, 1) := by decide +kernel
theorem dL_law_294 : decode cL_law 294 = .ok (.iadd, 1) := by decide +kernel
theorem dL_law_295 : decode cL_law 295 = .ok (.iaload, 1) := by decide +kernel
theorem dL_law_296 : decode cL_law 296 = .ok (.aload_n 0, 1) := by decide +kernel
theorem dL_law_297 : decode cL_law 297 = .ok (.iload_n 3, 1) := by decide +kernel
theorem dL_law_298 : decode cL_law 298 = .ok (.iconst 2, 1) := by decide +kernel
theorem dL_law_299 : decode cL_law 299 = .ok (.iadd, 1) := by decide +kernel
theorem dL_law_300 : decode cL_law 300 = .ok (.iaload, 1) := by decide +kernel
theorem dL_law_301 : decode cL_law 301 = .ok (.invokevirtual 36, 3) := by decide +kernel
theorem dL_law_304 : decode cL_law 304 = .ok (.if_icmp .eq 494, 3) := by decide +kernel
theorem dL_law_307 : decode cL_law 307 = .ok (.iconst 0, 1) := by decide +kernel
theorem dL_law_308 : decode cL_law 308 = .ok (.ireturn, 1) := by decide +kernel
theorem dL_law_309 : decode cL_law 309 = .ok (.aload_n 1, 1) := by decide +kernel
theorem dL_law_310 : decode cL_law 310 = .ok (.invokevirtual 37, 3) := by decide +kernel
theorem dL_law_313 : decode cL_law 313 = .ok (.aload_n 2, 1) := by decide +kernel
theorem dL_law_314 : decode cL_law 314 = .ok (.invokevirtual 41, 3) := by decide +kernel
theorem dL_law_317 : decode cL_law 317 = .ok (.if_icmp .eq 481, 3) := by decide +kernel
theorem dL_law_320 : decode cL_law 320 = .ok (.iconst 0, 1) := by decide +kernel
theorem dL_law_321 : decode cL_law 321 = .ok (.ireturn, 1) := by decide +kernel
theorem dL_law_322 : decode cL_law 322 = .ok (.aload_n 1, 1) := by decide +kernel
theorem dL_law_323 : decode cL_law 323 = .ok (.aload_n 0, 1) := by decide +kernel
theorem dL_law_324 : decode cL_law 324 = .ok (.iload_n 3, 1) := by decide +kernel
theorem dL_law_325 : decode cL_law 325 = .ok (.iconst 1, 1) := by decide +kernel
theorem dL_law_326 : decode cL_law 326 = .ok (.iadd, 1) := by decide +kernel
theorem dL_law_327 : decode cL_law 327 = .ok (.iaload, 1) := by decide +kernel
theorem dL_law_328 : decode cL_law 328 = .ok (.invokevirtual 42, 3) := by decide +kernel
theorem dL_law_331 : decode cL_law 331 = .ok (.aload_n 2, 1) := by decide +kernel
theorem dL_law_332 : decode cL_law 332 = .ok (.aload_n 0, 1) := by decide +kernel
theorem dL_law_333 : decode cL_law 333 = .ok (.iload_n 3, 1) := by decide +kernel
theorem dL_law_334 : decode cL_law 334 = .ok (.iconst 1, 1) := by decide +kernel
theorem dL_law_335 : decode cL_law 335 = .ok (.iadd, 1) := by decide +kernel
theorem dL_law_336 : decode cL_law 336 = .ok (.iaload, 1) := by decide +kernel
theorem dL_law_337 : decode cL_law 337 = .ok (.invokevirtual 45, 3) := by decide +kernel
theorem dL_law_340 : decode cL_law 340 = .ok (.if_icmp .eq 458, 3) := by decide +kernel
theorem dL_law_343 : decode cL_law 343 = .ok (.iconst 0, 1) := by decide +kernel
theorem dL_law_344 : decode cL_law 344 = .ok (.ireturn, 1) := by decide +kernel
theorem dL_law_345 : decode cL_law 345 = .ok (.aload_n 1, 1) := by decide +kernel
theorem dL_law_346 : decode cL_law 346 = .ok (.aload_n 0, 1) := by decide +kernel
theorem dL_law_347 : decode cL_law 347 = .ok (.iload_n 3, 1) := by decide +kernel
theorem dL_law_348 : decode cL_law 348 = .ok (.iconst 1, 1) := by decide +kernel
theorem dL_law_349 : decode cL_law 349 = .ok (.iadd, 1) := by decide +kernel
theorem dL_law_350 : decode cL_law 350 = .ok (.iaload, 1) := by decide +kernel
theorem dL_law_351 : decode cL_law 351 = .ok (.invokevirtual 46, 3) := by decide +kernel
theorem dL_law_354 : decode cL_law 354 = .ok (.aload_n 2, 1) := by decide +kernel
theorem dL_law_355 : decode cL_law 355 = .ok (.aload_n 0, 1) := by decide +kernel
theorem dL_law_356 : decode cL_law 356 = .ok (.iload_n 3, 1) := by decide +kernel
theorem dL_law_357 : decode cL_law 357 = .ok (.iconst 1, 1) := by decide +kernel
theorem dL_law_358 : decode cL_law 358 = .ok (.iadd, 1) := by decide +kernel
theorem dL_law_359 : decode cL_law 359 = .ok (.iaload, 1) := by decide +kernel
theorem dL_law_360 : decode cL_law 360 = .ok (.invokevirtual 49, 3) := by decide +kernel
theorem dL_law_363 : decode cL_law 363 = .ok (.if_icmp .eq 435, 3) := by decide +kernel
theorem dL_law_366 : decode cL_law 366 = .ok (.iconst 0, 1) := by decide +kernel
theorem dL_law_367 : decode cL_law 367 = .ok (.ireturn, 1) := by decide +kernel
theorem dL_law_368 : decode cL_law 368 = .ok (.aload_n 1, 1) := by decide +kernel
theorem dL_law_369 : decode cL_law 369 = .ok (.aload_n 0, 1) := by decide +kernel
theorem dL_law_370 : decode cL_law 370 = .ok (.iload_n 3, 1) := by decide +kernel
theorem dL_law_371 : decode cL_law 371 = .ok (.iconst 1, 1) := by decide +kernel
theorem dL_law_372 : decode cL_law 372 = .ok (.iadd, 1) := by decide +kernel
theorem dL_law_373 : decode cL_law 373 = .ok (.iaload, 1) := by decide +kernel
theorem dL_law_374 : decode cL_law 374 = .ok (.invokevirtual 50, 3) := by decide +kernel
theorem dL_law_377 : decode cL_law 377 = .ok (.aload_n 2, 1) := by decide +kernel
theorem dL_law_378 : decode cL_law 378 = .ok (.aload_n 0, 1) := by decide +kernel
theorem dL_law_379 : decode cL_law 379 = .ok (.iload_n 3, 1) := by decide +kernel
theorem dL_law_380 : decode cL_law 380 = .ok (.iconst 1, 1) := by decide +kernel
theorem dL_law_381 : decode cL_law 381 = .ok (.iadd, 1) := by decide +kernel
theorem dL_law_382 : decode cL_law 382 = .ok (.iaload, 1) := by decide +kernel
theorem dL_law_383 : decode cL_law 383 = .ok (.invokevirtual 53, 3) := by decide +kernel
theorem dL_law_386 : decode cL_law 386 = .ok (.if_icmp .eq 412, 3) := by decide +kernel
theorem dL_law_389 : decode cL_law 389 = .ok (.iconst 0, 1) := by decide +kernel
theorem dL_law_390 : decode cL_law 390 = .ok (.ireturn, 1) := by decide +kernel
theorem dL_law_391 : decode cL_law 391 = .ok (.aload_n 1, 1) := by decide +kernel
theorem dL_law_392 : decode cL_law 392 = .ok (.aload_n 0, 1) := by decide +kernel
theorem dL_law_393 : decode cL_law 393 = .ok (.iload_n 3, 1) := by decide +kernel
theorem dL_law_394 : decode cL_law 394 = .ok (.iconst 1, 1) := by decide +kernel
theorem dL_law_395 : decode cL_law 395 = .ok (.iadd, 1) := by decide +kernel
theorem dL_law_396 : decode cL_law 396 = .ok (.iaload, 1) := by decide +kernel
theorem dL_law_397 : decode cL_law 397 = .ok (.invokevirtual 54, 3) := by decide +kernel
theorem dL_law_400 : decode cL_law 400 = .ok (.aload_n 2, 1) := by decide +kernel
theorem dL_law_401 : decode cL_law 401 = .ok (.aload_n 0, 1) := by decide +kernel
theorem dL_law_402 : decode cL_law 402 = .ok (.iload_n 3, 1) := by decide +kernel
theorem dL_law_403 : decode cL_law 403 = .ok (.iconst 1, 1) := by decide +kernel
theorem dL_law_404 : decode cL_law 404 = .ok (.iadd, 1) := by decide +kernel
theorem dL_law_405 : decode cL_law 405 = .ok (.iaload, 1) := by decide +kernel
theorem dL_law_406 : decode cL_law 406 = .ok (.invokevirtual 57, 3) := by decide +kernel
theorem dL_law_409 : decode cL_law 409 = .ok (.if_icmp .eq 389, 3) := by decide +kernel
theorem dL_law_412 : decode cL_law 412 = .ok (.iconst 0, 1) := by decide +kernel
theorem dL_law_413 : decode cL_law 413 = .ok (.ireturn, 1) := by decide +kernel
theorem dL_law_414 : decode cL_law 414 = .ok (.aload_n 1, 1) := by decide +kernel
theorem dL_law_415 : decode cL_law 415 = .ok (.aload_n 0, 1) := by decide +kernel
theorem dL_law_416 : decode cL_law 416 = .ok (.iload_n 3, 1) := by decide +kernel
theorem dL_law_417 : decode cL_law 417 = .ok (.iconst 1, 1) := by decide +kernel
theorem dL_law_418 : decode cL_law 418 = .ok (.iadd, 1) := by decide +kernel
theorem dL_law_419 : decode cL_law 419 = .ok (.iaload, 1) := by decide +kernel
theorem dL_law_420 : decode cL_law 420 = .ok (.aload_n 0, 1) := by decide +kernel
theorem dL_law_421 : decode cL_law 421 = .ok (.iload_n 3, 1) := by decide +kernel
theorem dL_law_422 : decode cL_law 422 = .ok (.iconst 2, 1) := by decide +kernel
theorem dL_law_423 : decode cL_law 423 = .ok (.iadd, 1) := by decide +kernel
theorem dL_law_424 : decode cL_law 424 = .ok (.iaload, 1) := by decide +kernel
theorem dL_law_425 : decode cL_law 425 = .ok (.invokevirtual 58, 3) := by decide +kernel
theorem dL_law_428 : decode cL_law 428 = .ok (.aload_n 2, 1) := by decide +kernel
theorem dL_law_429 : decode cL_law 429 = .ok (.aload_n 0, 1) := by decide +kernel
theorem dL_law_430 : decode cL_law 430 = .ok (.iload_n 3, 1) := by decide +kernel
theorem dL_law_431 : decode cL_law 431 = .ok (.iconst 1, 1) := by decide +kernel
theorem dL_law_432 : decode cL_law 432 = .ok (.iadd, 1) := by decide +kernel
theorem dL_law_433 : decode cL_law 433 = .ok (.iaload, 1) := by decide +kernel
theorem dL_law_434 : decode cL_law 434 = .ok (.aload_n 0, 1) := by decide +kernel
theorem dL_law_435 : decode cL_law 435 = .ok (.iload_n 3, 1) := by decide +kernel
theorem dL_law_436 : decode cL_law 436 = .ok (.iconst 2, 1) := by decide +kernel
theorem dL_law_437 : decode cL_law 437 = .ok (.iadd, 1) := by decide +kernel
theorem dL_law_438 : decode cL_law 438 = .ok (.iaload, 1) := by decide +kernel
theorem dL_law_439 : decode cL_law 439 = .ok (.invokevirtual 61, 3) := by decide +kernel
theorem dL_law_442 : decode cL_law 442 = .ok (.if_icmp .eq 356, 3) := by decide +kernel
theorem dL_law_445 : decode cL_law 445 = .ok (.iconst 0, 1) := by decide +kernel
theorem dL_law_446 : decode cL_law 446 = .ok (.ireturn, 1) := by decide +kernel
theorem dL_law_447 : decode cL_law 447 = .ok (.aload_n 1, 1) := by decide +kernel
theorem dL_law_448 : decode cL_law 448 = .ok (.aload_n 0, 1) := by decide +kernel
theorem dL_law_449 : decode cL_law 449 = .ok (.iload_n 3, 1) := by decide +kernel
theorem dL_law_450 : decode cL_law 450 = .ok (.iconst 1, 1) := by decide +kernel
theorem dL_law_451 : decode cL_law 451 = .ok (.iadd, 1) := by decide +kernel
theorem dL_law_452 : decode cL_law 452 = .ok (.iaload, 1) := by decide +kernel
theorem dL_law_453 : decode cL_law 453 = .ok (.aload_n 0, 1) := by decide +kernel
theorem dL_law_454 : decode cL_law 454 = .ok (.iload_n 3, 1) := by decide +kernel
theorem dL_law_455 : decode cL_law 455 = .ok (.iconst 2, 1) := by decide +kernel
theorem dL_law_456 : decode cL_law 456 = .ok (.iadd, 1) := by decide +kernel
theorem dL_law_457 : decode cL_law 457 = .ok (.iaload, 1) := by decide +kernel
theorem dL_law_458 : decode cL_law 458 = .ok (.invokevirtual 62, 3) := by decide +kernel
theorem dL_law_461 : decode cL_law 461 = .ok (.aload_n 2, 1) := by decide +kernel
theorem dL_law_462 : decode cL_law 462 = .ok (.aload_n 0, 1) := by decide +kernel
theorem dL_law_463 : decode cL_law 463 = .ok (.iload_n 3, 1) := by decide +kernel
theorem dL_law_464 : decode cL_law 464 = .ok (.iconst 1, 1) := by decide +kernel
theorem dL_law_465 : decode cL_law 465 = .ok (.iadd, 1) := by decide +kernel
theorem dL_law_466 : decode cL_law 466 = .ok (.iaload, 1) := by decide +kernel
theorem dL_law_467 : decode cL_law 467 = .ok (.aload_n 0, 1) := by decide +kernel
theorem dL_law_468 : decode cL_law 468 = .ok (.iload_n 3, 1) := by decide +kernel
theorem dL_law_469 : decode cL_law 469 = .ok (.iconst 2, 1) := by decide +kernel
theorem dL_law_470 : decode cL_law 470 = .ok (.iadd, 1) := by decide +kernel
theorem dL_law_471 : decode cL_law 471 = .ok (.iaload, 1) := by decide +kernel
theorem dL_law_472 : decode cL_law 472 = .ok (.invokevirtual 65, 3) := by decide +kernel
theorem dL_law_475 : decode cL_law 475 = .ok (.if_icmp .eq 323, 3) := by decide +kernel
theorem dL_law_478 : decode cL_law 478 = .ok (.iconst 0, 1) := by decide +kernel
theorem dL_law_479 : decode cL_law 479 = .ok (.ireturn, 1) := by decide +kernel
theorem dL_law_480 : decode cL_law 480 = .ok (.aload_n 1, 1) := by decide +kernel
theorem dL_law_481 : decode cL_law 481 = .ok (.aload_n 0, 1) := by decide +kernel
theorem dL_law_482 : decode cL_law 482 = .ok (.iload_n 3, 1) := by decide +kernel
theorem dL_law_483 : decode cL_law 483 = .ok (.iconst 1, 1) := by decide +kernel
theorem dL_law_484 : decode cL_law 484 = .ok (.iadd, 1) := by decide +kernel
theorem dL_law_485 : decode cL_law 485 = .ok (.iaload, 1) := by decide +kernel
theorem dL_law_486 : decode cL_law 486 = .ok (.aload_n 0, 1) := by decide +kernel
theorem dL_law_487 : decode cL_law 487 = .ok (.iload_n 3, 1) := by decide +kernel
theorem dL_law_488 : decode cL_law 488 = .ok (.iconst 2, 1) := by decide +kernel
theorem dL_law_489 : decode cL_law 489 = .ok (.iadd, 1) := by decide +kernel
theorem dL_law_490 : decode cL_law 490 = .ok (.iaload, 1) := by decide +kernel
theorem dL_law_491 : decode cL_law 491 = .ok (.invokevirtual 66, 3) := by decide +kernel
theorem dL_law_494 : decode cL_law 494 = .ok (.aload_n 2, 1) := by decide +kernel
theorem dL_law_495 : decode cL_law 495 = .ok (.aload_n 0, 1) := by decide +kernel
theorem dL_law_496 : decode cL_law 496 = .ok (.iload_n 3, 1) := by decide +kernel
theorem dL_law_497 : decode cL_law 497 = .ok (.iconst 1, 1) := by decide +kernel
theorem dL_law_498 : decode cL_law 498 = .ok (.iadd, 1) := by decide +kernel
theorem dL_law_499 : decode cL_law 499 = .ok (.iaload, 1) := by decide +kernel
theorem dL_law_500 : decode cL_law 500 = .ok (.aload_n 0, 1) := by decide +kernel
theorem dL_law_501 : decode cL_law 501 = .ok (.iload_n 3, 1) := by decide +kernel
theorem dL_law_502 : decode cL_law 502 = .ok (.iconst 2, 1) := by decide +kernel
theorem dL_law_503 : decode cL_law 503 = .ok (.iadd, 1) := by decide +kernel
theorem dL_law_504 : decode cL_law 504 = .ok (.iaload, 1) := by decide +kernel
theorem dL_law_505 : decode cL_law 505 = .ok (.invokevirtual 69, 3) := by decide +kernel
theorem dL_law_508 : decode cL_law 508 = .ok (.if_icmp .eq 290, 3) := by decide +kernel
theorem dL_law_511 : decode cL_law 511 = .ok (.iconst 0, 1) := by decide +kernel
theorem dL_law_512 : decode cL_law 512 = .ok (.ireturn, 1) := by decide +kernel
theorem dL_law_513 : decode cL_law 513 = .ok (.aload_n 1, 1) := by decide +kernel
theorem dL_law_514 : decode cL_law 514 = .ok (.aload_n 0, 1) := by decide +kernel
theorem dL_law_515 : decode cL_law 515 = .ok (.iload_n 3, 1) := by decide +kernel
theorem dL_law_516 : decode cL_law 516 = .ok (.iconst 1, 1) := by decide +kernel
theorem dL_law_517 : decode cL_law 517 = .ok (.iadd, 1) := by decide +kernel
theorem dL_law_518 : decode cL_law 518 = .ok (.iaload, 1) := by decide +kernel
theorem dL_law_519 : decode cL_law 519 = .ok (.aload_n 0, 1) := by decide +kernel
theorem dL_law_520 : decode cL_law 520 = .ok (.iload_n 3, 1) := by decide +kernel
theorem dL_law_521 : decode cL_law 521 = .ok (.iconst 2, 1) := by decide +kernel
theorem dL_law_522 : decode cL_law 522 = .ok (.iadd, 1) := by decide +kernel
theorem dL_law_523 : decode cL_law 523 = .ok (.iaload, 1) := by decide +kernel
theorem dL_law_524 : decode cL_law 524 = .ok (.invokevirtual 70, 3) := by decide +kernel
theorem dL_law_527 : decode cL_law 527 = .ok (.aload_n 2, 1) := by decide +kernel
theorem dL_law_528 : decode cL_law 528 = .ok (.aload_n 0, 1) := by decide +kernel
theorem dL_law_529 : decode cL_law 529 = .ok (.iload_n 3, 1) := by decide +kernel
theorem dL_law_530 : decode cL_law 530 = .ok (.iconst 1, 1) := by decide +kernel
theorem dL_law_531 : decode cL_law 531 = .ok (.iadd, 1) := by decide +kernel
theorem dL_law_532 : decode cL_law 532 = .ok (.iaload, 1) := by decide +kernel
theorem dL_law_533 : decode cL_law 533 = .ok (.aload_n 0, 1) := by decide +kernel
theorem dL_law_534 : decode cL_law 534 = .ok (.iload_n 3, 1) := by decide +kernel
theorem dL_law_535 : decode cL_law 535 = .ok (.iconst 2, 1) := by decide +kernel
theorem dL_law_536 : decode cL_law 536 = .ok (.iadd, 1) := by decide +kernel
theorem dL_law_537 : decode cL_law 537 = .ok (.iaload, 1) := by decide +kernel
theorem dL_law_538 : decode cL_law 538 = .ok (.invokevirtual 73, 3) := by decide +kernel
theorem dL_law_541 : decode cL_law 541 = .ok (.if_icmp .eq 257, 3) := by decide +kernel
theorem dL_law_544 : decode cL_law 544 = .ok (.iconst 0, 1) := by decide +kernel
theorem dL_law_545 : decode cL_law 545 = .ok (.ireturn, 1) := by decide +kernel
theorem dL_law_546 : decode cL_law 546 = .ok (.aload_n 1, 1) := by decide +kernel
theorem dL_law_547 : decode cL_law 547 = .ok (.aload_n 0, 1) := by decide +kernel
theorem dL_law_548 : decode cL_law 548 = .ok (.iload_n 3, 1) := by decide +kernel
theorem dL_law_549 : decode cL_law 549 = .ok (.iconst 1, 1) := by decide +kernel
theorem dL_law_550 : decode cL_law 550 = .ok (.iadd, 1) := by decide +kernel
theorem dL_law_551 : decode cL_law 551 = .ok (.iaload, 1) := by decide +kernel
theorem dL_law_552 : decode cL_law 552 = .ok (.invokevirtual 74, 3) := by decide +kernel
theorem dL_law_555 : decode cL_law 555 = .ok (.aload_n 2, 1) := by decide +kernel
theorem dL_law_556 : decode cL_law 556 = .ok (.aload_n 0, 1) := by decide +kernel
theorem dL_law_557 : decode cL_law 557 = .ok (.iload_n 3, 1) := by decide +kernel
theorem dL_law_558 : decode cL_law 558 = .ok (.iconst 1, 1) := by decide +kernel
theorem dL_law_559 : decode cL_law 559 = .ok (.iadd, 1) := by decide +kernel
theorem dL_law_560 : decode cL_law 560 = .ok (.iaload, 1) := by decide +kernel
theorem dL_law_561 : decode cL_law 561 = .ok (.invokevirtual 77, 3) := by decide +kernel
theorem dL_law_564 : decode cL_law 564 = .ok (.if_icmp .eq 234, 3) := by decide +kernel
theorem dL_law_567 : decode cL_law 567 = .ok (.iconst 0, 1) := by decide +kernel
theorem dL_law_568 : decode cL_law 568 = .ok (.ireturn, 1) := by decide +kernel
theorem dL_law_569 : decode cL_law 569 = .ok (.aload_n 1, 1) := by decide +kernel
theorem dL_law_570 : decode cL_law 570 = .ok (.aload_n 0, 1) := by decide +kernel
theorem dL_law_571 : decode cL_law 571 = .ok (.iload_n 3, 1) := by decide +kernel
theorem dL_law_572 : decode cL_law 572 = .ok (.iconst 1, 1) := by decide +kernel
theorem dL_law_573 : decode cL_law 573 = .ok (.iadd, 1) := by decide +kernel
theorem dL_law_574 : decode cL_law 574 = .ok (.iaload, 1) := by decide +kernel
theorem dL_law_575 : decode cL_law 575 = .ok (.invokevirtual 78, 3) := by decide +kernel
theorem dL_law_578 : decode cL_law 578 = .ok (.aload_n 2, 1) := by decide +kernel
theorem dL_law_579 : decode cL_law 579 = .ok (.aload_n 0, 1) := by decide +kernel
theorem dL_law_580 : decode cL_law 580 = .ok (.iload_n 3, 1) := by decide +kernel
theorem dL_law_581 : decode cL_law 581 = .ok (.iconst 1, 1) := by decide +kernel
theorem dL_law_582 : decode cL_law 582 = .ok (.iadd, 1) := by decide +kernel
theorem dL_law_583 : decode cL_law 583 = .ok (.iaload, 1) := by decide +kernel
theorem dL_law_584 : decode cL_law 584 = .ok (.invokevirtual 81, 3) := by decide +kernel
theorem dL_law_587 : decode cL_law 587 = .ok (.if_icmp .eq 211, 3) := by decide +kernel
theorem dL_law_590 : decode cL_law 590 = .ok (.iconst 0, 1) := by decide +kernel
theorem dL_law_591 : decode cL_law 591 = .ok (.ireturn, 1) := by decide +kernel
theorem dL_law_592 : decode cL_law 592 = .ok (.aload_n 1, 1) := by decide +kernel
theorem dL_law_593 : decode cL_law 593 = .ok (.aload_n 0, 1) := by decide +kernel
theorem dL_law_594 : decode cL_law 594 = .ok (.iload_n 3, 1) := by decide +kernel
theorem dL_law_595 : decode cL_law 595 = .ok (.iconst 1, 1) := by decide +kernel
theorem dL_law_596 : decode cL_law 596 = .ok (.iadd, 1) := by decide +kernel
theorem dL_law_597 : decode cL_law 597 = .ok (.iaload, 1) := by decide +kernel
theorem dL_law_598 : decode cL_law 598 = .ok (.invokevirtual 82, 3) := by decide +kernel
theorem dL_law_601 : decode cL_law 601 = .ok (.aload_n 2, 1) := by decide +kernel
theorem dL_law_602 : decode cL_law 602 = .ok (.aload_n 0, 1) := by decide +kernel
theorem dL_law_603 : decode cL_law 603 = .ok (.iload_n 3, 1) := by decide +kernel
theorem dL_law_604 : decode cL_law 604 = .ok (.iconst 1, 1) := by decide +kernel
theorem dL_law_605 : decode cL_law 605 = .ok (.iadd, 1) := by decide +kernel
theorem dL_law_606 : decode cL_law 606 = .ok (.iaload, 1) := by decide +kernel
theorem dL_law_607 : decode cL_law 607 = .ok (.invokevirtual 85, 3) := by decide +kernel
theorem dL_law_610 : decode cL_law 610 = .ok (.if_icmp .eq 188, 3) := by decide +kernel
theorem dL_law_613 : decode cL_law 613 = .ok (.iconst 0, 1) := by decide +kernel
theorem dL_law_614 : decode cL_law 614 = .ok (.ireturn, 1) := by decide +kernel
theorem dL_law_615 : decode cL_law 615 = .ok (.aload_n 1, 1) := by decide +kernel
theorem dL_law_616 : decode cL_law 616 = .ok (.aload_n 0, 1) := by decide +kernel
theorem dL_law_617 : decode cL_law 617 = .ok (.iload_n 3, 1) := by decide +kernel
theorem dL_law_618 : decode cL_law 618 = .ok (.iconst 1, 1) := by decide +kernel
theorem dL_law_619 : decode cL_law 619 = .ok (.iadd, 1) := by decide +kernel
theorem dL_law_620 : decode cL_law 620 = .ok (.iaload, 1) := by decide +kernel
theorem dL_law_621 : decode cL_law 621 = .ok (.invokevirtual 86, 3) := by decide +kernel
theorem dL_law_624 : decode cL_law 624 = .ok (.aload_n 2, 1) := by decide +kernel
theorem dL_law_625 : decode cL_law 625 = .ok (.aload_n 0, 1) := by decide +kernel
theorem dL_law_626 : decode cL_law 626 = .ok (.iload_n 3, 1) := by decide +kernel
theorem dL_law_627 : decode cL_law 627 = .ok (.iconst 1, 1) := by decide +kernel
theorem dL_law_628 : decode cL_law 628 = .ok (.iadd, 1) := by decide +kernel
theorem dL_law_629 : decode cL_law 629 = .ok (.iaload, 1) := by decide +kernel
theorem dL_law_630 : decode cL_law 630 = .ok (.invokevirtual 90, 3) := by decide +kernel
theorem dL_law_633 : decode cL_law 633 = .ok (.lcmp, 1) := by decide +kernel
theorem dL_law_634 : decode cL_law 634 = .ok (.ifCond .eq 164, 3) := by decide +kernel
theorem dL_law_637 : decode cL_law 637 = .ok (.iconst 0, 1) := by decide +kernel
theorem dL_law_638 : decode cL_law 638 = .ok (.ireturn, 1) := by decide +kernel
theorem dL_law_639 : decode cL_law 639 = .ok (.aload_n 1, 1) := by decide +kernel
theorem dL_law_640 : decode cL_law 640 = .ok (.aload_n 0, 1) := by decide +kernel
theorem dL_law_641 : decode cL_law 641 = .ok (.iload_n 3, 1) := by decide +kernel
theorem dL_law_642 : decode cL_law 642 = .ok (.iconst 1, 1) := by decide +kernel
theorem dL_law_643 : decode cL_law 643 = .ok (.iadd, 1) := by decide +kernel
theorem dL_law_644 : decode cL_law 644 = .ok (.iaload, 1) := by decide +kernel
theorem dL_law_645 : decode cL_law 645 = .ok (.aload_n 0, 1) := by decide +kernel
theorem dL_law_646 : decode cL_law 646 = .ok (.iload_n 3, 1) := by decide +kernel
theorem dL_law_647 : decode cL_law 647 = .ok (.iconst 2, 1) := by decide +kernel
theorem dL_law_648 : decode cL_law 648 = .ok (.iadd, 1) := by decide +kernel
theorem dL_law_649 : decode cL_law 649 = .ok (.iaload, 1) := by decide +kernel
theorem dL_law_650 : decode cL_law 650 = .ok (.invokevirtual 91, 3) := by decide +kernel
theorem dL_law_653 : decode cL_law 653 = .ok (.aload_n 2, 1) := by decide +kernel
theorem dL_law_654 : decode cL_law 654 = .ok (.aload_n 0, 1) := by decide +kernel
theorem dL_law_655 : decode cL_law 655 = .ok (.iload_n 3, 1) := by decide +kernel
theorem dL_law_656 : decode cL_law 656 = .ok (.iconst 1, 1) := by decide +kernel
theorem dL_law_657 : decode cL_law 657 = .ok (.iadd, 1) := by decide +kernel
theorem dL_law_658 : decode cL_law 658 = .ok (.iaload, 1) := by decide +kernel
theorem dL_law_659 : decode cL_law 659 = .ok (.aload_n 0, 1) := by decide +kernel
theorem dL_law_660 : decode cL_law 660 = .ok (.iload_n 3, 1) := by decide +kernel
theorem dL_law_661 : decode cL_law 661 = .ok (.iconst 2, 1) := by decide +kernel
theorem dL_law_662 : decode cL_law 662 = .ok (.iadd, 1) := by decide +kernel
theorem dL_law_663 : decode cL_law 663 = .ok (.iaload, 1) := by decide +kernel
theorem dL_law_664 : decode cL_law 664 = .ok (.invokevirtual 94, 3) := by decide +kernel
theorem dL_law_667 : decode cL_law 667 = .ok (.if_icmp .eq 131, 3) := by decide +kernel
theorem dL_law_670 : decode cL_law 670 = .ok (.iconst 0, 1) := by decide +kernel
theorem dL_law_671 : decode cL_law 671 = .ok (.ireturn, 1) := by decide +kernel
theorem dL_law_672 : decode cL_law 672 = .ok (.aload_n 1, 1) := by decide +kernel
theorem dL_law_673 : decode cL_law 673 = .ok (.aload_n 0, 1) := by decide +kernel
theorem dL_law_674 : decode cL_law 674 = .ok (.iload_n 3, 1) := by decide +kernel
theorem dL_law_675 : decode cL_law 675 = .ok (.iconst 1, 1) := by decide +kernel
theorem dL_law_676 : decode cL_law 676 = .ok (.iadd, 1) := by decide +kernel
theorem dL_law_677 : decode cL_law 677 = .ok (.iaload, 1) := by decide +kernel
theorem dL_law_678 : decode cL_law 678 = .ok (.invokevirtual 95, 3) := by decide +kernel
theorem dL_law_681 : decode cL_law 681 = .ok (.aload_n 2, 1) := by decide +kernel
theorem dL_law_682 : decode cL_law 682 = .ok (.aload_n 0, 1) := by decide +kernel
theorem dL_law_683 : decode cL_law 683 = .ok (.iload_n 3, 1) := by decide +kernel
theorem dL_law_684 : decode cL_law 684 = .ok (.iconst 1, 1) := by decide +kernel
theorem dL_law_685 : decode cL_law 685 = .ok (.iadd, 1) := by decide +kernel
theorem dL_law_686 : decode cL_law 686 = .ok (.iaload, 1) := by decide +kernel
theorem dL_law_687 : decode cL_law 687 = .ok (.invokevirtual 98, 3) := by decide +kernel
theorem dL_law_690 : decode cL_law 690 = .ok (.if_icmp .eq 108, 3) := by decide +kernel
theorem dL_law_693 : decode cL_law 693 = .ok (.iconst 0, 1) := by decide +kernel
theorem dL_law_694 : decode cL_law 694 = .ok (.ireturn, 1) := by decide +kernel
theorem dL_law_695 : decode cL_law 695 = .ok (.aload_n 1, 1) := by decide +kernel
theorem dL_law_696 : decode cL_law 696 = .ok (.aload_n 0, 1) := by decide +kernel
theorem dL_law_697 : decode cL_law 697 = .ok (.iload_n 3, 1) := by decide +kernel
theorem dL_law_698 : decode cL_law 698 = .ok (.iconst 1, 1) := by decide +kernel
theorem dL_law_699 : decode cL_law 699 = .ok (.iadd, 1) := by decide +kernel
theorem dL_law_700 : decode cL_law 700 = .ok (.iaload, 1) := by decide +kernel
theorem dL_law_701 : decode cL_law 701 = .ok (.aload_n 0, 1) := by decide +kernel
theorem dL_law_702 : decode cL_law 702 = .ok (.iload_n 3, 1) := by decide +kernel
theorem dL_law_703 : decode cL_law 703 = .ok (.iconst 2, 1) := by decide +kernel
theorem dL_law_704 : decode cL_law 704 = .ok (.iadd, 1) := by decide +kernel
theorem dL_law_705 : decode cL_law 705 = .ok (.iaload, 1) := by decide +kernel
theorem dL_law_706 : decode cL_law 706 = .ok (.invokevirtual 99, 3) := by decide +kernel
theorem dL_law_709 : decode cL_law 709 = .ok (.aload_n 2, 1) := by decide +kernel
theorem dL_law_710 : decode cL_law 710 = .ok (.aload_n 0, 1) := by decide +kernel
theorem dL_law_711 : decode cL_law 711 = .ok (.iload_n 3, 1) := by decide +kernel
theorem dL_law_712 : decode cL_law 712 = .ok (.iconst 1, 1) := by decide +kernel
theorem dL_law_713 : decode cL_law 713 = .ok (.iadd, 1) := by decide +kernel
theorem dL_law_714 : decode cL_law 714 = .ok (.iaload, 1) := by decide +kernel
theorem dL_law_715 : decode cL_law 715 = .ok (.aload_n 0, 1) := by decide +kernel
theorem dL_law_716 : decode cL_law 716 = .ok (.iload_n 3, 1) := by decide +kernel
theorem dL_law_717 : decode cL_law 717 = .ok (.iconst 2, 1) := by decide +kernel
theorem dL_law_718 : decode cL_law 718 = .ok (.iadd, 1) := by decide +kernel
theorem dL_law_719 : decode cL_law 719 = .ok (.iaload, 1) := by decide +kernel
theorem dL_law_720 : decode cL_law 720 = .ok (.invokevirtual 102, 3) := by decide +kernel
theorem dL_law_723 : decode cL_law 723 = .ok (.if_icmp .eq 75, 3) := by decide +kernel
theorem dL_law_726 : decode cL_law 726 = .ok (.iconst 0, 1) := by decide +kernel
theorem dL_law_727 : decode cL_law 727 = .ok (.ireturn, 1) := by decide +kernel
theorem dL_law_728 : decode cL_law 728 = .ok (.aload_n 1, 1) := by decide +kernel
theorem dL_law_729 : decode cL_law 729 = .ok (.aload_n 0, 1) := by decide +kernel
theorem dL_law_730 : decode cL_law 730 = .ok (.iload_n 3, 1) := by decide +kernel
theorem dL_law_731 : decode cL_law 731 = .ok (.iconst 1, 1) := by decide +kernel
theorem dL_law_732 : decode cL_law 732 = .ok (.iadd, 1) := by decide +kernel
theorem dL_law_733 : decode cL_law 733 = .ok (.iaload, 1) := by decide +kernel
theorem dL_law_734 : decode cL_law 734 = .ok (.invokevirtual 103, 3) := by decide +kernel
theorem dL_law_737 : decode cL_law 737 = .ok (.aload_n 2, 1) := by decide +kernel
theorem dL_law_738 : decode cL_law 738 = .ok (.aload_n 0, 1) := by decide +kernel
theorem dL_law_739 : decode cL_law 739 = .ok (.iload_n 3, 1) := by decide +kernel
theorem dL_law_740 : decode cL_law 740 = .ok (.iconst 1, 1) := by decide +kernel
theorem dL_law_741 : decode cL_law 741 = .ok (.iadd, 1) := by decide +kernel
theorem dL_law_742 : decode cL_law 742 = .ok (.iaload, 1) := by decide +kernel
theorem dL_law_743 : decode cL_law 743 = .ok (.invokevirtual 106, 3) := by decide +kernel
theorem dL_law_746 : decode cL_law 746 = .ok (.if_icmp .eq 52, 3) := by decide +kernel
theorem dL_law_749 : decode cL_law 749 = .ok (.iconst 0, 1) := by decide +kernel
theorem dL_law_750 : decode cL_law 750 = .ok (.ireturn, 1) := by decide +kernel
theorem dL_law_751 : decode cL_law 751 = .ok (.aload_n 1, 1) := by decide +kernel
theorem dL_law_752 : decode cL_law 752 = .ok (.aload_n 0, 1) := by decide +kernel
theorem dL_law_753 : decode cL_law 753 = .ok (.iload_n 3, 1) := by decide +kernel
theorem dL_law_754 : decode cL_law 754 = .ok (.iconst 1, 1) := by decide +kernel
theorem dL_law_755 : decode cL_law 755 = .ok (.iadd, 1) := by decide +kernel
theorem dL_law_756 : decode cL_law 756 = .ok (.iaload, 1) := by decide +kernel
theorem dL_law_757 : decode cL_law 757 = .ok (.invokevirtual 107, 3) := by decide +kernel
theorem dL_law_760 : decode cL_law 760 = .ok (.aload_n 2, 1) := by decide +kernel
theorem dL_law_761 : decode cL_law 761 = .ok (.aload_n 0, 1) := by decide +kernel
theorem dL_law_762 : decode cL_law 762 = .ok (.iload_n 3, 1) := by decide +kernel
theorem dL_law_763 : decode cL_law 763 = .ok (.iconst 1, 1) := by decide +kernel
theorem dL_law_764 : decode cL_law 764 = .ok (.iadd, 1) := by decide +kernel
theorem dL_law_765 : decode cL_law 765 = .ok (.iaload, 1) := by decide +kernel
theorem dL_law_766 : decode cL_law 766 = .ok (.invokevirtual 110, 3) := by decide +kernel
theorem dL_law_769 : decode cL_law 769 = .ok (.lcmp, 1) := by decide +kernel
theorem dL_law_770 : decode cL_law 770 = .ok (.ifCond .eq 28, 3) := by decide +kernel
theorem dL_law_773 : decode cL_law 773 = .ok (.iconst 0, 1) := by decide +kernel
theorem dL_law_774 : decode cL_law 774 = .ok (.ireturn, 1) := by decide +kernel
theorem dL_law_775 : decode cL_law 775 = .ok (.aload_n 1, 1) := by decide +kernel
theorem dL_law_776 : decode cL_law 776 = .ok (.aload_n 0, 1) := by decide +kernel
theorem dL_law_777 : decode cL_law 777 = .ok (.iload_n 3, 1) := by decide +kernel
theorem dL_law_778 : decode cL_law 778 = .ok (.iconst 1, 1) := by decide +kernel
theorem dL_law_779 : decode cL_law 779 = .ok (.iadd, 1) := by decide +kernel
theorem dL_law_780 : decode cL_law 780 = .ok (.iaload, 1) := by decide +kernel
theorem dL_law_781 : decode cL_law 781 = .ok (.invokevirtual 111, 3) := by decide +kernel
theorem dL_law_784 : decode cL_law 784 = .ok (.aload_n 2, 1) := by decide +kernel
theorem dL_law_785 : decode cL_law 785 = .ok (.aload_n 0, 1) := by decide +kernel
theorem dL_law_786 : decode cL_law 786 = .ok (.iload_n 3, 1) := by decide +kernel
theorem dL_law_787 : decode cL_law 787 = .ok (.iconst 1, 1) := by decide +kernel
theorem dL_law_788 : decode cL_law 788 = .ok (.iadd, 1) := by decide +kernel
theorem dL_law_789 : decode cL_law 789 = .ok (.iaload, 1) := by decide +kernel
theorem dL_law_790 : decode cL_law 790 = .ok (.invokevirtual 114, 3) := by decide +kernel
theorem dL_law_793 : decode cL_law 793 = .ok (.if_icmp .eq 5, 3) := by decide +kernel
theorem dL_law_796 : decode cL_law 796 = .ok (.iconst 0, 1) := by decide +kernel
theorem dL_law_797 : decode cL_law 797 = .ok (.ireturn, 1) := by decide +kernel
theorem dL_law_798 : decode cL_law 798 = .ok (.iinc 3 4, 3) := by decide +kernel
theorem dL_law_801 : decode cL_law 801 = .ok (.goto (-783), 3) := by decide +kernel
theorem dL_law_804 : decode cL_law 804 = .ok (.iconst 1, 1) := by decide +kernel
theorem dL_law_805 : decode cL_law 805 = .ok (.ireturn, 1) := by decide +kernel
