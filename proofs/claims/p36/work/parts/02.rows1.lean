-- decode rows, part 1
theorem dX3_init_25 : decode cX3_init 25 = .ok (.aload_n 0, 1) := by decide +kernel
theorem dX3_init_26 : decode cX3_init 26 = .ok (.iconst 0, 1) := by decide +kernel
theorem dX3_init_27 : decode cX3_init 27 = .ok (.putfield 25, 3) := by decide +kernel
theorem dX3_init_30 : decode cX3_init 30 = .ok (.aload_n 0, 1) := by decide +kernel
theorem dX3_init_31 : decode cX3_init 31 = .ok (.iconst 0, 1) := by decide +kernel
theorem dX3_init_32 : decode cX3_init 32 = .ok (.putfield 28, 3) := by decide +kernel
theorem dX3_init_35 : decode cX3_init 35 = .ok (.return_, 1) := by decide +kernel
theorem dX3_clear_0 : decode cX3_clear 0 = .ok (.aload_n 0, 1) := by decide +kernel
theorem dX3_clear_1 : decode cX3_clear 1 = .ok (.getfield 12, 3) := by decide +kernel
theorem dX3_clear_4 : decode cX3_clear 4 = .ok (.invokevirtual 31, 3) := by decide +kernel
theorem dX3_clear_7 : decode cX3_clear 7 = .ok (.aload_n 0, 1) := by decide +kernel
theorem dX3_clear_8 : decode cX3_clear 8 = .ok (.iconst 0, 1) := by decide +kernel
theorem dX3_clear_9 : decode cX3_clear 9 = .ok (.putfield 18, 3) := by decide +kernel
theorem dX3_clear_12 : decode cX3_clear 12 = .ok (.aload_n 0, 1) := by decide +kernel
theorem dX3_clear_13 : decode cX3_clear 13 = .ok (.iconst 0, 1) := by decide +kernel
theorem dX3_clear_14 : decode cX3_clear 14 = .ok (.putfield 22, 3) := by decide +kernel
theorem dX3_clear_17 : decode cX3_clear 17 = .ok (.aload_n 0, 1) := by decide +kernel
theorem dX3_clear_18 : decode cX3_clear 18 = .ok (.iconst 0, 1) := by decide +kernel
theorem dX3_clear_19 : decode cX3_clear 19 = .ok (.putfield 25, 3) := by decide +kernel
theorem dX3_clear_22 : decode cX3_clear 22 = .ok (.aload_n 0, 1) := by decide +kernel
theorem dX3_clear_23 : decode cX3_clear 23 = .ok (.iconst 0, 1) := by decide +kernel
theorem dX3_clear_24 : decode cX3_clear 24 = .ok (.putfield 28, 3) := by decide +kernel
theorem dX3_clear_27 : decode cX3_clear 27 = .ok (.return_, 1) := by decide +kernel
theorem dX3_give_0 : decode cX3_give 0 = .ok (.aload_n 0, 1) := by decide +kernel
theorem dX3_give_1 : decode cX3_give 1 = .ok (.dup, 1) := by decide +kernel
theorem dX3_give_2 : decode cX3_give 2 = .ok (.getfield 18, 3) := by decide +kernel
theorem dX3_give_5 : decode cX3_give 5 = .ok (.iconst 1, 1) := by decide +kernel
theorem dX3_give_6 : decode cX3_give 6 = .ok (.iadd, 1) := by decide +kernel
theorem dX3_give_7 : decode cX3_give 7 = .ok (.putfield 18, 3) := by decide +kernel
theorem dX3_give_10 : decode cX3_give 10 = .ok (.aload_n 0, 1) := by decide +kernel
theorem dX3_give_11 : decode cX3_give 11 = .ok (.getfield 12, 3) := by decide +kernel
theorem dX3_give_14 : decode cX3_give 14 = .ok (.iload_n 1, 1) := by decide +kernel
theorem dX3_give_15 : decode cX3_give 15 = .ok (.iload_n 2, 1) := by decide +kernel
theorem dX3_give_16 : decode cX3_give 16 = .ok (.invokevirtual 34, 3) := by decide +kernel
theorem dX3_give_19 : decode cX3_give 19 = .ok (.return_, 1) := by decide +kernel
theorem dX3_givePair_0 : decode cX3_givePair 0 = .ok (.aload_n 0, 1) := by decide +kernel
theorem dX3_givePair_1 : decode cX3_givePair 1 = .ok (.aload_n 1, 1) := by decide +kernel
theorem dX3_givePair_2 : decode cX3_givePair 2 = .ok (.iload_n 2, 1) := by decide +kernel
theorem dX3_givePair_3 : decode cX3_givePair 3 = .ok (.invokevirtual 38, 3) := by decide +kernel
theorem dX3_givePair_6 : decode cX3_givePair 6 = .ok (.bipush 100, 2) := by decide +kernel
theorem dX3_givePair_8 : decode cX3_givePair 8 = .ok (.aload_n 1, 1) := by decide +kernel
theorem dX3_givePair_9 : decode cX3_givePair 9 = .ok (.iload_n 2, 1) := by decide +kernel
theorem dX3_givePair_10 : decode cX3_givePair 10 = .ok (.invokevirtual 42, 3) := by decide +kernel
theorem dX3_givePair_13 : decode cX3_givePair 13 = .ok (.imul, 1) := by decide +kernel
theorem dX3_givePair_14 : decode cX3_givePair 14 = .ok (.aload_n 3, 1) := by decide +kernel
theorem dX3_givePair_15 : decode cX3_givePair 15 = .ok (.iload 4, 2) := by decide +kernel
theorem dX3_givePair_17 : decode cX3_givePair 17 = .ok (.invokevirtual 42, 3) := by decide +kernel
theorem dX3_givePair_20 : decode cX3_givePair 20 = .ok (.iadd, 1) := by decide +kernel
theorem dX3_givePair_21 : decode cX3_givePair 21 = .ok (.sipush 10000, 3) := by decide +kernel
theorem dX3_givePair_24 : decode cX3_givePair 24 = .ok (.irem, 1) := by decide +kernel
theorem dX3_givePair_25 : decode cX3_givePair 25 = .ok (.invokevirtual 45, 3) := by decide +kernel
theorem dX3_givePair_28 : decode cX3_givePair 28 = .ok (.return_, 1) := by decide +kernel
theorem dX4_init_0 : decode cX4_init 0 = .ok (.aload_n 0, 1) := by decide +kernel
theorem dX4_init_1 : decode cX4_init 1 = .ok (.invokespecial 3, 3) := by decide +kernel
theorem dX4_init_4 : decode cX4_init 4 = .ok (.aload_n 0, 1) := by decide +kernel
theorem dX4_init_5 : decode cX4_init 5 = .ok (.new 9, 3) := by decide +kernel
theorem dX4_init_8 : decode cX4_init 8 = .ok (.dup, 1) := by decide +kernel
theorem dX4_init_9 : decode cX4_init 9 = .ok (.invokespecial 11, 3) := by decide +kernel
theorem dX4_init_12 : decode cX4_init 12 = .ok (.putfield 12, 3) := by decide +kernel
theorem dX4_init_15 : decode cX4_init 15 = .ok (.aload_n 0, 1) := by decide +kernel
theorem dX4_init_16 : decode cX4_init 16 = .ok (.new 9, 3) := by decide +kernel
theorem dX4_init_19 : decode cX4_init 19 = .ok (.dup, 1) := by decide +kernel
theorem dX4_init_20 : decode cX4_init 20 = .ok (.invokespecial 11, 3) := by decide +kernel
theorem dX4_init_23 : decode cX4_init 23 = .ok (.putfield 18, 3) := by decide +kernel
theorem dX4_init_26 : decode cX4_init 26 = .ok (.aload_n 0, 1) := by decide +kernel
theorem dX4_init_27 : decode cX4_init 27 = .ok (.new 9, 3) := by decide +kernel
theorem dX4_init_30 : decode cX4_init 30 = .ok (.dup, 1) := by decide +kernel
theorem dX4_init_31 : decode cX4_init 31 = .ok (.invokespecial 11, 3) := by decide +kernel
theorem dX4_init_34 : decode cX4_init 34 = .ok (.putfield 21, 3) := by decide +kernel
theorem dX4_init_37 : decode cX4_init 37 = .ok (.aload_n 0, 1) := by decide +kernel
theorem dX4_init_38 : decode cX4_init 38 = .ok (.iconst 0, 1) := by decide +kernel
theorem dX4_init_39 : decode cX4_init 39 = .ok (.putfield 24, 3) := by decide +kernel
theorem dX4_init_42 : decode cX4_init 42 = .ok (.aload_n 0, 1) := by decide +kernel
theorem dX4_init_43 : decode cX4_init 43 = .ok (.iconst 0, 1) := by decide +kernel
theorem dX4_init_44 : decode cX4_init 44 = .ok (.putfield 28, 3) := by decide +kernel
theorem dX4_init_47 : decode cX4_init 47 = .ok (.aload_n 0, 1) := by decide +kernel
theorem dX4_init_48 : decode cX4_init 48 = .ok (.new 9, 3) := by decide +kernel
theorem dX4_init_51 : decode cX4_init 51 = .ok (.dup, 1) := by decide +kernel
theorem dX4_init_52 : decode cX4_init 52 = .ok (.invokespecial 11, 3) := by decide +kernel
theorem dX4_init_55 : decode cX4_init 55 = .ok (.putfield 31, 3) := by decide +kernel
theorem dX4_init_58 : decode cX4_init 58 = .ok (.aload_n 0, 1) := by decide +kernel
theorem dX4_init_59 : decode cX4_init 59 = .ok (.new 34, 3) := by decide +kernel
theorem dX4_init_62 : decode cX4_init 62 = .ok (.dup, 1) := by decide +kernel
theorem dX4_init_63 : decode cX4_init 63 = .ok (.invokespecial 36, 3) := by decide +kernel
theorem dX4_init_66 : decode cX4_init 66 = .ok (.putfield 37, 3) := by decide +kernel
theorem dX4_init_69 : decode cX4_init 69 = .ok (.aload_n 0, 1) := by decide +kernel
theorem dX4_init_70 : decode cX4_init 70 = .ok (.iconst 4, 1) := by decide +kernel
theorem dX4_init_71 : decode cX4_init 71 = .ok (.putfield 41, 3) := by decide +kernel
theorem dX4_init_74 : decode cX4_init 74 = .ok (.return_, 1) := by decide +kernel
theorem dX4_make_0 : decode cX4_make 0 = .ok (.aload_n 0, 1) := by decide +kernel
theorem dX4_make_1 : decode cX4_make 1 = .ok (.iload 5, 2) := by decide +kernel
theorem dX4_make_3 : decode cX4_make 3 = .ok (.putfield 41, 3) := by decide +kernel
theorem dX4_make_6 : decode cX4_make 6 = .ok (.aload_n 0, 1) := by decide +kernel
theorem dX4_make_7 : decode cX4_make 7 = .ok (.getfield 12, 3) := by decide +kernel
theorem dX4_make_10 : decode cX4_make 10 = .ok (.invokevirtual 44, 3) := by decide +kernel
theorem dX4_make_13 : decode cX4_make 13 = .ok (.aload_n 0, 1) := by decide +kernel
theorem dX4_make_14 : decode cX4_make 14 = .ok (.getfield 18, 3) := by decide +kernel
theorem dX4_make_17 : decode cX4_make 17 = .ok (.invokevirtual 44, 3) := by decide +kernel
theorem dX4_make_20 : decode cX4_make 20 = .ok (.aload_n 0, 1) := by decide +kernel
theorem dX4_make_21 : decode cX4_make 21 = .ok (.getfield 21, 3) := by decide +kernel
theorem dX4_make_24 : decode cX4_make 24 = .ok (.invokevirtual 44, 3) := by decide +kernel
theorem dX4_make_27 : decode cX4_make 27 = .ok (.iload_n 2, 1) := by decide +kernel
theorem dX4_make_28 : decode cX4_make 28 = .ok (.ifCond .eq 18, 3) := by decide +kernel
theorem dX4_make_31 : decode cX4_make 31 = .ok (.aload_n 0, 1) := by decide +kernel
theorem dX4_make_32 : decode cX4_make 32 = .ok (.aload_n 1, 1) := by decide +kernel
theorem dX4_make_33 : decode cX4_make 33 = .ok (.iload 4, 2) := by decide +kernel
theorem dX4_make_35 : decode cX4_make 35 = .ok (.iload 6, 2) := by decide +kernel
theorem dX4_make_37 : decode cX4_make 37 = .ok (.iload 5, 2) := by decide +kernel
theorem dX4_make_39 : decode cX4_make 39 = .ok (.imul, 1) := by decide +kernel
theorem dX4_make_40 : decode cX4_make 40 = .ok (.invokevirtual 47, 3) := by decide +kernel
theorem dX4_make_43 : decode cX4_make 43 = .ok (.goto 16, 3) := by decide +kernel
theorem dX4_make_46 : decode cX4_make 46 = .ok (.aload_n 0, 1) := by decide +kernel
theorem dX4_make_47 : decode cX4_make 47 = .ok (.aload_n 1, 1) := by decide +kernel
theorem dX4_make_48 : decode cX4_make 48 = .ok (.invokevirtual 51, 3) := by decide +kernel
theorem dX4_make_51 : decode cX4_make 51 = .ok (.iload 6, 2) := by decide +kernel
theorem dX4_make_53 : decode cX4_make 53 = .ok (.iload 5, 2) := by decide +kernel
theorem dX4_make_55 : decode cX4_make 55 = .ok (.imul, 1) := by decide +kernel
theorem dX4_make_56 : decode cX4_make 56 = .ok (.invokevirtual 57, 3) := by decide +kernel
theorem dX4_make_59 : decode cX4_make 59 = .ok (.aload_n 0, 1) := by decide +kernel
theorem dX4_make_60 : decode cX4_make 60 = .ok (.aload_n 1, 1) := by decide +kernel
theorem dX4_make_61 : decode cX4_make 61 = .ok (.invokevirtual 51, 3) := by decide +kernel
theorem dX4_make_64 : decode cX4_make 64 = .ok (.invokevirtual 61, 3) := by decide +kernel
theorem dX4_make_67 : decode cX4_make 67 = .ok (.aload_n 0, 1) := by decide +kernel
theorem dX4_make_68 : decode cX4_make 68 = .ok (.getfield 31, 3) := by decide +kernel
theorem dX4_make_71 : decode cX4_make 71 = .ok (.invokevirtual 44, 3) := by decide +kernel
theorem dX4_make_74 : decode cX4_make 74 = .ok (.aload_n 0, 1) := by decide +kernel
theorem dX4_make_75 : decode cX4_make 75 = .ok (.getfield 31, 3) := by decide +kernel
theorem dX4_make_78 : decode cX4_make 78 = .ok (.aload_n 0, 1) := by decide +kernel
theorem dX4_make_79 : decode cX4_make 79 = .ok (.getfield 12, 3) := by decide +kernel
theorem dX4_make_82 : decode cX4_make 82 = .ok (.invokevirtual 65, 3) := by decide +kernel
theorem dX4_make_85 : decode cX4_make 85 = .ok (.iload_n 3, 1) := by decide +kernel
theorem dX4_make_86 : decode cX4_make 86 = .ok (.ifCond .eq 14, 3) := by decide +kernel
theorem dX4_make_89 : decode cX4_make 89 = .ok (.aload_n 0, 1) := by decide +kernel
theorem dX4_make_90 : decode cX4_make 90 = .ok (.iload 6, 2) := by decide +kernel
theorem dX4_make_92 : decode cX4_make 92 = .ok (.iconst 1, 1) := by decide +kernel
theorem dX4_make_93 : decode cX4_make 93 = .ok (.isub, 1) := by decide +kernel
theorem dX4_make_94 : decode cX4_make 94 = .ok (.invokevirtual 69, 3) := by decide +kernel
theorem dX4_make_97 : decode cX4_make 97 = .ok (.goto 11, 3) := by decide +kernel
theorem dX4_make_100 : decode cX4_make 100 = .ok (.aload_n 0, 1) := by decide +kernel
theorem dX4_make_101 : decode cX4_make 101 = .ok (.iload 6, 2) := by decide +kernel
theorem dX4_make_103 : decode cX4_make 103 = .ok (.iconst 1, 1) := by decide +kernel
theorem dX4_make_104 : decode cX4_make 104 = .ok (.isub, 1) := by decide +kernel
theorem dX4_make_105 : decode cX4_make 105 = .ok (.invokevirtual 72, 3) := by decide +kernel
theorem dX4_make_108 : decode cX4_make 108 = .ok (.return_, 1) := by decide +kernel
theorem dX4_runByLoading_0 : decode cX4_runByLoading 0 = .ok (.iconst 1, 1) := by decide +kernel
theorem dX4_runByLoading_1 : decode cX4_runByLoading 1 = .ok (.iload_n 2, 1) := by decide +kernel
theorem dX4_runByLoading_2 : decode cX4_runByLoading 2 = .ok (.invokestatic 75, 3) := by decide +kernel
theorem dX4_runByLoading_5 : decode cX4_runByLoading 5 = .ok (.istore_n 3, 1) := by decide +kernel
theorem dX4_runByLoading_6 : decode cX4_runByLoading 6 = .ok (.iconst 0, 1) := by decide +kernel
theorem dX4_runByLoading_7 : decode cX4_runByLoading 7 = .ok (.istore 4, 2) := by decide +kernel
theorem dX4_runByLoading_9 : decode cX4_runByLoading 9 = .ok (.iload 4, 2) := by decide +kernel
theorem dX4_runByLoading_11 : decode cX4_runByLoading 11 = .ok (.iload_n 1, 1) := by decide +kernel
theorem dX4_runByLoading_12 : decode cX4_runByLoading 12 = .ok (.if_icmp .ge 27, 3) := by decide +kernel
theorem dX4_runByLoading_15 : decode cX4_runByLoading 15 = .ok (.aload_n 0, 1) := by decide +kernel
theorem dX4_runByLoading_16 : decode cX4_runByLoading 16 = .ok (.getfield 12, 3) := by decide +kernel
theorem dX4_runByLoading_19 : decode cX4_runByLoading 19 = .ok (.iload_n 3, 1) := by decide +kernel
theorem dX4_runByLoading_20 : decode cX4_runByLoading 20 = .ok (.iload_n 1, 1) := by decide +kernel
theorem dX4_runByLoading_21 : decode cX4_runByLoading 21 = .ok (.iload 4, 2) := by decide +kernel
theorem dX4_runByLoading_23 : decode cX4_runByLoading 23 = .ok (.isub, 1) := by decide +kernel
theorem dX4_runByLoading_24 : decode cX4_runByLoading 24 = .ok (.invokestatic 81, 3) := by decide +kernel
theorem dX4_runByLoading_27 : decode cX4_runByLoading 27 = .ok (.invokevirtual 84, 3) := by decide +kernel
theorem dX4_runByLoading_30 : decode cX4_runByLoading 30 = .ok (.iload 4, 2) := by decide +kernel
theorem dX4_runByLoading_32 : decode cX4_runByLoading 32 = .ok (.iload_n 3, 1) := by decide +kernel
theorem dX4_runByLoading_33 : decode cX4_runByLoading 33 = .ok (.iadd, 1) := by decide +kernel
theorem dX4_runByLoading_34 : decode cX4_runByLoading 34 = .ok (.istore 4, 2) := by decide +kernel
theorem dX4_runByLoading_36 : decode cX4_runByLoading 36 = .ok (.goto (-27), 3) := by decide +kernel
theorem dX4_runByLoading_39 : decode cX4_runByLoading 39 = .ok (.return_, 1) := by decide +kernel
theorem dX4_runByReplacing_0 : decode cX4_runByReplacing 0 = .ok (.aload_n 0, 1) := by decide +kernel
theorem dX4_runByReplacing_1 : decode cX4_runByReplacing 1 = .ok (.getfield 37, 3) := by decide +kernel
theorem dX4_runByReplacing_4 : decode cX4_runByReplacing 4 = .ok (.invokevirtual 87, 3) := by decide +kernel
theorem dX4_runByReplacing_7 : decode cX4_runByReplacing 7 = .ok (.aload_n 1, 1) := by decide +kernel
theorem dX4_runByReplacing_8 : decode cX4_runByReplacing 8 = .ok (.invokevirtual 51, 3) := by decide +kernel
theorem dX4_runByReplacing_11 : decode cX4_runByReplacing 11 = .ok (.istore 4, 2) := by decide +kernel
theorem dX4_runByReplacing_13 : decode cX4_runByReplacing 13 = .ok (.iload_n 3, 1) := by decide +kernel
theorem dX4_runByReplacing_14 : decode cX4_runByReplacing 14 = .ok (.iload 4, 2) := by decide +kernel
theorem dX4_runByReplacing_16 : decode cX4_runByReplacing 16 = .ok (.invokestatic 81, 3) := by decide +kernel
theorem dX4_runByReplacing_19 : decode cX4_runByReplacing 19 = .ok (.istore 5, 2) := by decide +kernel
theorem dX4_runByReplacing_21 : decode cX4_runByReplacing 21 = .ok (.iconst 0, 1) := by decide +kernel
theorem dX4_runByReplacing_22 : decode cX4_runByReplacing 22 = .ok (.istore 6, 2) := by decide +kernel
theorem dX4_runByReplacing_24 : decode cX4_runByReplacing 24 = .ok (.iload 6, 2) := by decide +kernel
theorem dX4_runByReplacing_26 : decode cX4_runByReplacing 26 = .ok (.iload 5, 2) := by decide +kernel
theorem dX4_runByReplacing_28 : decode cX4_runByReplacing 28 = .ok (.if_icmp .ge 23, 3) := by decide +kernel
theorem dX4_runByReplacing_31 : decode cX4_runByReplacing 31 = .ok (.aload_n 0, 1) := by decide +kernel
theorem dX4_runByReplacing_32 : decode cX4_runByReplacing 32 = .ok (.getfield 37, 3) := by decide +kernel
theorem dX4_runByReplacing_35 : decode cX4_runByReplacing 35 = .ok (.aload_n 1, 1) := by decide +kernel
theorem dX4_runByReplacing_36 : decode cX4_runByReplacing 36 = .ok (.iload 6, 2) := by decide +kernel
theorem dX4_runByReplacing_38 : decode cX4_runByReplacing 38 = .ok (.iload_n 2, 1) := by decide +kernel
theorem dX4_runByReplacing_39 : decode cX4_runByReplacing 39 = .ok (.invokestatic 88, 3) := by decide +kernel
theorem dX4_runByReplacing_42 : decode cX4_runByReplacing 42 = .ok (.invokevirtual 92, 3) := by decide +kernel
theorem dX4_runByReplacing_45 : decode cX4_runByReplacing 45 = .ok (.iinc 6 1, 3) := by decide +kernel
theorem dX4_runByReplacing_48 : decode cX4_runByReplacing 48 = .ok (.goto (-24), 3) := by decide +kernel
theorem dX4_runByReplacing_51 : decode cX4_runByReplacing 51 = .ok (.iconst 0, 1) := by decide +kernel
theorem dX4_runByReplacing_52 : decode cX4_runByReplacing 52 = .ok (.istore 6, 2) := by decide +kernel
theorem dX4_runByReplacing_54 : decode cX4_runByReplacing 54 = .ok (.iconst 0, 1) := by decide +kernel
theorem dX4_runByReplacing_55 : decode cX4_runByReplacing 55 = .ok (.istore 7, 2) := by decide +kernel
theorem dX4_runByReplacing_57 : decode cX4_runByReplacing 57 = .ok (.iconst 0, 1) := by decide +kernel
theorem dX4_runByReplacing_58 : decode cX4_runByReplacing 58 = .ok (.istore 8, 2) := by decide +kernel
theorem dX4_runByReplacing_60 : decode cX4_runByReplacing 60 = .ok (.iload 8, 2) := by decide +kernel
theorem dX4_runByReplacing_62 : decode cX4_runByReplacing 62 = .ok (.iload 4, 2) := by decide +kernel
theorem dX4_runByReplacing_64 : decode cX4_runByReplacing 64 = .ok (.if_icmp .ge 109, 3) := by decide +kernel
theorem dX4_runByReplacing_67 : decode cX4_runByReplacing 67 = .ok (.aload_n 0, 1) := by decide +kernel
theorem dX4_runByReplacing_68 : decode cX4_runByReplacing 68 = .ok (.getfield 37, 3) := by decide +kernel
theorem dX4_runByReplacing_71 : decode cX4_runByReplacing 71 = .ok (.invokevirtual 95, 3) := by decide +kernel
theorem dX4_runByReplacing_74 : decode cX4_runByReplacing 74 = .ok (.istore 9, 2) := by decide +kernel
theorem dX4_runByReplacing_76 : decode cX4_runByReplacing 76 = .ok (.iload 9, 2) := by decide +kernel
theorem dX4_runByReplacing_78 : decode cX4_runByReplacing 78 = .ok (.ldc 98, 2) := by decide +kernel
theorem dX4_runByReplacing_80 : decode cX4_runByReplacing 80 = .ok (.idiv, 1) := by decide +kernel
theorem dX4_runByReplacing_81 : decode cX4_runByReplacing 81 = .ok (.iload 6, 2) := by decide +kernel
theorem dX4_runByReplacing_83 : decode cX4_runByReplacing 83 = .ok (.if_icmp .le 18, 3) := by decide +kernel
theorem dX4_runByReplacing_86 : decode cX4_runByReplacing 86 = .ok (.aload_n 0, 1) := by decide +kernel
theorem dX4_runByReplacing_87 : decode cX4_runByReplacing 87 = .ok (.getfield 12, 3) := by decide +kernel
theorem dX4_runByReplacing_90 : decode cX4_runByReplacing 90 = .ok (.iload 7, 2) := by decide +kernel
theorem dX4_runByReplacing_92 : decode cX4_runByReplacing 92 = .ok (.invokevirtual 84, 3) := by decide +kernel
theorem dX4_runByReplacing_95 : decode cX4_runByReplacing 95 = .ok (.iinc 6 1, 3) := by decide +kernel
theorem dX4_runByReplacing_98 : decode cX4_runByReplacing 98 = .ok (.iconst 0, 1) := by decide +kernel
theorem dX4_runByReplacing_99 : decode cX4_runByReplacing 99 = .ok (.istore 7, 2) := by decide +kernel
theorem dX4_runByReplacing_101 : decode cX4_runByReplacing 101 = .ok (.iinc 7 1, 3) := by decide +kernel
theorem dX4_runByReplacing_104 : decode cX4_runByReplacing 104 = .ok (.iload 5, 2) := by decide +kernel
theorem dX4_runByReplacing_106 : decode cX4_runByReplacing 106 = .ok (.iload 4, 2) := by decide +kernel
theorem dX4_runByReplacing_108 : decode cX4_runByReplacing 108 = .ok (.if_icmp .ge 59, 3) := by decide +kernel
theorem dX4_runByReplacing_111 : decode cX4_runByReplacing 111 = .ok (.aload_n 1, 1) := by decide +kernel
theorem dX4_runByReplacing_112 : decode cX4_runByReplacing 112 = .ok (.iload 5, 2) := by decide +kernel
theorem dX4_runByReplacing_114 : decode cX4_runByReplacing 114 = .ok (.iload_n 2, 1) := by decide +kernel
theorem dX4_runByReplacing_115 : decode cX4_runByReplacing 115 = .ok (.invokestatic 88, 3) := by decide +kernel
theorem dX4_runByReplacing_118 : decode cX4_runByReplacing 118 = .ok (.istore 10, 2) := by decide +kernel
theorem dX4_runByReplacing_120 : decode cX4_runByReplacing 120 = .ok (.iload 10, 2) := by decide +kernel
theorem dX4_runByReplacing_122 : decode cX4_runByReplacing 122 = .ok (.iload 9, 2) := by decide +kernel
theorem dX4_runByReplacing_124 : decode cX4_runByReplacing 124 = .ok (.ldc 98, 2) := by decide +kernel
theorem dX4_runByReplacing_126 : decode cX4_runByReplacing 126 = .ok (.irem, 1) := by decide +kernel
theorem dX4_runByReplacing_127 : decode cX4_runByReplacing 127 = .ok (.if_icmp .ge 7, 3) := by decide +kernel
theorem dX4_runByReplacing_130 : decode cX4_runByReplacing 130 = .ok (.iconst 1, 1) := by decide +kernel
theorem dX4_runByReplacing_131 : decode cX4_runByReplacing 131 = .ok (.goto 4, 3) := by decide +kernel
theorem dX4_runByReplacing_134 : decode cX4_runByReplacing 134 = .ok (.iconst 0, 1) := by decide +kernel
theorem dX4_runByReplacing_135 : decode cX4_runByReplacing 135 = .ok (.istore 11, 2) := by decide +kernel
theorem dX4_runByReplacing_137 : decode cX4_runByReplacing 137 = .ok (.aload_n 0, 1) := by decide +kernel
theorem dX4_runByReplacing_138 : decode cX4_runByReplacing 138 = .ok (.getfield 37, 3) := by decide +kernel
theorem dX4_runByReplacing_141 : decode cX4_runByReplacing 141 = .ok (.iload 11, 2) := by decide +kernel
theorem dX4_runByReplacing_143 : decode cX4_runByReplacing 143 = .ok (.ifCond .eq 10, 3) := by decide +kernel
theorem dX4_runByReplacing_146 : decode cX4_runByReplacing 146 = .ok (.iload 6, 2) := by decide +kernel
theorem dX4_runByReplacing_148 : decode cX4_runByReplacing 148 = .ok (.iconst 1, 1) := by decide +kernel
theorem dX4_runByReplacing_149 : decode cX4_runByReplacing 149 = .ok (.iadd, 1) := by decide +kernel
theorem dX4_runByReplacing_150 : decode cX4_runByReplacing 150 = .ok (.goto 5, 3) := by decide +kernel
theorem dX4_runByReplacing_153 : decode cX4_runByReplacing 153 = .ok (.iload 6, 2) := by decide +kernel
theorem dX4_runByReplacing_155 : decode cX4_runByReplacing 155 = .ok (.ldc 98, 2) := by decide +kernel
theorem dX4_runByReplacing_157 : decode cX4_runByReplacing 157 = .ok (.imul, 1) := by decide +kernel
theorem dX4_runByReplacing_158 : decode cX4_runByReplacing 158 = .ok (.iload 10, 2) := by decide +kernel
theorem dX4_runByReplacing_160 : decode cX4_runByReplacing 160 = .ok (.iadd, 1) := by decide +kernel
theorem dX4_runByReplacing_161 : decode cX4_runByReplacing 161 = .ok (.invokevirtual 92, 3) := by decide +kernel
theorem dX4_runByReplacing_164 : decode cX4_runByReplacing 164 = .ok (.iinc 5 1, 3) := by decide +kernel
theorem dX4_runByReplacing_167 : decode cX4_runByReplacing 167 = .ok (.iinc 8 1, 3) := by decide +kernel
theorem dX4_runByReplacing_170 : decode cX4_runByReplacing 170 = .ok (.goto (-110), 3) := by decide +kernel
theorem dX4_runByReplacing_173 : decode cX4_runByReplacing 173 = .ok (.iload 7, 2) := by decide +kernel
theorem dX4_runByReplacing_175 : decode cX4_runByReplacing 175 = .ok (.ifCond .le 12, 3) := by decide +kernel
theorem dX4_runByReplacing_178 : decode cX4_runByReplacing 178 = .ok (.aload_n 0, 1) := by decide +kernel
theorem dX4_runByReplacing_179 : decode cX4_runByReplacing 179 = .ok (.getfield 12, 3) := by decide +kernel
theorem dX4_runByReplacing_182 : decode cX4_runByReplacing 182 = .ok (.iload 7, 2) := by decide +kernel
theorem dX4_runByReplacing_184 : decode cX4_runByReplacing 184 = .ok (.invokevirtual 84, 3) := by decide +kernel
theorem dX4_runByReplacing_187 : decode cX4_runByReplacing 187 = .ok (.return_, 1) := by decide +kernel
theorem dX4_countRuns_0 : decode cX4_countRuns 0 = .ok (.aload_n 0, 1) := by decide +kernel
theorem dX4_countRuns_1 : decode cX4_countRuns 1 = .ok (.iload_n 1, 1) := by decide +kernel
theorem dX4_countRuns_2 : decode cX4_countRuns 2 = .ok (.aload_n 0, 1) := by decide +kernel
theorem dX4_countRuns_3 : decode cX4_countRuns 3 = .ok (.getfield 41, 3) := by decide +kernel
theorem dX4_countRuns_6 : decode cX4_countRuns 6 = .ok (.invokestatic 99, 3) := by decide +kernel
theorem dX4_countRuns_9 : decode cX4_countRuns 9 = .ok (.putfield 24, 3) := by decide +kernel
theorem dX4_countRuns_12 : decode cX4_countRuns 12 = .ok (.aload_n 0, 1) := by decide +kernel
theorem dX4_countRuns_13 : decode cX4_countRuns 13 = .ok (.iconst 0, 1) := by decide +kernel
theorem dX4_countRuns_14 : decode cX4_countRuns 14 = .ok (.putfield 28, 3) := by decide +kernel
theorem dX4_countRuns_17 : decode cX4_countRuns 17 = .ok (.iconst 0, 1) := by decide +kernel
theorem dX4_countRuns_18 : decode cX4_countRuns 18 = .ok (.istore_n 2, 1) := by decide +kernel
theorem dX4_countRuns_19 : decode cX4_countRuns 19 = .ok (.iload_n 2, 1) := by decide +kernel
theorem dX4_countRuns_20 : decode cX4_countRuns 20 = .ok (.aload_n 0, 1) := by decide +kernel
theorem dX4_countRuns_21 : decode cX4_countRuns 21 = .ok (.getfield 12, 3) := by decide +kernel
theorem dX4_countRuns_24 : decode cX4_countRuns 24 = .ok (.invokevirtual 102, 3) := by decide +kernel
theorem dX4_countRuns_27 : decode cX4_countRuns 27 = .ok (.if_icmp .ge 33, 3) := by decide +kernel
theorem dX4_countRuns_30 : decode cX4_countRuns 30 = .ok (.aload_n 0, 1) := by decide +kernel
theorem dX4_countRuns_31 : decode cX4_countRuns 31 = .ok (.dup, 1) := by decide +kernel
theorem dX4_countRuns_32 : decode cX4_countRuns 32 = .ok (.getfield 28, 3) := by decide +kernel
theorem dX4_countRuns_35 : decode cX4_countRuns 35 = .ok (.aload_n 0, 1) := by decide +kernel
theorem dX4_countRuns_36 : decode cX4_countRuns 36 = .ok (.getfield 12, 3) := by decide +kernel
theorem dX4_countRuns_39 : decode cX4_countRuns 39 = .ok (.iload_n 2, 1) := by decide +kernel
theorem dX4_countRuns_40 : decode cX4_countRuns 40 = .ok (.invokevirtual 103, 3) := by decide +kernel
theorem dX4_countRuns_43 : decode cX4_countRuns 43 = .ok (.aload_n 0, 1) := by decide +kernel
theorem dX4_countRuns_44 : decode cX4_countRuns 44 = .ok (.getfield 41, 3) := by decide +kernel
theorem dX4_countRuns_47 : decode cX4_countRuns 47 = .ok (.invokestatic 99, 3) := by decide +kernel
theorem dX4_countRuns_50 : decode cX4_countRuns 50 = .ok (.iadd, 1) := by decide +kernel
theorem dX4_countRuns_51 : decode cX4_countRuns 51 = .ok (.putfield 28, 3) := by decide +kernel
theorem dX4_countRuns_54 : decode cX4_countRuns 54 = .ok (.iinc 2 1, 3) := by decide +kernel
theorem dX4_countRuns_57 : decode cX4_countRuns 57 = .ok (.goto (-38), 3) := by decide +kernel
theorem dX4_countRuns_60 : decode cX4_countRuns 60 = .ok (.return_, 1) := by decide +kernel
theorem dX4_mergeByLevels_0 : decode cX4_mergeByLevels 0 = .ok (.iconst 0, 1) := by decide +kernel
theorem dX4_mergeByLevels_1 : decode cX4_mergeByLevels 1 = .ok (.istore_n 2, 1) := by decide +kernel
theorem dX4_mergeByLevels_2 : decode cX4_mergeByLevels 2 = .ok (.iload_n 2, 1) := by decide +kernel
theorem dX4_mergeByLevels_3 : decode cX4_mergeByLevels 3 = .ok (.bipush 120, 2) := by decide +kernel
theorem dX4_mergeByLevels_5 : decode cX4_mergeByLevels 5 = .ok (.if_icmp .ge 29, 3) := by decide +kernel
theorem dX4_mergeByLevels_8 : decode cX4_mergeByLevels 8 = .ok (.aload_n 0, 1) := by decide +kernel
theorem dX4_mergeByLevels_9 : decode cX4_mergeByLevels 9 = .ok (.getfield 31, 3) := by decide +kernel
theorem dX4_mergeByLevels_12 : decode cX4_mergeByLevels 12 = .ok (.invokevirtual 102, 3) := by decide +kernel
theorem dX4_mergeByLevels_15 : decode cX4_mergeByLevels 15 = .ok (.iconst 1, 1) := by decide +kernel
theorem dX4_mergeByLevels_16 : decode cX4_mergeByLevels 16 = .ok (.if_icmp .le 18, 3) := by decide +kernel
theorem dX4_mergeByLevels_19 : decode cX4_mergeByLevels 19 = .ok (.aload_n 0, 1) := by decide +kernel
theorem dX4_mergeByLevels_20 : decode cX4_mergeByLevels 20 = .ok (.iconst 2, 1) := by decide +kernel
theorem dX4_mergeByLevels_21 : decode cX4_mergeByLevels 21 = .ok (.iload_n 1, 1) := by decide +kernel
theorem dX4_mergeByLevels_22 : decode cX4_mergeByLevels 22 = .ok (.invokestatic 75, 3) := by decide +kernel
theorem dX4_mergeByLevels_25 : decode cX4_mergeByLevels 25 = .ok (.invokevirtual 107, 3) := by decide +kernel
theorem dX4_mergeByLevels_28 : decode cX4_mergeByLevels 28 = .ok (.iinc 2 1, 3) := by decide +kernel
theorem dX4_mergeByLevels_31 : decode cX4_mergeByLevels 31 = .ok (.goto (-29), 3) := by decide +kernel
theorem dX4_mergeByLevels_34 : decode cX4_mergeByLevels 34 = .ok (.return_, 1) := by decide +kernel
theorem dX4_mergeLevel_0 : decode cX4_mergeLevel 0 = .ok (.aload_n 0, 1) := by decide +kernel
theorem dX4_mergeLevel_1 : decode cX4_mergeLevel 1 = .ok (.getfield 31, 3) := by decide +kernel
theorem dX4_mergeLevel_4 : decode cX4_mergeLevel 4 = .ok (.invokevirtual 102, 3) := by decide +kernel
theorem dX4_mergeLevel_7 : decode cX4_mergeLevel 7 = .ok (.istore_n 2, 1) := by decide +kernel
theorem dX4_mergeLevel_8 : decode cX4_mergeLevel 8 = .ok (.iconst 0, 1) := by decide +kernel
theorem dX4_mergeLevel_9 : decode cX4_mergeLevel 9 = .ok (.istore_n 3, 1) := by decide +kernel
theorem dX4_mergeLevel_10 : decode cX4_mergeLevel 10 = .ok (.iconst 0, 1) := by decide +kernel
theorem dX4_mergeLevel_11 : decode cX4_mergeLevel 11 = .ok (.istore 4, 2) := by decide +kernel
theorem dX4_mergeLevel_13 : decode cX4_mergeLevel 13 = .ok (.iload 4, 2) := by decide +kernel
theorem dX4_mergeLevel_15 : decode cX4_mergeLevel 15 = .ok (.iload_n 2, 1) := by decide +kernel
theorem dX4_mergeLevel_16 : decode cX4_mergeLevel 16 = .ok (.if_icmp .ge 149, 3) := by decide +kernel
theorem dX4_mergeLevel_19 : decode cX4_mergeLevel 19 = .ok (.iload 4, 2) := by decide +kernel
theorem dX4_mergeLevel_21 : decode cX4_mergeLevel 21 = .ok (.iload_n 1, 1) := by decide +kernel
theorem dX4_mergeLevel_22 : decode cX4_mergeLevel 22 = .ok (.iadd, 1) := by decide +kernel
theorem dX4_mergeLevel_23 : decode cX4_mergeLevel 23 = .ok (.iload_n 2, 1) := by decide +kernel
theorem dX4_mergeLevel_24 : decode cX4_mergeLevel 24 = .ok (.invokestatic 81, 3) := by decide +kernel
theorem dX4_mergeLevel_27 : decode cX4_mergeLevel 27 = .ok (.istore 5, 2) := by decide +kernel
theorem dX4_mergeLevel_29 : decode cX4_mergeLevel 29 = .ok (.iconst 0, 1) := by decide +kernel
theorem dX4_mergeLevel_30 : decode cX4_mergeLevel 30 = .ok (.istore 6, 2) := by decide +kernel
theorem dX4_mergeLevel_32 : decode cX4_mergeLevel 32 = .ok (.iload 4, 2) := by decide +kernel
theorem dX4_mergeLevel_34 : decode cX4_mergeLevel 34 = .ok (.istore 7, 2) := by decide +kernel
theorem dX4_mergeLevel_36 : decode cX4_mergeLevel 36 = .ok (.iload 7, 2) := by decide +kernel
theorem dX4_mergeLevel_38 : decode cX4_mergeLevel 38 = .ok (.iload 5, 2) := by decide +kernel
theorem dX4_mergeLevel_40 : decode cX4_mergeLevel 40 = .ok (.if_icmp .ge 23, 3) := by decide +kernel
theorem dX4_mergeLevel_43 : decode cX4_mergeLevel 43 = .ok (.iload 6, 2) := by decide +kernel
theorem dX4_mergeLevel_45 : decode cX4_mergeLevel 45 = .ok (.aload_n 0, 1) := by decide +kernel
theorem dX4_mergeLevel_46 : decode cX4_mergeLevel 46 = .ok (.getfield 31, 3) := by decide +kernel
theorem dX4_mergeLevel_49 : decode cX4_mergeLevel 49 = .ok (.iload 7, 2) := by decide +kernel
theorem dX4_mergeLevel_51 : decode cX4_mergeLevel 51 = .ok (.invokevirtual 103, 3) := by decide +kernel
theorem dX4_mergeLevel_54 : decode cX4_mergeLevel 54 = .ok (.iadd, 1) := by decide +kernel
theorem dX4_mergeLevel_55 : decode cX4_mergeLevel 55 = .ok (.istore 6, 2) := by decide +kernel
theorem dX4_mergeLevel_57 : decode cX4_mergeLevel 57 = .ok (.iinc 7 1, 3) := by decide +kernel
theorem dX4_mergeLevel_60 : decode cX4_mergeLevel 60 = .ok (.goto (-24), 3) := by decide +kernel
theorem dX4_mergeLevel_63 : decode cX4_mergeLevel 63 = .ok (.iload 5, 2) := by decide +kernel
theorem dX4_mergeLevel_65 : decode cX4_mergeLevel 65 = .ok (.iload 4, 2) := by decide +kernel
theorem dX4_mergeLevel_67 : decode cX4_mergeLevel 67 = .ok (.isub, 1) := by decide +kernel
theorem dX4_mergeLevel_68 : decode cX4_mergeLevel 68 = .ok (.iconst 1, 1) := by decide +kernel
theorem dX4_mergeLevel_69 : decode cX4_mergeLevel 69 = .ok (.if_icmp .le 74, 3) := by decide +kernel
theorem dX4_mergeLevel_72 : decode cX4_mergeLevel 72 = .ok (.iload 4, 2) := by decide +kernel
theorem dX4_mergeLevel_74 : decode cX4_mergeLevel 74 = .ok (.istore 7, 2) := by decide +kernel
theorem dX4_mergeLevel_76 : decode cX4_mergeLevel 76 = .ok (.iload 7, 2) := by decide +kernel
theorem dX4_mergeLevel_78 : decode cX4_mergeLevel 78 = .ok (.iload 5, 2) := by decide +kernel
theorem dX4_mergeLevel_80 : decode cX4_mergeLevel 80 = .ok (.if_icmp .ge 34, 3) := by decide +kernel
theorem dX4_mergeLevel_83 : decode cX4_mergeLevel 83 = .ok (.aload_n 0, 1) := by decide +kernel
theorem dX4_mergeLevel_84 : decode cX4_mergeLevel 84 = .ok (.dup, 1) := by decide +kernel
theorem dX4_mergeLevel_85 : decode cX4_mergeLevel 85 = .ok (.getfield 24, 3) := by decide +kernel
theorem dX4_mergeLevel_88 : decode cX4_mergeLevel 88 = .ok (.aload_n 0, 1) := by decide +kernel
theorem dX4_mergeLevel_89 : decode cX4_mergeLevel 89 = .ok (.getfield 31, 3) := by decide +kernel
theorem dX4_mergeLevel_92 : decode cX4_mergeLevel 92 = .ok (.iload 7, 2) := by decide +kernel
theorem dX4_mergeLevel_94 : decode cX4_mergeLevel 94 = .ok (.invokevirtual 103, 3) := by decide +kernel
theorem dX4_mergeLevel_97 : decode cX4_mergeLevel 97 = .ok (.aload_n 0, 1) := by decide +kernel
theorem dX4_mergeLevel_98 : decode cX4_mergeLevel 98 = .ok (.getfield 41, 3) := by decide +kernel
theorem dX4_mergeLevel_101 : decode cX4_mergeLevel 101 = .ok (.invokestatic 99, 3) := by decide +kernel
theorem dX4_mergeLevel_104 : decode cX4_mergeLevel 104 = .ok (.iadd, 1) := by decide +kernel
theorem dX4_mergeLevel_105 : decode cX4_mergeLevel 105 = .ok (.putfield 24, 3) := by decide +kernel
theorem dX4_mergeLevel_108 : decode cX4_mergeLevel 108 = .ok (.iinc 7 1, 3) := by decide +kernel
theorem dX4_mergeLevel_111 : decode cX4_mergeLevel 111 = .ok (.goto (-35), 3) := by decide +kernel
theorem dX4_mergeLevel_114 : decode cX4_mergeLevel 114 = .ok (.aload_n 0, 1) := by decide +kernel
theorem dX4_mergeLevel_115 : decode cX4_mergeLevel 115 = .ok (.dup, 1) := by decide +kernel
theorem dX4_mergeLevel_116 : decode cX4_mergeLevel 116 = .ok (.getfield 28, 3) := by decide +kernel
theorem dX4_mergeLevel_119 : decode cX4_mergeLevel 119 = .ok (.iload 6, 2) := by decide +kernel
theorem dX4_mergeLevel_121 : decode cX4_mergeLevel 121 = .ok (.aload_n 0, 1) := by decide +kernel
theorem dX4_mergeLevel_122 : decode cX4_mergeLevel 122 = .ok (.getfield 41, 3) := by decide +kernel
theorem dX4_mergeLevel_125 : decode cX4_mergeLevel 125 = .ok (.invokestatic 99, 3) := by decide +kernel
theorem dX4_mergeLevel_128 : decode cX4_mergeLevel 128 = .ok (.iadd, 1) := by decide +kernel
theorem dX4_mergeLevel_129 : decode cX4_mergeLevel 129 = .ok (.putfield 28, 3) := by decide +kernel
theorem dX4_mergeLevel_132 : decode cX4_mergeLevel 132 = .ok (.aload_n 0, 1) := by decide +kernel
theorem dX4_mergeLevel_133 : decode cX4_mergeLevel 133 = .ok (.iload 5, 2) := by decide +kernel
theorem dX4_mergeLevel_135 : decode cX4_mergeLevel 135 = .ok (.iload 4, 2) := by decide +kernel
theorem dX4_mergeLevel_137 : decode cX4_mergeLevel 137 = .ok (.isub, 1) := by decide +kernel
theorem dX4_mergeLevel_138 : decode cX4_mergeLevel 138 = .ok (.iload 6, 2) := by decide +kernel
theorem dX4_mergeLevel_140 : decode cX4_mergeLevel 140 = .ok (.invokevirtual 110, 3) := by decide +kernel
theorem dX4_mergeLevel_143 : decode cX4_mergeLevel 143 = .ok (.aload_n 0, 1) := by decide +kernel
theorem dX4_mergeLevel_144 : decode cX4_mergeLevel 144 = .ok (.getfield 31, 3) := by decide +kernel
theorem dX4_mergeLevel_147 : decode cX4_mergeLevel 147 = .ok (.iload_n 3, 1) := by decide +kernel
theorem dX4_mergeLevel_148 : decode cX4_mergeLevel 148 = .ok (.iload 6, 2) := by decide +kernel
theorem dX4_mergeLevel_150 : decode cX4_mergeLevel 150 = .ok (.invokevirtual 113, 3) := by decide +kernel
theorem dX4_mergeLevel_153 : decode cX4_mergeLevel 153 = .ok (.iinc 3 1, 3) := by decide +kernel
theorem dX4_mergeLevel_156 : decode cX4_mergeLevel 156 = .ok (.iload 4, 2) := by decide +kernel
theorem dX4_mergeLevel_158 : decode cX4_mergeLevel 158 = .ok (.iload_n 1, 1) := by decide +kernel
theorem dX4_mergeLevel_159 : decode cX4_mergeLevel 159 = .ok (.iadd, 1) := by decide +kernel
theorem dX4_mergeLevel_160 : decode cX4_mergeLevel 160 = .ok (.istore 4, 2) := by decide +kernel
theorem dX4_mergeLevel_162 : decode cX4_mergeLevel 162 = .ok (.goto (-149), 3) := by decide +kernel
theorem dX4_mergeLevel_165 : decode cX4_mergeLevel 165 = .ok (.aload_n 0, 1) := by decide +kernel
theorem dX4_mergeLevel_166 : decode cX4_mergeLevel 166 = .ok (.getfield 31, 3) := by decide +kernel
theorem dX4_mergeLevel_169 : decode cX4_mergeLevel 169 = .ok (.iload_n 3, 1) := by decide +kernel
theorem dX4_mergeLevel_170 : decode cX4_mergeLevel 170 = .ok (.invokevirtual 116, 3) := by decide +kernel
theorem dX4_mergeLevel_173 : decode cX4_mergeLevel 173 = .ok (.return_, 1) := by decide +kernel
theorem dX4_mergeByLeast_0 : decode cX4_mergeByLeast 0 = .ok (.aload_n 0, 1) := by decide +kernel
theorem dX4_mergeByLeast_1 : decode cX4_mergeByLeast 1 = .ok (.getfield 31, 3) := by decide +kernel
theorem dX4_mergeByLeast_4 : decode cX4_mergeByLeast 4 = .ok (.invokevirtual 102, 3) := by decide +kernel
theorem dX4_mergeByLeast_7 : decode cX4_mergeByLeast 7 = .ok (.iconst 2, 1) := by decide +kernel
theorem dX4_mergeByLeast_8 : decode cX4_mergeByLeast 8 = .ok (.isub, 1) := by decide +kernel
theorem dX4_mergeByLeast_9 : decode cX4_mergeByLeast 9 = .ok (.iconst 1, 1) := by decide +kernel
theorem dX4_mergeByLeast_10 : decode cX4_mergeByLeast 10 = .ok (.iload_n 1, 1) := by decide +kernel
theorem dX4_mergeByLeast_11 : decode cX4_mergeByLeast 11 = .ok (.iconst 1, 1) := by decide +kernel
theorem dX4_mergeByLeast_12 : decode cX4_mergeByLeast 12 = .ok (.isub, 1) := by decide +kernel
theorem dX4_mergeByLeast_13 : decode cX4_mergeByLeast 13 = .ok (.invokestatic 75, 3) := by decide +kernel
theorem dX4_mergeByLeast_16 : decode cX4_mergeByLeast 16 = .ok (.invokestatic 119, 3) := by decide +kernel
theorem dX4_mergeByLeast_19 : decode cX4_mergeByLeast 19 = .ok (.iconst 2, 1) := by decide +kernel
theorem dX4_mergeByLeast_20 : decode cX4_mergeByLeast 20 = .ok (.iadd, 1) := by decide +kernel
theorem dX4_mergeByLeast_21 : decode cX4_mergeByLeast 21 = .ok (.istore_n 2, 1) := by decide +kernel
theorem dX4_mergeByLeast_22 : decode cX4_mergeByLeast 22 = .ok (.iconst 0, 1) := by decide +kernel
theorem dX4_mergeByLeast_23 : decode cX4_mergeByLeast 23 = .ok (.istore_n 3, 1) := by decide +kernel
theorem dX4_mergeByLeast_24 : decode cX4_mergeByLeast 24 = .ok (.iload_n 3, 1) := by decide +kernel
theorem dX4_mergeByLeast_25 : decode cX4_mergeByLeast 25 = .ok (.bipush 120, 2) := by decide +kernel
theorem dX4_mergeByLeast_27 : decode cX4_mergeByLeast 27 = .ok (.if_icmp .ge 27, 3) := by decide +kernel
theorem dX4_mergeByLeast_30 : decode cX4_mergeByLeast 30 = .ok (.aload_n 0, 1) := by decide +kernel
theorem dX4_mergeByLeast_31 : decode cX4_mergeByLeast 31 = .ok (.getfield 31, 3) := by decide +kernel
theorem dX4_mergeByLeast_34 : decode cX4_mergeByLeast 34 = .ok (.invokevirtual 102, 3) := by decide +kernel
theorem dX4_mergeByLeast_37 : decode cX4_mergeByLeast 37 = .ok (.iconst 1, 1) := by decide +kernel
theorem dX4_mergeByLeast_38 : decode cX4_mergeByLeast 38 = .ok (.if_icmp .le 16, 3) := by decide +kernel
theorem dX4_mergeByLeast_41 : decode cX4_mergeByLeast 41 = .ok (.aload_n 0, 1) := by decide +kernel
