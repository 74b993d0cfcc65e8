-- decode rows, part 2
theorem dX4_mergeByLeast_42 : decode cX4_mergeByLeast 42 = .ok (.iload_n 2, 1) := by decide +kernel
theorem dX4_mergeByLeast_43 : decode cX4_mergeByLeast 43 = .ok (.invokevirtual 122, 3) := by decide +kernel
theorem dX4_mergeByLeast_46 : decode cX4_mergeByLeast 46 = .ok (.iload_n 1, 1) := by decide +kernel
theorem dX4_mergeByLeast_47 : decode cX4_mergeByLeast 47 = .ok (.istore_n 2, 1) := by decide +kernel
theorem dX4_mergeByLeast_48 : decode cX4_mergeByLeast 48 = .ok (.iinc 3 1, 3) := by decide +kernel
theorem dX4_mergeByLeast_51 : decode cX4_mergeByLeast 51 = .ok (.goto (-27), 3) := by decide +kernel
theorem dX4_mergeByLeast_54 : decode cX4_mergeByLeast 54 = .ok (.return_, 1) := by decide +kernel
theorem dX4_mergeLeast_0 : decode cX4_mergeLeast 0 = .ok (.iconst 0, 1) := by decide +kernel
theorem dX4_mergeLeast_1 : decode cX4_mergeLeast 1 = .ok (.istore_n 2, 1) := by decide +kernel
theorem dX4_mergeLeast_2 : decode cX4_mergeLeast 2 = .ok (.iconst 0, 1) := by decide +kernel
theorem dX4_mergeLeast_3 : decode cX4_mergeLeast 3 = .ok (.istore_n 3, 1) := by decide +kernel
theorem dX4_mergeLeast_4 : decode cX4_mergeLeast 4 = .ok (.iload_n 3, 1) := by decide +kernel
theorem dX4_mergeLeast_5 : decode cX4_mergeLeast 5 = .ok (.iload_n 1, 1) := by decide +kernel
theorem dX4_mergeLeast_6 : decode cX4_mergeLeast 6 = .ok (.if_icmp .ge 48, 3) := by decide +kernel
theorem dX4_mergeLeast_9 : decode cX4_mergeLeast 9 = .ok (.aload_n 0, 1) := by decide +kernel
theorem dX4_mergeLeast_10 : decode cX4_mergeLeast 10 = .ok (.getfield 31, 3) := by decide +kernel
theorem dX4_mergeLeast_13 : decode cX4_mergeLeast 13 = .ok (.aload_n 0, 1) := by decide +kernel
theorem dX4_mergeLeast_14 : decode cX4_mergeLeast 14 = .ok (.getfield 31, 3) := by decide +kernel
theorem dX4_mergeLeast_17 : decode cX4_mergeLeast 17 = .ok (.invokevirtual 125, 3) := by decide +kernel
theorem dX4_mergeLeast_20 : decode cX4_mergeLeast 20 = .ok (.invokevirtual 128, 3) := by decide +kernel
theorem dX4_mergeLeast_23 : decode cX4_mergeLeast 23 = .ok (.istore 4, 2) := by decide +kernel
theorem dX4_mergeLeast_25 : decode cX4_mergeLeast 25 = .ok (.aload_n 0, 1) := by decide +kernel
theorem dX4_mergeLeast_26 : decode cX4_mergeLeast 26 = .ok (.dup, 1) := by decide +kernel
theorem dX4_mergeLeast_27 : decode cX4_mergeLeast 27 = .ok (.getfield 24, 3) := by decide +kernel
theorem dX4_mergeLeast_30 : decode cX4_mergeLeast 30 = .ok (.iload 4, 2) := by decide +kernel
theorem dX4_mergeLeast_32 : decode cX4_mergeLeast 32 = .ok (.aload_n 0, 1) := by decide +kernel
theorem dX4_mergeLeast_33 : decode cX4_mergeLeast 33 = .ok (.getfield 41, 3) := by decide +kernel
theorem dX4_mergeLeast_36 : decode cX4_mergeLeast 36 = .ok (.invokestatic 99, 3) := by decide +kernel
theorem dX4_mergeLeast_39 : decode cX4_mergeLeast 39 = .ok (.iadd, 1) := by decide +kernel
theorem dX4_mergeLeast_40 : decode cX4_mergeLeast 40 = .ok (.putfield 24, 3) := by decide +kernel
theorem dX4_mergeLeast_43 : decode cX4_mergeLeast 43 = .ok (.iload_n 2, 1) := by decide +kernel
theorem dX4_mergeLeast_44 : decode cX4_mergeLeast 44 = .ok (.iload 4, 2) := by decide +kernel
theorem dX4_mergeLeast_46 : decode cX4_mergeLeast 46 = .ok (.iadd, 1) := by decide +kernel
theorem dX4_mergeLeast_47 : decode cX4_mergeLeast 47 = .ok (.istore_n 2, 1) := by decide +kernel
theorem dX4_mergeLeast_48 : decode cX4_mergeLeast 48 = .ok (.iinc 3 1, 3) := by decide +kernel
theorem dX4_mergeLeast_51 : decode cX4_mergeLeast 51 = .ok (.goto (-47), 3) := by decide +kernel
theorem dX4_mergeLeast_54 : decode cX4_mergeLeast 54 = .ok (.aload_n 0, 1) := by decide +kernel
theorem dX4_mergeLeast_55 : decode cX4_mergeLeast 55 = .ok (.getfield 31, 3) := by decide +kernel
theorem dX4_mergeLeast_58 : decode cX4_mergeLeast 58 = .ok (.iload_n 2, 1) := by decide +kernel
theorem dX4_mergeLeast_59 : decode cX4_mergeLeast 59 = .ok (.invokevirtual 84, 3) := by decide +kernel
theorem dX4_mergeLeast_62 : decode cX4_mergeLeast 62 = .ok (.aload_n 0, 1) := by decide +kernel
theorem dX4_mergeLeast_63 : decode cX4_mergeLeast 63 = .ok (.dup, 1) := by decide +kernel
theorem dX4_mergeLeast_64 : decode cX4_mergeLeast 64 = .ok (.getfield 28, 3) := by decide +kernel
theorem dX4_mergeLeast_67 : decode cX4_mergeLeast 67 = .ok (.iload_n 2, 1) := by decide +kernel
theorem dX4_mergeLeast_68 : decode cX4_mergeLeast 68 = .ok (.aload_n 0, 1) := by decide +kernel
theorem dX4_mergeLeast_69 : decode cX4_mergeLeast 69 = .ok (.getfield 41, 3) := by decide +kernel
theorem dX4_mergeLeast_72 : decode cX4_mergeLeast 72 = .ok (.invokestatic 99, 3) := by decide +kernel
theorem dX4_mergeLeast_75 : decode cX4_mergeLeast 75 = .ok (.iadd, 1) := by decide +kernel
theorem dX4_mergeLeast_76 : decode cX4_mergeLeast 76 = .ok (.putfield 28, 3) := by decide +kernel
theorem dX4_mergeLeast_79 : decode cX4_mergeLeast 79 = .ok (.aload_n 0, 1) := by decide +kernel
theorem dX4_mergeLeast_80 : decode cX4_mergeLeast 80 = .ok (.iload_n 1, 1) := by decide +kernel
theorem dX4_mergeLeast_81 : decode cX4_mergeLeast 81 = .ok (.iload_n 2, 1) := by decide +kernel
theorem dX4_mergeLeast_82 : decode cX4_mergeLeast 82 = .ok (.invokevirtual 110, 3) := by decide +kernel
theorem dX4_mergeLeast_85 : decode cX4_mergeLeast 85 = .ok (.return_, 1) := by decide +kernel
theorem dX4_noteMerge_0 : decode cX4_noteMerge 0 = .ok (.aload_n 0, 1) := by decide +kernel
theorem dX4_noteMerge_1 : decode cX4_noteMerge 1 = .ok (.getfield 18, 3) := by decide +kernel
theorem dX4_noteMerge_4 : decode cX4_noteMerge 4 = .ok (.iload_n 1, 1) := by decide +kernel
theorem dX4_noteMerge_5 : decode cX4_noteMerge 5 = .ok (.invokevirtual 84, 3) := by decide +kernel
theorem dX4_noteMerge_8 : decode cX4_noteMerge 8 = .ok (.aload_n 0, 1) := by decide +kernel
theorem dX4_noteMerge_9 : decode cX4_noteMerge 9 = .ok (.getfield 21, 3) := by decide +kernel
theorem dX4_noteMerge_12 : decode cX4_noteMerge 12 = .ok (.iload_n 2, 1) := by decide +kernel
theorem dX4_noteMerge_13 : decode cX4_noteMerge 13 = .ok (.invokevirtual 84, 3) := by decide +kernel
theorem dX4_noteMerge_16 : decode cX4_noteMerge 16 = .ok (.return_, 1) := by decide +kernel
theorem dX5_init_0 : decode cX5_init 0 = .ok (.aload_n 0, 1) := by decide +kernel
theorem dX5_init_1 : decode cX5_init 1 = .ok (.invokespecial 3, 3) := by decide +kernel
theorem dX5_init_4 : decode cX5_init 4 = .ok (.aload_n 0, 1) := by decide +kernel
theorem dX5_init_5 : decode cX5_init 5 = .ok (.bipush 120, 2) := by decide +kernel
theorem dX5_init_7 : decode cX5_init 7 = .ok (.newarray .int, 2) := by decide +kernel
theorem dX5_init_9 : decode cX5_init 9 = .ok (.putfield 9, 3) := by decide +kernel
theorem dX5_init_12 : decode cX5_init 12 = .ok (.aload_n 0, 1) := by decide +kernel
theorem dX5_init_13 : decode cX5_init 13 = .ok (.bipush 120, 2) := by decide +kernel
theorem dX5_init_15 : decode cX5_init 15 = .ok (.newarray .int, 2) := by decide +kernel
theorem dX5_init_17 : decode cX5_init 17 = .ok (.putfield 15, 3) := by decide +kernel
theorem dX5_init_20 : decode cX5_init 20 = .ok (.aload_n 0, 1) := by decide +kernel
theorem dX5_init_21 : decode cX5_init 21 = .ok (.iconst 0, 1) := by decide +kernel
theorem dX5_init_22 : decode cX5_init 22 = .ok (.putfield 18, 3) := by decide +kernel
theorem dX5_init_25 : decode cX5_init 25 = .ok (.return_, 1) := by decide +kernel
theorem dX5_empty_0 : decode cX5_empty 0 = .ok (.aload_n 0, 1) := by decide +kernel
theorem dX5_empty_1 : decode cX5_empty 1 = .ok (.iconst 0, 1) := by decide +kernel
theorem dX5_empty_2 : decode cX5_empty 2 = .ok (.putfield 18, 3) := by decide +kernel
theorem dX5_empty_5 : decode cX5_empty 5 = .ok (.return_, 1) := by decide +kernel
theorem dX5_count_0 : decode cX5_count 0 = .ok (.aload_n 0, 1) := by decide +kernel
theorem dX5_count_1 : decode cX5_count 1 = .ok (.getfield 18, 3) := by decide +kernel
theorem dX5_count_4 : decode cX5_count 4 = .ok (.ireturn, 1) := by decide +kernel
theorem dX5_has_0 : decode cX5_has 0 = .ok (.iload_n 1, 1) := by decide +kernel
theorem dX5_has_1 : decode cX5_has 1 = .ok (.ifCond .lt 15, 3) := by decide +kernel
theorem dX5_has_4 : decode cX5_has 4 = .ok (.iload_n 1, 1) := by decide +kernel
theorem dX5_has_5 : decode cX5_has 5 = .ok (.aload_n 0, 1) := by decide +kernel
theorem dX5_has_6 : decode cX5_has 6 = .ok (.getfield 18, 3) := by decide +kernel
theorem dX5_has_9 : decode cX5_has 9 = .ok (.if_icmp .ge 7, 3) := by decide +kernel
theorem dX5_has_12 : decode cX5_has 12 = .ok (.iconst 1, 1) := by decide +kernel
theorem dX5_has_13 : decode cX5_has 13 = .ok (.goto 4, 3) := by decide +kernel
theorem dX5_has_16 : decode cX5_has 16 = .ok (.iconst 0, 1) := by decide +kernel
theorem dX5_has_17 : decode cX5_has 17 = .ok (.ireturn, 1) := by decide +kernel
theorem dX5_keyAt_0 : decode cX5_keyAt 0 = .ok (.iload_n 1, 1) := by decide +kernel
theorem dX5_keyAt_1 : decode cX5_keyAt 1 = .ok (.ifCond .lt 20, 3) := by decide +kernel
theorem dX5_keyAt_4 : decode cX5_keyAt 4 = .ok (.iload_n 1, 1) := by decide +kernel
theorem dX5_keyAt_5 : decode cX5_keyAt 5 = .ok (.aload_n 0, 1) := by decide +kernel
theorem dX5_keyAt_6 : decode cX5_keyAt 6 = .ok (.getfield 18, 3) := by decide +kernel
theorem dX5_keyAt_9 : decode cX5_keyAt 9 = .ok (.if_icmp .ge 12, 3) := by decide +kernel
theorem dX5_keyAt_12 : decode cX5_keyAt 12 = .ok (.aload_n 0, 1) := by decide +kernel
theorem dX5_keyAt_13 : decode cX5_keyAt 13 = .ok (.getfield 9, 3) := by decide +kernel
theorem dX5_keyAt_16 : decode cX5_keyAt 16 = .ok (.iload_n 1, 1) := by decide +kernel
theorem dX5_keyAt_17 : decode cX5_keyAt 17 = .ok (.iaload, 1) := by decide +kernel
theorem dX5_keyAt_18 : decode cX5_keyAt 18 = .ok (.goto 4, 3) := by decide +kernel
theorem dX5_keyAt_21 : decode cX5_keyAt 21 = .ok (.iconst 0, 1) := by decide +kernel
theorem dX5_keyAt_22 : decode cX5_keyAt 22 = .ok (.ireturn, 1) := by decide +kernel
theorem dX5_markAt_0 : decode cX5_markAt 0 = .ok (.iload_n 1, 1) := by decide +kernel
theorem dX5_markAt_1 : decode cX5_markAt 1 = .ok (.ifCond .lt 20, 3) := by decide +kernel
theorem dX5_markAt_4 : decode cX5_markAt 4 = .ok (.iload_n 1, 1) := by decide +kernel
theorem dX5_markAt_5 : decode cX5_markAt 5 = .ok (.aload_n 0, 1) := by decide +kernel
theorem dX5_markAt_6 : decode cX5_markAt 6 = .ok (.getfield 18, 3) := by decide +kernel
theorem dX5_markAt_9 : decode cX5_markAt 9 = .ok (.if_icmp .ge 12, 3) := by decide +kernel
theorem dX5_markAt_12 : decode cX5_markAt 12 = .ok (.aload_n 0, 1) := by decide +kernel
theorem dX5_markAt_13 : decode cX5_markAt 13 = .ok (.getfield 15, 3) := by decide +kernel
theorem dX5_markAt_16 : decode cX5_markAt 16 = .ok (.iload_n 1, 1) := by decide +kernel
theorem dX5_markAt_17 : decode cX5_markAt 17 = .ok (.iaload, 1) := by decide +kernel
theorem dX5_markAt_18 : decode cX5_markAt 18 = .ok (.goto 4, 3) := by decide +kernel
theorem dX5_markAt_21 : decode cX5_markAt 21 = .ok (.iconst 0, 1) := by decide +kernel
theorem dX5_markAt_22 : decode cX5_markAt 22 = .ok (.ireturn, 1) := by decide +kernel
theorem dX5_add_0 : decode cX5_add 0 = .ok (.aload_n 0, 1) := by decide +kernel
theorem dX5_add_1 : decode cX5_add 1 = .ok (.getfield 18, 3) := by decide +kernel
theorem dX5_add_4 : decode cX5_add 4 = .ok (.bipush 120, 2) := by decide +kernel
theorem dX5_add_6 : decode cX5_add 6 = .ok (.if_icmp .ge 33, 3) := by decide +kernel
theorem dX5_add_9 : decode cX5_add 9 = .ok (.aload_n 0, 1) := by decide +kernel
theorem dX5_add_10 : decode cX5_add 10 = .ok (.getfield 9, 3) := by decide +kernel
theorem dX5_add_13 : decode cX5_add 13 = .ok (.aload_n 0, 1) := by decide +kernel
theorem dX5_add_14 : decode cX5_add 14 = .ok (.getfield 18, 3) := by decide +kernel
theorem dX5_add_17 : decode cX5_add 17 = .ok (.iload_n 1, 1) := by decide +kernel
theorem dX5_add_18 : decode cX5_add 18 = .ok (.iastore, 1) := by decide +kernel
theorem dX5_add_19 : decode cX5_add 19 = .ok (.aload_n 0, 1) := by decide +kernel
theorem dX5_add_20 : decode cX5_add 20 = .ok (.getfield 15, 3) := by decide +kernel
theorem dX5_add_23 : decode cX5_add 23 = .ok (.aload_n 0, 1) := by decide +kernel
theorem dX5_add_24 : decode cX5_add 24 = .ok (.getfield 18, 3) := by decide +kernel
theorem dX5_add_27 : decode cX5_add 27 = .ok (.iload_n 2, 1) := by decide +kernel
theorem dX5_add_28 : decode cX5_add 28 = .ok (.iastore, 1) := by decide +kernel
theorem dX5_add_29 : decode cX5_add 29 = .ok (.aload_n 0, 1) := by decide +kernel
theorem dX5_add_30 : decode cX5_add 30 = .ok (.dup, 1) := by decide +kernel
theorem dX5_add_31 : decode cX5_add 31 = .ok (.getfield 18, 3) := by decide +kernel
theorem dX5_add_34 : decode cX5_add 34 = .ok (.iconst 1, 1) := by decide +kernel
theorem dX5_add_35 : decode cX5_add 35 = .ok (.iadd, 1) := by decide +kernel
theorem dX5_add_36 : decode cX5_add 36 = .ok (.putfield 18, 3) := by decide +kernel
theorem dX5_add_39 : decode cX5_add 39 = .ok (.return_, 1) := by decide +kernel
theorem dX5_addAll_0 : decode cX5_addAll 0 = .ok (.iconst 0, 1) := by decide +kernel
theorem dX5_addAll_1 : decode cX5_addAll 1 = .ok (.istore_n 2, 1) := by decide +kernel
theorem dX5_addAll_2 : decode cX5_addAll 2 = .ok (.iload_n 2, 1) := by decide +kernel
theorem dX5_addAll_3 : decode cX5_addAll 3 = .ok (.aload_n 1, 1) := by decide +kernel
theorem dX5_addAll_4 : decode cX5_addAll 4 = .ok (.getfield 18, 3) := by decide +kernel
theorem dX5_addAll_7 : decode cX5_addAll 7 = .ok (.if_icmp .ge 25, 3) := by decide +kernel
theorem dX5_addAll_10 : decode cX5_addAll 10 = .ok (.aload_n 0, 1) := by decide +kernel
theorem dX5_addAll_11 : decode cX5_addAll 11 = .ok (.aload_n 1, 1) := by decide +kernel
theorem dX5_addAll_12 : decode cX5_addAll 12 = .ok (.getfield 9, 3) := by decide +kernel
theorem dX5_addAll_15 : decode cX5_addAll 15 = .ok (.iload_n 2, 1) := by decide +kernel
theorem dX5_addAll_16 : decode cX5_addAll 16 = .ok (.iaload, 1) := by decide +kernel
theorem dX5_addAll_17 : decode cX5_addAll 17 = .ok (.aload_n 1, 1) := by decide +kernel
theorem dX5_addAll_18 : decode cX5_addAll 18 = .ok (.getfield 15, 3) := by decide +kernel
theorem dX5_addAll_21 : decode cX5_addAll 21 = .ok (.iload_n 2, 1) := by decide +kernel
theorem dX5_addAll_22 : decode cX5_addAll 22 = .ok (.iaload, 1) := by decide +kernel
theorem dX5_addAll_23 : decode cX5_addAll 23 = .ok (.invokevirtual 22, 3) := by decide +kernel
theorem dX5_addAll_26 : decode cX5_addAll 26 = .ok (.iinc 2 1, 3) := by decide +kernel
theorem dX5_addAll_29 : decode cX5_addAll 29 = .ok (.goto (-27), 3) := by decide +kernel
theorem dX5_addAll_32 : decode cX5_addAll 32 = .ok (.return_, 1) := by decide +kernel
theorem dX5_isUp_0 : decode cX5_isUp 0 = .ok (.iconst 1, 1) := by decide +kernel
theorem dX5_isUp_1 : decode cX5_isUp 1 = .ok (.istore_n 1, 1) := by decide +kernel
theorem dX5_isUp_2 : decode cX5_isUp 2 = .ok (.iload_n 1, 1) := by decide +kernel
theorem dX5_isUp_3 : decode cX5_isUp 3 = .ok (.aload_n 0, 1) := by decide +kernel
theorem dX5_isUp_4 : decode cX5_isUp 4 = .ok (.getfield 18, 3) := by decide +kernel
theorem dX5_isUp_7 : decode cX5_isUp 7 = .ok (.if_icmp .ge 28, 3) := by decide +kernel
theorem dX5_isUp_10 : decode cX5_isUp 10 = .ok (.aload_n 0, 1) := by decide +kernel
theorem dX5_isUp_11 : decode cX5_isUp 11 = .ok (.getfield 9, 3) := by decide +kernel
theorem dX5_isUp_14 : decode cX5_isUp 14 = .ok (.iload_n 1, 1) := by decide +kernel
theorem dX5_isUp_15 : decode cX5_isUp 15 = .ok (.iaload, 1) := by decide +kernel
theorem dX5_isUp_16 : decode cX5_isUp 16 = .ok (.aload_n 0, 1) := by decide +kernel
theorem dX5_isUp_17 : decode cX5_isUp 17 = .ok (.getfield 9, 3) := by decide +kernel
theorem dX5_isUp_20 : decode cX5_isUp 20 = .ok (.iload_n 1, 1) := by decide +kernel
theorem dX5_isUp_21 : decode cX5_isUp 21 = .ok (.iconst 1, 1) := by decide +kernel
theorem dX5_isUp_22 : decode cX5_isUp 22 = .ok (.isub, 1) := by decide +kernel
theorem dX5_isUp_23 : decode cX5_isUp 23 = .ok (.iaload, 1) := by decide +kernel
theorem dX5_isUp_24 : decode cX5_isUp 24 = .ok (.if_icmp .ge 5, 3) := by decide +kernel
theorem dX5_isUp_27 : decode cX5_isUp 27 = .ok (.iconst 0, 1) := by decide +kernel
theorem dX5_isUp_28 : decode cX5_isUp 28 = .ok (.ireturn, 1) := by decide +kernel
theorem dX5_isUp_29 : decode cX5_isUp 29 = .ok (.iinc 1 1, 3) := by decide +kernel
theorem dX5_isUp_32 : decode cX5_isUp 32 = .ok (.goto (-30), 3) := by decide +kernel
theorem dX5_isUp_35 : decode cX5_isUp 35 = .ok (.iconst 1, 1) := by decide +kernel
theorem dX5_isUp_36 : decode cX5_isUp 36 = .ok (.ireturn, 1) := by decide +kernel
theorem dX5_isDown_0 : decode cX5_isDown 0 = .ok (.iconst 1, 1) := by decide +kernel
theorem dX5_isDown_1 : decode cX5_isDown 1 = .ok (.istore_n 1, 1) := by decide +kernel
theorem dX5_isDown_2 : decode cX5_isDown 2 = .ok (.iload_n 1, 1) := by decide +kernel
theorem dX5_isDown_3 : decode cX5_isDown 3 = .ok (.aload_n 0, 1) := by decide +kernel
theorem dX5_isDown_4 : decode cX5_isDown 4 = .ok (.getfield 18, 3) := by decide +kernel
theorem dX5_isDown_7 : decode cX5_isDown 7 = .ok (.if_icmp .ge 28, 3) := by decide +kernel
theorem dX5_isDown_10 : decode cX5_isDown 10 = .ok (.aload_n 0, 1) := by decide +kernel
theorem dX5_isDown_11 : decode cX5_isDown 11 = .ok (.getfield 9, 3) := by decide +kernel
theorem dX5_isDown_14 : decode cX5_isDown 14 = .ok (.iload_n 1, 1) := by decide +kernel
theorem dX5_isDown_15 : decode cX5_isDown 15 = .ok (.iaload, 1) := by decide +kernel
theorem dX5_isDown_16 : decode cX5_isDown 16 = .ok (.aload_n 0, 1) := by decide +kernel
theorem dX5_isDown_17 : decode cX5_isDown 17 = .ok (.getfield 9, 3) := by decide +kernel
theorem dX5_isDown_20 : decode cX5_isDown 20 = .ok (.iload_n 1, 1) := by decide +kernel
theorem dX5_isDown_21 : decode cX5_isDown 21 = .ok (.iconst 1, 1) := by decide +kernel
theorem dX5_isDown_22 : decode cX5_isDown 22 = .ok (.isub, 1) := by decide +kernel
theorem dX5_isDown_23 : decode cX5_isDown 23 = .ok (.iaload, 1) := by decide +kernel
theorem dX5_isDown_24 : decode cX5_isDown 24 = .ok (.if_icmp .le 5, 3) := by decide +kernel
theorem dX5_isDown_27 : decode cX5_isDown 27 = .ok (.iconst 0, 1) := by decide +kernel
theorem dX5_isDown_28 : decode cX5_isDown 28 = .ok (.ireturn, 1) := by decide +kernel
theorem dX5_isDown_29 : decode cX5_isDown 29 = .ok (.iinc 1 1, 3) := by decide +kernel
theorem dX5_isDown_32 : decode cX5_isDown 32 = .ok (.goto (-30), 3) := by decide +kernel
theorem dX5_isDown_35 : decode cX5_isDown 35 = .ok (.iconst 1, 1) := by decide +kernel
theorem dX5_isDown_36 : decode cX5_isDown 36 = .ok (.ireturn, 1) := by decide +kernel
theorem dX5_placeNotBelow_0 : decode cX5_placeNotBelow 0 = .ok (.iconst 0, 1) := by decide +kernel
theorem dX5_placeNotBelow_1 : decode cX5_placeNotBelow 1 = .ok (.iload_n 2, 1) := by decide +kernel
theorem dX5_placeNotBelow_2 : decode cX5_placeNotBelow 2 = .ok (.invokestatic 26, 3) := by decide +kernel
theorem dX5_placeNotBelow_5 : decode cX5_placeNotBelow 5 = .ok (.istore_n 3, 1) := by decide +kernel
theorem dX5_placeNotBelow_6 : decode cX5_placeNotBelow 6 = .ok (.iload_n 3, 1) := by decide +kernel
theorem dX5_placeNotBelow_7 : decode cX5_placeNotBelow 7 = .ok (.aload_n 0, 1) := by decide +kernel
theorem dX5_placeNotBelow_8 : decode cX5_placeNotBelow 8 = .ok (.getfield 18, 3) := by decide +kernel
theorem dX5_placeNotBelow_11 : decode cX5_placeNotBelow 11 = .ok (.if_icmp .ge 19, 3) := by decide +kernel
theorem dX5_placeNotBelow_14 : decode cX5_placeNotBelow 14 = .ok (.aload_n 0, 1) := by decide +kernel
theorem dX5_placeNotBelow_15 : decode cX5_placeNotBelow 15 = .ok (.getfield 9, 3) := by decide +kernel
theorem dX5_placeNotBelow_18 : decode cX5_placeNotBelow 18 = .ok (.iload_n 3, 1) := by decide +kernel
theorem dX5_placeNotBelow_19 : decode cX5_placeNotBelow 19 = .ok (.iaload, 1) := by decide +kernel
theorem dX5_placeNotBelow_20 : decode cX5_placeNotBelow 20 = .ok (.iload_n 1, 1) := by decide +kernel
theorem dX5_placeNotBelow_21 : decode cX5_placeNotBelow 21 = .ok (.if_icmp .ge 9, 3) := by decide +kernel
theorem dX5_placeNotBelow_24 : decode cX5_placeNotBelow 24 = .ok (.iinc 3 1, 3) := by decide +kernel
theorem dX5_placeNotBelow_27 : decode cX5_placeNotBelow 27 = .ok (.goto (-21), 3) := by decide +kernel
theorem dX5_placeNotBelow_30 : decode cX5_placeNotBelow 30 = .ok (.iload_n 3, 1) := by decide +kernel
theorem dX5_placeNotBelow_31 : decode cX5_placeNotBelow 31 = .ok (.ireturn, 1) := by decide +kernel
theorem dX6_init_0 : decode cX6_init 0 = .ok (.aload_n 0, 1) := by decide +kernel
theorem dX6_init_1 : decode cX6_init 1 = .ok (.invokespecial 3, 3) := by decide +kernel
theorem dX6_init_4 : decode cX6_init 4 = .ok (.aload_n 0, 1) := by decide +kernel
theorem dX6_init_5 : decode cX6_init 5 = .ok (.iconst 4, 1) := by decide +kernel
theorem dX6_init_6 : decode cX6_init 6 = .ok (.putfield 9, 3) := by decide +kernel
theorem dX6_init_9 : decode cX6_init 9 = .ok (.aload_n 0, 1) := by decide +kernel
theorem dX6_init_10 : decode cX6_init 10 = .ok (.iconst 4, 1) := by decide +kernel
theorem dX6_init_11 : decode cX6_init 11 = .ok (.putfield 15, 3) := by decide +kernel
theorem dX6_init_14 : decode cX6_init 14 = .ok (.aload_n 0, 1) := by decide +kernel
theorem dX6_init_15 : decode cX6_init 15 = .ok (.iconst 3, 1) := by decide +kernel
theorem dX6_init_16 : decode cX6_init 16 = .ok (.anewarray 18, 3) := by decide +kernel
theorem dX6_init_19 : decode cX6_init 19 = .ok (.putfield 20, 3) := by decide +kernel
theorem dX6_init_22 : decode cX6_init 22 = .ok (.aload_n 0, 1) := by decide +kernel
theorem dX6_init_23 : decode cX6_init 23 = .ok (.iconst 3, 1) := by decide +kernel
theorem dX6_init_24 : decode cX6_init 24 = .ok (.anewarray 18, 3) := by decide +kernel
theorem dX6_init_27 : decode cX6_init 27 = .ok (.putfield 24, 3) := by decide +kernel
theorem dX6_init_30 : decode cX6_init 30 = .ok (.aload_n 0, 1) := by decide +kernel
theorem dX6_init_31 : decode cX6_init 31 = .ok (.new 18, 3) := by decide +kernel
theorem dX6_init_34 : decode cX6_init 34 = .ok (.dup, 1) := by decide +kernel
theorem dX6_init_35 : decode cX6_init 35 = .ok (.invokespecial 27, 3) := by decide +kernel
theorem dX6_init_38 : decode cX6_init 38 = .ok (.putfield 28, 3) := by decide +kernel
theorem dX6_init_41 : decode cX6_init 41 = .ok (.iconst 0, 1) := by decide +kernel
theorem dX6_init_42 : decode cX6_init 42 = .ok (.istore_n 1, 1) := by decide +kernel
theorem dX6_init_43 : decode cX6_init 43 = .ok (.iload_n 1, 1) := by decide +kernel
theorem dX6_init_44 : decode cX6_init 44 = .ok (.iconst 3, 1) := by decide +kernel
theorem dX6_init_45 : decode cX6_init 45 = .ok (.if_icmp .ge 35, 3) := by decide +kernel
theorem dX6_init_48 : decode cX6_init 48 = .ok (.aload_n 0, 1) := by decide +kernel
theorem dX6_init_49 : decode cX6_init 49 = .ok (.getfield 20, 3) := by decide +kernel
theorem dX6_init_52 : decode cX6_init 52 = .ok (.iload_n 1, 1) := by decide +kernel
theorem dX6_init_53 : decode cX6_init 53 = .ok (.new 18, 3) := by decide +kernel
theorem dX6_init_56 : decode cX6_init 56 = .ok (.dup, 1) := by decide +kernel
theorem dX6_init_57 : decode cX6_init 57 = .ok (.invokespecial 27, 3) := by decide +kernel
theorem dX6_init_60 : decode cX6_init 60 = .ok (.aastore, 1) := by decide +kernel
theorem dX6_init_61 : decode cX6_init 61 = .ok (.aload_n 0, 1) := by decide +kernel
theorem dX6_init_62 : decode cX6_init 62 = .ok (.getfield 24, 3) := by decide +kernel
theorem dX6_init_65 : decode cX6_init 65 = .ok (.iload_n 1, 1) := by decide +kernel
theorem dX6_init_66 : decode cX6_init 66 = .ok (.new 18, 3) := by decide +kernel
theorem dX6_init_69 : decode cX6_init 69 = .ok (.dup, 1) := by decide +kernel
theorem dX6_init_70 : decode cX6_init 70 = .ok (.invokespecial 27, 3) := by decide +kernel
theorem dX6_init_73 : decode cX6_init 73 = .ok (.aastore, 1) := by decide +kernel
theorem dX6_init_74 : decode cX6_init 74 = .ok (.iinc 1 1, 3) := by decide +kernel
theorem dX6_init_77 : decode cX6_init 77 = .ok (.goto (-34), 3) := by decide +kernel
theorem dX6_init_80 : decode cX6_init 80 = .ok (.return_, 1) := by decide +kernel
theorem dX6_fillOne_0 : decode cX6_fillOne 0 = .ok (.iload_n 2, 1) := by decide +kernel
theorem dX6_fillOne_1 : decode cX6_fillOne 1 = .ok (.ifCond .lt 21, 3) := by decide +kernel
theorem dX6_fillOne_4 : decode cX6_fillOne 4 = .ok (.iload_n 2, 1) := by decide +kernel
theorem dX6_fillOne_5 : decode cX6_fillOne 5 = .ok (.aload_n 0, 1) := by decide +kernel
theorem dX6_fillOne_6 : decode cX6_fillOne 6 = .ok (.getfield 20, 3) := by decide +kernel
theorem dX6_fillOne_9 : decode cX6_fillOne 9 = .ok (.arraylength, 1) := by decide +kernel
theorem dX6_fillOne_10 : decode cX6_fillOne 10 = .ok (.if_icmp .ge 12, 3) := by decide +kernel
theorem dX6_fillOne_13 : decode cX6_fillOne 13 = .ok (.aload_n 0, 1) := by decide +kernel
theorem dX6_fillOne_14 : decode cX6_fillOne 14 = .ok (.getfield 20, 3) := by decide +kernel
theorem dX6_fillOne_17 : decode cX6_fillOne 17 = .ok (.iload_n 2, 1) := by decide +kernel
theorem dX6_fillOne_18 : decode cX6_fillOne 18 = .ok (.aaload, 1) := by decide +kernel
theorem dX6_fillOne_19 : decode cX6_fillOne 19 = .ok (.goto 7, 3) := by decide +kernel
theorem dX6_fillOne_22 : decode cX6_fillOne 22 = .ok (.aload_n 0, 1) := by decide +kernel
theorem dX6_fillOne_23 : decode cX6_fillOne 23 = .ok (.getfield 28, 3) := by decide +kernel
theorem dX6_fillOne_26 : decode cX6_fillOne 26 = .ok (.astore 4, 2) := by decide +kernel
theorem dX6_fillOne_28 : decode cX6_fillOne 28 = .ok (.aload_n 0, 1) := by decide +kernel
theorem dX6_fillOne_29 : decode cX6_fillOne 29 = .ok (.aload 4, 2) := by decide +kernel
theorem dX6_fillOne_31 : decode cX6_fillOne 31 = .ok (.aload_n 1, 1) := by decide +kernel
theorem dX6_fillOne_32 : decode cX6_fillOne 32 = .ok (.iload_n 2, 1) := by decide +kernel
theorem dX6_fillOne_33 : decode cX6_fillOne 33 = .ok (.iload_n 3, 1) := by decide +kernel
theorem dX6_fillOne_34 : decode cX6_fillOne 34 = .ok (.invokevirtual 32, 3) := by decide +kernel
theorem dX6_fillOne_37 : decode cX6_fillOne 37 = .ok (.aload 4, 2) := by decide +kernel
theorem dX6_fillOne_39 : decode cX6_fillOne 39 = .ok (.areturn, 1) := by decide +kernel
theorem dX6_fillOther_0 : decode cX6_fillOther 0 = .ok (.iload_n 2, 1) := by decide +kernel
theorem dX6_fillOther_1 : decode cX6_fillOther 1 = .ok (.ifCond .lt 21, 3) := by decide +kernel
theorem dX6_fillOther_4 : decode cX6_fillOther 4 = .ok (.iload_n 2, 1) := by decide +kernel
theorem dX6_fillOther_5 : decode cX6_fillOther 5 = .ok (.aload_n 0, 1) := by decide +kernel
theorem dX6_fillOther_6 : decode cX6_fillOther 6 = .ok (.getfield 24, 3) := by decide +kernel
theorem dX6_fillOther_9 : decode cX6_fillOther 9 = .ok (.arraylength, 1) := by decide +kernel
theorem dX6_fillOther_10 : decode cX6_fillOther 10 = .ok (.if_icmp .ge 12, 3) := by decide +kernel
theorem dX6_fillOther_13 : decode cX6_fillOther 13 = .ok (.aload_n 0, 1) := by decide +kernel
theorem dX6_fillOther_14 : decode cX6_fillOther 14 = .ok (.getfield 24, 3) := by decide +kernel
theorem dX6_fillOther_17 : decode cX6_fillOther 17 = .ok (.iload_n 2, 1) := by decide +kernel
theorem dX6_fillOther_18 : decode cX6_fillOther 18 = .ok (.aaload, 1) := by decide +kernel
theorem dX6_fillOther_19 : decode cX6_fillOther 19 = .ok (.goto 7, 3) := by decide +kernel
theorem dX6_fillOther_22 : decode cX6_fillOther 22 = .ok (.aload_n 0, 1) := by decide +kernel
theorem dX6_fillOther_23 : decode cX6_fillOther 23 = .ok (.getfield 28, 3) := by decide +kernel
theorem dX6_fillOther_26 : decode cX6_fillOther 26 = .ok (.astore 4, 2) := by decide +kernel
theorem dX6_fillOther_28 : decode cX6_fillOther 28 = .ok (.aload_n 0, 1) := by decide +kernel
theorem dX6_fillOther_29 : decode cX6_fillOther 29 = .ok (.aload 4, 2) := by decide +kernel
theorem dX6_fillOther_31 : decode cX6_fillOther 31 = .ok (.aload_n 1, 1) := by decide +kernel
theorem dX6_fillOther_32 : decode cX6_fillOther 32 = .ok (.iload_n 2, 1) := by decide +kernel
theorem dX6_fillOther_33 : decode cX6_fillOther 33 = .ok (.iload_n 3, 1) := by decide +kernel
theorem dX6_fillOther_34 : decode cX6_fillOther 34 = .ok (.invokevirtual 32, 3) := by decide +kernel
theorem dX6_fillOther_37 : decode cX6_fillOther 37 = .ok (.aload 4, 2) := by decide +kernel
theorem dX6_fillOther_39 : decode cX6_fillOther 39 = .ok (.areturn, 1) := by decide +kernel
theorem dX6_fill_0 : decode cX6_fill 0 = .ok (.iconst 2, 1) := by decide +kernel
theorem dX6_fill_1 : decode cX6_fill 1 = .ok (.aload_n 0, 1) := by decide +kernel
theorem dX6_fill_2 : decode cX6_fill 2 = .ok (.getfield 15, 3) := by decide +kernel
theorem dX6_fill_5 : decode cX6_fill 5 = .ok (.iconst 1, 1) := by decide +kernel
theorem dX6_fill_6 : decode cX6_fill 6 = .ok (.isub, 1) := by decide +kernel
theorem dX6_fill_7 : decode cX6_fill 7 = .ok (.invokestatic 36, 3) := by decide +kernel
theorem dX6_fill_10 : decode cX6_fill 10 = .ok (.istore 5, 2) := by decide +kernel
theorem dX6_fill_12 : decode cX6_fill 12 = .ok (.iconst 1, 1) := by decide +kernel
theorem dX6_fill_13 : decode cX6_fill 13 = .ok (.istore 6, 2) := by decide +kernel
theorem dX6_fill_15 : decode cX6_fill 15 = .ok (.iconst 0, 1) := by decide +kernel
theorem dX6_fill_16 : decode cX6_fill 16 = .ok (.istore 7, 2) := by decide +kernel
theorem dX6_fill_18 : decode cX6_fill 18 = .ok (.iload 7, 2) := by decide +kernel
theorem dX6_fill_20 : decode cX6_fill 20 = .ok (.iload_n 3, 1) := by decide +kernel
theorem dX6_fill_21 : decode cX6_fill 21 = .ok (.if_icmp .ge 22, 3) := by decide +kernel
theorem dX6_fill_24 : decode cX6_fill 24 = .ok (.iload 7, 2) := by decide +kernel
theorem dX6_fill_26 : decode cX6_fill 26 = .ok (.iconst 3, 1) := by decide +kernel
theorem dX6_fill_27 : decode cX6_fill 27 = .ok (.if_icmp .ge 16, 3) := by decide +kernel
theorem dX6_fill_30 : decode cX6_fill 30 = .ok (.iload 6, 2) := by decide +kernel
theorem dX6_fill_32 : decode cX6_fill 32 = .ok (.iload 5, 2) := by decide +kernel
theorem dX6_fill_34 : decode cX6_fill 34 = .ok (.imul, 1) := by decide +kernel
theorem dX6_fill_35 : decode cX6_fill 35 = .ok (.istore 6, 2) := by decide +kernel
theorem dX6_fill_37 : decode cX6_fill 37 = .ok (.iinc 7 1, 3) := by decide +kernel
theorem dX6_fill_40 : decode cX6_fill 40 = .ok (.goto (-22), 3) := by decide +kernel
theorem dX6_fill_43 : decode cX6_fill 43 = .ok (.aload_n 1, 1) := by decide +kernel
theorem dX6_fill_44 : decode cX6_fill 44 = .ok (.invokevirtual 42, 3) := by decide +kernel
theorem dX6_fill_47 : decode cX6_fill 47 = .ok (.iconst 0, 1) := by decide +kernel
theorem dX6_fill_48 : decode cX6_fill 48 = .ok (.istore 7, 2) := by decide +kernel
theorem dX6_fill_50 : decode cX6_fill 50 = .ok (.iload 7, 2) := by decide +kernel
theorem dX6_fill_52 : decode cX6_fill 52 = .ok (.aload_n 2, 1) := by decide +kernel
theorem dX6_fill_53 : decode cX6_fill 53 = .ok (.invokevirtual 45, 3) := by decide +kernel
theorem dX6_fill_56 : decode cX6_fill 56 = .ok (.if_icmp .ge 45, 3) := by decide +kernel
theorem dX6_fill_59 : decode cX6_fill 59 = .ok (.aload_n 2, 1) := by decide +kernel
theorem dX6_fill_60 : decode cX6_fill 60 = .ok (.iload 7, 2) := by decide +kernel
theorem dX6_fill_62 : decode cX6_fill 62 = .ok (.invokevirtual 49, 3) := by decide +kernel
theorem dX6_fill_65 : decode cX6_fill 65 = .ok (.istore 8, 2) := by decide +kernel
theorem dX6_fill_67 : decode cX6_fill 67 = .ok (.iload 8, 2) := by decide +kernel
theorem dX6_fill_69 : decode cX6_fill 69 = .ok (.invokestatic 53, 3) := by decide +kernel
theorem dX6_fill_72 : decode cX6_fill 72 = .ok (.iload 6, 2) := by decide +kernel
theorem dX6_fill_74 : decode cX6_fill 74 = .ok (.idiv, 1) := by decide +kernel
theorem dX6_fill_75 : decode cX6_fill 75 = .ok (.iload 5, 2) := by decide +kernel
theorem dX6_fill_77 : decode cX6_fill 77 = .ok (.irem, 1) := by decide +kernel
theorem dX6_fill_78 : decode cX6_fill 78 = .ok (.iload 4, 2) := by decide +kernel
theorem dX6_fill_80 : decode cX6_fill 80 = .ok (.if_icmp .ne 15, 3) := by decide +kernel
theorem dX6_fill_83 : decode cX6_fill 83 = .ok (.aload_n 1, 1) := by decide +kernel
theorem dX6_fill_84 : decode cX6_fill 84 = .ok (.iload 8, 2) := by decide +kernel
theorem dX6_fill_86 : decode cX6_fill 86 = .ok (.aload_n 2, 1) := by decide +kernel
theorem dX6_fill_87 : decode cX6_fill 87 = .ok (.iload 7, 2) := by decide +kernel
theorem dX6_fill_89 : decode cX6_fill 89 = .ok (.invokevirtual 56, 3) := by decide +kernel
theorem dX6_fill_92 : decode cX6_fill 92 = .ok (.invokevirtual 59, 3) := by decide +kernel
theorem dX6_fill_95 : decode cX6_fill 95 = .ok (.iinc 7 1, 3) := by decide +kernel
theorem dX6_fill_98 : decode cX6_fill 98 = .ok (.goto (-48), 3) := by decide +kernel
theorem dX6_fill_101 : decode cX6_fill 101 = .ok (.return_, 1) := by decide +kernel
theorem dX7_init_0 : decode cX7_init 0 = .ok (.aload_n 0, 1) := by decide +kernel
theorem dX7_init_1 : decode cX7_init 1 = .ok (.invokespecial 3, 3) := by decide +kernel
theorem dX7_init_4 : decode cX7_init 4 = .ok (.aload_n 0, 1) := by decide +kernel
theorem dX7_init_5 : decode cX7_init 5 = .ok (.iconst 0, 1) := by decide +kernel
theorem dX7_init_6 : decode cX7_init 6 = .ok (.putfield 9, 3) := by decide +kernel
theorem dX7_init_9 : decode cX7_init 9 = .ok (.aload_n 0, 1) := by decide +kernel
theorem dX7_init_10 : decode cX7_init 10 = .ok (.iconst 0, 1) := by decide +kernel
theorem dX7_init_11 : decode cX7_init 11 = .ok (.putfield 15, 3) := by decide +kernel
theorem dX7_init_14 : decode cX7_init 14 = .ok (.aload_n 0, 1) := by decide +kernel
theorem dX7_init_15 : decode cX7_init 15 = .ok (.iconst 0, 1) := by decide +kernel
theorem dX7_init_16 : decode cX7_init 16 = .ok (.putfield 19, 3) := by decide +kernel
theorem dX7_init_19 : decode cX7_init 19 = .ok (.aload_n 0, 1) := by decide +kernel
theorem dX7_init_20 : decode cX7_init 20 = .ok (.iconst 0, 1) := by decide +kernel
theorem dX7_init_21 : decode cX7_init 21 = .ok (.putfield 22, 3) := by decide +kernel
theorem dX7_init_24 : decode cX7_init 24 = .ok (.aload_n 0, 1) := by decide +kernel
theorem dX7_init_25 : decode cX7_init 25 = .ok (.iconst 0, 1) := by decide +kernel
theorem dX7_init_26 : decode cX7_init 26 = .ok (.putfield 25, 3) := by decide +kernel
theorem dX7_init_29 : decode cX7_init 29 = .ok (.aload_n 0, 1) := by decide +kernel
theorem dX7_init_30 : decode cX7_init 30 = .ok (.iconst 0, 1) := by decide +kernel
theorem dX7_init_31 : decode cX7_init 31 = .ok (.putfield 28, 3) := by decide +kernel
theorem dX7_init_34 : decode cX7_init 34 = .ok (.aload_n 0, 1) := by decide +kernel
theorem dX7_init_35 : decode cX7_init 35 = .ok (.bipush 8, 2) := by decide +kernel
theorem dX7_init_37 : decode cX7_init 37 = .ok (.anewarray 31, 3) := by decide +kernel
theorem dX7_init_40 : decode cX7_init 40 = .ok (.putfield 33, 3) := by decide +kernel
theorem dX7_init_43 : decode cX7_init 43 = .ok (.aload_n 0, 1) := by decide +kernel
theorem dX7_init_44 : decode cX7_init 44 = .ok (.bipush 8, 2) := by decide +kernel
theorem dX7_init_46 : decode cX7_init 46 = .ok (.newarray .int, 2) := by decide +kernel
theorem dX7_init_48 : decode cX7_init 48 = .ok (.putfield 37, 3) := by decide +kernel
theorem dX7_init_51 : decode cX7_init 51 = .ok (.aload_n 0, 1) := by decide +kernel
theorem dX7_init_52 : decode cX7_init 52 = .ok (.bipush 8, 2) := by decide +kernel
theorem dX7_init_54 : decode cX7_init 54 = .ok (.newarray .int, 2) := by decide +kernel
theorem dX7_init_56 : decode cX7_init 56 = .ok (.putfield 41, 3) := by decide +kernel
theorem dX7_init_59 : decode cX7_init 59 = .ok (.aload_n 0, 1) := by decide +kernel
theorem dX7_init_60 : decode cX7_init 60 = .ok (.bipush 16, 2) := by decide +kernel
theorem dX7_init_62 : decode cX7_init 62 = .ok (.newarray .int, 2) := by decide +kernel
theorem dX7_init_64 : decode cX7_init 64 = .ok (.putfield 44, 3) := by decide +kernel
theorem dX7_init_67 : decode cX7_init 67 = .ok (.return_, 1) := by decide +kernel
theorem dX7_prepare_0 : decode cX7_prepare 0 = .ok (.aload_n 0, 1) := by decide +kernel
theorem dX7_prepare_1 : decode cX7_prepare 1 = .ok (.iload_n 1, 1) := by decide +kernel
theorem dX7_prepare_2 : decode cX7_prepare 2 = .ok (.putfield 25, 3) := by decide +kernel
theorem dX7_prepare_5 : decode cX7_prepare 5 = .ok (.aload_n 0, 1) := by decide +kernel
theorem dX7_prepare_6 : decode cX7_prepare 6 = .ok (.iload_n 2, 1) := by decide +kernel
theorem dX7_prepare_7 : decode cX7_prepare 7 = .ok (.putfield 28, 3) := by decide +kernel
theorem dX7_prepare_10 : decode cX7_prepare 10 = .ok (.aload_n 0, 1) := by decide +kernel
theorem dX7_prepare_11 : decode cX7_prepare 11 = .ok (.iconst 2, 1) := by decide +kernel
theorem dX7_prepare_12 : decode cX7_prepare 12 = .ok (.putfield 15, 3) := by decide +kernel
theorem dX7_prepare_15 : decode cX7_prepare 15 = .ok (.aload_n 0, 1) := by decide +kernel
theorem dX7_prepare_16 : decode cX7_prepare 16 = .ok (.getfield 15, 3) := by decide +kernel
theorem dX7_prepare_19 : decode cX7_prepare 19 = .ok (.iload_n 2, 1) := by decide +kernel
theorem dX7_prepare_20 : decode cX7_prepare 20 = .ok (.if_icmp .ge 25, 3) := by decide +kernel
theorem dX7_prepare_23 : decode cX7_prepare 23 = .ok (.aload_n 0, 1) := by decide +kernel
theorem dX7_prepare_24 : decode cX7_prepare 24 = .ok (.getfield 15, 3) := by decide +kernel
theorem dX7_prepare_27 : decode cX7_prepare 27 = .ok (.bipush 8, 2) := by decide +kernel
