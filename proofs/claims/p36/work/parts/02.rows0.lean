-- decode rows, part 0
theorem dX0_init_0 : decode cX0_init 0 = .ok (.aload_n 0, 1) := by decide +kernel
theorem dX0_init_1 : decode cX0_init 1 = .ok (.invokespecial 3, 3) := by decide +kernel
theorem dX0_init_4 : decode cX0_init 4 = .ok (.aload_n 0, 1) := by decide +kernel
theorem dX0_init_5 : decode cX0_init 5 = .ok (.bipush 120, 2) := by decide +kernel
theorem dX0_init_7 : decode cX0_init 7 = .ok (.newarray .int, 2) := by decide +kernel
theorem dX0_init_9 : decode cX0_init 9 = .ok (.putfield 9, 3) := by decide +kernel
theorem dX0_init_12 : decode cX0_init 12 = .ok (.aload_n 0, 1) := by decide +kernel
theorem dX0_init_13 : decode cX0_init 13 = .ok (.iconst 0, 1) := by decide +kernel
theorem dX0_init_14 : decode cX0_init 14 = .ok (.putfield 15, 3) := by decide +kernel
theorem dX0_init_17 : decode cX0_init 17 = .ok (.return_, 1) := by decide +kernel
theorem dX0_empty_0 : decode cX0_empty 0 = .ok (.aload_n 0, 1) := by decide +kernel
theorem dX0_empty_1 : decode cX0_empty 1 = .ok (.iconst 0, 1) := by decide +kernel
theorem dX0_empty_2 : decode cX0_empty 2 = .ok (.putfield 15, 3) := by decide +kernel
theorem dX0_empty_5 : decode cX0_empty 5 = .ok (.return_, 1) := by decide +kernel
theorem dX0_push_0 : decode cX0_push 0 = .ok (.aload_n 0, 1) := by decide +kernel
theorem dX0_push_1 : decode cX0_push 1 = .ok (.getfield 15, 3) := by decide +kernel
theorem dX0_push_4 : decode cX0_push 4 = .ok (.aload_n 0, 1) := by decide +kernel
theorem dX0_push_5 : decode cX0_push 5 = .ok (.getfield 9, 3) := by decide +kernel
theorem dX0_push_8 : decode cX0_push 8 = .ok (.arraylength, 1) := by decide +kernel
theorem dX0_push_9 : decode cX0_push 9 = .ok (.if_icmp .lt 4, 3) := by decide +kernel
theorem dX0_push_12 : decode cX0_push 12 = .ok (.return_, 1) := by decide +kernel
theorem dX0_push_13 : decode cX0_push 13 = .ok (.aload_n 0, 1) := by decide +kernel
theorem dX0_push_14 : decode cX0_push 14 = .ok (.getfield 15, 3) := by decide +kernel
theorem dX0_push_17 : decode cX0_push 17 = .ok (.istore_n 2, 1) := by decide +kernel
theorem dX0_push_18 : decode cX0_push 18 = .ok (.aload_n 0, 1) := by decide +kernel
theorem dX0_push_19 : decode cX0_push 19 = .ok (.dup, 1) := by decide +kernel
theorem dX0_push_20 : decode cX0_push 20 = .ok (.getfield 15, 3) := by decide +kernel
theorem dX0_push_23 : decode cX0_push 23 = .ok (.iconst 1, 1) := by decide +kernel
theorem dX0_push_24 : decode cX0_push 24 = .ok (.iadd, 1) := by decide +kernel
theorem dX0_push_25 : decode cX0_push 25 = .ok (.putfield 15, 3) := by decide +kernel
theorem dX0_push_28 : decode cX0_push 28 = .ok (.iload_n 2, 1) := by decide +kernel
theorem dX0_push_29 : decode cX0_push 29 = .ok (.ifCond .le 42, 3) := by decide +kernel
theorem dX0_push_32 : decode cX0_push 32 = .ok (.aload_n 0, 1) := by decide +kernel
theorem dX0_push_33 : decode cX0_push 33 = .ok (.getfield 9, 3) := by decide +kernel
theorem dX0_push_36 : decode cX0_push 36 = .ok (.iload_n 2, 1) := by decide +kernel
theorem dX0_push_37 : decode cX0_push 37 = .ok (.iconst 1, 1) := by decide +kernel
theorem dX0_push_38 : decode cX0_push 38 = .ok (.isub, 1) := by decide +kernel
theorem dX0_push_39 : decode cX0_push 39 = .ok (.iconst 2, 1) := by decide +kernel
theorem dX0_push_40 : decode cX0_push 40 = .ok (.idiv, 1) := by decide +kernel
theorem dX0_push_41 : decode cX0_push 41 = .ok (.iaload, 1) := by decide +kernel
theorem dX0_push_42 : decode cX0_push 42 = .ok (.iload_n 1, 1) := by decide +kernel
theorem dX0_push_43 : decode cX0_push 43 = .ok (.if_icmp .le 28, 3) := by decide +kernel
theorem dX0_push_46 : decode cX0_push 46 = .ok (.aload_n 0, 1) := by decide +kernel
theorem dX0_push_47 : decode cX0_push 47 = .ok (.getfield 9, 3) := by decide +kernel
theorem dX0_push_50 : decode cX0_push 50 = .ok (.iload_n 2, 1) := by decide +kernel
theorem dX0_push_51 : decode cX0_push 51 = .ok (.aload_n 0, 1) := by decide +kernel
theorem dX0_push_52 : decode cX0_push 52 = .ok (.getfield 9, 3) := by decide +kernel
theorem dX0_push_55 : decode cX0_push 55 = .ok (.iload_n 2, 1) := by decide +kernel
theorem dX0_push_56 : decode cX0_push 56 = .ok (.iconst 1, 1) := by decide +kernel
theorem dX0_push_57 : decode cX0_push 57 = .ok (.isub, 1) := by decide +kernel
theorem dX0_push_58 : decode cX0_push 58 = .ok (.iconst 2, 1) := by decide +kernel
theorem dX0_push_59 : decode cX0_push 59 = .ok (.idiv, 1) := by decide +kernel
theorem dX0_push_60 : decode cX0_push 60 = .ok (.iaload, 1) := by decide +kernel
theorem dX0_push_61 : decode cX0_push 61 = .ok (.iastore, 1) := by decide +kernel
theorem dX0_push_62 : decode cX0_push 62 = .ok (.iload_n 2, 1) := by decide +kernel
theorem dX0_push_63 : decode cX0_push 63 = .ok (.iconst 1, 1) := by decide +kernel
theorem dX0_push_64 : decode cX0_push 64 = .ok (.isub, 1) := by decide +kernel
theorem dX0_push_65 : decode cX0_push 65 = .ok (.iconst 2, 1) := by decide +kernel
theorem dX0_push_66 : decode cX0_push 66 = .ok (.idiv, 1) := by decide +kernel
theorem dX0_push_67 : decode cX0_push 67 = .ok (.istore_n 2, 1) := by decide +kernel
theorem dX0_push_68 : decode cX0_push 68 = .ok (.goto (-40), 3) := by decide +kernel
theorem dX0_push_71 : decode cX0_push 71 = .ok (.aload_n 0, 1) := by decide +kernel
theorem dX0_push_72 : decode cX0_push 72 = .ok (.getfield 9, 3) := by decide +kernel
theorem dX0_push_75 : decode cX0_push 75 = .ok (.iload_n 2, 1) := by decide +kernel
theorem dX0_push_76 : decode cX0_push 76 = .ok (.iload_n 1, 1) := by decide +kernel
theorem dX0_push_77 : decode cX0_push 77 = .ok (.iastore, 1) := by decide +kernel
theorem dX0_push_78 : decode cX0_push 78 = .ok (.return_, 1) := by decide +kernel
theorem dX0_pull_0 : decode cX0_pull 0 = .ok (.aload_n 0, 1) := by decide +kernel
theorem dX0_pull_1 : decode cX0_pull 1 = .ok (.getfield 15, 3) := by decide +kernel
theorem dX0_pull_4 : decode cX0_pull 4 = .ok (.iconst 1, 1) := by decide +kernel
theorem dX0_pull_5 : decode cX0_pull 5 = .ok (.if_icmp .ge 5, 3) := by decide +kernel
theorem dX0_pull_8 : decode cX0_pull 8 = .ok (.iconst 0, 1) := by decide +kernel
theorem dX0_pull_9 : decode cX0_pull 9 = .ok (.ireturn, 1) := by decide +kernel
theorem dX0_pull_10 : decode cX0_pull 10 = .ok (.aload_n 0, 1) := by decide +kernel
theorem dX0_pull_11 : decode cX0_pull 11 = .ok (.getfield 9, 3) := by decide +kernel
theorem dX0_pull_14 : decode cX0_pull 14 = .ok (.iconst 0, 1) := by decide +kernel
theorem dX0_pull_15 : decode cX0_pull 15 = .ok (.iaload, 1) := by decide +kernel
theorem dX0_pull_16 : decode cX0_pull 16 = .ok (.istore_n 1, 1) := by decide +kernel
theorem dX0_pull_17 : decode cX0_pull 17 = .ok (.aload_n 0, 1) := by decide +kernel
theorem dX0_pull_18 : decode cX0_pull 18 = .ok (.dup, 1) := by decide +kernel
theorem dX0_pull_19 : decode cX0_pull 19 = .ok (.getfield 15, 3) := by decide +kernel
theorem dX0_pull_22 : decode cX0_pull 22 = .ok (.iconst 1, 1) := by decide +kernel
theorem dX0_pull_23 : decode cX0_pull 23 = .ok (.isub, 1) := by decide +kernel
theorem dX0_pull_24 : decode cX0_pull 24 = .ok (.putfield 15, 3) := by decide +kernel
theorem dX0_pull_27 : decode cX0_pull 27 = .ok (.aload_n 0, 1) := by decide +kernel
theorem dX0_pull_28 : decode cX0_pull 28 = .ok (.aload_n 0, 1) := by decide +kernel
theorem dX0_pull_29 : decode cX0_pull 29 = .ok (.getfield 9, 3) := by decide +kernel
theorem dX0_pull_32 : decode cX0_pull 32 = .ok (.aload_n 0, 1) := by decide +kernel
theorem dX0_pull_33 : decode cX0_pull 33 = .ok (.getfield 15, 3) := by decide +kernel
theorem dX0_pull_36 : decode cX0_pull 36 = .ok (.iaload, 1) := by decide +kernel
theorem dX0_pull_37 : decode cX0_pull 37 = .ok (.invokevirtual 19, 3) := by decide +kernel
theorem dX0_pull_40 : decode cX0_pull 40 = .ok (.iload_n 1, 1) := by decide +kernel
theorem dX0_pull_41 : decode cX0_pull 41 = .ok (.ireturn, 1) := by decide +kernel
theorem dX0_sinkFromTop_0 : decode cX0_sinkFromTop 0 = .ok (.iconst 0, 1) := by decide +kernel
theorem dX0_sinkFromTop_1 : decode cX0_sinkFromTop 1 = .ok (.istore_n 2, 1) := by decide +kernel
theorem dX0_sinkFromTop_2 : decode cX0_sinkFromTop 2 = .ok (.iconst 1, 1) := by decide +kernel
theorem dX0_sinkFromTop_3 : decode cX0_sinkFromTop 3 = .ok (.istore_n 3, 1) := by decide +kernel
theorem dX0_sinkFromTop_4 : decode cX0_sinkFromTop 4 = .ok (.iload_n 3, 1) := by decide +kernel
theorem dX0_sinkFromTop_5 : decode cX0_sinkFromTop 5 = .ok (.aload_n 0, 1) := by decide +kernel
theorem dX0_sinkFromTop_6 : decode cX0_sinkFromTop 6 = .ok (.getfield 15, 3) := by decide +kernel
theorem dX0_sinkFromTop_9 : decode cX0_sinkFromTop 9 = .ok (.if_icmp .ge 78, 3) := by decide +kernel
theorem dX0_sinkFromTop_12 : decode cX0_sinkFromTop 12 = .ok (.iload_n 3, 1) := by decide +kernel
theorem dX0_sinkFromTop_13 : decode cX0_sinkFromTop 13 = .ok (.iconst 1, 1) := by decide +kernel
theorem dX0_sinkFromTop_14 : decode cX0_sinkFromTop 14 = .ok (.iadd, 1) := by decide +kernel
theorem dX0_sinkFromTop_15 : decode cX0_sinkFromTop 15 = .ok (.aload_n 0, 1) := by decide +kernel
theorem dX0_sinkFromTop_16 : decode cX0_sinkFromTop 16 = .ok (.getfield 15, 3) := by decide +kernel
theorem dX0_sinkFromTop_19 : decode cX0_sinkFromTop 19 = .ok (.if_icmp .ge 26, 3) := by decide +kernel
theorem dX0_sinkFromTop_22 : decode cX0_sinkFromTop 22 = .ok (.aload_n 0, 1) := by decide +kernel
theorem dX0_sinkFromTop_23 : decode cX0_sinkFromTop 23 = .ok (.getfield 9, 3) := by decide +kernel
theorem dX0_sinkFromTop_26 : decode cX0_sinkFromTop 26 = .ok (.iload_n 3, 1) := by decide +kernel
theorem dX0_sinkFromTop_27 : decode cX0_sinkFromTop 27 = .ok (.iconst 1, 1) := by decide +kernel
theorem dX0_sinkFromTop_28 : decode cX0_sinkFromTop 28 = .ok (.iadd, 1) := by decide +kernel
theorem dX0_sinkFromTop_29 : decode cX0_sinkFromTop 29 = .ok (.iaload, 1) := by decide +kernel
theorem dX0_sinkFromTop_30 : decode cX0_sinkFromTop 30 = .ok (.aload_n 0, 1) := by decide +kernel
theorem dX0_sinkFromTop_31 : decode cX0_sinkFromTop 31 = .ok (.getfield 9, 3) := by decide +kernel
theorem dX0_sinkFromTop_34 : decode cX0_sinkFromTop 34 = .ok (.iload_n 3, 1) := by decide +kernel
theorem dX0_sinkFromTop_35 : decode cX0_sinkFromTop 35 = .ok (.iaload, 1) := by decide +kernel
theorem dX0_sinkFromTop_36 : decode cX0_sinkFromTop 36 = .ok (.if_icmp .ge 9, 3) := by decide +kernel
theorem dX0_sinkFromTop_39 : decode cX0_sinkFromTop 39 = .ok (.iload_n 3, 1) := by decide +kernel
theorem dX0_sinkFromTop_40 : decode cX0_sinkFromTop 40 = .ok (.iconst 1, 1) := by decide +kernel
theorem dX0_sinkFromTop_41 : decode cX0_sinkFromTop 41 = .ok (.iadd, 1) := by decide +kernel
theorem dX0_sinkFromTop_42 : decode cX0_sinkFromTop 42 = .ok (.goto 4, 3) := by decide +kernel
theorem dX0_sinkFromTop_45 : decode cX0_sinkFromTop 45 = .ok (.iload_n 3, 1) := by decide +kernel
theorem dX0_sinkFromTop_46 : decode cX0_sinkFromTop 46 = .ok (.istore 4, 2) := by decide +kernel
theorem dX0_sinkFromTop_48 : decode cX0_sinkFromTop 48 = .ok (.aload_n 0, 1) := by decide +kernel
theorem dX0_sinkFromTop_49 : decode cX0_sinkFromTop 49 = .ok (.getfield 9, 3) := by decide +kernel
theorem dX0_sinkFromTop_52 : decode cX0_sinkFromTop 52 = .ok (.iload 4, 2) := by decide +kernel
theorem dX0_sinkFromTop_54 : decode cX0_sinkFromTop 54 = .ok (.iaload, 1) := by decide +kernel
theorem dX0_sinkFromTop_55 : decode cX0_sinkFromTop 55 = .ok (.iload_n 1, 1) := by decide +kernel
theorem dX0_sinkFromTop_56 : decode cX0_sinkFromTop 56 = .ok (.if_icmp .le 6, 3) := by decide +kernel
theorem dX0_sinkFromTop_59 : decode cX0_sinkFromTop 59 = .ok (.goto 28, 3) := by decide +kernel
theorem dX0_sinkFromTop_62 : decode cX0_sinkFromTop 62 = .ok (.aload_n 0, 1) := by decide +kernel
theorem dX0_sinkFromTop_63 : decode cX0_sinkFromTop 63 = .ok (.getfield 9, 3) := by decide +kernel
theorem dX0_sinkFromTop_66 : decode cX0_sinkFromTop 66 = .ok (.iload_n 2, 1) := by decide +kernel
theorem dX0_sinkFromTop_67 : decode cX0_sinkFromTop 67 = .ok (.aload_n 0, 1) := by decide +kernel
theorem dX0_sinkFromTop_68 : decode cX0_sinkFromTop 68 = .ok (.getfield 9, 3) := by decide +kernel
theorem dX0_sinkFromTop_71 : decode cX0_sinkFromTop 71 = .ok (.iload 4, 2) := by decide +kernel
theorem dX0_sinkFromTop_73 : decode cX0_sinkFromTop 73 = .ok (.iaload, 1) := by decide +kernel
theorem dX0_sinkFromTop_74 : decode cX0_sinkFromTop 74 = .ok (.iastore, 1) := by decide +kernel
theorem dX0_sinkFromTop_75 : decode cX0_sinkFromTop 75 = .ok (.iload 4, 2) := by decide +kernel
theorem dX0_sinkFromTop_77 : decode cX0_sinkFromTop 77 = .ok (.istore_n 2, 1) := by decide +kernel
theorem dX0_sinkFromTop_78 : decode cX0_sinkFromTop 78 = .ok (.iconst 2, 1) := by decide +kernel
theorem dX0_sinkFromTop_79 : decode cX0_sinkFromTop 79 = .ok (.iload_n 2, 1) := by decide +kernel
theorem dX0_sinkFromTop_80 : decode cX0_sinkFromTop 80 = .ok (.imul, 1) := by decide +kernel
theorem dX0_sinkFromTop_81 : decode cX0_sinkFromTop 81 = .ok (.iconst 1, 1) := by decide +kernel
theorem dX0_sinkFromTop_82 : decode cX0_sinkFromTop 82 = .ok (.iadd, 1) := by decide +kernel
theorem dX0_sinkFromTop_83 : decode cX0_sinkFromTop 83 = .ok (.istore_n 3, 1) := by decide +kernel
theorem dX0_sinkFromTop_84 : decode cX0_sinkFromTop 84 = .ok (.goto (-80), 3) := by decide +kernel
theorem dX0_sinkFromTop_87 : decode cX0_sinkFromTop 87 = .ok (.aload_n 0, 1) := by decide +kernel
theorem dX0_sinkFromTop_88 : decode cX0_sinkFromTop 88 = .ok (.getfield 9, 3) := by decide +kernel
theorem dX0_sinkFromTop_91 : decode cX0_sinkFromTop 91 = .ok (.iload_n 2, 1) := by decide +kernel
theorem dX0_sinkFromTop_92 : decode cX0_sinkFromTop 92 = .ok (.iload_n 1, 1) := by decide +kernel
theorem dX0_sinkFromTop_93 : decode cX0_sinkFromTop 93 = .ok (.iastore, 1) := by decide +kernel
theorem dX0_sinkFromTop_94 : decode cX0_sinkFromTop 94 = .ok (.return_, 1) := by decide +kernel
theorem dX1_init_0 : decode cX1_init 0 = .ok (.aload_n 0, 1) := by decide +kernel
theorem dX1_init_1 : decode cX1_init 1 = .ok (.invokespecial 3, 3) := by decide +kernel
theorem dX1_init_4 : decode cX1_init 4 = .ok (.aload_n 0, 1) := by decide +kernel
theorem dX1_init_5 : decode cX1_init 5 = .ok (.bipush 32, 2) := by decide +kernel
theorem dX1_init_7 : decode cX1_init 7 = .ok (.newarray .long, 2) := by decide +kernel
theorem dX1_init_9 : decode cX1_init 9 = .ok (.putfield 9, 3) := by decide +kernel
theorem dX1_init_12 : decode cX1_init 12 = .ok (.return_, 1) := by decide +kernel
theorem dX1_clear_0 : decode cX1_clear 0 = .ok (.iconst 0, 1) := by decide +kernel
theorem dX1_clear_1 : decode cX1_clear 1 = .ok (.istore_n 1, 1) := by decide +kernel
theorem dX1_clear_2 : decode cX1_clear 2 = .ok (.iload_n 1, 1) := by decide +kernel
theorem dX1_clear_3 : decode cX1_clear 3 = .ok (.aload_n 0, 1) := by decide +kernel
theorem dX1_clear_4 : decode cX1_clear 4 = .ok (.getfield 9, 3) := by decide +kernel
theorem dX1_clear_7 : decode cX1_clear 7 = .ok (.arraylength, 1) := by decide +kernel
theorem dX1_clear_8 : decode cX1_clear 8 = .ok (.if_icmp .ge 16, 3) := by decide +kernel
theorem dX1_clear_11 : decode cX1_clear 11 = .ok (.aload_n 0, 1) := by decide +kernel
theorem dX1_clear_12 : decode cX1_clear 12 = .ok (.getfield 9, 3) := by decide +kernel
theorem dX1_clear_15 : decode cX1_clear 15 = .ok (.iload_n 1, 1) := by decide +kernel
theorem dX1_clear_16 : decode cX1_clear 16 = .ok (.lconst 0, 1) := by decide +kernel
theorem dX1_clear_17 : decode cX1_clear 17 = .ok (.lastore, 1) := by decide +kernel
theorem dX1_clear_18 : decode cX1_clear 18 = .ok (.iinc 1 1, 3) := by decide +kernel
theorem dX1_clear_21 : decode cX1_clear 21 = .ok (.goto (-19), 3) := by decide +kernel
theorem dX1_clear_24 : decode cX1_clear 24 = .ok (.return_, 1) := by decide +kernel
theorem dX1_has_0 : decode cX1_has 0 = .ok (.iload_n 1, 1) := by decide +kernel
theorem dX1_has_1 : decode cX1_has 1 = .ok (.invokestatic 15, 3) := by decide +kernel
theorem dX1_has_4 : decode cX1_has 4 = .ok (.istore_n 2, 1) := by decide +kernel
theorem dX1_has_5 : decode cX1_has 5 = .ok (.iload_n 2, 1) := by decide +kernel
theorem dX1_has_6 : decode cX1_has 6 = .ok (.ifCond .lt 32, 3) := by decide +kernel
theorem dX1_has_9 : decode cX1_has 9 = .ok (.iload_n 2, 1) := by decide +kernel
theorem dX1_has_10 : decode cX1_has 10 = .ok (.aload_n 0, 1) := by decide +kernel
theorem dX1_has_11 : decode cX1_has 11 = .ok (.getfield 9, 3) := by decide +kernel
theorem dX1_has_14 : decode cX1_has 14 = .ok (.arraylength, 1) := by decide +kernel
theorem dX1_has_15 : decode cX1_has 15 = .ok (.if_icmp .ge 23, 3) := by decide +kernel
theorem dX1_has_18 : decode cX1_has 18 = .ok (.aload_n 0, 1) := by decide +kernel
theorem dX1_has_19 : decode cX1_has 19 = .ok (.getfield 9, 3) := by decide +kernel
theorem dX1_has_22 : decode cX1_has 22 = .ok (.iload_n 2, 1) := by decide +kernel
theorem dX1_has_23 : decode cX1_has 23 = .ok (.laload, 1) := by decide +kernel
theorem dX1_has_24 : decode cX1_has 24 = .ok (.iload_n 1, 1) := by decide +kernel
theorem dX1_has_25 : decode cX1_has 25 = .ok (.invokestatic 19, 3) := by decide +kernel
theorem dX1_has_28 : decode cX1_has 28 = .ok (.land, 1) := by decide +kernel
theorem dX1_has_29 : decode cX1_has 29 = .ok (.lconst 0, 1) := by decide +kernel
theorem dX1_has_30 : decode cX1_has 30 = .ok (.lcmp, 1) := by decide +kernel
theorem dX1_has_31 : decode cX1_has 31 = .ok (.ifCond .eq 7, 3) := by decide +kernel
theorem dX1_has_34 : decode cX1_has 34 = .ok (.iconst 1, 1) := by decide +kernel
theorem dX1_has_35 : decode cX1_has 35 = .ok (.goto 4, 3) := by decide +kernel
theorem dX1_has_38 : decode cX1_has 38 = .ok (.iconst 0, 1) := by decide +kernel
theorem dX1_has_39 : decode cX1_has 39 = .ok (.ireturn, 1) := by decide +kernel
theorem dX1_add_0 : decode cX1_add 0 = .ok (.iload_n 1, 1) := by decide +kernel
theorem dX1_add_1 : decode cX1_add 1 = .ok (.invokestatic 15, 3) := by decide +kernel
theorem dX1_add_4 : decode cX1_add 4 = .ok (.istore_n 2, 1) := by decide +kernel
theorem dX1_add_5 : decode cX1_add 5 = .ok (.iload_n 2, 1) := by decide +kernel
theorem dX1_add_6 : decode cX1_add 6 = .ok (.ifCond .lt 28, 3) := by decide +kernel
theorem dX1_add_9 : decode cX1_add 9 = .ok (.iload_n 2, 1) := by decide +kernel
theorem dX1_add_10 : decode cX1_add 10 = .ok (.aload_n 0, 1) := by decide +kernel
theorem dX1_add_11 : decode cX1_add 11 = .ok (.getfield 9, 3) := by decide +kernel
theorem dX1_add_14 : decode cX1_add 14 = .ok (.arraylength, 1) := by decide +kernel
theorem dX1_add_15 : decode cX1_add 15 = .ok (.if_icmp .ge 19, 3) := by decide +kernel
theorem dX1_add_18 : decode cX1_add 18 = .ok (.aload_n 0, 1) := by decide +kernel
theorem dX1_add_19 : decode cX1_add 19 = .ok (.getfield 9, 3) := by decide +kernel
theorem dX1_add_22 : decode cX1_add 22 = .ok (.iload_n 2, 1) := by decide +kernel
theorem dX1_add_23 : decode cX1_add 23 = .ok (.laload, 1) := by decide +kernel
theorem dX1_add_24 : decode cX1_add 24 = .ok (.iload_n 1, 1) := by decide +kernel
theorem dX1_add_25 : decode cX1_add 25 = .ok (.invokestatic 19, 3) := by decide +kernel
theorem dX1_add_28 : decode cX1_add 28 = .ok (.land, 1) := by decide +kernel
theorem dX1_add_29 : decode cX1_add 29 = .ok (.lconst 0, 1) := by decide +kernel
theorem dX1_add_30 : decode cX1_add 30 = .ok (.lcmp, 1) := by decide +kernel
theorem dX1_add_31 : decode cX1_add 31 = .ok (.ifCond .eq 5, 3) := by decide +kernel
theorem dX1_add_34 : decode cX1_add 34 = .ok (.iconst 0, 1) := by decide +kernel
theorem dX1_add_35 : decode cX1_add 35 = .ok (.ireturn, 1) := by decide +kernel
theorem dX1_add_36 : decode cX1_add 36 = .ok (.aload_n 0, 1) := by decide +kernel
theorem dX1_add_37 : decode cX1_add 37 = .ok (.getfield 9, 3) := by decide +kernel
theorem dX1_add_40 : decode cX1_add 40 = .ok (.iload_n 2, 1) := by decide +kernel
theorem dX1_add_41 : decode cX1_add 41 = .ok (.dup2, 1) := by decide +kernel
theorem dX1_add_42 : decode cX1_add 42 = .ok (.laload, 1) := by decide +kernel
theorem dX1_add_43 : decode cX1_add 43 = .ok (.iload_n 1, 1) := by decide +kernel
theorem dX1_add_44 : decode cX1_add 44 = .ok (.invokestatic 19, 3) := by decide +kernel
theorem dX1_add_47 : decode cX1_add 47 = .ok (.lor, 1) := by decide +kernel
theorem dX1_add_48 : decode cX1_add 48 = .ok (.lastore, 1) := by decide +kernel
theorem dX1_add_49 : decode cX1_add 49 = .ok (.iconst 1, 1) := by decide +kernel
theorem dX1_add_50 : decode cX1_add 50 = .ok (.ireturn, 1) := by decide +kernel
theorem dX1_wordOf_0 : decode cX1_wordOf 0 = .ok (.iload_n 0, 1) := by decide +kernel
theorem dX1_wordOf_1 : decode cX1_wordOf 1 = .ok (.sipush 999, 3) := by decide +kernel
theorem dX1_wordOf_4 : decode cX1_wordOf 4 = .ok (.iadd, 1) := by decide +kernel
theorem dX1_wordOf_5 : decode cX1_wordOf 5 = .ok (.bipush 6, 2) := by decide +kernel
theorem dX1_wordOf_7 : decode cX1_wordOf 7 = .ok (.ishr, 1) := by decide +kernel
theorem dX1_wordOf_8 : decode cX1_wordOf 8 = .ok (.ireturn, 1) := by decide +kernel
theorem dX1_bitOf_0 : decode cX1_bitOf 0 = .ok (.lconst 1, 1) := by decide +kernel
theorem dX1_bitOf_1 : decode cX1_bitOf 1 = .ok (.iload_n 0, 1) := by decide +kernel
theorem dX1_bitOf_2 : decode cX1_bitOf 2 = .ok (.sipush 999, 3) := by decide +kernel
theorem dX1_bitOf_5 : decode cX1_bitOf 5 = .ok (.iadd, 1) := by decide +kernel
theorem dX1_bitOf_6 : decode cX1_bitOf 6 = .ok (.bipush 63, 2) := by decide +kernel
theorem dX1_bitOf_8 : decode cX1_bitOf 8 = .ok (.iand, 1) := by decide +kernel
theorem dX1_bitOf_9 : decode cX1_bitOf 9 = .ok (.lshl, 1) := by decide +kernel
theorem dX1_bitOf_10 : decode cX1_bitOf 10 = .ok (.lreturn, 1) := by decide +kernel
theorem dX2_init_0 : decode cX2_init 0 = .ok (.aload_n 0, 1) := by decide +kernel
theorem dX2_init_1 : decode cX2_init 1 = .ok (.invokespecial 3, 3) := by decide +kernel
theorem dX2_init_4 : decode cX2_init 4 = .ok (.aload_n 0, 1) := by decide +kernel
theorem dX2_init_5 : decode cX2_init 5 = .ok (.bipush 120, 2) := by decide +kernel
theorem dX2_init_7 : decode cX2_init 7 = .ok (.newarray .int, 2) := by decide +kernel
theorem dX2_init_9 : decode cX2_init 9 = .ok (.putfield 9, 3) := by decide +kernel
theorem dX2_init_12 : decode cX2_init 12 = .ok (.aload_n 0, 1) := by decide +kernel
theorem dX2_init_13 : decode cX2_init 13 = .ok (.iconst 0, 1) := by decide +kernel
theorem dX2_init_14 : decode cX2_init 14 = .ok (.putfield 15, 3) := by decide +kernel
theorem dX2_init_17 : decode cX2_init 17 = .ok (.return_, 1) := by decide +kernel
theorem dX2_empty_0 : decode cX2_empty 0 = .ok (.aload_n 0, 1) := by decide +kernel
theorem dX2_empty_1 : decode cX2_empty 1 = .ok (.iconst 0, 1) := by decide +kernel
theorem dX2_empty_2 : decode cX2_empty 2 = .ok (.putfield 15, 3) := by decide +kernel
theorem dX2_empty_5 : decode cX2_empty 5 = .ok (.return_, 1) := by decide +kernel
theorem dX2_count_0 : decode cX2_count 0 = .ok (.aload_n 0, 1) := by decide +kernel
theorem dX2_count_1 : decode cX2_count 1 = .ok (.getfield 15, 3) := by decide +kernel
theorem dX2_count_4 : decode cX2_count 4 = .ok (.ireturn, 1) := by decide +kernel
theorem dX2_has_0 : decode cX2_has 0 = .ok (.iload_n 1, 1) := by decide +kernel
theorem dX2_has_1 : decode cX2_has 1 = .ok (.ifCond .lt 15, 3) := by decide +kernel
theorem dX2_has_4 : decode cX2_has 4 = .ok (.iload_n 1, 1) := by decide +kernel
theorem dX2_has_5 : decode cX2_has 5 = .ok (.aload_n 0, 1) := by decide +kernel
theorem dX2_has_6 : decode cX2_has 6 = .ok (.getfield 15, 3) := by decide +kernel
theorem dX2_has_9 : decode cX2_has 9 = .ok (.if_icmp .ge 7, 3) := by decide +kernel
theorem dX2_has_12 : decode cX2_has 12 = .ok (.iconst 1, 1) := by decide +kernel
theorem dX2_has_13 : decode cX2_has 13 = .ok (.goto 4, 3) := by decide +kernel
theorem dX2_has_16 : decode cX2_has 16 = .ok (.iconst 0, 1) := by decide +kernel
theorem dX2_has_17 : decode cX2_has 17 = .ok (.ireturn, 1) := by decide +kernel
theorem dX2_valueAt_0 : decode cX2_valueAt 0 = .ok (.iload_n 1, 1) := by decide +kernel
theorem dX2_valueAt_1 : decode cX2_valueAt 1 = .ok (.ifCond .lt 20, 3) := by decide +kernel
theorem dX2_valueAt_4 : decode cX2_valueAt 4 = .ok (.iload_n 1, 1) := by decide +kernel
theorem dX2_valueAt_5 : decode cX2_valueAt 5 = .ok (.aload_n 0, 1) := by decide +kernel
theorem dX2_valueAt_6 : decode cX2_valueAt 6 = .ok (.getfield 15, 3) := by decide +kernel
theorem dX2_valueAt_9 : decode cX2_valueAt 9 = .ok (.if_icmp .ge 12, 3) := by decide +kernel
theorem dX2_valueAt_12 : decode cX2_valueAt 12 = .ok (.aload_n 0, 1) := by decide +kernel
theorem dX2_valueAt_13 : decode cX2_valueAt 13 = .ok (.getfield 9, 3) := by decide +kernel
theorem dX2_valueAt_16 : decode cX2_valueAt 16 = .ok (.iload_n 1, 1) := by decide +kernel
theorem dX2_valueAt_17 : decode cX2_valueAt 17 = .ok (.iaload, 1) := by decide +kernel
theorem dX2_valueAt_18 : decode cX2_valueAt 18 = .ok (.goto 4, 3) := by decide +kernel
theorem dX2_valueAt_21 : decode cX2_valueAt 21 = .ok (.iconst 0, 1) := by decide +kernel
theorem dX2_valueAt_22 : decode cX2_valueAt 22 = .ok (.ireturn, 1) := by decide +kernel
theorem dX2_add_0 : decode cX2_add 0 = .ok (.aload_n 0, 1) := by decide +kernel
theorem dX2_add_1 : decode cX2_add 1 = .ok (.getfield 15, 3) := by decide +kernel
theorem dX2_add_4 : decode cX2_add 4 = .ok (.aload_n 0, 1) := by decide +kernel
theorem dX2_add_5 : decode cX2_add 5 = .ok (.getfield 9, 3) := by decide +kernel
theorem dX2_add_8 : decode cX2_add 8 = .ok (.arraylength, 1) := by decide +kernel
theorem dX2_add_9 : decode cX2_add 9 = .ok (.if_icmp .ge 23, 3) := by decide +kernel
theorem dX2_add_12 : decode cX2_add 12 = .ok (.aload_n 0, 1) := by decide +kernel
theorem dX2_add_13 : decode cX2_add 13 = .ok (.getfield 9, 3) := by decide +kernel
theorem dX2_add_16 : decode cX2_add 16 = .ok (.aload_n 0, 1) := by decide +kernel
theorem dX2_add_17 : decode cX2_add 17 = .ok (.getfield 15, 3) := by decide +kernel
theorem dX2_add_20 : decode cX2_add 20 = .ok (.iload_n 1, 1) := by decide +kernel
theorem dX2_add_21 : decode cX2_add 21 = .ok (.iastore, 1) := by decide +kernel
theorem dX2_add_22 : decode cX2_add 22 = .ok (.aload_n 0, 1) := by decide +kernel
theorem dX2_add_23 : decode cX2_add 23 = .ok (.dup, 1) := by decide +kernel
theorem dX2_add_24 : decode cX2_add 24 = .ok (.getfield 15, 3) := by decide +kernel
theorem dX2_add_27 : decode cX2_add 27 = .ok (.iconst 1, 1) := by decide +kernel
theorem dX2_add_28 : decode cX2_add 28 = .ok (.iadd, 1) := by decide +kernel
theorem dX2_add_29 : decode cX2_add 29 = .ok (.putfield 15, 3) := by decide +kernel
theorem dX2_add_32 : decode cX2_add 32 = .ok (.return_, 1) := by decide +kernel
theorem dX2_addAll_0 : decode cX2_addAll 0 = .ok (.iconst 0, 1) := by decide +kernel
theorem dX2_addAll_1 : decode cX2_addAll 1 = .ok (.istore_n 2, 1) := by decide +kernel
theorem dX2_addAll_2 : decode cX2_addAll 2 = .ok (.iload_n 2, 1) := by decide +kernel
theorem dX2_addAll_3 : decode cX2_addAll 3 = .ok (.aload_n 1, 1) := by decide +kernel
theorem dX2_addAll_4 : decode cX2_addAll 4 = .ok (.getfield 15, 3) := by decide +kernel
theorem dX2_addAll_7 : decode cX2_addAll 7 = .ok (.if_icmp .ge 19, 3) := by decide +kernel
theorem dX2_addAll_10 : decode cX2_addAll 10 = .ok (.aload_n 0, 1) := by decide +kernel
theorem dX2_addAll_11 : decode cX2_addAll 11 = .ok (.aload_n 1, 1) := by decide +kernel
theorem dX2_addAll_12 : decode cX2_addAll 12 = .ok (.getfield 9, 3) := by decide +kernel
theorem dX2_addAll_15 : decode cX2_addAll 15 = .ok (.iload_n 2, 1) := by decide +kernel
theorem dX2_addAll_16 : decode cX2_addAll 16 = .ok (.iaload, 1) := by decide +kernel
theorem dX2_addAll_17 : decode cX2_addAll 17 = .ok (.invokevirtual 19, 3) := by decide +kernel
theorem dX2_addAll_20 : decode cX2_addAll 20 = .ok (.iinc 2 1, 3) := by decide +kernel
theorem dX2_addAll_23 : decode cX2_addAll 23 = .ok (.goto (-21), 3) := by decide +kernel
theorem dX2_addAll_26 : decode cX2_addAll 26 = .ok (.return_, 1) := by decide +kernel
theorem dX2_set_0 : decode cX2_set 0 = .ok (.iload_n 1, 1) := by decide +kernel
theorem dX2_set_1 : decode cX2_set 1 = .ok (.ifCond .lt 18, 3) := by decide +kernel
theorem dX2_set_4 : decode cX2_set 4 = .ok (.iload_n 1, 1) := by decide +kernel
theorem dX2_set_5 : decode cX2_set 5 = .ok (.aload_n 0, 1) := by decide +kernel
theorem dX2_set_6 : decode cX2_set 6 = .ok (.getfield 15, 3) := by decide +kernel
theorem dX2_set_9 : decode cX2_set 9 = .ok (.if_icmp .ge 10, 3) := by decide +kernel
theorem dX2_set_12 : decode cX2_set 12 = .ok (.aload_n 0, 1) := by decide +kernel
theorem dX2_set_13 : decode cX2_set 13 = .ok (.getfield 9, 3) := by decide +kernel
theorem dX2_set_16 : decode cX2_set 16 = .ok (.iload_n 1, 1) := by decide +kernel
theorem dX2_set_17 : decode cX2_set 17 = .ok (.iload_n 2, 1) := by decide +kernel
theorem dX2_set_18 : decode cX2_set 18 = .ok (.iastore, 1) := by decide +kernel
theorem dX2_set_19 : decode cX2_set 19 = .ok (.return_, 1) := by decide +kernel
theorem dX2_cutTo_0 : decode cX2_cutTo 0 = .ok (.iload_n 1, 1) := by decide +kernel
theorem dX2_cutTo_1 : decode cX2_cutTo 1 = .ok (.ifCond .lt 16, 3) := by decide +kernel
theorem dX2_cutTo_4 : decode cX2_cutTo 4 = .ok (.iload_n 1, 1) := by decide +kernel
theorem dX2_cutTo_5 : decode cX2_cutTo 5 = .ok (.aload_n 0, 1) := by decide +kernel
theorem dX2_cutTo_6 : decode cX2_cutTo 6 = .ok (.getfield 15, 3) := by decide +kernel
theorem dX2_cutTo_9 : decode cX2_cutTo 9 = .ok (.if_icmp .ge 8, 3) := by decide +kernel
theorem dX2_cutTo_12 : decode cX2_cutTo 12 = .ok (.aload_n 0, 1) := by decide +kernel
theorem dX2_cutTo_13 : decode cX2_cutTo 13 = .ok (.iload_n 1, 1) := by decide +kernel
theorem dX2_cutTo_14 : decode cX2_cutTo 14 = .ok (.putfield 15, 3) := by decide +kernel
theorem dX2_cutTo_17 : decode cX2_cutTo 17 = .ok (.return_, 1) := by decide +kernel
theorem dX2_takeAt_0 : decode cX2_takeAt 0 = .ok (.iload_n 1, 1) := by decide +kernel
theorem dX2_takeAt_1 : decode cX2_takeAt 1 = .ok (.ifCond .lt 11, 3) := by decide +kernel
theorem dX2_takeAt_4 : decode cX2_takeAt 4 = .ok (.iload_n 1, 1) := by decide +kernel
theorem dX2_takeAt_5 : decode cX2_takeAt 5 = .ok (.aload_n 0, 1) := by decide +kernel
theorem dX2_takeAt_6 : decode cX2_takeAt 6 = .ok (.getfield 15, 3) := by decide +kernel
theorem dX2_takeAt_9 : decode cX2_takeAt 9 = .ok (.if_icmp .lt 5, 3) := by decide +kernel
theorem dX2_takeAt_12 : decode cX2_takeAt 12 = .ok (.iconst 0, 1) := by decide +kernel
theorem dX2_takeAt_13 : decode cX2_takeAt 13 = .ok (.ireturn, 1) := by decide +kernel
theorem dX2_takeAt_14 : decode cX2_takeAt 14 = .ok (.aload_n 0, 1) := by decide +kernel
theorem dX2_takeAt_15 : decode cX2_takeAt 15 = .ok (.getfield 9, 3) := by decide +kernel
theorem dX2_takeAt_18 : decode cX2_takeAt 18 = .ok (.iload_n 1, 1) := by decide +kernel
theorem dX2_takeAt_19 : decode cX2_takeAt 19 = .ok (.iaload, 1) := by decide +kernel
theorem dX2_takeAt_20 : decode cX2_takeAt 20 = .ok (.istore_n 2, 1) := by decide +kernel
theorem dX2_takeAt_21 : decode cX2_takeAt 21 = .ok (.iload_n 1, 1) := by decide +kernel
theorem dX2_takeAt_22 : decode cX2_takeAt 22 = .ok (.iconst 1, 1) := by decide +kernel
theorem dX2_takeAt_23 : decode cX2_takeAt 23 = .ok (.iadd, 1) := by decide +kernel
theorem dX2_takeAt_24 : decode cX2_takeAt 24 = .ok (.istore_n 3, 1) := by decide +kernel
theorem dX2_takeAt_25 : decode cX2_takeAt 25 = .ok (.iload_n 3, 1) := by decide +kernel
theorem dX2_takeAt_26 : decode cX2_takeAt 26 = .ok (.aload_n 0, 1) := by decide +kernel
theorem dX2_takeAt_27 : decode cX2_takeAt 27 = .ok (.getfield 15, 3) := by decide +kernel
theorem dX2_takeAt_30 : decode cX2_takeAt 30 = .ok (.if_icmp .ge 23, 3) := by decide +kernel
theorem dX2_takeAt_33 : decode cX2_takeAt 33 = .ok (.aload_n 0, 1) := by decide +kernel
theorem dX2_takeAt_34 : decode cX2_takeAt 34 = .ok (.getfield 9, 3) := by decide +kernel
theorem dX2_takeAt_37 : decode cX2_takeAt 37 = .ok (.iload_n 3, 1) := by decide +kernel
theorem dX2_takeAt_38 : decode cX2_takeAt 38 = .ok (.iconst 1, 1) := by decide +kernel
theorem dX2_takeAt_39 : decode cX2_takeAt 39 = .ok (.isub, 1) := by decide +kernel
theorem dX2_takeAt_40 : decode cX2_takeAt 40 = .ok (.aload_n 0, 1) := by decide +kernel
theorem dX2_takeAt_41 : decode cX2_takeAt 41 = .ok (.getfield 9, 3) := by decide +kernel
theorem dX2_takeAt_44 : decode cX2_takeAt 44 = .ok (.iload_n 3, 1) := by decide +kernel
theorem dX2_takeAt_45 : decode cX2_takeAt 45 = .ok (.iaload, 1) := by decide +kernel
theorem dX2_takeAt_46 : decode cX2_takeAt 46 = .ok (.iastore, 1) := by decide +kernel
theorem dX2_takeAt_47 : decode cX2_takeAt 47 = .ok (.iinc 3 1, 3) := by decide +kernel
theorem dX2_takeAt_50 : decode cX2_takeAt 50 = .ok (.goto (-25), 3) := by decide +kernel
theorem dX2_takeAt_53 : decode cX2_takeAt 53 = .ok (.aload_n 0, 1) := by decide +kernel
theorem dX2_takeAt_54 : decode cX2_takeAt 54 = .ok (.dup, 1) := by decide +kernel
theorem dX2_takeAt_55 : decode cX2_takeAt 55 = .ok (.getfield 15, 3) := by decide +kernel
theorem dX2_takeAt_58 : decode cX2_takeAt 58 = .ok (.iconst 1, 1) := by decide +kernel
theorem dX2_takeAt_59 : decode cX2_takeAt 59 = .ok (.isub, 1) := by decide +kernel
theorem dX2_takeAt_60 : decode cX2_takeAt 60 = .ok (.putfield 15, 3) := by decide +kernel
theorem dX2_takeAt_63 : decode cX2_takeAt 63 = .ok (.iload_n 2, 1) := by decide +kernel
theorem dX2_takeAt_64 : decode cX2_takeAt 64 = .ok (.ireturn, 1) := by decide +kernel
theorem dX2_leastPlace_0 : decode cX2_leastPlace 0 = .ok (.iconst 0, 1) := by decide +kernel
theorem dX2_leastPlace_1 : decode cX2_leastPlace 1 = .ok (.istore_n 1, 1) := by decide +kernel
theorem dX2_leastPlace_2 : decode cX2_leastPlace 2 = .ok (.iconst 1, 1) := by decide +kernel
theorem dX2_leastPlace_3 : decode cX2_leastPlace 3 = .ok (.istore_n 2, 1) := by decide +kernel
theorem dX2_leastPlace_4 : decode cX2_leastPlace 4 = .ok (.iload_n 2, 1) := by decide +kernel
theorem dX2_leastPlace_5 : decode cX2_leastPlace 5 = .ok (.aload_n 0, 1) := by decide +kernel
theorem dX2_leastPlace_6 : decode cX2_leastPlace 6 = .ok (.getfield 15, 3) := by decide +kernel
theorem dX2_leastPlace_9 : decode cX2_leastPlace 9 = .ok (.if_icmp .ge 26, 3) := by decide +kernel
theorem dX2_leastPlace_12 : decode cX2_leastPlace 12 = .ok (.aload_n 0, 1) := by decide +kernel
theorem dX2_leastPlace_13 : decode cX2_leastPlace 13 = .ok (.getfield 9, 3) := by decide +kernel
theorem dX2_leastPlace_16 : decode cX2_leastPlace 16 = .ok (.iload_n 2, 1) := by decide +kernel
theorem dX2_leastPlace_17 : decode cX2_leastPlace 17 = .ok (.iaload, 1) := by decide +kernel
theorem dX2_leastPlace_18 : decode cX2_leastPlace 18 = .ok (.aload_n 0, 1) := by decide +kernel
theorem dX2_leastPlace_19 : decode cX2_leastPlace 19 = .ok (.getfield 9, 3) := by decide +kernel
theorem dX2_leastPlace_22 : decode cX2_leastPlace 22 = .ok (.iload_n 1, 1) := by decide +kernel
theorem dX2_leastPlace_23 : decode cX2_leastPlace 23 = .ok (.iaload, 1) := by decide +kernel
theorem dX2_leastPlace_24 : decode cX2_leastPlace 24 = .ok (.if_icmp .ge 5, 3) := by decide +kernel
theorem dX2_leastPlace_27 : decode cX2_leastPlace 27 = .ok (.iload_n 2, 1) := by decide +kernel
theorem dX2_leastPlace_28 : decode cX2_leastPlace 28 = .ok (.istore_n 1, 1) := by decide +kernel
theorem dX2_leastPlace_29 : decode cX2_leastPlace 29 = .ok (.iinc 2 1, 3) := by decide +kernel
theorem dX2_leastPlace_32 : decode cX2_leastPlace 32 = .ok (.goto (-28), 3) := by decide +kernel
theorem dX2_leastPlace_35 : decode cX2_leastPlace 35 = .ok (.iload_n 1, 1) := by decide +kernel
theorem dX2_leastPlace_36 : decode cX2_leastPlace 36 = .ok (.ireturn, 1) := by decide +kernel
theorem dX3_init_0 : decode cX3_init 0 = .ok (.aload_n 0, 1) := by decide +kernel
theorem dX3_init_1 : decode cX3_init 1 = .ok (.invokespecial 3, 3) := by decide +kernel
theorem dX3_init_4 : decode cX3_init 4 = .ok (.aload_n 0, 1) := by decide +kernel
theorem dX3_init_5 : decode cX3_init 5 = .ok (.new 9, 3) := by decide +kernel
theorem dX3_init_8 : decode cX3_init 8 = .ok (.dup, 1) := by decide +kernel
theorem dX3_init_9 : decode cX3_init 9 = .ok (.invokespecial 11, 3) := by decide +kernel
theorem dX3_init_12 : decode cX3_init 12 = .ok (.putfield 12, 3) := by decide +kernel
theorem dX3_init_15 : decode cX3_init 15 = .ok (.aload_n 0, 1) := by decide +kernel
theorem dX3_init_16 : decode cX3_init 16 = .ok (.iconst 0, 1) := by decide +kernel
theorem dX3_init_17 : decode cX3_init 17 = .ok (.putfield 18, 3) := by decide +kernel
theorem dX3_init_20 : decode cX3_init 20 = .ok (.aload_n 0, 1) := by decide +kernel
theorem dX3_init_21 : decode cX3_init 21 = .ok (.iconst 0, 1) := by decide +kernel
theorem dX3_init_22 : decode cX3_init 22 = .ok (.putfield 22, 3) := by decide +kernel
