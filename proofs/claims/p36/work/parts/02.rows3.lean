-- decode rows, part 3
theorem dX7_prepare_29 : decode cX7_prepare 29 = .ok (.if_icmp .ge 16, 3) := by decide +kernel
theorem dX7_prepare_32 : decode cX7_prepare 32 = .ok (.aload_n 0, 1) := by decide +kernel
theorem dX7_prepare_33 : decode cX7_prepare 33 = .ok (.dup, 1) := by decide +kernel
theorem dX7_prepare_34 : decode cX7_prepare 34 = .ok (.getfield 15, 3) := by decide +kernel
theorem dX7_prepare_37 : decode cX7_prepare 37 = .ok (.iconst 2, 1) := by decide +kernel
theorem dX7_prepare_38 : decode cX7_prepare 38 = .ok (.imul, 1) := by decide +kernel
theorem dX7_prepare_39 : decode cX7_prepare 39 = .ok (.putfield 15, 3) := by decide +kernel
theorem dX7_prepare_42 : decode cX7_prepare 42 = .ok (.goto (-27), 3) := by decide +kernel
theorem dX7_prepare_45 : decode cX7_prepare 45 = .ok (.return_, 1) := by decide +kernel
theorem dX7_seat_0 : decode cX7_seat 0 = .ok (.iload_n 1, 1) := by decide +kernel
theorem dX7_seat_1 : decode cX7_seat 1 = .ok (.ifCond .lt 23, 3) := by decide +kernel
theorem dX7_seat_4 : decode cX7_seat 4 = .ok (.iload_n 1, 1) := by decide +kernel
theorem dX7_seat_5 : decode cX7_seat 5 = .ok (.bipush 8, 2) := by decide +kernel
theorem dX7_seat_7 : decode cX7_seat 7 = .ok (.if_icmp .ge 17, 3) := by decide +kernel
theorem dX7_seat_10 : decode cX7_seat 10 = .ok (.aload_n 0, 1) := by decide +kernel
theorem dX7_seat_11 : decode cX7_seat 11 = .ok (.getfield 33, 3) := by decide +kernel
theorem dX7_seat_14 : decode cX7_seat 14 = .ok (.iload_n 1, 1) := by decide +kernel
theorem dX7_seat_15 : decode cX7_seat 15 = .ok (.aload_n 2, 1) := by decide +kernel
theorem dX7_seat_16 : decode cX7_seat 16 = .ok (.aastore, 1) := by decide +kernel
theorem dX7_seat_17 : decode cX7_seat 17 = .ok (.aload_n 0, 1) := by decide +kernel
theorem dX7_seat_18 : decode cX7_seat 18 = .ok (.getfield 37, 3) := by decide +kernel
theorem dX7_seat_21 : decode cX7_seat 21 = .ok (.iload_n 1, 1) := by decide +kernel
theorem dX7_seat_22 : decode cX7_seat 22 = .ok (.iconst 0, 1) := by decide +kernel
theorem dX7_seat_23 : decode cX7_seat 23 = .ok (.iastore, 1) := by decide +kernel
theorem dX7_seat_24 : decode cX7_seat 24 = .ok (.return_, 1) := by decide +kernel
theorem dX7_open_0 : decode cX7_open 0 = .ok (.aload_n 0, 1) := by decide +kernel
theorem dX7_open_1 : decode cX7_open 1 = .ok (.iconst 1, 1) := by decide +kernel
theorem dX7_open_2 : decode cX7_open 2 = .ok (.putfield 9, 3) := by decide +kernel
theorem dX7_open_5 : decode cX7_open 5 = .ok (.aload_n 0, 1) := by decide +kernel
theorem dX7_open_6 : decode cX7_open 6 = .ok (.iconst 0, 1) := by decide +kernel
theorem dX7_open_7 : decode cX7_open 7 = .ok (.putfield 22, 3) := by decide +kernel
theorem dX7_open_10 : decode cX7_open 10 = .ok (.iconst 0, 1) := by decide +kernel
theorem dX7_open_11 : decode cX7_open 11 = .ok (.istore_n 1, 1) := by decide +kernel
theorem dX7_open_12 : decode cX7_open 12 = .ok (.iload_n 1, 1) := by decide +kernel
theorem dX7_open_13 : decode cX7_open 13 = .ok (.aload_n 0, 1) := by decide +kernel
theorem dX7_open_14 : decode cX7_open 14 = .ok (.getfield 15, 3) := by decide +kernel
theorem dX7_open_17 : decode cX7_open 17 = .ok (.if_icmp .ge 21, 3) := by decide +kernel
theorem dX7_open_20 : decode cX7_open 20 = .ok (.aload_n 0, 1) := by decide +kernel
theorem dX7_open_21 : decode cX7_open 21 = .ok (.getfield 44, 3) := by decide +kernel
theorem dX7_open_24 : decode cX7_open 24 = .ok (.aload_n 0, 1) := by decide +kernel
theorem dX7_open_25 : decode cX7_open 25 = .ok (.getfield 15, 3) := by decide +kernel
theorem dX7_open_28 : decode cX7_open 28 = .ok (.iload_n 1, 1) := by decide +kernel
theorem dX7_open_29 : decode cX7_open 29 = .ok (.iadd, 1) := by decide +kernel
theorem dX7_open_30 : decode cX7_open 30 = .ok (.iload_n 1, 1) := by decide +kernel
theorem dX7_open_31 : decode cX7_open 31 = .ok (.iastore, 1) := by decide +kernel
theorem dX7_open_32 : decode cX7_open 32 = .ok (.iinc 1 1, 3) := by decide +kernel
theorem dX7_open_35 : decode cX7_open 35 = .ok (.goto (-23), 3) := by decide +kernel
theorem dX7_open_38 : decode cX7_open 38 = .ok (.aload_n 0, 1) := by decide +kernel
theorem dX7_open_39 : decode cX7_open 39 = .ok (.getfield 15, 3) := by decide +kernel
theorem dX7_open_42 : decode cX7_open 42 = .ok (.iconst 1, 1) := by decide +kernel
theorem dX7_open_43 : decode cX7_open 43 = .ok (.isub, 1) := by decide +kernel
theorem dX7_open_44 : decode cX7_open 44 = .ok (.istore_n 1, 1) := by decide +kernel
theorem dX7_open_45 : decode cX7_open 45 = .ok (.iload_n 1, 1) := by decide +kernel
theorem dX7_open_46 : decode cX7_open 46 = .ok (.iconst 1, 1) := by decide +kernel
theorem dX7_open_47 : decode cX7_open 47 = .ok (.if_icmp .lt 38, 3) := by decide +kernel
theorem dX7_open_50 : decode cX7_open 50 = .ok (.aload_n 0, 1) := by decide +kernel
theorem dX7_open_51 : decode cX7_open 51 = .ok (.getfield 44, 3) := by decide +kernel
theorem dX7_open_54 : decode cX7_open 54 = .ok (.iload_n 1, 1) := by decide +kernel
theorem dX7_open_55 : decode cX7_open 55 = .ok (.aload_n 0, 1) := by decide +kernel
theorem dX7_open_56 : decode cX7_open 56 = .ok (.iload_n 1, 1) := by decide +kernel
theorem dX7_open_57 : decode cX7_open 57 = .ok (.aload_n 0, 1) := by decide +kernel
theorem dX7_open_58 : decode cX7_open 58 = .ok (.getfield 44, 3) := by decide +kernel
theorem dX7_open_61 : decode cX7_open 61 = .ok (.iconst 2, 1) := by decide +kernel
theorem dX7_open_62 : decode cX7_open 62 = .ok (.iload_n 1, 1) := by decide +kernel
theorem dX7_open_63 : decode cX7_open 63 = .ok (.imul, 1) := by decide +kernel
theorem dX7_open_64 : decode cX7_open 64 = .ok (.iaload, 1) := by decide +kernel
theorem dX7_open_65 : decode cX7_open 65 = .ok (.aload_n 0, 1) := by decide +kernel
theorem dX7_open_66 : decode cX7_open 66 = .ok (.getfield 44, 3) := by decide +kernel
theorem dX7_open_69 : decode cX7_open 69 = .ok (.iconst 2, 1) := by decide +kernel
theorem dX7_open_70 : decode cX7_open 70 = .ok (.iload_n 1, 1) := by decide +kernel
theorem dX7_open_71 : decode cX7_open 71 = .ok (.imul, 1) := by decide +kernel
theorem dX7_open_72 : decode cX7_open 72 = .ok (.iconst 1, 1) := by decide +kernel
theorem dX7_open_73 : decode cX7_open 73 = .ok (.iadd, 1) := by decide +kernel
theorem dX7_open_74 : decode cX7_open 74 = .ok (.iaload, 1) := by decide +kernel
theorem dX7_open_75 : decode cX7_open 75 = .ok (.invokevirtual 47, 3) := by decide +kernel
theorem dX7_open_78 : decode cX7_open 78 = .ok (.iastore, 1) := by decide +kernel
theorem dX7_open_79 : decode cX7_open 79 = .ok (.iinc 1 (-1), 3) := by decide +kernel
theorem dX7_open_82 : decode cX7_open 82 = .ok (.goto (-37), 3) := by decide +kernel
theorem dX7_open_85 : decode cX7_open 85 = .ok (.aload_n 0, 1) := by decide +kernel
theorem dX7_open_86 : decode cX7_open 86 = .ok (.aload_n 0, 1) := by decide +kernel
theorem dX7_open_87 : decode cX7_open 87 = .ok (.getfield 44, 3) := by decide +kernel
theorem dX7_open_90 : decode cX7_open 90 = .ok (.iconst 1, 1) := by decide +kernel
theorem dX7_open_91 : decode cX7_open 91 = .ok (.iaload, 1) := by decide +kernel
theorem dX7_open_92 : decode cX7_open 92 = .ok (.putfield 19, 3) := by decide +kernel
theorem dX7_open_95 : decode cX7_open 95 = .ok (.return_, 1) := by decide +kernel
theorem dX7_forget_0 : decode cX7_forget 0 = .ok (.iload_n 1, 1) := by decide +kernel
theorem dX7_forget_1 : decode cX7_forget 1 = .ok (.aload_n 0, 1) := by decide +kernel
theorem dX7_forget_2 : decode cX7_forget 2 = .ok (.getfield 25, 3) := by decide +kernel
theorem dX7_forget_5 : decode cX7_forget 5 = .ok (.if_icmp .lt 21, 3) := by decide +kernel
theorem dX7_forget_8 : decode cX7_forget 8 = .ok (.iload_n 1, 1) := by decide +kernel
theorem dX7_forget_9 : decode cX7_forget 9 = .ok (.aload_n 0, 1) := by decide +kernel
theorem dX7_forget_10 : decode cX7_forget 10 = .ok (.getfield 25, 3) := by decide +kernel
theorem dX7_forget_13 : decode cX7_forget 13 = .ok (.aload_n 0, 1) := by decide +kernel
theorem dX7_forget_14 : decode cX7_forget 14 = .ok (.getfield 28, 3) := by decide +kernel
theorem dX7_forget_17 : decode cX7_forget 17 = .ok (.iadd, 1) := by decide +kernel
theorem dX7_forget_18 : decode cX7_forget 18 = .ok (.if_icmp .ge 8, 3) := by decide +kernel
theorem dX7_forget_21 : decode cX7_forget 21 = .ok (.aload_n 0, 1) := by decide +kernel
theorem dX7_forget_22 : decode cX7_forget 22 = .ok (.iconst 0, 1) := by decide +kernel
theorem dX7_forget_23 : decode cX7_forget 23 = .ok (.putfield 9, 3) := by decide +kernel
theorem dX7_forget_26 : decode cX7_forget 26 = .ok (.return_, 1) := by decide +kernel
theorem dX7_hasNode_0 : decode cX7_hasNode 0 = .ok (.iload_n 1, 1) := by decide +kernel
theorem dX7_hasNode_1 : decode cX7_hasNode 1 = .ok (.iconst 1, 1) := by decide +kernel
theorem dX7_hasNode_2 : decode cX7_hasNode 2 = .ok (.if_icmp .lt 15, 3) := by decide +kernel
theorem dX7_hasNode_5 : decode cX7_hasNode 5 = .ok (.iload_n 1, 1) := by decide +kernel
theorem dX7_hasNode_6 : decode cX7_hasNode 6 = .ok (.aload_n 0, 1) := by decide +kernel
theorem dX7_hasNode_7 : decode cX7_hasNode 7 = .ok (.getfield 15, 3) := by decide +kernel
theorem dX7_hasNode_10 : decode cX7_hasNode 10 = .ok (.if_icmp .ge 7, 3) := by decide +kernel
theorem dX7_hasNode_13 : decode cX7_hasNode 13 = .ok (.iconst 1, 1) := by decide +kernel
theorem dX7_hasNode_14 : decode cX7_hasNode 14 = .ok (.goto 4, 3) := by decide +kernel
theorem dX7_hasNode_17 : decode cX7_hasNode 17 = .ok (.iconst 0, 1) := by decide +kernel
theorem dX7_hasNode_18 : decode cX7_hasNode 18 = .ok (.ireturn, 1) := by decide +kernel
theorem dX7_loserAt_0 : decode cX7_loserAt 0 = .ok (.aload_n 0, 1) := by decide +kernel
theorem dX7_loserAt_1 : decode cX7_loserAt 1 = .ok (.iload_n 1, 1) := by decide +kernel
theorem dX7_loserAt_2 : decode cX7_loserAt 2 = .ok (.invokevirtual 51, 3) := by decide +kernel
theorem dX7_loserAt_5 : decode cX7_loserAt 5 = .ok (.ifCond .eq 12, 3) := by decide +kernel
theorem dX7_loserAt_8 : decode cX7_loserAt 8 = .ok (.aload_n 0, 1) := by decide +kernel
theorem dX7_loserAt_9 : decode cX7_loserAt 9 = .ok (.getfield 41, 3) := by decide +kernel
theorem dX7_loserAt_12 : decode cX7_loserAt 12 = .ok (.iload_n 1, 1) := by decide +kernel
theorem dX7_loserAt_13 : decode cX7_loserAt 13 = .ok (.iaload, 1) := by decide +kernel
theorem dX7_loserAt_14 : decode cX7_loserAt 14 = .ok (.goto 4, 3) := by decide +kernel
theorem dX7_loserAt_17 : decode cX7_loserAt 17 = .ok (.iconst 0, 1) := by decide +kernel
theorem dX7_loserAt_18 : decode cX7_loserAt 18 = .ok (.ireturn, 1) := by decide +kernel
theorem dX7_give_0 : decode cX7_give 0 = .ok (.aload_n 0, 1) := by decide +kernel
theorem dX7_give_1 : decode cX7_give 1 = .ok (.getfield 19, 3) := by decide +kernel
theorem dX7_give_4 : decode cX7_give 4 = .ok (.istore_n 1, 1) := by decide +kernel
theorem dX7_give_5 : decode cX7_give 5 = .ok (.aload_n 0, 1) := by decide +kernel
theorem dX7_give_6 : decode cX7_give 6 = .ok (.iload_n 1, 1) := by decide +kernel
theorem dX7_give_7 : decode cX7_give 7 = .ok (.invokevirtual 55, 3) := by decide +kernel
theorem dX7_give_10 : decode cX7_give 10 = .ok (.ifCond .eq 7, 3) := by decide +kernel
theorem dX7_give_13 : decode cX7_give 13 = .ok (.sipush 1000, 3) := by decide +kernel
theorem dX7_give_16 : decode cX7_give 16 = .ok (.ireturn, 1) := by decide +kernel
theorem dX7_give_17 : decode cX7_give 17 = .ok (.aload_n 0, 1) := by decide +kernel
theorem dX7_give_18 : decode cX7_give 18 = .ok (.iload_n 1, 1) := by decide +kernel
theorem dX7_give_19 : decode cX7_give 19 = .ok (.invokevirtual 58, 3) := by decide +kernel
theorem dX7_give_22 : decode cX7_give 22 = .ok (.istore_n 2, 1) := by decide +kernel
theorem dX7_give_23 : decode cX7_give 23 = .ok (.aload_n 0, 1) := by decide +kernel
theorem dX7_give_24 : decode cX7_give 24 = .ok (.getfield 37, 3) := by decide +kernel
theorem dX7_give_27 : decode cX7_give 27 = .ok (.iload_n 1, 1) := by decide +kernel
theorem dX7_give_28 : decode cX7_give 28 = .ok (.dup2, 1) := by decide +kernel
theorem dX7_give_29 : decode cX7_give 29 = .ok (.iaload, 1) := by decide +kernel
theorem dX7_give_30 : decode cX7_give 30 = .ok (.iconst 1, 1) := by decide +kernel
theorem dX7_give_31 : decode cX7_give 31 = .ok (.iadd, 1) := by decide +kernel
theorem dX7_give_32 : decode cX7_give 32 = .ok (.iastore, 1) := by decide +kernel
theorem dX7_give_33 : decode cX7_give 33 = .ok (.aload_n 0, 1) := by decide +kernel
theorem dX7_give_34 : decode cX7_give 34 = .ok (.getfield 15, 3) := by decide +kernel
theorem dX7_give_37 : decode cX7_give 37 = .ok (.iload_n 1, 1) := by decide +kernel
theorem dX7_give_38 : decode cX7_give 38 = .ok (.iadd, 1) := by decide +kernel
theorem dX7_give_39 : decode cX7_give 39 = .ok (.iconst 2, 1) := by decide +kernel
theorem dX7_give_40 : decode cX7_give 40 = .ok (.idiv, 1) := by decide +kernel
theorem dX7_give_41 : decode cX7_give 41 = .ok (.istore_n 3, 1) := by decide +kernel
theorem dX7_give_42 : decode cX7_give 42 = .ok (.iload_n 3, 1) := by decide +kernel
theorem dX7_give_43 : decode cX7_give 43 = .ok (.iconst 1, 1) := by decide +kernel
theorem dX7_give_44 : decode cX7_give 44 = .ok (.if_icmp .lt 22, 3) := by decide +kernel
theorem dX7_give_47 : decode cX7_give 47 = .ok (.aload_n 0, 1) := by decide +kernel
theorem dX7_give_48 : decode cX7_give 48 = .ok (.iload_n 3, 1) := by decide +kernel
theorem dX7_give_49 : decode cX7_give 49 = .ok (.iload_n 1, 1) := by decide +kernel
theorem dX7_give_50 : decode cX7_give 50 = .ok (.aload_n 0, 1) := by decide +kernel
theorem dX7_give_51 : decode cX7_give 51 = .ok (.iload_n 3, 1) := by decide +kernel
theorem dX7_give_52 : decode cX7_give 52 = .ok (.invokevirtual 62, 3) := by decide +kernel
theorem dX7_give_55 : decode cX7_give 55 = .ok (.invokevirtual 47, 3) := by decide +kernel
theorem dX7_give_58 : decode cX7_give 58 = .ok (.istore_n 1, 1) := by decide +kernel
theorem dX7_give_59 : decode cX7_give 59 = .ok (.iload_n 3, 1) := by decide +kernel
theorem dX7_give_60 : decode cX7_give 60 = .ok (.iconst 2, 1) := by decide +kernel
theorem dX7_give_61 : decode cX7_give 61 = .ok (.idiv, 1) := by decide +kernel
theorem dX7_give_62 : decode cX7_give 62 = .ok (.istore_n 3, 1) := by decide +kernel
theorem dX7_give_63 : decode cX7_give 63 = .ok (.goto (-21), 3) := by decide +kernel
theorem dX7_give_66 : decode cX7_give 66 = .ok (.aload_n 0, 1) := by decide +kernel
theorem dX7_give_67 : decode cX7_give 67 = .ok (.iload_n 1, 1) := by decide +kernel
theorem dX7_give_68 : decode cX7_give 68 = .ok (.putfield 19, 3) := by decide +kernel
theorem dX7_give_71 : decode cX7_give 71 = .ok (.iload_n 2, 1) := by decide +kernel
theorem dX7_give_72 : decode cX7_give 72 = .ok (.ireturn, 1) := by decide +kernel
theorem dX7_playAt_0 : decode cX7_playAt 0 = .ok (.aload_n 0, 1) := by decide +kernel
theorem dX7_playAt_1 : decode cX7_playAt 1 = .ok (.iload_n 2, 1) := by decide +kernel
theorem dX7_playAt_2 : decode cX7_playAt 2 = .ok (.iload_n 3, 1) := by decide +kernel
theorem dX7_playAt_3 : decode cX7_playAt 3 = .ok (.invokevirtual 65, 3) := by decide +kernel
theorem dX7_playAt_6 : decode cX7_playAt 6 = .ok (.istore 4, 2) := by decide +kernel
theorem dX7_playAt_8 : decode cX7_playAt 8 = .ok (.aload_n 0, 1) := by decide +kernel
theorem dX7_playAt_9 : decode cX7_playAt 9 = .ok (.iload_n 1, 1) := by decide +kernel
theorem dX7_playAt_10 : decode cX7_playAt 10 = .ok (.invokevirtual 51, 3) := by decide +kernel
theorem dX7_playAt_13 : decode cX7_playAt 13 = .ok (.ifCond .eq 19, 3) := by decide +kernel
theorem dX7_playAt_16 : decode cX7_playAt 16 = .ok (.aload_n 0, 1) := by decide +kernel
theorem dX7_playAt_17 : decode cX7_playAt 17 = .ok (.getfield 41, 3) := by decide +kernel
theorem dX7_playAt_20 : decode cX7_playAt 20 = .ok (.iload_n 1, 1) := by decide +kernel
theorem dX7_playAt_21 : decode cX7_playAt 21 = .ok (.iload 4, 2) := by decide +kernel
theorem dX7_playAt_23 : decode cX7_playAt 23 = .ok (.ifCond .eq 7, 3) := by decide +kernel
theorem dX7_playAt_26 : decode cX7_playAt 26 = .ok (.iload_n 3, 1) := by decide +kernel
theorem dX7_playAt_27 : decode cX7_playAt 27 = .ok (.goto 4, 3) := by decide +kernel
theorem dX7_playAt_30 : decode cX7_playAt 30 = .ok (.iload_n 2, 1) := by decide +kernel
theorem dX7_playAt_31 : decode cX7_playAt 31 = .ok (.iastore, 1) := by decide +kernel
theorem dX7_playAt_32 : decode cX7_playAt 32 = .ok (.aload_n 0, 1) := by decide +kernel
theorem dX7_playAt_33 : decode cX7_playAt 33 = .ok (.dup, 1) := by decide +kernel
theorem dX7_playAt_34 : decode cX7_playAt 34 = .ok (.getfield 22, 3) := by decide +kernel
theorem dX7_playAt_37 : decode cX7_playAt 37 = .ok (.iconst 1, 1) := by decide +kernel
theorem dX7_playAt_38 : decode cX7_playAt 38 = .ok (.iadd, 1) := by decide +kernel
theorem dX7_playAt_39 : decode cX7_playAt 39 = .ok (.putfield 22, 3) := by decide +kernel
theorem dX7_playAt_42 : decode cX7_playAt 42 = .ok (.iload 4, 2) := by decide +kernel
theorem dX7_playAt_44 : decode cX7_playAt 44 = .ok (.ifCond .eq 7, 3) := by decide +kernel
theorem dX7_playAt_47 : decode cX7_playAt 47 = .ok (.iload_n 2, 1) := by decide +kernel
theorem dX7_playAt_48 : decode cX7_playAt 48 = .ok (.goto 4, 3) := by decide +kernel
theorem dX7_playAt_51 : decode cX7_playAt 51 = .ok (.iload_n 3, 1) := by decide +kernel
theorem dX7_playAt_52 : decode cX7_playAt 52 = .ok (.ireturn, 1) := by decide +kernel
theorem dX7_isWinning_0 : decode cX7_isWinning 0 = .ok (.aload_n 0, 1) := by decide +kernel
theorem dX7_isWinning_1 : decode cX7_isWinning 1 = .ok (.iload_n 1, 1) := by decide +kernel
theorem dX7_isWinning_2 : decode cX7_isWinning 2 = .ok (.invokevirtual 55, 3) := by decide +kernel
theorem dX7_isWinning_5 : decode cX7_isWinning 5 = .ok (.aload_n 0, 1) := by decide +kernel
theorem dX7_isWinning_6 : decode cX7_isWinning 6 = .ok (.iload_n 2, 1) := by decide +kernel
theorem dX7_isWinning_7 : decode cX7_isWinning 7 = .ok (.invokevirtual 55, 3) := by decide +kernel
theorem dX7_isWinning_10 : decode cX7_isWinning 10 = .ok (.if_icmp .eq 9, 3) := by decide +kernel
theorem dX7_isWinning_13 : decode cX7_isWinning 13 = .ok (.aload_n 0, 1) := by decide +kernel
theorem dX7_isWinning_14 : decode cX7_isWinning 14 = .ok (.iload_n 2, 1) := by decide +kernel
theorem dX7_isWinning_15 : decode cX7_isWinning 15 = .ok (.invokevirtual 55, 3) := by decide +kernel
theorem dX7_isWinning_18 : decode cX7_isWinning 18 = .ok (.ireturn, 1) := by decide +kernel
theorem dX7_isWinning_19 : decode cX7_isWinning 19 = .ok (.aload_n 0, 1) := by decide +kernel
theorem dX7_isWinning_20 : decode cX7_isWinning 20 = .ok (.iload_n 1, 1) := by decide +kernel
theorem dX7_isWinning_21 : decode cX7_isWinning 21 = .ok (.invokevirtual 55, 3) := by decide +kernel
theorem dX7_isWinning_24 : decode cX7_isWinning 24 = .ok (.ifCond .ne 35, 3) := by decide +kernel
theorem dX7_isWinning_27 : decode cX7_isWinning 27 = .ok (.aload_n 0, 1) := by decide +kernel
theorem dX7_isWinning_28 : decode cX7_isWinning 28 = .ok (.iload_n 1, 1) := by decide +kernel
theorem dX7_isWinning_29 : decode cX7_isWinning 29 = .ok (.invokevirtual 58, 3) := by decide +kernel
theorem dX7_isWinning_32 : decode cX7_isWinning 32 = .ok (.aload_n 0, 1) := by decide +kernel
theorem dX7_isWinning_33 : decode cX7_isWinning 33 = .ok (.iload_n 2, 1) := by decide +kernel
theorem dX7_isWinning_34 : decode cX7_isWinning 34 = .ok (.invokevirtual 58, 3) := by decide +kernel
theorem dX7_isWinning_37 : decode cX7_isWinning 37 = .ok (.if_icmp .eq 22, 3) := by decide +kernel
theorem dX7_isWinning_40 : decode cX7_isWinning 40 = .ok (.aload_n 0, 1) := by decide +kernel
theorem dX7_isWinning_41 : decode cX7_isWinning 41 = .ok (.iload_n 1, 1) := by decide +kernel
theorem dX7_isWinning_42 : decode cX7_isWinning 42 = .ok (.invokevirtual 58, 3) := by decide +kernel
theorem dX7_isWinning_45 : decode cX7_isWinning 45 = .ok (.aload_n 0, 1) := by decide +kernel
theorem dX7_isWinning_46 : decode cX7_isWinning 46 = .ok (.iload_n 2, 1) := by decide +kernel
theorem dX7_isWinning_47 : decode cX7_isWinning 47 = .ok (.invokevirtual 58, 3) := by decide +kernel
theorem dX7_isWinning_50 : decode cX7_isWinning 50 = .ok (.if_icmp .ge 7, 3) := by decide +kernel
theorem dX7_isWinning_53 : decode cX7_isWinning 53 = .ok (.iconst 1, 1) := by decide +kernel
theorem dX7_isWinning_54 : decode cX7_isWinning 54 = .ok (.goto 4, 3) := by decide +kernel
theorem dX7_isWinning_57 : decode cX7_isWinning 57 = .ok (.iconst 0, 1) := by decide +kernel
theorem dX7_isWinning_58 : decode cX7_isWinning 58 = .ok (.ireturn, 1) := by decide +kernel
theorem dX7_isWinning_59 : decode cX7_isWinning 59 = .ok (.iload_n 1, 1) := by decide +kernel
theorem dX7_isWinning_60 : decode cX7_isWinning 60 = .ok (.iload_n 2, 1) := by decide +kernel
theorem dX7_isWinning_61 : decode cX7_isWinning 61 = .ok (.if_icmp .ge 7, 3) := by decide +kernel
theorem dX7_isWinning_64 : decode cX7_isWinning 64 = .ok (.iconst 1, 1) := by decide +kernel
theorem dX7_isWinning_65 : decode cX7_isWinning 65 = .ok (.goto 4, 3) := by decide +kernel
theorem dX7_isWinning_68 : decode cX7_isWinning 68 = .ok (.iconst 0, 1) := by decide +kernel
theorem dX7_isWinning_69 : decode cX7_isWinning 69 = .ok (.ireturn, 1) := by decide +kernel
theorem dX7_isOver_0 : decode cX7_isOver 0 = .ok (.iload_n 1, 1) := by decide +kernel
theorem dX7_isOver_1 : decode cX7_isOver 1 = .ok (.ifCond .lt 38, 3) := by decide +kernel
theorem dX7_isOver_4 : decode cX7_isOver 4 = .ok (.iload_n 1, 1) := by decide +kernel
theorem dX7_isOver_5 : decode cX7_isOver 5 = .ok (.aload_n 0, 1) := by decide +kernel
theorem dX7_isOver_6 : decode cX7_isOver 6 = .ok (.getfield 28, 3) := by decide +kernel
theorem dX7_isOver_9 : decode cX7_isOver 9 = .ok (.if_icmp .ge 30, 3) := by decide +kernel
theorem dX7_isOver_12 : decode cX7_isOver 12 = .ok (.aload_n 0, 1) := by decide +kernel
theorem dX7_isOver_13 : decode cX7_isOver 13 = .ok (.getfield 33, 3) := by decide +kernel
theorem dX7_isOver_16 : decode cX7_isOver 16 = .ok (.iload_n 1, 1) := by decide +kernel
theorem dX7_isOver_17 : decode cX7_isOver 17 = .ok (.aaload, 1) := by decide +kernel
theorem dX7_isOver_18 : decode cX7_isOver 18 = .ok (.ifnull 21, 3) := by decide +kernel
theorem dX7_isOver_21 : decode cX7_isOver 21 = .ok (.aload_n 0, 1) := by decide +kernel
theorem dX7_isOver_22 : decode cX7_isOver 22 = .ok (.getfield 37, 3) := by decide +kernel
theorem dX7_isOver_25 : decode cX7_isOver 25 = .ok (.iload_n 1, 1) := by decide +kernel
theorem dX7_isOver_26 : decode cX7_isOver 26 = .ok (.iaload, 1) := by decide +kernel
theorem dX7_isOver_27 : decode cX7_isOver 27 = .ok (.aload_n 0, 1) := by decide +kernel
theorem dX7_isOver_28 : decode cX7_isOver 28 = .ok (.getfield 33, 3) := by decide +kernel
theorem dX7_isOver_31 : decode cX7_isOver 31 = .ok (.iload_n 1, 1) := by decide +kernel
theorem dX7_isOver_32 : decode cX7_isOver 32 = .ok (.aaload, 1) := by decide +kernel
theorem dX7_isOver_33 : decode cX7_isOver 33 = .ok (.invokevirtual 69, 3) := by decide +kernel
theorem dX7_isOver_36 : decode cX7_isOver 36 = .ok (.if_icmp .lt 7, 3) := by decide +kernel
theorem dX7_isOver_39 : decode cX7_isOver 39 = .ok (.iconst 1, 1) := by decide +kernel
theorem dX7_isOver_40 : decode cX7_isOver 40 = .ok (.goto 4, 3) := by decide +kernel
theorem dX7_isOver_43 : decode cX7_isOver 43 = .ok (.iconst 0, 1) := by decide +kernel
theorem dX7_isOver_44 : decode cX7_isOver 44 = .ok (.ireturn, 1) := by decide +kernel
theorem dX7_keyOf_0 : decode cX7_keyOf 0 = .ok (.aload_n 0, 1) := by decide +kernel
theorem dX7_keyOf_1 : decode cX7_keyOf 1 = .ok (.iload_n 1, 1) := by decide +kernel
theorem dX7_keyOf_2 : decode cX7_keyOf 2 = .ok (.invokevirtual 55, 3) := by decide +kernel
theorem dX7_keyOf_5 : decode cX7_keyOf 5 = .ok (.ifCond .eq 9, 3) := by decide +kernel
theorem dX7_keyOf_8 : decode cX7_keyOf 8 = .ok (.sipush 1000, 3) := by decide +kernel
theorem dX7_keyOf_11 : decode cX7_keyOf 11 = .ok (.goto 18, 3) := by decide +kernel
theorem dX7_keyOf_14 : decode cX7_keyOf 14 = .ok (.aload_n 0, 1) := by decide +kernel
theorem dX7_keyOf_15 : decode cX7_keyOf 15 = .ok (.getfield 33, 3) := by decide +kernel
theorem dX7_keyOf_18 : decode cX7_keyOf 18 = .ok (.iload_n 1, 1) := by decide +kernel
theorem dX7_keyOf_19 : decode cX7_keyOf 19 = .ok (.aaload, 1) := by decide +kernel
theorem dX7_keyOf_20 : decode cX7_keyOf 20 = .ok (.aload_n 0, 1) := by decide +kernel
theorem dX7_keyOf_21 : decode cX7_keyOf 21 = .ok (.getfield 37, 3) := by decide +kernel
theorem dX7_keyOf_24 : decode cX7_keyOf 24 = .ok (.iload_n 1, 1) := by decide +kernel
theorem dX7_keyOf_25 : decode cX7_keyOf 25 = .ok (.iaload, 1) := by decide +kernel
theorem dX7_keyOf_26 : decode cX7_keyOf 26 = .ok (.invokevirtual 73, 3) := by decide +kernel
theorem dX7_keyOf_29 : decode cX7_keyOf 29 = .ok (.ireturn, 1) := by decide +kernel
theorem dX8_init_0 : decode cX8_init 0 = .ok (.aload_n 0, 1) := by decide +kernel
theorem dX8_init_1 : decode cX8_init 1 = .ok (.invokespecial 3, 3) := by decide +kernel
theorem dX8_init_4 : decode cX8_init 4 = .ok (.aload_n 0, 1) := by decide +kernel
theorem dX8_init_5 : decode cX8_init 5 = .ok (.bipush 12, 2) := by decide +kernel
theorem dX8_init_7 : decode cX8_init 7 = .ok (.anewarray 9, 3) := by decide +kernel
theorem dX8_init_10 : decode cX8_init 10 = .ok (.putfield 11, 3) := by decide +kernel
theorem dX8_init_13 : decode cX8_init 13 = .ok (.aload_n 0, 1) := by decide +kernel
theorem dX8_init_14 : decode cX8_init 14 = .ok (.iconst 0, 1) := by decide +kernel
theorem dX8_init_15 : decode cX8_init 15 = .ok (.putfield 15, 3) := by decide +kernel
theorem dX8_init_18 : decode cX8_init 18 = .ok (.aload_n 0, 1) := by decide +kernel
theorem dX8_init_19 : decode cX8_init 19 = .ok (.iconst 4, 1) := by decide +kernel
theorem dX8_init_20 : decode cX8_init 20 = .ok (.putfield 19, 3) := by decide +kernel
theorem dX8_init_23 : decode cX8_init 23 = .ok (.aload_n 0, 1) := by decide +kernel
theorem dX8_init_24 : decode cX8_init 24 = .ok (.iconst 4, 1) := by decide +kernel
theorem dX8_init_25 : decode cX8_init 25 = .ok (.putfield 22, 3) := by decide +kernel
theorem dX8_init_28 : decode cX8_init 28 = .ok (.aload_n 0, 1) := by decide +kernel
theorem dX8_init_29 : decode cX8_init 29 = .ok (.iconst 0, 1) := by decide +kernel
theorem dX8_init_30 : decode cX8_init 30 = .ok (.putfield 25, 3) := by decide +kernel
theorem dX8_init_33 : decode cX8_init 33 = .ok (.aload_n 0, 1) := by decide +kernel
theorem dX8_init_34 : decode cX8_init 34 = .ok (.iconst 0, 1) := by decide +kernel
theorem dX8_init_35 : decode cX8_init 35 = .ok (.putfield 28, 3) := by decide +kernel
theorem dX8_init_38 : decode cX8_init 38 = .ok (.aload_n 0, 1) := by decide +kernel
theorem dX8_init_39 : decode cX8_init 39 = .ok (.iconst 0, 1) := by decide +kernel
theorem dX8_init_40 : decode cX8_init 40 = .ok (.putfield 31, 3) := by decide +kernel
theorem dX8_init_43 : decode cX8_init 43 = .ok (.aload_n 0, 1) := by decide +kernel
theorem dX8_init_44 : decode cX8_init 44 = .ok (.new 34, 3) := by decide +kernel
theorem dX8_init_47 : decode cX8_init 47 = .ok (.dup, 1) := by decide +kernel
theorem dX8_init_48 : decode cX8_init 48 = .ok (.invokespecial 36, 3) := by decide +kernel
theorem dX8_init_51 : decode cX8_init 51 = .ok (.putfield 37, 3) := by decide +kernel
theorem dX8_init_54 : decode cX8_init 54 = .ok (.aload_n 0, 1) := by decide +kernel
theorem dX8_init_55 : decode cX8_init 55 = .ok (.new 34, 3) := by decide +kernel
theorem dX8_init_58 : decode cX8_init 58 = .ok (.dup, 1) := by decide +kernel
theorem dX8_init_59 : decode cX8_init 59 = .ok (.invokespecial 36, 3) := by decide +kernel
theorem dX8_init_62 : decode cX8_init 62 = .ok (.putfield 41, 3) := by decide +kernel
theorem dX8_init_65 : decode cX8_init 65 = .ok (.aload_n 0, 1) := by decide +kernel
theorem dX8_init_66 : decode cX8_init 66 = .ok (.new 44, 3) := by decide +kernel
theorem dX8_init_69 : decode cX8_init 69 = .ok (.dup, 1) := by decide +kernel
theorem dX8_init_70 : decode cX8_init 70 = .ok (.invokespecial 46, 3) := by decide +kernel
theorem dX8_init_73 : decode cX8_init 73 = .ok (.putfield 47, 3) := by decide +kernel
theorem dX8_init_76 : decode cX8_init 76 = .ok (.aload_n 0, 1) := by decide +kernel
theorem dX8_init_77 : decode cX8_init 77 = .ok (.new 51, 3) := by decide +kernel
theorem dX8_init_80 : decode cX8_init 80 = .ok (.dup, 1) := by decide +kernel
theorem dX8_init_81 : decode cX8_init 81 = .ok (.invokespecial 53, 3) := by decide +kernel
theorem dX8_init_84 : decode cX8_init 84 = .ok (.putfield 54, 3) := by decide +kernel
theorem dX8_init_87 : decode cX8_init 87 = .ok (.aload_n 0, 1) := by decide +kernel
theorem dX8_init_88 : decode cX8_init 88 = .ok (.new 58, 3) := by decide +kernel
theorem dX8_init_91 : decode cX8_init 91 = .ok (.dup, 1) := by decide +kernel
theorem dX8_init_92 : decode cX8_init 92 = .ok (.invokespecial 60, 3) := by decide +kernel
theorem dX8_init_95 : decode cX8_init 95 = .ok (.putfield 61, 3) := by decide +kernel
theorem dX8_init_98 : decode cX8_init 98 = .ok (.aload_n 0, 1) := by decide +kernel
theorem dX8_init_99 : decode cX8_init 99 = .ok (.new 65, 3) := by decide +kernel
theorem dX8_init_102 : decode cX8_init 102 = .ok (.dup, 1) := by decide +kernel
theorem dX8_init_103 : decode cX8_init 103 = .ok (.invokespecial 67, 3) := by decide +kernel
theorem dX8_init_106 : decode cX8_init 106 = .ok (.putfield 68, 3) := by decide +kernel
theorem dX8_init_109 : decode cX8_init 109 = .ok (.aload_n 0, 1) := by decide +kernel
theorem dX8_init_110 : decode cX8_init 110 = .ok (.new 72, 3) := by decide +kernel
theorem dX8_init_113 : decode cX8_init 113 = .ok (.dup, 1) := by decide +kernel
theorem dX8_init_114 : decode cX8_init 114 = .ok (.invokespecial 74, 3) := by decide +kernel
theorem dX8_init_117 : decode cX8_init 117 = .ok (.putfield 75, 3) := by decide +kernel
theorem dX8_init_120 : decode cX8_init 120 = .ok (.iconst 0, 1) := by decide +kernel
theorem dX8_init_121 : decode cX8_init 121 = .ok (.istore_n 1, 1) := by decide +kernel
theorem dX8_init_122 : decode cX8_init 122 = .ok (.iload_n 1, 1) := by decide +kernel
theorem dX8_init_123 : decode cX8_init 123 = .ok (.bipush 12, 2) := by decide +kernel
theorem dX8_init_125 : decode cX8_init 125 = .ok (.if_icmp .ge 22, 3) := by decide +kernel
theorem dX8_init_128 : decode cX8_init 128 = .ok (.aload_n 0, 1) := by decide +kernel
theorem dX8_init_129 : decode cX8_init 129 = .ok (.getfield 11, 3) := by decide +kernel
theorem dX8_init_132 : decode cX8_init 132 = .ok (.iload_n 1, 1) := by decide +kernel
theorem dX8_init_133 : decode cX8_init 133 = .ok (.new 9, 3) := by decide +kernel
theorem dX8_init_136 : decode cX8_init 136 = .ok (.dup, 1) := by decide +kernel
theorem dX8_init_137 : decode cX8_init 137 = .ok (.invokespecial 79, 3) := by decide +kernel
theorem dX8_init_140 : decode cX8_init 140 = .ok (.aastore, 1) := by decide +kernel
theorem dX8_init_141 : decode cX8_init 141 = .ok (.iinc 1 1, 3) := by decide +kernel
theorem dX8_init_144 : decode cX8_init 144 = .ok (.goto (-22), 3) := by decide +kernel
theorem dX8_init_147 : decode cX8_init 147 = .ok (.return_, 1) := by decide +kernel
theorem dX8_setMemory_0 : decode cX8_setMemory 0 = .ok (.iload_n 1, 1) := by decide +kernel
theorem dX8_setMemory_1 : decode cX8_setMemory 1 = .ok (.iconst 2, 1) := by decide +kernel
theorem dX8_setMemory_2 : decode cX8_setMemory 2 = .ok (.if_icmp .lt 9, 3) := by decide +kernel
theorem dX8_setMemory_5 : decode cX8_setMemory 5 = .ok (.iload_n 1, 1) := by decide +kernel
theorem dX8_setMemory_6 : decode cX8_setMemory 6 = .ok (.bipush 10, 2) := by decide +kernel
theorem dX8_setMemory_8 : decode cX8_setMemory 8 = .ok (.if_icmp .le 13, 3) := by decide +kernel
theorem dX8_setMemory_11 : decode cX8_setMemory 11 = .ok (.new 80, 3) := by decide +kernel
theorem dX8_setMemory_14 : decode cX8_setMemory 14 = .ok (.dup, 1) := by decide +kernel
theorem dX8_setMemory_15 : decode cX8_setMemory 15 = .ok (.ldc 82, 2) := by decide +kernel
theorem dX8_setMemory_17 : decode cX8_setMemory 17 = .ok (.invokespecial 84, 3) := by decide +kernel
theorem dX8_setMemory_20 : decode cX8_setMemory 20 = .ok (.athrow, 1) := by decide +kernel
theorem dX8_setMemory_21 : decode cX8_setMemory 21 = .ok (.iload_n 2, 1) := by decide +kernel
theorem dX8_setMemory_22 : decode cX8_setMemory 22 = .ok (.invokestatic 87, 3) := by decide +kernel
theorem dX8_setMemory_25 : decode cX8_setMemory 25 = .ok (.aload_n 0, 1) := by decide +kernel
theorem dX8_setMemory_26 : decode cX8_setMemory 26 = .ok (.getfield 22, 3) := by decide +kernel
theorem dX8_setMemory_29 : decode cX8_setMemory 29 = .ok (.istore_n 3, 1) := by decide +kernel
theorem dX8_setMemory_30 : decode cX8_setMemory 30 = .ok (.aload_n 0, 1) := by decide +kernel
theorem dX8_setMemory_31 : decode cX8_setMemory 31 = .ok (.iload_n 1, 1) := by decide +kernel
theorem dX8_setMemory_32 : decode cX8_setMemory 32 = .ok (.putfield 19, 3) := by decide +kernel
theorem dX8_setMemory_35 : decode cX8_setMemory 35 = .ok (.aload_n 0, 1) := by decide +kernel
theorem dX8_setMemory_36 : decode cX8_setMemory 36 = .ok (.iload_n 2, 1) := by decide +kernel
theorem dX8_setMemory_37 : decode cX8_setMemory 37 = .ok (.putfield 22, 3) := by decide +kernel
theorem dX8_setMemory_40 : decode cX8_setMemory 40 = .ok (.iload_n 3, 1) := by decide +kernel
theorem dX8_setMemory_41 : decode cX8_setMemory 41 = .ok (.ireturn, 1) := by decide +kernel
theorem dX8_addFile_0 : decode cX8_addFile 0 = .ok (.aload_n 0, 1) := by decide +kernel
theorem dX8_addFile_1 : decode cX8_addFile 1 = .ok (.invokevirtual 91, 3) := by decide +kernel
theorem dX8_addFile_4 : decode cX8_addFile 4 = .ok (.aload_n 0, 1) := by decide +kernel
theorem dX8_addFile_5 : decode cX8_addFile 5 = .ok (.getfield 15, 3) := by decide +kernel
theorem dX8_addFile_8 : decode cX8_addFile 8 = .ok (.istore_n 1, 1) := by decide +kernel
theorem dX8_addFile_9 : decode cX8_addFile 9 = .ok (.aload_n 0, 1) := by decide +kernel
theorem dX8_addFile_10 : decode cX8_addFile 10 = .ok (.getfield 11, 3) := by decide +kernel
theorem dX8_addFile_13 : decode cX8_addFile 13 = .ok (.iload_n 1, 1) := by decide +kernel
theorem dX8_addFile_14 : decode cX8_addFile 14 = .ok (.aaload, 1) := by decide +kernel
theorem dX8_addFile_15 : decode cX8_addFile 15 = .ok (.invokevirtual 94, 3) := by decide +kernel
theorem dX8_addFile_18 : decode cX8_addFile 18 = .ok (.aload_n 0, 1) := by decide +kernel
theorem dX8_addFile_19 : decode cX8_addFile 19 = .ok (.dup, 1) := by decide +kernel
theorem dX8_addFile_20 : decode cX8_addFile 20 = .ok (.getfield 15, 3) := by decide +kernel
theorem dX8_addFile_23 : decode cX8_addFile 23 = .ok (.iconst 1, 1) := by decide +kernel
theorem dX8_addFile_24 : decode cX8_addFile 24 = .ok (.iadd, 1) := by decide +kernel
theorem dX8_addFile_25 : decode cX8_addFile 25 = .ok (.putfield 15, 3) := by decide +kernel
theorem dX8_addFile_28 : decode cX8_addFile 28 = .ok (.iload_n 1, 1) := by decide +kernel
theorem dX8_addFile_29 : decode cX8_addFile 29 = .ok (.ireturn, 1) := by decide +kernel
theorem dX8_put_0 : decode cX8_put 0 = .ok (.aload_n 0, 1) := by decide +kernel
theorem dX8_put_1 : decode cX8_put 1 = .ok (.iload_n 1, 1) := by decide +kernel
theorem dX8_put_2 : decode cX8_put 2 = .ok (.invokevirtual 97, 3) := by decide +kernel
theorem dX8_put_5 : decode cX8_put 5 = .ok (.astore 4, 2) := by decide +kernel
theorem dX8_put_7 : decode cX8_put 7 = .ok (.iload_n 2, 1) := by decide +kernel
theorem dX8_put_8 : decode cX8_put 8 = .ok (.sipush (-999), 3) := by decide +kernel
theorem dX8_put_11 : decode cX8_put 11 = .ok (.if_icmp .lt 10, 3) := by decide +kernel
theorem dX8_put_14 : decode cX8_put 14 = .ok (.iload_n 2, 1) := by decide +kernel
theorem dX8_put_15 : decode cX8_put 15 = .ok (.sipush 999, 3) := by decide +kernel
theorem dX8_put_18 : decode cX8_put 18 = .ok (.if_icmp .le 13, 3) := by decide +kernel
theorem dX8_put_21 : decode cX8_put 21 = .ok (.new 80, 3) := by decide +kernel
theorem dX8_put_24 : decode cX8_put 24 = .ok (.dup, 1) := by decide +kernel
theorem dX8_put_25 : decode cX8_put 25 = .ok (.ldc 101, 2) := by decide +kernel
theorem dX8_put_27 : decode cX8_put 27 = .ok (.invokespecial 84, 3) := by decide +kernel
theorem dX8_put_30 : decode cX8_put 30 = .ok (.athrow, 1) := by decide +kernel
theorem dX8_put_31 : decode cX8_put 31 = .ok (.iload_n 3, 1) := by decide +kernel
theorem dX8_put_32 : decode cX8_put 32 = .ok (.ifCond .lt 10, 3) := by decide +kernel
theorem dX8_put_35 : decode cX8_put 35 = .ok (.iload_n 3, 1) := by decide +kernel
theorem dX8_put_36 : decode cX8_put 36 = .ok (.sipush 10000, 3) := by decide +kernel
theorem dX8_put_39 : decode cX8_put 39 = .ok (.if_icmp .lt 13, 3) := by decide +kernel
theorem dX8_put_42 : decode cX8_put 42 = .ok (.new 80, 3) := by decide +kernel
theorem dX8_put_45 : decode cX8_put 45 = .ok (.dup, 1) := by decide +kernel
