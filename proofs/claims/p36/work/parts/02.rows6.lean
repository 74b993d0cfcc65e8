-- decode rows, part 6
theorem dX8_needUp_0 : decode cX8_needUp 0 = .ok (.aload_n 0, 1) := by decide +kernel
theorem dX8_needUp_1 : decode cX8_needUp 1 = .ok (.invokevirtual 265, 3) := by decide +kernel
theorem dX8_needUp_4 : decode cX8_needUp 4 = .ok (.ifCond .ne 14, 3) := by decide +kernel
theorem dX8_needUp_7 : decode cX8_needUp 7 = .ok (.new 134, 3) := by decide +kernel
theorem dX8_needUp_10 : decode cX8_needUp 10 = .ok (.dup, 1) := by decide +kernel
theorem dX8_needUp_11 : decode cX8_needUp 11 = .ok (.ldc_w 319, 3) := by decide +kernel
theorem dX8_needUp_14 : decode cX8_needUp 14 = .ok (.invokespecial 138, 3) := by decide +kernel
theorem dX8_needUp_17 : decode cX8_needUp 17 = .ok (.athrow, 1) := by decide +kernel
theorem dX8_needUp_18 : decode cX8_needUp 18 = .ok (.return_, 1) := by decide +kernel
theorem dX8_needTournament_0 : decode cX8_needTournament 0 = .ok (.aload_n 0, 1) := by decide +kernel
theorem dX8_needTournament_1 : decode cX8_needTournament 1 = .ok (.getfield 54, 3) := by decide +kernel
theorem dX8_needTournament_4 : decode cX8_needTournament 4 = .ok (.getfield 244, 3) := by decide +kernel
theorem dX8_needTournament_7 : decode cX8_needTournament 7 = .ok (.ifCond .ne 14, 3) := by decide +kernel
theorem dX8_needTournament_10 : decode cX8_needTournament 10 = .ok (.new 134, 3) := by decide +kernel
theorem dX8_needTournament_13 : decode cX8_needTournament 13 = .ok (.dup, 1) := by decide +kernel
theorem dX8_needTournament_14 : decode cX8_needTournament 14 = .ok (.ldc_w 321, 3) := by decide +kernel
theorem dX8_needTournament_17 : decode cX8_needTournament 17 = .ok (.invokespecial 138, 3) := by decide +kernel
theorem dX8_needTournament_20 : decode cX8_needTournament 20 = .ok (.athrow, 1) := by decide +kernel
theorem dX8_needTournament_21 : decode cX8_needTournament 21 = .ok (.return_, 1) := by decide +kernel
theorem dX8_needFit_0 : decode cX8_needFit 0 = .ok (.aload_n 0, 1) := by decide +kernel
theorem dX8_needFit_1 : decode cX8_needFit 1 = .ok (.getfield 61, 3) := by decide +kernel
theorem dX8_needFit_4 : decode cX8_needFit 4 = .ok (.getfield 277, 3) := by decide +kernel
theorem dX8_needFit_7 : decode cX8_needFit 7 = .ok (.bipush 120, 2) := by decide +kernel
theorem dX8_needFit_9 : decode cX8_needFit 9 = .ok (.if_icmp .le 14, 3) := by decide +kernel
theorem dX8_needFit_12 : decode cX8_needFit 12 = .ok (.new 134, 3) := by decide +kernel
theorem dX8_needFit_15 : decode cX8_needFit 15 = .ok (.dup, 1) := by decide +kernel
theorem dX8_needFit_16 : decode cX8_needFit 16 = .ok (.ldc_w 323, 3) := by decide +kernel
theorem dX8_needFit_19 : decode cX8_needFit 19 = .ok (.invokespecial 138, 3) := by decide +kernel
theorem dX8_needFit_22 : decode cX8_needFit 22 = .ok (.athrow, 1) := by decide +kernel
theorem dX8_needFit_23 : decode cX8_needFit 23 = .ok (.return_, 1) := by decide +kernel
theorem dX8_pagesFor_0 : decode cX8_pagesFor 0 = .ok (.iload_n 1, 1) := by decide +kernel
theorem dX8_pagesFor_1 : decode cX8_pagesFor 1 = .ok (.iconst 1, 1) := by decide +kernel
theorem dX8_pagesFor_2 : decode cX8_pagesFor 2 = .ok (.if_icmp .ge 7, 3) := by decide +kernel
theorem dX8_pagesFor_5 : decode cX8_pagesFor 5 = .ok (.iconst 0, 1) := by decide +kernel
theorem dX8_pagesFor_6 : decode cX8_pagesFor 6 = .ok (.goto 10, 3) := by decide +kernel
theorem dX8_pagesFor_9 : decode cX8_pagesFor 9 = .ok (.iload_n 0, 1) := by decide +kernel
theorem dX8_pagesFor_10 : decode cX8_pagesFor 10 = .ok (.iload_n 1, 1) := by decide +kernel
theorem dX8_pagesFor_11 : decode cX8_pagesFor 11 = .ok (.iadd, 1) := by decide +kernel
theorem dX8_pagesFor_12 : decode cX8_pagesFor 12 = .ok (.iconst 1, 1) := by decide +kernel
theorem dX8_pagesFor_13 : decode cX8_pagesFor 13 = .ok (.isub, 1) := by decide +kernel
theorem dX8_pagesFor_14 : decode cX8_pagesFor 14 = .ok (.iload_n 1, 1) := by decide +kernel
theorem dX8_pagesFor_15 : decode cX8_pagesFor 15 = .ok (.idiv, 1) := by decide +kernel
theorem dX8_pagesFor_16 : decode cX8_pagesFor 16 = .ok (.ireturn, 1) := by decide +kernel
theorem dX8_orderOf_0 : decode cX8_orderOf 0 = .ok (.aload_n 0, 1) := by decide +kernel
theorem dX8_orderOf_1 : decode cX8_orderOf 1 = .ok (.invokevirtual 265, 3) := by decide +kernel
theorem dX8_orderOf_4 : decode cX8_orderOf 4 = .ok (.ifCond .eq 7, 3) := by decide +kernel
theorem dX8_orderOf_7 : decode cX8_orderOf 7 = .ok (.iconst 1, 1) := by decide +kernel
theorem dX8_orderOf_8 : decode cX8_orderOf 8 = .ok (.goto 4, 3) := by decide +kernel
theorem dX8_orderOf_11 : decode cX8_orderOf 11 = .ok (.iconst 0, 1) := by decide +kernel
theorem dX8_orderOf_12 : decode cX8_orderOf 12 = .ok (.aload_n 0, 1) := by decide +kernel
theorem dX8_orderOf_13 : decode cX8_orderOf 13 = .ok (.invokevirtual 269, 3) := by decide +kernel
theorem dX8_orderOf_16 : decode cX8_orderOf 16 = .ok (.ifCond .eq 7, 3) := by decide +kernel
theorem dX8_orderOf_19 : decode cX8_orderOf 19 = .ok (.iconst 2, 1) := by decide +kernel
theorem dX8_orderOf_20 : decode cX8_orderOf 20 = .ok (.goto 4, 3) := by decide +kernel
theorem dX8_orderOf_23 : decode cX8_orderOf 23 = .ok (.iconst 0, 1) := by decide +kernel
theorem dX8_orderOf_24 : decode cX8_orderOf 24 = .ok (.iadd, 1) := by decide +kernel
theorem dX8_orderOf_25 : decode cX8_orderOf 25 = .ok (.ireturn, 1) := by decide +kernel
theorem dX8_keysIn_0 : decode cX8_keysIn 0 = .ok (.aload_n 0, 1) := by decide +kernel
theorem dX8_keysIn_1 : decode cX8_keysIn 1 = .ok (.getfield 75, 3) := by decide +kernel
theorem dX8_keysIn_4 : decode cX8_keysIn 4 = .ok (.invokevirtual 286, 3) := by decide +kernel
theorem dX8_keysIn_7 : decode cX8_keysIn 7 = .ok (.iconst 0, 1) := by decide +kernel
theorem dX8_keysIn_8 : decode cX8_keysIn 8 = .ok (.istore_n 2, 1) := by decide +kernel
theorem dX8_keysIn_9 : decode cX8_keysIn 9 = .ok (.iconst 0, 1) := by decide +kernel
theorem dX8_keysIn_10 : decode cX8_keysIn 10 = .ok (.istore_n 3, 1) := by decide +kernel
theorem dX8_keysIn_11 : decode cX8_keysIn 11 = .ok (.iload_n 3, 1) := by decide +kernel
theorem dX8_keysIn_12 : decode cX8_keysIn 12 = .ok (.aload_n 1, 1) := by decide +kernel
theorem dX8_keysIn_13 : decode cX8_keysIn 13 = .ok (.invokevirtual 116, 3) := by decide +kernel
theorem dX8_keysIn_16 : decode cX8_keysIn 16 = .ok (.if_icmp .ge 27, 3) := by decide +kernel
theorem dX8_keysIn_19 : decode cX8_keysIn 19 = .ok (.aload_n 0, 1) := by decide +kernel
theorem dX8_keysIn_20 : decode cX8_keysIn 20 = .ok (.getfield 75, 3) := by decide +kernel
theorem dX8_keysIn_23 : decode cX8_keysIn 23 = .ok (.aload_n 1, 1) := by decide +kernel
theorem dX8_keysIn_24 : decode cX8_keysIn 24 = .ok (.iload_n 3, 1) := by decide +kernel
theorem dX8_keysIn_25 : decode cX8_keysIn 25 = .ok (.invokevirtual 152, 3) := by decide +kernel
theorem dX8_keysIn_28 : decode cX8_keysIn 28 = .ok (.invokevirtual 287, 3) := by decide +kernel
theorem dX8_keysIn_31 : decode cX8_keysIn 31 = .ok (.ifCond .eq 6, 3) := by decide +kernel
theorem dX8_keysIn_34 : decode cX8_keysIn 34 = .ok (.iinc 2 1, 3) := by decide +kernel
theorem dX8_keysIn_37 : decode cX8_keysIn 37 = .ok (.iinc 3 1, 3) := by decide +kernel
theorem dX8_keysIn_40 : decode cX8_keysIn 40 = .ok (.goto (-29), 3) := by decide +kernel
theorem dX8_keysIn_43 : decode cX8_keysIn 43 = .ok (.iload_n 2, 1) := by decide +kernel
theorem dX8_keysIn_44 : decode cX8_keysIn 44 = .ok (.ireturn, 1) := by decide +kernel
theorem dX8_costOf_0 : decode cX8_costOf 0 = .ok (.aload_n 0, 1) := by decide +kernel
theorem dX8_costOf_1 : decode cX8_costOf 1 = .ok (.getfield 41, 3) := by decide +kernel
theorem dX8_costOf_4 : decode cX8_costOf 4 = .ok (.aload_n 1, 1) := by decide +kernel
theorem dX8_costOf_5 : decode cX8_costOf 5 = .ok (.iload_n 2, 1) := by decide +kernel
theorem dX8_costOf_6 : decode cX8_costOf 6 = .ok (.iload_n 3, 1) := by decide +kernel
theorem dX8_costOf_7 : decode cX8_costOf 7 = .ok (.iconst 0, 1) := by decide +kernel
theorem dX8_costOf_8 : decode cX8_costOf 8 = .ok (.aload_n 0, 1) := by decide +kernel
theorem dX8_costOf_9 : decode cX8_costOf 9 = .ok (.getfield 19, 3) := by decide +kernel
theorem dX8_costOf_12 : decode cX8_costOf 12 = .ok (.iload 4, 2) := by decide +kernel
theorem dX8_costOf_14 : decode cX8_costOf 14 = .ok (.invokevirtual 165, 3) := by decide +kernel
theorem dX8_costOf_17 : decode cX8_costOf 17 = .ok (.aload_n 0, 1) := by decide +kernel
theorem dX8_costOf_18 : decode cX8_costOf 18 = .ok (.getfield 41, 3) := by decide +kernel
theorem dX8_costOf_21 : decode cX8_costOf 21 = .ok (.getfield 172, 3) := by decide +kernel
theorem dX8_costOf_24 : decode cX8_costOf 24 = .ok (.aload_n 0, 1) := by decide +kernel
theorem dX8_costOf_25 : decode cX8_costOf 25 = .ok (.getfield 41, 3) := by decide +kernel
theorem dX8_costOf_28 : decode cX8_costOf 28 = .ok (.getfield 174, 3) := by decide +kernel
theorem dX8_costOf_31 : decode cX8_costOf 31 = .ok (.iadd, 1) := by decide +kernel
theorem dX8_costOf_32 : decode cX8_costOf 32 = .ok (.ireturn, 1) := by decide +kernel
theorem dX8_weightOf_0 : decode cX8_weightOf 0 = .ok (.aload_n 0, 1) := by decide +kernel
theorem dX8_weightOf_1 : decode cX8_weightOf 1 = .ok (.iload_n 1, 1) := by decide +kernel
theorem dX8_weightOf_2 : decode cX8_weightOf 2 = .ok (.invokevirtual 152, 3) := by decide +kernel
theorem dX8_weightOf_5 : decode cX8_weightOf 5 = .ok (.istore_n 3, 1) := by decide +kernel
theorem dX8_weightOf_6 : decode cX8_weightOf 6 = .ok (.iload_n 2, 1) := by decide +kernel
theorem dX8_weightOf_7 : decode cX8_weightOf 7 = .ok (.ifCond .eq 8, 3) := by decide +kernel
theorem dX8_weightOf_10 : decode cX8_weightOf 10 = .ok (.iload_n 3, 1) := by decide +kernel
theorem dX8_weightOf_11 : decode cX8_weightOf 11 = .ok (.ineg, 1) := by decide +kernel
theorem dX8_weightOf_12 : decode cX8_weightOf 12 = .ok (.goto 4, 3) := by decide +kernel
theorem dX8_weightOf_15 : decode cX8_weightOf 15 = .ok (.iload_n 3, 1) := by decide +kernel
theorem dX8_weightOf_16 : decode cX8_weightOf 16 = .ok (.sipush 999, 3) := by decide +kernel
theorem dX8_weightOf_19 : decode cX8_weightOf 19 = .ok (.iadd, 1) := by decide +kernel
theorem dX8_weightOf_20 : decode cX8_weightOf 20 = .ok (.bipush 120, 2) := by decide +kernel
theorem dX8_weightOf_22 : decode cX8_weightOf 22 = .ok (.imul, 1) := by decide +kernel
theorem dX8_weightOf_23 : decode cX8_weightOf 23 = .ok (.iload_n 1, 1) := by decide +kernel
theorem dX8_weightOf_24 : decode cX8_weightOf 24 = .ok (.iadd, 1) := by decide +kernel
theorem dX8_weightOf_25 : decode cX8_weightOf 25 = .ok (.ireturn, 1) := by decide +kernel
theorem dX8_land_0 : decode cX8_land 0 = .ok (.aload_n 0, 1) := by decide +kernel
theorem dX8_land_1 : decode cX8_land 1 = .ok (.dup, 1) := by decide +kernel
theorem dX8_land_2 : decode cX8_land 2 = .ok (.getfield 25, 3) := by decide +kernel
theorem dX8_land_5 : decode cX8_land 5 = .ok (.aload_n 0, 1) := by decide +kernel
theorem dX8_land_6 : decode cX8_land 6 = .ok (.getfield 61, 3) := by decide +kernel
theorem dX8_land_9 : decode cX8_land 9 = .ok (.getfield 173, 3) := by decide +kernel
theorem dX8_land_12 : decode cX8_land 12 = .ok (.iadd, 1) := by decide +kernel
theorem dX8_land_13 : decode cX8_land 13 = .ok (.putfield 25, 3) := by decide +kernel
theorem dX8_land_16 : decode cX8_land 16 = .ok (.aload_n 0, 1) := by decide +kernel
theorem dX8_land_17 : decode cX8_land 17 = .ok (.dup, 1) := by decide +kernel
theorem dX8_land_18 : decode cX8_land 18 = .ok (.getfield 28, 3) := by decide +kernel
theorem dX8_land_21 : decode cX8_land 21 = .ok (.aload_n 0, 1) := by decide +kernel
theorem dX8_land_22 : decode cX8_land 22 = .ok (.getfield 61, 3) := by decide +kernel
theorem dX8_land_25 : decode cX8_land 25 = .ok (.getfield 175, 3) := by decide +kernel
theorem dX8_land_28 : decode cX8_land 28 = .ok (.iadd, 1) := by decide +kernel
theorem dX8_land_29 : decode cX8_land 29 = .ok (.putfield 28, 3) := by decide +kernel
theorem dX8_land_32 : decode cX8_land 32 = .ok (.aload_n 0, 1) := by decide +kernel
theorem dX8_land_33 : decode cX8_land 33 = .ok (.dup, 1) := by decide +kernel
theorem dX8_land_34 : decode cX8_land 34 = .ok (.getfield 31, 3) := by decide +kernel
theorem dX8_land_37 : decode cX8_land 37 = .ok (.aload_n 0, 1) := by decide +kernel
theorem dX8_land_38 : decode cX8_land 38 = .ok (.getfield 61, 3) := by decide +kernel
theorem dX8_land_41 : decode cX8_land 41 = .ok (.getfield 325, 3) := by decide +kernel
theorem dX8_land_44 : decode cX8_land 44 = .ok (.iadd, 1) := by decide +kernel
theorem dX8_land_45 : decode cX8_land 45 = .ok (.putfield 31, 3) := by decide +kernel
theorem dX8_land_48 : decode cX8_land 48 = .ok (.aload_n 0, 1) := by decide +kernel
theorem dX8_land_49 : decode cX8_land 49 = .ok (.invokevirtual 326, 3) := by decide +kernel
theorem dX8_land_52 : decode cX8_land 52 = .ok (.istore_n 1, 1) := by decide +kernel
theorem dX8_land_53 : decode cX8_land 53 = .ok (.aload_n 0, 1) := by decide +kernel
theorem dX8_land_54 : decode cX8_land 54 = .ok (.getfield 11, 3) := by decide +kernel
theorem dX8_land_57 : decode cX8_land 57 = .ok (.iload_n 1, 1) := by decide +kernel
theorem dX8_land_58 : decode cX8_land 58 = .ok (.aaload, 1) := by decide +kernel
theorem dX8_land_59 : decode cX8_land 59 = .ok (.aload_n 0, 1) := by decide +kernel
theorem dX8_land_60 : decode cX8_land 60 = .ok (.getfield 61, 3) := by decide +kernel
theorem dX8_land_63 : decode cX8_land 63 = .ok (.getfield 329, 3) := by decide +kernel
theorem dX8_land_66 : decode cX8_land 66 = .ok (.invokevirtual 333, 3) := by decide +kernel
theorem dX8_land_69 : decode cX8_land 69 = .ok (.iload_n 1, 1) := by decide +kernel
theorem dX8_land_70 : decode cX8_land 70 = .ok (.ireturn, 1) := by decide +kernel
theorem dX8_giveSorted_0 : decode cX8_giveSorted 0 = .ok (.aload_n 0, 1) := by decide +kernel
theorem dX8_giveSorted_1 : decode cX8_giveSorted 1 = .ok (.getfield 47, 3) := by decide +kernel
theorem dX8_giveSorted_4 : decode cX8_giveSorted 4 = .ok (.invokevirtual 336, 3) := by decide +kernel
theorem dX8_giveSorted_7 : decode cX8_giveSorted 7 = .ok (.iconst 0, 1) := by decide +kernel
theorem dX8_giveSorted_8 : decode cX8_giveSorted 8 = .ok (.istore_n 3, 1) := by decide +kernel
theorem dX8_giveSorted_9 : decode cX8_giveSorted 9 = .ok (.iload_n 3, 1) := by decide +kernel
theorem dX8_giveSorted_10 : decode cX8_giveSorted 10 = .ok (.aload_n 1, 1) := by decide +kernel
theorem dX8_giveSorted_11 : decode cX8_giveSorted 11 = .ok (.invokevirtual 116, 3) := by decide +kernel
theorem dX8_giveSorted_14 : decode cX8_giveSorted 14 = .ok (.if_icmp .ge 22, 3) := by decide +kernel
theorem dX8_giveSorted_17 : decode cX8_giveSorted 17 = .ok (.aload_n 0, 1) := by decide +kernel
theorem dX8_giveSorted_18 : decode cX8_giveSorted 18 = .ok (.getfield 47, 3) := by decide +kernel
theorem dX8_giveSorted_21 : decode cX8_giveSorted 21 = .ok (.aload_n 1, 1) := by decide +kernel
theorem dX8_giveSorted_22 : decode cX8_giveSorted 22 = .ok (.iload_n 3, 1) := by decide +kernel
theorem dX8_giveSorted_23 : decode cX8_giveSorted 23 = .ok (.iload_n 2, 1) := by decide +kernel
theorem dX8_giveSorted_24 : decode cX8_giveSorted 24 = .ok (.invokestatic 337, 3) := by decide +kernel
theorem dX8_giveSorted_27 : decode cX8_giveSorted 27 = .ok (.invokevirtual 341, 3) := by decide +kernel
theorem dX8_giveSorted_30 : decode cX8_giveSorted 30 = .ok (.iinc 3 1, 3) := by decide +kernel
theorem dX8_giveSorted_33 : decode cX8_giveSorted 33 = .ok (.goto (-24), 3) := by decide +kernel
theorem dX8_giveSorted_36 : decode cX8_giveSorted 36 = .ok (.iconst 0, 1) := by decide +kernel
theorem dX8_giveSorted_37 : decode cX8_giveSorted 37 = .ok (.istore_n 3, 1) := by decide +kernel
theorem dX8_giveSorted_38 : decode cX8_giveSorted 38 = .ok (.iload_n 3, 1) := by decide +kernel
theorem dX8_giveSorted_39 : decode cX8_giveSorted 39 = .ok (.aload_n 1, 1) := by decide +kernel
theorem dX8_giveSorted_40 : decode cX8_giveSorted 40 = .ok (.invokevirtual 116, 3) := by decide +kernel
theorem dX8_giveSorted_43 : decode cX8_giveSorted 43 = .ok (.if_icmp .ge 40, 3) := by decide +kernel
theorem dX8_giveSorted_46 : decode cX8_giveSorted 46 = .ok (.aload_n 0, 1) := by decide +kernel
theorem dX8_giveSorted_47 : decode cX8_giveSorted 47 = .ok (.getfield 47, 3) := by decide +kernel
theorem dX8_giveSorted_50 : decode cX8_giveSorted 50 = .ok (.invokevirtual 344, 3) := by decide +kernel
theorem dX8_giveSorted_53 : decode cX8_giveSorted 53 = .ok (.bipush 120, 2) := by decide +kernel
theorem dX8_giveSorted_55 : decode cX8_giveSorted 55 = .ok (.irem, 1) := by decide +kernel
theorem dX8_giveSorted_56 : decode cX8_giveSorted 56 = .ok (.istore 4, 2) := by decide +kernel
theorem dX8_giveSorted_58 : decode cX8_giveSorted 58 = .ok (.aload_n 0, 1) := by decide +kernel
theorem dX8_giveSorted_59 : decode cX8_giveSorted 59 = .ok (.getfield 61, 3) := by decide +kernel
theorem dX8_giveSorted_62 : decode cX8_giveSorted 62 = .ok (.aload_n 1, 1) := by decide +kernel
theorem dX8_giveSorted_63 : decode cX8_giveSorted 63 = .ok (.iload 4, 2) := by decide +kernel
theorem dX8_giveSorted_65 : decode cX8_giveSorted 65 = .ok (.invokevirtual 152, 3) := by decide +kernel
theorem dX8_giveSorted_68 : decode cX8_giveSorted 68 = .ok (.aload_n 1, 1) := by decide +kernel
theorem dX8_giveSorted_69 : decode cX8_giveSorted 69 = .ok (.iload 4, 2) := by decide +kernel
theorem dX8_giveSorted_71 : decode cX8_giveSorted 71 = .ok (.invokevirtual 148, 3) := by decide +kernel
theorem dX8_giveSorted_74 : decode cX8_giveSorted 74 = .ok (.invokevirtual 347, 3) := by decide +kernel
theorem dX8_giveSorted_77 : decode cX8_giveSorted 77 = .ok (.iinc 3 1, 3) := by decide +kernel
theorem dX8_giveSorted_80 : decode cX8_giveSorted 80 = .ok (.goto (-42), 3) := by decide +kernel
theorem dX8_giveSorted_83 : decode cX8_giveSorted 83 = .ok (.return_, 1) := by decide +kernel
theorem dX8_joinByMerging_0 : decode cX8_joinByMerging 0 = .ok (.aload_n 0, 1) := by decide +kernel
theorem dX8_joinByMerging_1 : decode cX8_joinByMerging 1 = .ok (.getfield 61, 3) := by decide +kernel
theorem dX8_joinByMerging_4 : decode cX8_joinByMerging 4 = .ok (.aload_n 1, 1) := by decide +kernel
theorem dX8_joinByMerging_5 : decode cX8_joinByMerging 5 = .ok (.invokevirtual 116, 3) := by decide +kernel
theorem dX8_joinByMerging_8 : decode cX8_joinByMerging 8 = .ok (.aload_n 0, 1) := by decide +kernel
theorem dX8_joinByMerging_9 : decode cX8_joinByMerging 9 = .ok (.getfield 19, 3) := by decide +kernel
theorem dX8_joinByMerging_12 : decode cX8_joinByMerging 12 = .ok (.invokestatic 155, 3) := by decide +kernel
theorem dX8_joinByMerging_15 : decode cX8_joinByMerging 15 = .ok (.aload_n 2, 1) := by decide +kernel
theorem dX8_joinByMerging_16 : decode cX8_joinByMerging 16 = .ok (.invokevirtual 116, 3) := by decide +kernel
theorem dX8_joinByMerging_19 : decode cX8_joinByMerging 19 = .ok (.aload_n 0, 1) := by decide +kernel
theorem dX8_joinByMerging_20 : decode cX8_joinByMerging 20 = .ok (.getfield 19, 3) := by decide +kernel
theorem dX8_joinByMerging_23 : decode cX8_joinByMerging 23 = .ok (.invokestatic 155, 3) := by decide +kernel
theorem dX8_joinByMerging_26 : decode cX8_joinByMerging 26 = .ok (.iadd, 1) := by decide +kernel
theorem dX8_joinByMerging_27 : decode cX8_joinByMerging 27 = .ok (.putfield 173, 3) := by decide +kernel
theorem dX8_joinByMerging_30 : decode cX8_joinByMerging 30 = .ok (.iconst 0, 1) := by decide +kernel
theorem dX8_joinByMerging_31 : decode cX8_joinByMerging 31 = .ok (.istore 4, 2) := by decide +kernel
theorem dX8_joinByMerging_33 : decode cX8_joinByMerging 33 = .ok (.iconst 0, 1) := by decide +kernel
theorem dX8_joinByMerging_34 : decode cX8_joinByMerging 34 = .ok (.istore 5, 2) := by decide +kernel
theorem dX8_joinByMerging_36 : decode cX8_joinByMerging 36 = .ok (.iconst 0, 1) := by decide +kernel
theorem dX8_joinByMerging_37 : decode cX8_joinByMerging 37 = .ok (.istore 6, 2) := by decide +kernel
theorem dX8_joinByMerging_39 : decode cX8_joinByMerging 39 = .ok (.iconst 0, 1) := by decide +kernel
theorem dX8_joinByMerging_40 : decode cX8_joinByMerging 40 = .ok (.istore 7, 2) := by decide +kernel
theorem dX8_joinByMerging_42 : decode cX8_joinByMerging 42 = .ok (.iload 7, 2) := by decide +kernel
theorem dX8_joinByMerging_44 : decode cX8_joinByMerging 44 = .ok (.aload_n 1, 1) := by decide +kernel
theorem dX8_joinByMerging_45 : decode cX8_joinByMerging 45 = .ok (.invokevirtual 116, 3) := by decide +kernel
theorem dX8_joinByMerging_48 : decode cX8_joinByMerging 48 = .ok (.if_icmp .ge 188, 3) := by decide +kernel
theorem dX8_joinByMerging_51 : decode cX8_joinByMerging 51 = .ok (.aload_n 1, 1) := by decide +kernel
theorem dX8_joinByMerging_52 : decode cX8_joinByMerging 52 = .ok (.iload 7, 2) := by decide +kernel
theorem dX8_joinByMerging_54 : decode cX8_joinByMerging 54 = .ok (.invokevirtual 152, 3) := by decide +kernel
theorem dX8_joinByMerging_57 : decode cX8_joinByMerging 57 = .ok (.istore 8, 2) := by decide +kernel
theorem dX8_joinByMerging_59 : decode cX8_joinByMerging 59 = .ok (.iload 7, 2) := by decide +kernel
theorem dX8_joinByMerging_61 : decode cX8_joinByMerging 61 = .ok (.ifCond .eq 16, 3) := by decide +kernel
theorem dX8_joinByMerging_64 : decode cX8_joinByMerging 64 = .ok (.aload_n 1, 1) := by decide +kernel
theorem dX8_joinByMerging_65 : decode cX8_joinByMerging 65 = .ok (.iload 7, 2) := by decide +kernel
theorem dX8_joinByMerging_67 : decode cX8_joinByMerging 67 = .ok (.iconst 1, 1) := by decide +kernel
theorem dX8_joinByMerging_68 : decode cX8_joinByMerging 68 = .ok (.isub, 1) := by decide +kernel
theorem dX8_joinByMerging_69 : decode cX8_joinByMerging 69 = .ok (.invokevirtual 152, 3) := by decide +kernel
theorem dX8_joinByMerging_72 : decode cX8_joinByMerging 72 = .ok (.iload 8, 2) := by decide +kernel
theorem dX8_joinByMerging_74 : decode cX8_joinByMerging 74 = .ok (.if_icmp .eq 81, 3) := by decide +kernel
theorem dX8_joinByMerging_77 : decode cX8_joinByMerging 77 = .ok (.aload_n 2, 1) := by decide +kernel
theorem dX8_joinByMerging_78 : decode cX8_joinByMerging 78 = .ok (.iload 8, 2) := by decide +kernel
theorem dX8_joinByMerging_80 : decode cX8_joinByMerging 80 = .ok (.iload 5, 2) := by decide +kernel
theorem dX8_joinByMerging_82 : decode cX8_joinByMerging 82 = .ok (.invokevirtual 349, 3) := by decide +kernel
theorem dX8_joinByMerging_85 : decode cX8_joinByMerging 85 = .ok (.istore 4, 2) := by decide +kernel
theorem dX8_joinByMerging_87 : decode cX8_joinByMerging 87 = .ok (.aload_n 2, 1) := by decide +kernel
theorem dX8_joinByMerging_88 : decode cX8_joinByMerging 88 = .ok (.iload 8, 2) := by decide +kernel
theorem dX8_joinByMerging_90 : decode cX8_joinByMerging 90 = .ok (.iconst 1, 1) := by decide +kernel
theorem dX8_joinByMerging_91 : decode cX8_joinByMerging 91 = .ok (.iadd, 1) := by decide +kernel
theorem dX8_joinByMerging_92 : decode cX8_joinByMerging 92 = .ok (.iload 4, 2) := by decide +kernel
theorem dX8_joinByMerging_94 : decode cX8_joinByMerging 94 = .ok (.invokevirtual 349, 3) := by decide +kernel
theorem dX8_joinByMerging_97 : decode cX8_joinByMerging 97 = .ok (.istore 5, 2) := by decide +kernel
theorem dX8_joinByMerging_99 : decode cX8_joinByMerging 99 = .ok (.aload_n 1, 1) := by decide +kernel
theorem dX8_joinByMerging_100 : decode cX8_joinByMerging 100 = .ok (.iload 7, 2) := by decide +kernel
theorem dX8_joinByMerging_102 : decode cX8_joinByMerging 102 = .ok (.iconst 1, 1) := by decide +kernel
theorem dX8_joinByMerging_103 : decode cX8_joinByMerging 103 = .ok (.iadd, 1) := by decide +kernel
theorem dX8_joinByMerging_104 : decode cX8_joinByMerging 104 = .ok (.invokevirtual 139, 3) := by decide +kernel
theorem dX8_joinByMerging_107 : decode cX8_joinByMerging 107 = .ok (.ifCond .eq 20, 3) := by decide +kernel
theorem dX8_joinByMerging_110 : decode cX8_joinByMerging 110 = .ok (.aload_n 1, 1) := by decide +kernel
theorem dX8_joinByMerging_111 : decode cX8_joinByMerging 111 = .ok (.iload 7, 2) := by decide +kernel
theorem dX8_joinByMerging_113 : decode cX8_joinByMerging 113 = .ok (.iconst 1, 1) := by decide +kernel
theorem dX8_joinByMerging_114 : decode cX8_joinByMerging 114 = .ok (.iadd, 1) := by decide +kernel
theorem dX8_joinByMerging_115 : decode cX8_joinByMerging 115 = .ok (.invokevirtual 152, 3) := by decide +kernel
theorem dX8_joinByMerging_118 : decode cX8_joinByMerging 118 = .ok (.iload 8, 2) := by decide +kernel
theorem dX8_joinByMerging_120 : decode cX8_joinByMerging 120 = .ok (.if_icmp .ne 7, 3) := by decide +kernel
theorem dX8_joinByMerging_123 : decode cX8_joinByMerging 123 = .ok (.iconst 1, 1) := by decide +kernel
theorem dX8_joinByMerging_124 : decode cX8_joinByMerging 124 = .ok (.goto 4, 3) := by decide +kernel
theorem dX8_joinByMerging_127 : decode cX8_joinByMerging 127 = .ok (.iconst 0, 1) := by decide +kernel
theorem dX8_joinByMerging_128 : decode cX8_joinByMerging 128 = .ok (.istore 9, 2) := by decide +kernel
theorem dX8_joinByMerging_130 : decode cX8_joinByMerging 130 = .ok (.iload_n 3, 1) := by decide +kernel
theorem dX8_joinByMerging_131 : decode cX8_joinByMerging 131 = .ok (.iconst 1, 1) := by decide +kernel
theorem dX8_joinByMerging_132 : decode cX8_joinByMerging 132 = .ok (.if_icmp .gt 20, 3) := by decide +kernel
theorem dX8_joinByMerging_135 : decode cX8_joinByMerging 135 = .ok (.iload 9, 2) := by decide +kernel
theorem dX8_joinByMerging_137 : decode cX8_joinByMerging 137 = .ok (.ifCond .eq 15, 3) := by decide +kernel
theorem dX8_joinByMerging_140 : decode cX8_joinByMerging 140 = .ok (.aload_n 0, 1) := by decide +kernel
theorem dX8_joinByMerging_141 : decode cX8_joinByMerging 141 = .ok (.iload 5, 2) := by decide +kernel
theorem dX8_joinByMerging_143 : decode cX8_joinByMerging 143 = .ok (.iload 4, 2) := by decide +kernel
theorem dX8_joinByMerging_145 : decode cX8_joinByMerging 145 = .ok (.isub, 1) := by decide +kernel
theorem dX8_joinByMerging_146 : decode cX8_joinByMerging 146 = .ok (.invokevirtual 352, 3) := by decide +kernel
theorem dX8_joinByMerging_149 : decode cX8_joinByMerging 149 = .ok (.goto 4, 3) := by decide +kernel
theorem dX8_joinByMerging_152 : decode cX8_joinByMerging 152 = .ok (.iconst 0, 1) := by decide +kernel
theorem dX8_joinByMerging_153 : decode cX8_joinByMerging 153 = .ok (.istore 6, 2) := by decide +kernel
theorem dX8_joinByMerging_155 : decode cX8_joinByMerging 155 = .ok (.aload_n 0, 1) := by decide +kernel
theorem dX8_joinByMerging_156 : decode cX8_joinByMerging 156 = .ok (.getfield 61, 3) := by decide +kernel
theorem dX8_joinByMerging_159 : decode cX8_joinByMerging 159 = .ok (.dup, 1) := by decide +kernel
theorem dX8_joinByMerging_160 : decode cX8_joinByMerging 160 = .ok (.getfield 173, 3) := by decide +kernel
theorem dX8_joinByMerging_163 : decode cX8_joinByMerging 163 = .ok (.iload 6, 2) := by decide +kernel
theorem dX8_joinByMerging_165 : decode cX8_joinByMerging 165 = .ok (.iadd, 1) := by decide +kernel
theorem dX8_joinByMerging_166 : decode cX8_joinByMerging 166 = .ok (.putfield 173, 3) := by decide +kernel
theorem dX8_joinByMerging_169 : decode cX8_joinByMerging 169 = .ok (.iload_n 3, 1) := by decide +kernel
theorem dX8_joinByMerging_170 : decode cX8_joinByMerging 170 = .ok (.iconst 1, 1) := by decide +kernel
theorem dX8_joinByMerging_171 : decode cX8_joinByMerging 171 = .ok (.if_icmp .gt 15, 3) := by decide +kernel
theorem dX8_joinByMerging_174 : decode cX8_joinByMerging 174 = .ok (.aload_n 0, 1) := by decide +kernel
theorem dX8_joinByMerging_175 : decode cX8_joinByMerging 175 = .ok (.aload_n 1, 1) := by decide +kernel
theorem dX8_joinByMerging_176 : decode cX8_joinByMerging 176 = .ok (.iload 7, 2) := by decide +kernel
theorem dX8_joinByMerging_178 : decode cX8_joinByMerging 178 = .ok (.aload_n 2, 1) := by decide +kernel
theorem dX8_joinByMerging_179 : decode cX8_joinByMerging 179 = .ok (.iload 4, 2) := by decide +kernel
theorem dX8_joinByMerging_181 : decode cX8_joinByMerging 181 = .ok (.iload 5, 2) := by decide +kernel
theorem dX8_joinByMerging_183 : decode cX8_joinByMerging 183 = .ok (.invokevirtual 355, 3) := by decide +kernel
theorem dX8_joinByMerging_186 : decode cX8_joinByMerging 186 = .ok (.iload_n 3, 1) := by decide +kernel
theorem dX8_joinByMerging_187 : decode cX8_joinByMerging 187 = .ok (.ifCond .eq 43, 3) := by decide +kernel
theorem dX8_joinByMerging_190 : decode cX8_joinByMerging 190 = .ok (.iload_n 3, 1) := by decide +kernel
theorem dX8_joinByMerging_191 : decode cX8_joinByMerging 191 = .ok (.iconst 2, 1) := by decide +kernel
theorem dX8_joinByMerging_192 : decode cX8_joinByMerging 192 = .ok (.if_icmp .ne 7, 3) := by decide +kernel
theorem dX8_joinByMerging_195 : decode cX8_joinByMerging 195 = .ok (.iconst 1, 1) := by decide +kernel
theorem dX8_joinByMerging_196 : decode cX8_joinByMerging 196 = .ok (.goto 4, 3) := by decide +kernel
theorem dX8_joinByMerging_199 : decode cX8_joinByMerging 199 = .ok (.iconst 0, 1) := by decide +kernel
theorem dX8_joinByMerging_200 : decode cX8_joinByMerging 200 = .ok (.iload 5, 2) := by decide +kernel
theorem dX8_joinByMerging_202 : decode cX8_joinByMerging 202 = .ok (.iload 4, 2) := by decide +kernel
theorem dX8_joinByMerging_204 : decode cX8_joinByMerging 204 = .ok (.if_icmp .le 7, 3) := by decide +kernel
theorem dX8_joinByMerging_207 : decode cX8_joinByMerging 207 = .ok (.iconst 1, 1) := by decide +kernel
theorem dX8_joinByMerging_208 : decode cX8_joinByMerging 208 = .ok (.goto 4, 3) := by decide +kernel
theorem dX8_joinByMerging_211 : decode cX8_joinByMerging 211 = .ok (.iconst 0, 1) := by decide +kernel
theorem dX8_joinByMerging_212 : decode cX8_joinByMerging 212 = .ok (.if_icmp .ne 18, 3) := by decide +kernel
theorem dX8_joinByMerging_215 : decode cX8_joinByMerging 215 = .ok (.aload_n 0, 1) := by decide +kernel
theorem dX8_joinByMerging_216 : decode cX8_joinByMerging 216 = .ok (.getfield 61, 3) := by decide +kernel
theorem dX8_joinByMerging_219 : decode cX8_joinByMerging 219 = .ok (.iload 8, 2) := by decide +kernel
theorem dX8_joinByMerging_221 : decode cX8_joinByMerging 221 = .ok (.aload_n 1, 1) := by decide +kernel
theorem dX8_joinByMerging_222 : decode cX8_joinByMerging 222 = .ok (.iload 7, 2) := by decide +kernel
theorem dX8_joinByMerging_224 : decode cX8_joinByMerging 224 = .ok (.invokevirtual 148, 3) := by decide +kernel
theorem dX8_joinByMerging_227 : decode cX8_joinByMerging 227 = .ok (.invokevirtual 347, 3) := by decide +kernel
theorem dX8_joinByMerging_230 : decode cX8_joinByMerging 230 = .ok (.iinc 7 1, 3) := by decide +kernel
theorem dX8_joinByMerging_233 : decode cX8_joinByMerging 233 = .ok (.goto (-191), 3) := by decide +kernel
theorem dX8_joinByMerging_236 : decode cX8_joinByMerging 236 = .ok (.aload_n 0, 1) := by decide +kernel
theorem dX8_joinByMerging_237 : decode cX8_joinByMerging 237 = .ok (.getfield 61, 3) := by decide +kernel
theorem dX8_joinByMerging_240 : decode cX8_joinByMerging 240 = .ok (.dup, 1) := by decide +kernel
theorem dX8_joinByMerging_241 : decode cX8_joinByMerging 241 = .ok (.getfield 175, 3) := by decide +kernel
theorem dX8_joinByMerging_244 : decode cX8_joinByMerging 244 = .ok (.aload_n 0, 1) := by decide +kernel
theorem dX8_joinByMerging_245 : decode cX8_joinByMerging 245 = .ok (.getfield 61, 3) := by decide +kernel
theorem dX8_joinByMerging_248 : decode cX8_joinByMerging 248 = .ok (.getfield 277, 3) := by decide +kernel
theorem dX8_joinByMerging_251 : decode cX8_joinByMerging 251 = .ok (.aload_n 0, 1) := by decide +kernel
theorem dX8_joinByMerging_252 : decode cX8_joinByMerging 252 = .ok (.getfield 19, 3) := by decide +kernel
theorem dX8_joinByMerging_255 : decode cX8_joinByMerging 255 = .ok (.invokestatic 155, 3) := by decide +kernel
theorem dX8_joinByMerging_258 : decode cX8_joinByMerging 258 = .ok (.iadd, 1) := by decide +kernel
theorem dX8_joinByMerging_259 : decode cX8_joinByMerging 259 = .ok (.putfield 175, 3) := by decide +kernel
theorem dX8_joinByMerging_262 : decode cX8_joinByMerging 262 = .ok (.return_, 1) := by decide +kernel
theorem dX8_spill_0 : decode cX8_spill 0 = .ok (.iload_n 1, 1) := by decide +kernel
theorem dX8_spill_1 : decode cX8_spill 1 = .ok (.aload_n 0, 1) := by decide +kernel
theorem dX8_spill_2 : decode cX8_spill 2 = .ok (.getfield 22, 3) := by decide +kernel
theorem dX8_spill_5 : decode cX8_spill 5 = .ok (.iconst 2, 1) := by decide +kernel
theorem dX8_spill_6 : decode cX8_spill 6 = .ok (.isub, 1) := by decide +kernel
theorem dX8_spill_7 : decode cX8_spill 7 = .ok (.aload_n 0, 1) := by decide +kernel
theorem dX8_spill_8 : decode cX8_spill 8 = .ok (.getfield 19, 3) := by decide +kernel
theorem dX8_spill_11 : decode cX8_spill 11 = .ok (.imul, 1) := by decide +kernel
theorem dX8_spill_12 : decode cX8_spill 12 = .ok (.if_icmp .gt 5, 3) := by decide +kernel
theorem dX8_spill_15 : decode cX8_spill 15 = .ok (.iconst 0, 1) := by decide +kernel
theorem dX8_spill_16 : decode cX8_spill 16 = .ok (.ireturn, 1) := by decide +kernel
theorem dX8_spill_17 : decode cX8_spill 17 = .ok (.iload_n 1, 1) := by decide +kernel
theorem dX8_spill_18 : decode cX8_spill 18 = .ok (.aload_n 0, 1) := by decide +kernel
theorem dX8_spill_19 : decode cX8_spill 19 = .ok (.getfield 19, 3) := by decide +kernel
theorem dX8_spill_22 : decode cX8_spill 22 = .ok (.invokestatic 155, 3) := by decide +kernel
theorem dX8_spill_25 : decode cX8_spill 25 = .ok (.istore_n 2, 1) := by decide +kernel
theorem dX8_spill_26 : decode cX8_spill 26 = .ok (.aload_n 0, 1) := by decide +kernel
theorem dX8_spill_27 : decode cX8_spill 27 = .ok (.getfield 61, 3) := by decide +kernel
theorem dX8_spill_30 : decode cX8_spill 30 = .ok (.dup, 1) := by decide +kernel
theorem dX8_spill_31 : decode cX8_spill 31 = .ok (.getfield 325, 3) := by decide +kernel
theorem dX8_spill_34 : decode cX8_spill 34 = .ok (.iload_n 2, 1) := by decide +kernel
theorem dX8_spill_35 : decode cX8_spill 35 = .ok (.iadd, 1) := by decide +kernel
theorem dX8_spill_36 : decode cX8_spill 36 = .ok (.putfield 325, 3) := by decide +kernel
theorem dX8_spill_39 : decode cX8_spill 39 = .ok (.aload_n 0, 1) := by decide +kernel
theorem dX8_spill_40 : decode cX8_spill 40 = .ok (.getfield 61, 3) := by decide +kernel
theorem dX8_spill_43 : decode cX8_spill 43 = .ok (.dup, 1) := by decide +kernel
theorem dX8_spill_44 : decode cX8_spill 44 = .ok (.getfield 175, 3) := by decide +kernel
theorem dX8_spill_47 : decode cX8_spill 47 = .ok (.iload_n 2, 1) := by decide +kernel
theorem dX8_spill_48 : decode cX8_spill 48 = .ok (.iadd, 1) := by decide +kernel
theorem dX8_spill_49 : decode cX8_spill 49 = .ok (.putfield 175, 3) := by decide +kernel
theorem dX8_spill_52 : decode cX8_spill 52 = .ok (.iload_n 2, 1) := by decide +kernel
theorem dX8_spill_53 : decode cX8_spill 53 = .ok (.ireturn, 1) := by decide +kernel
theorem dX8_givePairs_0 : decode cX8_givePairs 0 = .ok (.iload 4, 2) := by decide +kernel
theorem dX8_givePairs_2 : decode cX8_givePairs 2 = .ok (.istore 6, 2) := by decide +kernel
theorem dX8_givePairs_4 : decode cX8_givePairs 4 = .ok (.iload 6, 2) := by decide +kernel
theorem dX8_givePairs_6 : decode cX8_givePairs 6 = .ok (.iload 5, 2) := by decide +kernel
theorem dX8_givePairs_8 : decode cX8_givePairs 8 = .ok (.if_icmp .ge 21, 3) := by decide +kernel
theorem dX8_givePairs_11 : decode cX8_givePairs 11 = .ok (.aload_n 0, 1) := by decide +kernel
theorem dX8_givePairs_12 : decode cX8_givePairs 12 = .ok (.getfield 61, 3) := by decide +kernel
theorem dX8_givePairs_15 : decode cX8_givePairs 15 = .ok (.aload_n 1, 1) := by decide +kernel
theorem dX8_givePairs_16 : decode cX8_givePairs 16 = .ok (.iload_n 2, 1) := by decide +kernel
theorem dX8_givePairs_17 : decode cX8_givePairs 17 = .ok (.aload_n 3, 1) := by decide +kernel
theorem dX8_givePairs_18 : decode cX8_givePairs 18 = .ok (.iload 6, 2) := by decide +kernel
theorem dX8_givePairs_20 : decode cX8_givePairs 20 = .ok (.invokevirtual 359, 3) := by decide +kernel
theorem dX8_givePairs_23 : decode cX8_givePairs 23 = .ok (.iinc 6 1, 3) := by decide +kernel
theorem dX8_givePairs_26 : decode cX8_givePairs 26 = .ok (.goto (-22), 3) := by decide +kernel
theorem dX8_givePairs_29 : decode cX8_givePairs 29 = .ok (.return_, 1) := by decide +kernel
theorem dX8_joinBySplitting_0 : decode cX8_joinBySplitting 0 = .ok (.aload_n 0, 1) := by decide +kernel
theorem dX8_joinBySplitting_1 : decode cX8_joinBySplitting 1 = .ok (.getfield 61, 3) := by decide +kernel
theorem dX8_joinBySplitting_4 : decode cX8_joinBySplitting 4 = .ok (.invokevirtual 169, 3) := by decide +kernel
theorem dX8_joinBySplitting_7 : decode cX8_joinBySplitting 7 = .ok (.aload_n 0, 1) := by decide +kernel
theorem dX8_joinBySplitting_8 : decode cX8_joinBySplitting 8 = .ok (.getfield 68, 3) := by decide +kernel
theorem dX8_joinBySplitting_11 : decode cX8_joinBySplitting 11 = .ok (.aload_n 0, 1) := by decide +kernel
theorem dX8_joinBySplitting_12 : decode cX8_joinBySplitting 12 = .ok (.getfield 19, 3) := by decide +kernel
theorem dX8_joinBySplitting_15 : decode cX8_joinBySplitting 15 = .ok (.putfield 363, 3) := by decide +kernel
theorem dX8_joinBySplitting_18 : decode cX8_joinBySplitting 18 = .ok (.aload_n 0, 1) := by decide +kernel
theorem dX8_joinBySplitting_19 : decode cX8_joinBySplitting 19 = .ok (.getfield 68, 3) := by decide +kernel
theorem dX8_joinBySplitting_22 : decode cX8_joinBySplitting 22 = .ok (.aload_n 0, 1) := by decide +kernel
theorem dX8_joinBySplitting_23 : decode cX8_joinBySplitting 23 = .ok (.getfield 22, 3) := by decide +kernel
theorem dX8_joinBySplitting_26 : decode cX8_joinBySplitting 26 = .ok (.putfield 364, 3) := by decide +kernel
theorem dX8_joinBySplitting_29 : decode cX8_joinBySplitting 29 = .ok (.aload_n 0, 1) := by decide +kernel
theorem dX8_joinBySplitting_30 : decode cX8_joinBySplitting 30 = .ok (.getfield 68, 3) := by decide +kernel
theorem dX8_joinBySplitting_33 : decode cX8_joinBySplitting 33 = .ok (.aload_n 0, 1) := by decide +kernel
theorem dX8_joinBySplitting_34 : decode cX8_joinBySplitting 34 = .ok (.getfield 61, 3) := by decide +kernel
theorem dX8_joinBySplitting_37 : decode cX8_joinBySplitting 37 = .ok (.aload_n 1, 1) := by decide +kernel
theorem dX8_joinBySplitting_38 : decode cX8_joinBySplitting 38 = .ok (.aload_n 2, 1) := by decide +kernel
theorem dX8_joinBySplitting_39 : decode cX8_joinBySplitting 39 = .ok (.iconst 0, 1) := by decide +kernel
theorem dX8_joinBySplitting_40 : decode cX8_joinBySplitting 40 = .ok (.invokestatic 365, 3) := by decide +kernel
theorem dX8_joinBySplitting_43 : decode cX8_joinBySplitting 43 = .ok (.aload_n 0, 1) := by decide +kernel
theorem dX8_joinBySplitting_44 : decode cX8_joinBySplitting 44 = .ok (.getfield 61, 3) := by decide +kernel
theorem dX8_joinBySplitting_47 : decode cX8_joinBySplitting 47 = .ok (.dup, 1) := by decide +kernel
theorem dX8_joinBySplitting_48 : decode cX8_joinBySplitting 48 = .ok (.getfield 175, 3) := by decide +kernel
theorem dX8_joinBySplitting_51 : decode cX8_joinBySplitting 51 = .ok (.aload_n 0, 1) := by decide +kernel
theorem dX8_joinBySplitting_52 : decode cX8_joinBySplitting 52 = .ok (.getfield 61, 3) := by decide +kernel
theorem dX8_joinBySplitting_55 : decode cX8_joinBySplitting 55 = .ok (.getfield 277, 3) := by decide +kernel
theorem dX8_joinBySplitting_58 : decode cX8_joinBySplitting 58 = .ok (.aload_n 0, 1) := by decide +kernel
theorem dX8_joinBySplitting_59 : decode cX8_joinBySplitting 59 = .ok (.getfield 19, 3) := by decide +kernel
theorem dX8_joinBySplitting_62 : decode cX8_joinBySplitting 62 = .ok (.invokestatic 155, 3) := by decide +kernel
theorem dX8_joinBySplitting_65 : decode cX8_joinBySplitting 65 = .ok (.iadd, 1) := by decide +kernel
theorem dX8_joinBySplitting_66 : decode cX8_joinBySplitting 66 = .ok (.putfield 175, 3) := by decide +kernel
theorem dX8_joinBySplitting_69 : decode cX8_joinBySplitting 69 = .ok (.return_, 1) := by decide +kernel
theorem dX8_splitRows_0 : decode cX8_splitRows 0 = .ok (.aload_n 2, 1) := by decide +kernel
theorem dX8_splitRows_1 : decode cX8_splitRows 1 = .ok (.invokevirtual 116, 3) := by decide +kernel
theorem dX8_splitRows_4 : decode cX8_splitRows 4 = .ok (.ifCond .eq 10, 3) := by decide +kernel
theorem dX8_splitRows_7 : decode cX8_splitRows 7 = .ok (.aload_n 3, 1) := by decide +kernel
theorem dX8_splitRows_8 : decode cX8_splitRows 8 = .ok (.invokevirtual 116, 3) := by decide +kernel
theorem dX8_splitRows_11 : decode cX8_splitRows 11 = .ok (.ifCond .ne 4, 3) := by decide +kernel
theorem dX8_splitRows_14 : decode cX8_splitRows 14 = .ok (.return_, 1) := by decide +kernel
theorem dX8_splitRows_15 : decode cX8_splitRows 15 = .ok (.iload 4, 2) := by decide +kernel
theorem dX8_splitRows_17 : decode cX8_splitRows 17 = .ok (.iconst 3, 1) := by decide +kernel
theorem dX8_splitRows_18 : decode cX8_splitRows 18 = .ok (.if_icmp .ge 23, 3) := by decide +kernel
