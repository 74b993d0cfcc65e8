-- decode rows, part 5
theorem dX8_group_31 : decode cX8_group 31 = .ok (.invokespecial 138, 3) := by decide +kernel
theorem dX8_group_34 : decode cX8_group 34 = .ok (.athrow, 1) := by decide +kernel
theorem dX8_group_35 : decode cX8_group 35 = .ok (.aload_n 0, 1) := by decide +kernel
theorem dX8_group_36 : decode cX8_group 36 = .ok (.invokevirtual 91, 3) := by decide +kernel
theorem dX8_group_39 : decode cX8_group 39 = .ok (.aload_n 0, 1) := by decide +kernel
theorem dX8_group_40 : decode cX8_group 40 = .ok (.getfield 61, 3) := by decide +kernel
theorem dX8_group_43 : decode cX8_group 43 = .ok (.invokevirtual 169, 3) := by decide +kernel
theorem dX8_group_46 : decode cX8_group 46 = .ok (.aload_n 0, 1) := by decide +kernel
theorem dX8_group_47 : decode cX8_group 47 = .ok (.getfield 61, 3) := by decide +kernel
theorem dX8_group_50 : decode cX8_group 50 = .ok (.aload_n 3, 1) := by decide +kernel
theorem dX8_group_51 : decode cX8_group 51 = .ok (.invokevirtual 116, 3) := by decide +kernel
theorem dX8_group_54 : decode cX8_group 54 = .ok (.aload_n 0, 1) := by decide +kernel
theorem dX8_group_55 : decode cX8_group 55 = .ok (.getfield 19, 3) := by decide +kernel
theorem dX8_group_58 : decode cX8_group 58 = .ok (.invokestatic 155, 3) := by decide +kernel
theorem dX8_group_61 : decode cX8_group 61 = .ok (.putfield 173, 3) := by decide +kernel
theorem dX8_group_64 : decode cX8_group 64 = .ok (.aload_n 0, 1) := by decide +kernel
theorem dX8_group_65 : decode cX8_group 65 = .ok (.aload_n 3, 1) := by decide +kernel
theorem dX8_group_66 : decode cX8_group 66 = .ok (.iload_n 2, 1) := by decide +kernel
theorem dX8_group_67 : decode cX8_group 67 = .ok (.invokevirtual 274, 3) := by decide +kernel
theorem dX8_group_70 : decode cX8_group 70 = .ok (.aload_n 0, 1) := by decide +kernel
theorem dX8_group_71 : decode cX8_group 71 = .ok (.getfield 61, 3) := by decide +kernel
theorem dX8_group_74 : decode cX8_group 74 = .ok (.aload_n 0, 1) := by decide +kernel
theorem dX8_group_75 : decode cX8_group 75 = .ok (.getfield 61, 3) := by decide +kernel
theorem dX8_group_78 : decode cX8_group 78 = .ok (.getfield 277, 3) := by decide +kernel
theorem dX8_group_81 : decode cX8_group 81 = .ok (.aload_n 0, 1) := by decide +kernel
theorem dX8_group_82 : decode cX8_group 82 = .ok (.getfield 19, 3) := by decide +kernel
theorem dX8_group_85 : decode cX8_group 85 = .ok (.invokestatic 155, 3) := by decide +kernel
theorem dX8_group_88 : decode cX8_group 88 = .ok (.putfield 175, 3) := by decide +kernel
theorem dX8_group_91 : decode cX8_group 91 = .ok (.aload_n 0, 1) := by decide +kernel
theorem dX8_group_92 : decode cX8_group 92 = .ok (.invokevirtual 180, 3) := by decide +kernel
theorem dX8_group_95 : decode cX8_group 95 = .ok (.ireturn, 1) := by decide +kernel
theorem dX8_sortCost_0 : decode cX8_sortCost 0 = .ok (.aload_n 0, 1) := by decide +kernel
theorem dX8_sortCost_1 : decode cX8_sortCost 1 = .ok (.iload_n 1, 1) := by decide +kernel
theorem dX8_sortCost_2 : decode cX8_sortCost 2 = .ok (.invokevirtual 97, 3) := by decide +kernel
theorem dX8_sortCost_5 : decode cX8_sortCost 5 = .ok (.astore 5, 2) := by decide +kernel
theorem dX8_sortCost_7 : decode cX8_sortCost 7 = .ok (.iload 4, 2) := by decide +kernel
theorem dX8_sortCost_9 : decode cX8_sortCost 9 = .ok (.invokestatic 87, 3) := by decide +kernel
theorem dX8_sortCost_12 : decode cX8_sortCost 12 = .ok (.aload_n 0, 1) := by decide +kernel
theorem dX8_sortCost_13 : decode cX8_sortCost 13 = .ok (.aload 5, 2) := by decide +kernel
theorem dX8_sortCost_15 : decode cX8_sortCost 15 = .ok (.iload_n 2, 1) := by decide +kernel
theorem dX8_sortCost_16 : decode cX8_sortCost 16 = .ok (.iload_n 3, 1) := by decide +kernel
theorem dX8_sortCost_17 : decode cX8_sortCost 17 = .ok (.iload 4, 2) := by decide +kernel
theorem dX8_sortCost_19 : decode cX8_sortCost 19 = .ok (.invokevirtual 280, 3) := by decide +kernel
theorem dX8_sortCost_22 : decode cX8_sortCost 22 = .ok (.ireturn, 1) := by decide +kernel
theorem dX8_memoryFor_0 : decode cX8_memoryFor 0 = .ok (.aload_n 0, 1) := by decide +kernel
theorem dX8_memoryFor_1 : decode cX8_memoryFor 1 = .ok (.iload_n 1, 1) := by decide +kernel
theorem dX8_memoryFor_2 : decode cX8_memoryFor 2 = .ok (.invokevirtual 97, 3) := by decide +kernel
theorem dX8_memoryFor_5 : decode cX8_memoryFor 5 = .ok (.astore 4, 2) := by decide +kernel
theorem dX8_memoryFor_7 : decode cX8_memoryFor 7 = .ok (.iload_n 3, 1) := by decide +kernel
theorem dX8_memoryFor_8 : decode cX8_memoryFor 8 = .ok (.ifCond .lt 9, 3) := by decide +kernel
theorem dX8_memoryFor_11 : decode cX8_memoryFor 11 = .ok (.iload_n 3, 1) := by decide +kernel
theorem dX8_memoryFor_12 : decode cX8_memoryFor 12 = .ok (.bipush 100, 2) := by decide +kernel
theorem dX8_memoryFor_14 : decode cX8_memoryFor 14 = .ok (.if_icmp .le 14, 3) := by decide +kernel
theorem dX8_memoryFor_17 : decode cX8_memoryFor 17 = .ok (.new 80, 3) := by decide +kernel
theorem dX8_memoryFor_20 : decode cX8_memoryFor 20 = .ok (.dup, 1) := by decide +kernel
theorem dX8_memoryFor_21 : decode cX8_memoryFor 21 = .ok (.ldc_w 284, 3) := by decide +kernel
theorem dX8_memoryFor_24 : decode cX8_memoryFor 24 = .ok (.invokespecial 84, 3) := by decide +kernel
theorem dX8_memoryFor_27 : decode cX8_memoryFor 27 = .ok (.athrow, 1) := by decide +kernel
theorem dX8_memoryFor_28 : decode cX8_memoryFor 28 = .ok (.iconst 3, 1) := by decide +kernel
theorem dX8_memoryFor_29 : decode cX8_memoryFor 29 = .ok (.istore 5, 2) := by decide +kernel
theorem dX8_memoryFor_31 : decode cX8_memoryFor 31 = .ok (.iload 5, 2) := by decide +kernel
theorem dX8_memoryFor_33 : decode cX8_memoryFor 33 = .ok (.bipush 12, 2) := by decide +kernel
theorem dX8_memoryFor_35 : decode cX8_memoryFor 35 = .ok (.if_icmp .gt 44, 3) := by decide +kernel
theorem dX8_memoryFor_38 : decode cX8_memoryFor 38 = .ok (.aload_n 0, 1) := by decide +kernel
theorem dX8_memoryFor_39 : decode cX8_memoryFor 39 = .ok (.getfield 41, 3) := by decide +kernel
theorem dX8_memoryFor_42 : decode cX8_memoryFor 42 = .ok (.aload 4, 2) := by decide +kernel
theorem dX8_memoryFor_44 : decode cX8_memoryFor 44 = .ok (.iload_n 2, 1) := by decide +kernel
theorem dX8_memoryFor_45 : decode cX8_memoryFor 45 = .ok (.iconst 0, 1) := by decide +kernel
theorem dX8_memoryFor_46 : decode cX8_memoryFor 46 = .ok (.iconst 0, 1) := by decide +kernel
theorem dX8_memoryFor_47 : decode cX8_memoryFor 47 = .ok (.aload_n 0, 1) := by decide +kernel
theorem dX8_memoryFor_48 : decode cX8_memoryFor 48 = .ok (.getfield 19, 3) := by decide +kernel
theorem dX8_memoryFor_51 : decode cX8_memoryFor 51 = .ok (.iload 5, 2) := by decide +kernel
theorem dX8_memoryFor_53 : decode cX8_memoryFor 53 = .ok (.invokevirtual 165, 3) := by decide +kernel
theorem dX8_memoryFor_56 : decode cX8_memoryFor 56 = .ok (.aload_n 0, 1) := by decide +kernel
theorem dX8_memoryFor_57 : decode cX8_memoryFor 57 = .ok (.getfield 41, 3) := by decide +kernel
theorem dX8_memoryFor_60 : decode cX8_memoryFor 60 = .ok (.getfield 196, 3) := by decide +kernel
theorem dX8_memoryFor_63 : decode cX8_memoryFor 63 = .ok (.invokevirtual 187, 3) := by decide +kernel
theorem dX8_memoryFor_66 : decode cX8_memoryFor 66 = .ok (.iload_n 3, 1) := by decide +kernel
theorem dX8_memoryFor_67 : decode cX8_memoryFor 67 = .ok (.if_icmp .gt 6, 3) := by decide +kernel
theorem dX8_memoryFor_70 : decode cX8_memoryFor 70 = .ok (.iload 5, 2) := by decide +kernel
theorem dX8_memoryFor_72 : decode cX8_memoryFor 72 = .ok (.ireturn, 1) := by decide +kernel
theorem dX8_memoryFor_73 : decode cX8_memoryFor 73 = .ok (.iinc 5 1, 3) := by decide +kernel
theorem dX8_memoryFor_76 : decode cX8_memoryFor 76 = .ok (.goto (-45), 3) := by decide +kernel
theorem dX8_memoryFor_79 : decode cX8_memoryFor 79 = .ok (.iconst (-1), 1) := by decide +kernel
theorem dX8_memoryFor_80 : decode cX8_memoryFor 80 = .ok (.ireturn, 1) := by decide +kernel
theorem dX8_splitCost_0 : decode cX8_splitCost 0 = .ok (.aload_n 0, 1) := by decide +kernel
theorem dX8_splitCost_1 : decode cX8_splitCost 1 = .ok (.iload_n 1, 1) := by decide +kernel
theorem dX8_splitCost_2 : decode cX8_splitCost 2 = .ok (.invokevirtual 97, 3) := by decide +kernel
theorem dX8_splitCost_5 : decode cX8_splitCost 5 = .ok (.astore_n 3, 1) := by decide +kernel
theorem dX8_splitCost_6 : decode cX8_splitCost 6 = .ok (.aload_n 0, 1) := by decide +kernel
theorem dX8_splitCost_7 : decode cX8_splitCost 7 = .ok (.iload_n 2, 1) := by decide +kernel
theorem dX8_splitCost_8 : decode cX8_splitCost 8 = .ok (.invokevirtual 97, 3) := by decide +kernel
theorem dX8_splitCost_11 : decode cX8_splitCost 11 = .ok (.astore 4, 2) := by decide +kernel
theorem dX8_splitCost_13 : decode cX8_splitCost 13 = .ok (.aload_n 0, 1) := by decide +kernel
theorem dX8_splitCost_14 : decode cX8_splitCost 14 = .ok (.aload_n 3, 1) := by decide +kernel
theorem dX8_splitCost_15 : decode cX8_splitCost 15 = .ok (.aload 4, 2) := by decide +kernel
theorem dX8_splitCost_17 : decode cX8_splitCost 17 = .ok (.invokevirtual 261, 3) := by decide +kernel
theorem dX8_splitCost_20 : decode cX8_splitCost 20 = .ok (.aload_n 0, 1) := by decide +kernel
theorem dX8_splitCost_21 : decode cX8_splitCost 21 = .ok (.getfield 61, 3) := by decide +kernel
theorem dX8_splitCost_24 : decode cX8_splitCost 24 = .ok (.getfield 173, 3) := by decide +kernel
theorem dX8_splitCost_27 : decode cX8_splitCost 27 = .ok (.aload_n 0, 1) := by decide +kernel
theorem dX8_splitCost_28 : decode cX8_splitCost 28 = .ok (.getfield 61, 3) := by decide +kernel
theorem dX8_splitCost_31 : decode cX8_splitCost 31 = .ok (.getfield 175, 3) := by decide +kernel
theorem dX8_splitCost_34 : decode cX8_splitCost 34 = .ok (.iadd, 1) := by decide +kernel
theorem dX8_splitCost_35 : decode cX8_splitCost 35 = .ok (.ireturn, 1) := by decide +kernel
theorem dX8_share_0 : decode cX8_share 0 = .ok (.aload_n 0, 1) := by decide +kernel
theorem dX8_share_1 : decode cX8_share 1 = .ok (.iload_n 1, 1) := by decide +kernel
theorem dX8_share_2 : decode cX8_share 2 = .ok (.invokevirtual 97, 3) := by decide +kernel
theorem dX8_share_5 : decode cX8_share 5 = .ok (.astore_n 3, 1) := by decide +kernel
theorem dX8_share_6 : decode cX8_share 6 = .ok (.aload_n 0, 1) := by decide +kernel
theorem dX8_share_7 : decode cX8_share 7 = .ok (.iload_n 2, 1) := by decide +kernel
theorem dX8_share_8 : decode cX8_share 8 = .ok (.invokevirtual 97, 3) := by decide +kernel
theorem dX8_share_11 : decode cX8_share 11 = .ok (.astore 4, 2) := by decide +kernel
theorem dX8_share_13 : decode cX8_share 13 = .ok (.aload_n 3, 1) := by decide +kernel
theorem dX8_share_14 : decode cX8_share 14 = .ok (.invokevirtual 116, 3) := by decide +kernel
theorem dX8_share_17 : decode cX8_share 17 = .ok (.iconst 1, 1) := by decide +kernel
theorem dX8_share_18 : decode cX8_share 18 = .ok (.if_icmp .ge 5, 3) := by decide +kernel
theorem dX8_share_21 : decode cX8_share 21 = .ok (.dconst 0, 1) := by decide +kernel
theorem dX8_share_22 : decode cX8_share 22 = .ok (.dreturn, 1) := by decide +kernel
theorem dX8_share_23 : decode cX8_share 23 = .ok (.aload_n 0, 1) := by decide +kernel
theorem dX8_share_24 : decode cX8_share 24 = .ok (.getfield 75, 3) := by decide +kernel
theorem dX8_share_27 : decode cX8_share 27 = .ok (.invokevirtual 286, 3) := by decide +kernel
theorem dX8_share_30 : decode cX8_share 30 = .ok (.iconst 0, 1) := by decide +kernel
theorem dX8_share_31 : decode cX8_share 31 = .ok (.istore 5, 2) := by decide +kernel
theorem dX8_share_33 : decode cX8_share 33 = .ok (.iload 5, 2) := by decide +kernel
theorem dX8_share_35 : decode cX8_share 35 = .ok (.aload 4, 2) := by decide +kernel
theorem dX8_share_37 : decode cX8_share 37 = .ok (.invokevirtual 116, 3) := by decide +kernel
theorem dX8_share_40 : decode cX8_share 40 = .ok (.if_icmp .ge 24, 3) := by decide +kernel
theorem dX8_share_43 : decode cX8_share 43 = .ok (.aload_n 0, 1) := by decide +kernel
theorem dX8_share_44 : decode cX8_share 44 = .ok (.getfield 75, 3) := by decide +kernel
theorem dX8_share_47 : decode cX8_share 47 = .ok (.aload 4, 2) := by decide +kernel
theorem dX8_share_49 : decode cX8_share 49 = .ok (.iload 5, 2) := by decide +kernel
theorem dX8_share_51 : decode cX8_share 51 = .ok (.invokevirtual 152, 3) := by decide +kernel
theorem dX8_share_54 : decode cX8_share 54 = .ok (.invokevirtual 287, 3) := by decide +kernel
theorem dX8_share_57 : decode cX8_share 57 = .ok (.pop, 1) := by decide +kernel
theorem dX8_share_58 : decode cX8_share 58 = .ok (.iinc 5 1, 3) := by decide +kernel
theorem dX8_share_61 : decode cX8_share 61 = .ok (.goto (-28), 3) := by decide +kernel
theorem dX8_share_64 : decode cX8_share 64 = .ok (.iconst 0, 1) := by decide +kernel
theorem dX8_share_65 : decode cX8_share 65 = .ok (.istore 5, 2) := by decide +kernel
theorem dX8_share_67 : decode cX8_share 67 = .ok (.iconst 0, 1) := by decide +kernel
theorem dX8_share_68 : decode cX8_share 68 = .ok (.istore 6, 2) := by decide +kernel
theorem dX8_share_70 : decode cX8_share 70 = .ok (.iload 6, 2) := by decide +kernel
theorem dX8_share_72 : decode cX8_share 72 = .ok (.aload_n 3, 1) := by decide +kernel
theorem dX8_share_73 : decode cX8_share 73 = .ok (.invokevirtual 116, 3) := by decide +kernel
theorem dX8_share_76 : decode cX8_share 76 = .ok (.if_icmp .ge 28, 3) := by decide +kernel
theorem dX8_share_79 : decode cX8_share 79 = .ok (.aload_n 0, 1) := by decide +kernel
theorem dX8_share_80 : decode cX8_share 80 = .ok (.getfield 75, 3) := by decide +kernel
theorem dX8_share_83 : decode cX8_share 83 = .ok (.aload_n 3, 1) := by decide +kernel
theorem dX8_share_84 : decode cX8_share 84 = .ok (.iload 6, 2) := by decide +kernel
theorem dX8_share_86 : decode cX8_share 86 = .ok (.invokevirtual 152, 3) := by decide +kernel
theorem dX8_share_89 : decode cX8_share 89 = .ok (.invokevirtual 289, 3) := by decide +kernel
theorem dX8_share_92 : decode cX8_share 92 = .ok (.ifCond .eq 6, 3) := by decide +kernel
theorem dX8_share_95 : decode cX8_share 95 = .ok (.iinc 5 1, 3) := by decide +kernel
theorem dX8_share_98 : decode cX8_share 98 = .ok (.iinc 6 1, 3) := by decide +kernel
theorem dX8_share_101 : decode cX8_share 101 = .ok (.goto (-31), 3) := by decide +kernel
theorem dX8_share_104 : decode cX8_share 104 = .ok (.iload 5, 2) := by decide +kernel
theorem dX8_share_106 : decode cX8_share 106 = .ok (.i2d, 1) := by decide +kernel
theorem dX8_share_107 : decode cX8_share 107 = .ok (.aload_n 3, 1) := by decide +kernel
theorem dX8_share_108 : decode cX8_share 108 = .ok (.invokevirtual 116, 3) := by decide +kernel
theorem dX8_share_111 : decode cX8_share 111 = .ok (.i2d, 1) := by decide +kernel
theorem dX8_share_112 : decode cX8_share 112 = .ok (.ddiv, 1) := by decide +kernel
theorem dX8_share_113 : decode cX8_share 113 = .ok (.dreturn, 1) := by decide +kernel
theorem dX8_digest_0 : decode cX8_digest 0 = .ok (.ldc2_w 290, 3) := by decide +kernel
theorem dX8_digest_3 : decode cX8_digest 3 = .ok (.aload_n 0, 1) := by decide +kernel
theorem dX8_digest_4 : decode cX8_digest 4 = .ok (.getfield 15, 3) := by decide +kernel
theorem dX8_digest_7 : decode cX8_digest 7 = .ok (.i2l, 1) := by decide +kernel
theorem dX8_digest_8 : decode cX8_digest 8 = .ok (.invokestatic 292, 3) := by decide +kernel
theorem dX8_digest_11 : decode cX8_digest 11 = .ok (.lstore_n 1, 1) := by decide +kernel
theorem dX8_digest_12 : decode cX8_digest 12 = .ok (.lload_n 1, 1) := by decide +kernel
theorem dX8_digest_13 : decode cX8_digest 13 = .ok (.aload_n 0, 1) := by decide +kernel
theorem dX8_digest_14 : decode cX8_digest 14 = .ok (.getfield 25, 3) := by decide +kernel
theorem dX8_digest_17 : decode cX8_digest 17 = .ok (.i2l, 1) := by decide +kernel
theorem dX8_digest_18 : decode cX8_digest 18 = .ok (.invokestatic 292, 3) := by decide +kernel
theorem dX8_digest_21 : decode cX8_digest 21 = .ok (.lstore_n 1, 1) := by decide +kernel
theorem dX8_digest_22 : decode cX8_digest 22 = .ok (.lload_n 1, 1) := by decide +kernel
theorem dX8_digest_23 : decode cX8_digest 23 = .ok (.aload_n 0, 1) := by decide +kernel
theorem dX8_digest_24 : decode cX8_digest 24 = .ok (.getfield 28, 3) := by decide +kernel
theorem dX8_digest_27 : decode cX8_digest 27 = .ok (.i2l, 1) := by decide +kernel
theorem dX8_digest_28 : decode cX8_digest 28 = .ok (.invokestatic 292, 3) := by decide +kernel
theorem dX8_digest_31 : decode cX8_digest 31 = .ok (.lstore_n 1, 1) := by decide +kernel
theorem dX8_digest_32 : decode cX8_digest 32 = .ok (.lload_n 1, 1) := by decide +kernel
theorem dX8_digest_33 : decode cX8_digest 33 = .ok (.aload_n 0, 1) := by decide +kernel
theorem dX8_digest_34 : decode cX8_digest 34 = .ok (.getfield 31, 3) := by decide +kernel
theorem dX8_digest_37 : decode cX8_digest 37 = .ok (.i2l, 1) := by decide +kernel
theorem dX8_digest_38 : decode cX8_digest 38 = .ok (.invokestatic 292, 3) := by decide +kernel
theorem dX8_digest_41 : decode cX8_digest 41 = .ok (.lstore_n 1, 1) := by decide +kernel
theorem dX8_digest_42 : decode cX8_digest 42 = .ok (.aload_n 0, 1) := by decide +kernel
theorem dX8_digest_43 : decode cX8_digest 43 = .ok (.lload_n 1, 1) := by decide +kernel
theorem dX8_digest_44 : decode cX8_digest 44 = .ok (.invokevirtual 296, 3) := by decide +kernel
theorem dX8_digest_47 : decode cX8_digest 47 = .ok (.lstore_n 1, 1) := by decide +kernel
theorem dX8_digest_48 : decode cX8_digest 48 = .ok (.lload_n 1, 1) := by decide +kernel
theorem dX8_digest_49 : decode cX8_digest 49 = .ok (.aload_n 0, 1) := by decide +kernel
theorem dX8_digest_50 : decode cX8_digest 50 = .ok (.invokevirtual 300, 3) := by decide +kernel
theorem dX8_digest_53 : decode cX8_digest 53 = .ok (.i2l, 1) := by decide +kernel
theorem dX8_digest_54 : decode cX8_digest 54 = .ok (.invokestatic 292, 3) := by decide +kernel
theorem dX8_digest_57 : decode cX8_digest 57 = .ok (.lstore_n 1, 1) := by decide +kernel
theorem dX8_digest_58 : decode cX8_digest 58 = .ok (.iconst 0, 1) := by decide +kernel
theorem dX8_digest_59 : decode cX8_digest 59 = .ok (.istore_n 3, 1) := by decide +kernel
theorem dX8_digest_60 : decode cX8_digest 60 = .ok (.iload_n 3, 1) := by decide +kernel
theorem dX8_digest_61 : decode cX8_digest 61 = .ok (.aload_n 0, 1) := by decide +kernel
theorem dX8_digest_62 : decode cX8_digest 62 = .ok (.getfield 15, 3) := by decide +kernel
theorem dX8_digest_65 : decode cX8_digest 65 = .ok (.if_icmp .ge 21, 3) := by decide +kernel
theorem dX8_digest_68 : decode cX8_digest 68 = .ok (.aload_n 0, 1) := by decide +kernel
theorem dX8_digest_69 : decode cX8_digest 69 = .ok (.lload_n 1, 1) := by decide +kernel
theorem dX8_digest_70 : decode cX8_digest 70 = .ok (.aload_n 0, 1) := by decide +kernel
theorem dX8_digest_71 : decode cX8_digest 71 = .ok (.getfield 11, 3) := by decide +kernel
theorem dX8_digest_74 : decode cX8_digest 74 = .ok (.iload_n 3, 1) := by decide +kernel
theorem dX8_digest_75 : decode cX8_digest 75 = .ok (.aaload, 1) := by decide +kernel
theorem dX8_digest_76 : decode cX8_digest 76 = .ok (.invokevirtual 303, 3) := by decide +kernel
theorem dX8_digest_79 : decode cX8_digest 79 = .ok (.lstore_n 1, 1) := by decide +kernel
theorem dX8_digest_80 : decode cX8_digest 80 = .ok (.iinc 3 1, 3) := by decide +kernel
theorem dX8_digest_83 : decode cX8_digest 83 = .ok (.goto (-23), 3) := by decide +kernel
theorem dX8_digest_86 : decode cX8_digest 86 = .ok (.lload_n 1, 1) := by decide +kernel
theorem dX8_digest_87 : decode cX8_digest 87 = .ok (.lreturn, 1) := by decide +kernel
theorem dX8_fold_0 : decode cX8_fold 0 = .ok (.lload_n 0, 1) := by decide +kernel
theorem dX8_fold_1 : decode cX8_fold 1 = .ok (.ldc2_w 307, 3) := by decide +kernel
theorem dX8_fold_4 : decode cX8_fold 4 = .ok (.lmul, 1) := by decide +kernel
theorem dX8_fold_5 : decode cX8_fold 5 = .ok (.lload_n 2, 1) := by decide +kernel
theorem dX8_fold_6 : decode cX8_fold 6 = .ok (.ladd, 1) := by decide +kernel
theorem dX8_fold_7 : decode cX8_fold 7 = .ok (.lreturn, 1) := by decide +kernel
theorem dX8_foldSort_0 : decode cX8_foldSort 0 = .ok (.lload_n 1, 1) := by decide +kernel
theorem dX8_foldSort_1 : decode cX8_foldSort 1 = .ok (.aload_n 0, 1) := by decide +kernel
theorem dX8_foldSort_2 : decode cX8_foldSort 2 = .ok (.getfield 37, 3) := by decide +kernel
theorem dX8_foldSort_5 : decode cX8_foldSort 5 = .ok (.getfield 183, 3) := by decide +kernel
theorem dX8_foldSort_8 : decode cX8_foldSort 8 = .ok (.invokevirtual 187, 3) := by decide +kernel
theorem dX8_foldSort_11 : decode cX8_foldSort 11 = .ok (.i2l, 1) := by decide +kernel
theorem dX8_foldSort_12 : decode cX8_foldSort 12 = .ok (.invokestatic 292, 3) := by decide +kernel
theorem dX8_foldSort_15 : decode cX8_foldSort 15 = .ok (.lstore_n 3, 1) := by decide +kernel
theorem dX8_foldSort_16 : decode cX8_foldSort 16 = .ok (.iconst 0, 1) := by decide +kernel
theorem dX8_foldSort_17 : decode cX8_foldSort 17 = .ok (.istore 5, 2) := by decide +kernel
theorem dX8_foldSort_19 : decode cX8_foldSort 19 = .ok (.iload 5, 2) := by decide +kernel
theorem dX8_foldSort_21 : decode cX8_foldSort 21 = .ok (.aload_n 0, 1) := by decide +kernel
theorem dX8_foldSort_22 : decode cX8_foldSort 22 = .ok (.getfield 37, 3) := by decide +kernel
theorem dX8_foldSort_25 : decode cX8_foldSort 25 = .ok (.getfield 183, 3) := by decide +kernel
theorem dX8_foldSort_28 : decode cX8_foldSort 28 = .ok (.invokevirtual 187, 3) := by decide +kernel
theorem dX8_foldSort_31 : decode cX8_foldSort 31 = .ok (.if_icmp .ge 27, 3) := by decide +kernel
theorem dX8_foldSort_34 : decode cX8_foldSort 34 = .ok (.lload_n 3, 1) := by decide +kernel
theorem dX8_foldSort_35 : decode cX8_foldSort 35 = .ok (.aload_n 0, 1) := by decide +kernel
theorem dX8_foldSort_36 : decode cX8_foldSort 36 = .ok (.getfield 37, 3) := by decide +kernel
theorem dX8_foldSort_39 : decode cX8_foldSort 39 = .ok (.getfield 183, 3) := by decide +kernel
theorem dX8_foldSort_42 : decode cX8_foldSort 42 = .ok (.iload 5, 2) := by decide +kernel
theorem dX8_foldSort_44 : decode cX8_foldSort 44 = .ok (.invokevirtual 193, 3) := by decide +kernel
theorem dX8_foldSort_47 : decode cX8_foldSort 47 = .ok (.i2l, 1) := by decide +kernel
theorem dX8_foldSort_48 : decode cX8_foldSort 48 = .ok (.invokestatic 292, 3) := by decide +kernel
theorem dX8_foldSort_51 : decode cX8_foldSort 51 = .ok (.lstore_n 3, 1) := by decide +kernel
theorem dX8_foldSort_52 : decode cX8_foldSort 52 = .ok (.iinc 5 1, 3) := by decide +kernel
theorem dX8_foldSort_55 : decode cX8_foldSort 55 = .ok (.goto (-36), 3) := by decide +kernel
theorem dX8_foldSort_58 : decode cX8_foldSort 58 = .ok (.lload_n 3, 1) := by decide +kernel
theorem dX8_foldSort_59 : decode cX8_foldSort 59 = .ok (.aload_n 0, 1) := by decide +kernel
theorem dX8_foldSort_60 : decode cX8_foldSort 60 = .ok (.getfield 37, 3) := by decide +kernel
theorem dX8_foldSort_63 : decode cX8_foldSort 63 = .ok (.getfield 196, 3) := by decide +kernel
theorem dX8_foldSort_66 : decode cX8_foldSort 66 = .ok (.invokevirtual 187, 3) := by decide +kernel
theorem dX8_foldSort_69 : decode cX8_foldSort 69 = .ok (.i2l, 1) := by decide +kernel
theorem dX8_foldSort_70 : decode cX8_foldSort 70 = .ok (.invokestatic 292, 3) := by decide +kernel
theorem dX8_foldSort_73 : decode cX8_foldSort 73 = .ok (.lstore_n 3, 1) := by decide +kernel
theorem dX8_foldSort_74 : decode cX8_foldSort 74 = .ok (.iconst 0, 1) := by decide +kernel
theorem dX8_foldSort_75 : decode cX8_foldSort 75 = .ok (.istore 5, 2) := by decide +kernel
theorem dX8_foldSort_77 : decode cX8_foldSort 77 = .ok (.iload 5, 2) := by decide +kernel
theorem dX8_foldSort_79 : decode cX8_foldSort 79 = .ok (.aload_n 0, 1) := by decide +kernel
theorem dX8_foldSort_80 : decode cX8_foldSort 80 = .ok (.getfield 37, 3) := by decide +kernel
theorem dX8_foldSort_83 : decode cX8_foldSort 83 = .ok (.getfield 196, 3) := by decide +kernel
theorem dX8_foldSort_86 : decode cX8_foldSort 86 = .ok (.invokevirtual 187, 3) := by decide +kernel
theorem dX8_foldSort_89 : decode cX8_foldSort 89 = .ok (.if_icmp .ge 45, 3) := by decide +kernel
theorem dX8_foldSort_92 : decode cX8_foldSort 92 = .ok (.lload_n 3, 1) := by decide +kernel
theorem dX8_foldSort_93 : decode cX8_foldSort 93 = .ok (.aload_n 0, 1) := by decide +kernel
theorem dX8_foldSort_94 : decode cX8_foldSort 94 = .ok (.getfield 37, 3) := by decide +kernel
theorem dX8_foldSort_97 : decode cX8_foldSort 97 = .ok (.getfield 203, 3) := by decide +kernel
theorem dX8_foldSort_100 : decode cX8_foldSort 100 = .ok (.iload 5, 2) := by decide +kernel
theorem dX8_foldSort_102 : decode cX8_foldSort 102 = .ok (.invokevirtual 193, 3) := by decide +kernel
theorem dX8_foldSort_105 : decode cX8_foldSort 105 = .ok (.i2l, 1) := by decide +kernel
theorem dX8_foldSort_106 : decode cX8_foldSort 106 = .ok (.invokestatic 292, 3) := by decide +kernel
theorem dX8_foldSort_109 : decode cX8_foldSort 109 = .ok (.lstore_n 3, 1) := by decide +kernel
theorem dX8_foldSort_110 : decode cX8_foldSort 110 = .ok (.lload_n 3, 1) := by decide +kernel
theorem dX8_foldSort_111 : decode cX8_foldSort 111 = .ok (.aload_n 0, 1) := by decide +kernel
theorem dX8_foldSort_112 : decode cX8_foldSort 112 = .ok (.getfield 37, 3) := by decide +kernel
theorem dX8_foldSort_115 : decode cX8_foldSort 115 = .ok (.getfield 196, 3) := by decide +kernel
theorem dX8_foldSort_118 : decode cX8_foldSort 118 = .ok (.iload 5, 2) := by decide +kernel
theorem dX8_foldSort_120 : decode cX8_foldSort 120 = .ok (.invokevirtual 193, 3) := by decide +kernel
theorem dX8_foldSort_123 : decode cX8_foldSort 123 = .ok (.i2l, 1) := by decide +kernel
theorem dX8_foldSort_124 : decode cX8_foldSort 124 = .ok (.invokestatic 292, 3) := by decide +kernel
theorem dX8_foldSort_127 : decode cX8_foldSort 127 = .ok (.lstore_n 3, 1) := by decide +kernel
theorem dX8_foldSort_128 : decode cX8_foldSort 128 = .ok (.iinc 5 1, 3) := by decide +kernel
theorem dX8_foldSort_131 : decode cX8_foldSort 131 = .ok (.goto (-54), 3) := by decide +kernel
theorem dX8_foldSort_134 : decode cX8_foldSort 134 = .ok (.lload_n 3, 1) := by decide +kernel
theorem dX8_foldSort_135 : decode cX8_foldSort 135 = .ok (.lreturn, 1) := by decide +kernel
theorem dX8_foldFile_0 : decode cX8_foldFile 0 = .ok (.lload_n 1, 1) := by decide +kernel
theorem dX8_foldFile_1 : decode cX8_foldFile 1 = .ok (.aload_n 3, 1) := by decide +kernel
theorem dX8_foldFile_2 : decode cX8_foldFile 2 = .ok (.invokevirtual 116, 3) := by decide +kernel
theorem dX8_foldFile_5 : decode cX8_foldFile 5 = .ok (.i2l, 1) := by decide +kernel
theorem dX8_foldFile_6 : decode cX8_foldFile 6 = .ok (.invokestatic 292, 3) := by decide +kernel
theorem dX8_foldFile_9 : decode cX8_foldFile 9 = .ok (.lstore 4, 2) := by decide +kernel
theorem dX8_foldFile_11 : decode cX8_foldFile 11 = .ok (.lload 4, 2) := by decide +kernel
theorem dX8_foldFile_13 : decode cX8_foldFile 13 = .ok (.aload_n 3, 1) := by decide +kernel
theorem dX8_foldFile_14 : decode cX8_foldFile 14 = .ok (.invokevirtual 116, 3) := by decide +kernel
theorem dX8_foldFile_17 : decode cX8_foldFile 17 = .ok (.aload_n 0, 1) := by decide +kernel
theorem dX8_foldFile_18 : decode cX8_foldFile 18 = .ok (.getfield 19, 3) := by decide +kernel
theorem dX8_foldFile_21 : decode cX8_foldFile 21 = .ok (.invokestatic 155, 3) := by decide +kernel
theorem dX8_foldFile_24 : decode cX8_foldFile 24 = .ok (.i2l, 1) := by decide +kernel
theorem dX8_foldFile_25 : decode cX8_foldFile 25 = .ok (.invokestatic 292, 3) := by decide +kernel
theorem dX8_foldFile_28 : decode cX8_foldFile 28 = .ok (.lstore 4, 2) := by decide +kernel
theorem dX8_foldFile_30 : decode cX8_foldFile 30 = .ok (.lload 4, 2) := by decide +kernel
theorem dX8_foldFile_32 : decode cX8_foldFile 32 = .ok (.aload_n 3, 1) := by decide +kernel
theorem dX8_foldFile_33 : decode cX8_foldFile 33 = .ok (.invokestatic 158, 3) := by decide +kernel
theorem dX8_foldFile_36 : decode cX8_foldFile 36 = .ok (.i2l, 1) := by decide +kernel
theorem dX8_foldFile_37 : decode cX8_foldFile 37 = .ok (.invokestatic 292, 3) := by decide +kernel
theorem dX8_foldFile_40 : decode cX8_foldFile 40 = .ok (.lstore 4, 2) := by decide +kernel
theorem dX8_foldFile_42 : decode cX8_foldFile 42 = .ok (.lload 4, 2) := by decide +kernel
theorem dX8_foldFile_44 : decode cX8_foldFile 44 = .ok (.aload_n 0, 1) := by decide +kernel
theorem dX8_foldFile_45 : decode cX8_foldFile 45 = .ok (.aload_n 3, 1) := by decide +kernel
theorem dX8_foldFile_46 : decode cX8_foldFile 46 = .ok (.invokevirtual 162, 3) := by decide +kernel
theorem dX8_foldFile_49 : decode cX8_foldFile 49 = .ok (.i2l, 1) := by decide +kernel
theorem dX8_foldFile_50 : decode cX8_foldFile 50 = .ok (.invokestatic 292, 3) := by decide +kernel
theorem dX8_foldFile_53 : decode cX8_foldFile 53 = .ok (.lstore 4, 2) := by decide +kernel
theorem dX8_foldFile_55 : decode cX8_foldFile 55 = .ok (.lload 4, 2) := by decide +kernel
theorem dX8_foldFile_57 : decode cX8_foldFile 57 = .ok (.aload_n 0, 1) := by decide +kernel
theorem dX8_foldFile_58 : decode cX8_foldFile 58 = .ok (.aload_n 3, 1) := by decide +kernel
theorem dX8_foldFile_59 : decode cX8_foldFile 59 = .ok (.iconst 0, 1) := by decide +kernel
theorem dX8_foldFile_60 : decode cX8_foldFile 60 = .ok (.iconst 0, 1) := by decide +kernel
theorem dX8_foldFile_61 : decode cX8_foldFile 61 = .ok (.aload_n 0, 1) := by decide +kernel
theorem dX8_foldFile_62 : decode cX8_foldFile 62 = .ok (.getfield 22, 3) := by decide +kernel
theorem dX8_foldFile_65 : decode cX8_foldFile 65 = .ok (.invokevirtual 280, 3) := by decide +kernel
theorem dX8_foldFile_68 : decode cX8_foldFile 68 = .ok (.i2l, 1) := by decide +kernel
theorem dX8_foldFile_69 : decode cX8_foldFile 69 = .ok (.invokestatic 292, 3) := by decide +kernel
theorem dX8_foldFile_72 : decode cX8_foldFile 72 = .ok (.lstore 4, 2) := by decide +kernel
theorem dX8_foldFile_74 : decode cX8_foldFile 74 = .ok (.lload 4, 2) := by decide +kernel
theorem dX8_foldFile_76 : decode cX8_foldFile 76 = .ok (.aload_n 0, 1) := by decide +kernel
theorem dX8_foldFile_77 : decode cX8_foldFile 77 = .ok (.aload_n 3, 1) := by decide +kernel
theorem dX8_foldFile_78 : decode cX8_foldFile 78 = .ok (.iconst 1, 1) := by decide +kernel
theorem dX8_foldFile_79 : decode cX8_foldFile 79 = .ok (.iconst 1, 1) := by decide +kernel
theorem dX8_foldFile_80 : decode cX8_foldFile 80 = .ok (.aload_n 0, 1) := by decide +kernel
theorem dX8_foldFile_81 : decode cX8_foldFile 81 = .ok (.getfield 22, 3) := by decide +kernel
theorem dX8_foldFile_84 : decode cX8_foldFile 84 = .ok (.invokevirtual 280, 3) := by decide +kernel
theorem dX8_foldFile_87 : decode cX8_foldFile 87 = .ok (.i2l, 1) := by decide +kernel
theorem dX8_foldFile_88 : decode cX8_foldFile 88 = .ok (.invokestatic 292, 3) := by decide +kernel
theorem dX8_foldFile_91 : decode cX8_foldFile 91 = .ok (.lstore 4, 2) := by decide +kernel
theorem dX8_foldFile_93 : decode cX8_foldFile 93 = .ok (.iconst 0, 1) := by decide +kernel
theorem dX8_foldFile_94 : decode cX8_foldFile 94 = .ok (.istore 6, 2) := by decide +kernel
theorem dX8_foldFile_96 : decode cX8_foldFile 96 = .ok (.iload 6, 2) := by decide +kernel
theorem dX8_foldFile_98 : decode cX8_foldFile 98 = .ok (.aload_n 3, 1) := by decide +kernel
theorem dX8_foldFile_99 : decode cX8_foldFile 99 = .ok (.invokevirtual 116, 3) := by decide +kernel
theorem dX8_foldFile_102 : decode cX8_foldFile 102 = .ok (.if_icmp .ge 37, 3) := by decide +kernel
theorem dX8_foldFile_105 : decode cX8_foldFile 105 = .ok (.lload 4, 2) := by decide +kernel
theorem dX8_foldFile_107 : decode cX8_foldFile 107 = .ok (.aload_n 3, 1) := by decide +kernel
theorem dX8_foldFile_108 : decode cX8_foldFile 108 = .ok (.iload 6, 2) := by decide +kernel
theorem dX8_foldFile_110 : decode cX8_foldFile 110 = .ok (.invokevirtual 152, 3) := by decide +kernel
theorem dX8_foldFile_113 : decode cX8_foldFile 113 = .ok (.i2l, 1) := by decide +kernel
theorem dX8_foldFile_114 : decode cX8_foldFile 114 = .ok (.invokestatic 292, 3) := by decide +kernel
theorem dX8_foldFile_117 : decode cX8_foldFile 117 = .ok (.lstore 4, 2) := by decide +kernel
theorem dX8_foldFile_119 : decode cX8_foldFile 119 = .ok (.lload 4, 2) := by decide +kernel
theorem dX8_foldFile_121 : decode cX8_foldFile 121 = .ok (.aload_n 3, 1) := by decide +kernel
theorem dX8_foldFile_122 : decode cX8_foldFile 122 = .ok (.iload 6, 2) := by decide +kernel
theorem dX8_foldFile_124 : decode cX8_foldFile 124 = .ok (.invokevirtual 148, 3) := by decide +kernel
theorem dX8_foldFile_127 : decode cX8_foldFile 127 = .ok (.i2l, 1) := by decide +kernel
theorem dX8_foldFile_128 : decode cX8_foldFile 128 = .ok (.invokestatic 292, 3) := by decide +kernel
theorem dX8_foldFile_131 : decode cX8_foldFile 131 = .ok (.lstore 4, 2) := by decide +kernel
theorem dX8_foldFile_133 : decode cX8_foldFile 133 = .ok (.iinc 6 1, 3) := by decide +kernel
theorem dX8_foldFile_136 : decode cX8_foldFile 136 = .ok (.goto (-40), 3) := by decide +kernel
theorem dX8_foldFile_139 : decode cX8_foldFile 139 = .ok (.lload 4, 2) := by decide +kernel
theorem dX8_foldFile_141 : decode cX8_foldFile 141 = .ok (.lreturn, 1) := by decide +kernel
theorem dX8_rowOf_0 : decode cX8_rowOf 0 = .ok (.iload_n 1, 1) := by decide +kernel
theorem dX8_rowOf_1 : decode cX8_rowOf 1 = .ok (.ifCond .lt 11, 3) := by decide +kernel
theorem dX8_rowOf_4 : decode cX8_rowOf 4 = .ok (.iload_n 1, 1) := by decide +kernel
theorem dX8_rowOf_5 : decode cX8_rowOf 5 = .ok (.aload_n 0, 1) := by decide +kernel
theorem dX8_rowOf_6 : decode cX8_rowOf 6 = .ok (.getfield 15, 3) := by decide +kernel
theorem dX8_rowOf_9 : decode cX8_rowOf 9 = .ok (.if_icmp .lt 14, 3) := by decide +kernel
theorem dX8_rowOf_12 : decode cX8_rowOf 12 = .ok (.new 143, 3) := by decide +kernel
theorem dX8_rowOf_15 : decode cX8_rowOf 15 = .ok (.dup, 1) := by decide +kernel
theorem dX8_rowOf_16 : decode cX8_rowOf 16 = .ok (.ldc_w 309, 3) := by decide +kernel
theorem dX8_rowOf_19 : decode cX8_rowOf 19 = .ok (.invokespecial 147, 3) := by decide +kernel
theorem dX8_rowOf_22 : decode cX8_rowOf 22 = .ok (.athrow, 1) := by decide +kernel
theorem dX8_rowOf_23 : decode cX8_rowOf 23 = .ok (.aload_n 0, 1) := by decide +kernel
theorem dX8_rowOf_24 : decode cX8_rowOf 24 = .ok (.getfield 11, 3) := by decide +kernel
theorem dX8_rowOf_27 : decode cX8_rowOf 27 = .ok (.iload_n 1, 1) := by decide +kernel
theorem dX8_rowOf_28 : decode cX8_rowOf 28 = .ok (.aaload, 1) := by decide +kernel
theorem dX8_rowOf_29 : decode cX8_rowOf 29 = .ok (.areturn, 1) := by decide +kernel
theorem dX8_needRoom_0 : decode cX8_needRoom 0 = .ok (.aload_n 0, 1) := by decide +kernel
theorem dX8_needRoom_1 : decode cX8_needRoom 1 = .ok (.getfield 15, 3) := by decide +kernel
theorem dX8_needRoom_4 : decode cX8_needRoom 4 = .ok (.bipush 12, 2) := by decide +kernel
theorem dX8_needRoom_6 : decode cX8_needRoom 6 = .ok (.if_icmp .lt 14, 3) := by decide +kernel
theorem dX8_needRoom_9 : decode cX8_needRoom 9 = .ok (.new 134, 3) := by decide +kernel
theorem dX8_needRoom_12 : decode cX8_needRoom 12 = .ok (.dup, 1) := by decide +kernel
theorem dX8_needRoom_13 : decode cX8_needRoom 13 = .ok (.ldc_w 311, 3) := by decide +kernel
theorem dX8_needRoom_16 : decode cX8_needRoom 16 = .ok (.invokespecial 138, 3) := by decide +kernel
theorem dX8_needRoom_19 : decode cX8_needRoom 19 = .ok (.athrow, 1) := by decide +kernel
theorem dX8_needRoom_20 : decode cX8_needRoom 20 = .ok (.return_, 1) := by decide +kernel
theorem dX8_needSpace_0 : decode cX8_needSpace 0 = .ok (.aload_n 0, 1) := by decide +kernel
theorem dX8_needSpace_1 : decode cX8_needSpace 1 = .ok (.invokevirtual 116, 3) := by decide +kernel
theorem dX8_needSpace_4 : decode cX8_needSpace 4 = .ok (.iload_n 1, 1) := by decide +kernel
theorem dX8_needSpace_5 : decode cX8_needSpace 5 = .ok (.iadd, 1) := by decide +kernel
theorem dX8_needSpace_6 : decode cX8_needSpace 6 = .ok (.bipush 120, 2) := by decide +kernel
theorem dX8_needSpace_8 : decode cX8_needSpace 8 = .ok (.if_icmp .le 14, 3) := by decide +kernel
theorem dX8_needSpace_11 : decode cX8_needSpace 11 = .ok (.new 134, 3) := by decide +kernel
theorem dX8_needSpace_14 : decode cX8_needSpace 14 = .ok (.dup, 1) := by decide +kernel
theorem dX8_needSpace_15 : decode cX8_needSpace 15 = .ok (.ldc_w 313, 3) := by decide +kernel
theorem dX8_needSpace_18 : decode cX8_needSpace 18 = .ok (.invokespecial 138, 3) := by decide +kernel
theorem dX8_needSpace_21 : decode cX8_needSpace 21 = .ok (.athrow, 1) := by decide +kernel
theorem dX8_needSpace_22 : decode cX8_needSpace 22 = .ok (.return_, 1) := by decide +kernel
theorem dX8_needMemory_0 : decode cX8_needMemory 0 = .ok (.iload_n 0, 1) := by decide +kernel
theorem dX8_needMemory_1 : decode cX8_needMemory 1 = .ok (.iconst 3, 1) := by decide +kernel
theorem dX8_needMemory_2 : decode cX8_needMemory 2 = .ok (.if_icmp .lt 9, 3) := by decide +kernel
theorem dX8_needMemory_5 : decode cX8_needMemory 5 = .ok (.iload_n 0, 1) := by decide +kernel
theorem dX8_needMemory_6 : decode cX8_needMemory 6 = .ok (.bipush 12, 2) := by decide +kernel
theorem dX8_needMemory_8 : decode cX8_needMemory 8 = .ok (.if_icmp .le 14, 3) := by decide +kernel
theorem dX8_needMemory_11 : decode cX8_needMemory 11 = .ok (.new 80, 3) := by decide +kernel
theorem dX8_needMemory_14 : decode cX8_needMemory 14 = .ok (.dup, 1) := by decide +kernel
theorem dX8_needMemory_15 : decode cX8_needMemory 15 = .ok (.ldc_w 315, 3) := by decide +kernel
theorem dX8_needMemory_18 : decode cX8_needMemory 18 = .ok (.invokespecial 84, 3) := by decide +kernel
theorem dX8_needMemory_21 : decode cX8_needMemory 21 = .ok (.athrow, 1) := by decide +kernel
theorem dX8_needMemory_22 : decode cX8_needMemory 22 = .ok (.return_, 1) := by decide +kernel
theorem dX8_needHow_0 : decode cX8_needHow 0 = .ok (.iload_n 0, 1) := by decide +kernel
theorem dX8_needHow_1 : decode cX8_needHow 1 = .ok (.ifCond .lt 8, 3) := by decide +kernel
theorem dX8_needHow_4 : decode cX8_needHow 4 = .ok (.iload_n 0, 1) := by decide +kernel
theorem dX8_needHow_5 : decode cX8_needHow 5 = .ok (.iconst 3, 1) := by decide +kernel
theorem dX8_needHow_6 : decode cX8_needHow 6 = .ok (.if_icmp .le 14, 3) := by decide +kernel
theorem dX8_needHow_9 : decode cX8_needHow 9 = .ok (.new 80, 3) := by decide +kernel
theorem dX8_needHow_12 : decode cX8_needHow 12 = .ok (.dup, 1) := by decide +kernel
theorem dX8_needHow_13 : decode cX8_needHow 13 = .ok (.ldc_w 317, 3) := by decide +kernel
theorem dX8_needHow_16 : decode cX8_needHow 16 = .ok (.invokespecial 84, 3) := by decide +kernel
theorem dX8_needHow_19 : decode cX8_needHow 19 = .ok (.athrow, 1) := by decide +kernel
theorem dX8_needHow_20 : decode cX8_needHow 20 = .ok (.return_, 1) := by decide +kernel
