-- decode rows, part 4
theorem dX8_put_46 : decode cX8_put 46 = .ok (.ldc 103, 2) := by decide +kernel
theorem dX8_put_48 : decode cX8_put 48 = .ok (.invokespecial 84, 3) := by decide +kernel
theorem dX8_put_51 : decode cX8_put 51 = .ok (.athrow, 1) := by decide +kernel
theorem dX8_put_52 : decode cX8_put 52 = .ok (.aload 4, 2) := by decide +kernel
theorem dX8_put_54 : decode cX8_put 54 = .ok (.iconst 1, 1) := by decide +kernel
theorem dX8_put_55 : decode cX8_put 55 = .ok (.invokestatic 105, 3) := by decide +kernel
theorem dX8_put_58 : decode cX8_put 58 = .ok (.aload_n 0, 1) := by decide +kernel
theorem dX8_put_59 : decode cX8_put 59 = .ok (.getfield 54, 3) := by decide +kernel
theorem dX8_put_62 : decode cX8_put 62 = .ok (.iload_n 1, 1) := by decide +kernel
theorem dX8_put_63 : decode cX8_put 63 = .ok (.invokevirtual 109, 3) := by decide +kernel
theorem dX8_put_66 : decode cX8_put 66 = .ok (.aload 4, 2) := by decide +kernel
theorem dX8_put_68 : decode cX8_put 68 = .ok (.iload_n 2, 1) := by decide +kernel
theorem dX8_put_69 : decode cX8_put 69 = .ok (.iload_n 3, 1) := by decide +kernel
theorem dX8_put_70 : decode cX8_put 70 = .ok (.invokevirtual 112, 3) := by decide +kernel
theorem dX8_put_73 : decode cX8_put 73 = .ok (.aload 4, 2) := by decide +kernel
theorem dX8_put_75 : decode cX8_put 75 = .ok (.invokevirtual 116, 3) := by decide +kernel
theorem dX8_put_78 : decode cX8_put 78 = .ok (.ireturn, 1) := by decide +kernel
theorem dX8_putRow_0 : decode cX8_putRow 0 = .ok (.aload_n 0, 1) := by decide +kernel
theorem dX8_putRow_1 : decode cX8_putRow 1 = .ok (.iload_n 1, 1) := by decide +kernel
theorem dX8_putRow_2 : decode cX8_putRow 2 = .ok (.invokevirtual 97, 3) := by decide +kernel
theorem dX8_putRow_5 : decode cX8_putRow 5 = .ok (.astore 6, 2) := by decide +kernel
theorem dX8_putRow_7 : decode cX8_putRow 7 = .ok (.iload_n 2, 1) := by decide +kernel
theorem dX8_putRow_8 : decode cX8_putRow 8 = .ok (.ifCond .lt 10, 3) := by decide +kernel
theorem dX8_putRow_11 : decode cX8_putRow 11 = .ok (.iload_n 2, 1) := by decide +kernel
theorem dX8_putRow_12 : decode cX8_putRow 12 = .ok (.sipush 999, 3) := by decide +kernel
theorem dX8_putRow_15 : decode cX8_putRow 15 = .ok (.if_icmp .le 13, 3) := by decide +kernel
theorem dX8_putRow_18 : decode cX8_putRow 18 = .ok (.new 80, 3) := by decide +kernel
theorem dX8_putRow_21 : decode cX8_putRow 21 = .ok (.dup, 1) := by decide +kernel
theorem dX8_putRow_22 : decode cX8_putRow 22 = .ok (.ldc 120, 2) := by decide +kernel
theorem dX8_putRow_24 : decode cX8_putRow 24 = .ok (.invokespecial 84, 3) := by decide +kernel
theorem dX8_putRow_27 : decode cX8_putRow 27 = .ok (.athrow, 1) := by decide +kernel
theorem dX8_putRow_28 : decode cX8_putRow 28 = .ok (.iload_n 3, 1) := by decide +kernel
theorem dX8_putRow_29 : decode cX8_putRow 29 = .ok (.sipush (-999), 3) := by decide +kernel
theorem dX8_putRow_32 : decode cX8_putRow 32 = .ok (.if_icmp .lt 10, 3) := by decide +kernel
theorem dX8_putRow_35 : decode cX8_putRow 35 = .ok (.iload_n 3, 1) := by decide +kernel
theorem dX8_putRow_36 : decode cX8_putRow 36 = .ok (.sipush 999, 3) := by decide +kernel
theorem dX8_putRow_39 : decode cX8_putRow 39 = .ok (.if_icmp .le 13, 3) := by decide +kernel
theorem dX8_putRow_42 : decode cX8_putRow 42 = .ok (.new 80, 3) := by decide +kernel
theorem dX8_putRow_45 : decode cX8_putRow 45 = .ok (.dup, 1) := by decide +kernel
theorem dX8_putRow_46 : decode cX8_putRow 46 = .ok (.ldc 122, 2) := by decide +kernel
theorem dX8_putRow_48 : decode cX8_putRow 48 = .ok (.invokespecial 84, 3) := by decide +kernel
theorem dX8_putRow_51 : decode cX8_putRow 51 = .ok (.athrow, 1) := by decide +kernel
theorem dX8_putRow_52 : decode cX8_putRow 52 = .ok (.iload 4, 2) := by decide +kernel
theorem dX8_putRow_54 : decode cX8_putRow 54 = .ok (.iconst 1, 1) := by decide +kernel
theorem dX8_putRow_55 : decode cX8_putRow 55 = .ok (.if_icmp .lt 11, 3) := by decide +kernel
theorem dX8_putRow_58 : decode cX8_putRow 58 = .ok (.iload 4, 2) := by decide +kernel
theorem dX8_putRow_60 : decode cX8_putRow 60 = .ok (.sipush 999, 3) := by decide +kernel
theorem dX8_putRow_63 : decode cX8_putRow 63 = .ok (.if_icmp .le 13, 3) := by decide +kernel
theorem dX8_putRow_66 : decode cX8_putRow 66 = .ok (.new 80, 3) := by decide +kernel
theorem dX8_putRow_69 : decode cX8_putRow 69 = .ok (.dup, 1) := by decide +kernel
theorem dX8_putRow_70 : decode cX8_putRow 70 = .ok (.ldc 124, 2) := by decide +kernel
theorem dX8_putRow_72 : decode cX8_putRow 72 = .ok (.invokespecial 84, 3) := by decide +kernel
theorem dX8_putRow_75 : decode cX8_putRow 75 = .ok (.athrow, 1) := by decide +kernel
theorem dX8_putRow_76 : decode cX8_putRow 76 = .ok (.iload 5, 2) := by decide +kernel
theorem dX8_putRow_78 : decode cX8_putRow 78 = .ok (.iconst 1, 1) := by decide +kernel
theorem dX8_putRow_79 : decode cX8_putRow 79 = .ok (.if_icmp .lt 10, 3) := by decide +kernel
theorem dX8_putRow_82 : decode cX8_putRow 82 = .ok (.iload 5, 2) := by decide +kernel
theorem dX8_putRow_84 : decode cX8_putRow 84 = .ok (.bipush 120, 2) := by decide +kernel
theorem dX8_putRow_86 : decode cX8_putRow 86 = .ok (.if_icmp .le 13, 3) := by decide +kernel
theorem dX8_putRow_89 : decode cX8_putRow 89 = .ok (.new 80, 3) := by decide +kernel
theorem dX8_putRow_92 : decode cX8_putRow 92 = .ok (.dup, 1) := by decide +kernel
theorem dX8_putRow_93 : decode cX8_putRow 93 = .ok (.ldc 126, 2) := by decide +kernel
theorem dX8_putRow_95 : decode cX8_putRow 95 = .ok (.invokespecial 84, 3) := by decide +kernel
theorem dX8_putRow_98 : decode cX8_putRow 98 = .ok (.athrow, 1) := by decide +kernel
theorem dX8_putRow_99 : decode cX8_putRow 99 = .ok (.aload 6, 2) := by decide +kernel
theorem dX8_putRow_101 : decode cX8_putRow 101 = .ok (.iload 5, 2) := by decide +kernel
theorem dX8_putRow_103 : decode cX8_putRow 103 = .ok (.invokestatic 105, 3) := by decide +kernel
theorem dX8_putRow_106 : decode cX8_putRow 106 = .ok (.aload_n 0, 1) := by decide +kernel
theorem dX8_putRow_107 : decode cX8_putRow 107 = .ok (.getfield 54, 3) := by decide +kernel
theorem dX8_putRow_110 : decode cX8_putRow 110 = .ok (.iload_n 1, 1) := by decide +kernel
theorem dX8_putRow_111 : decode cX8_putRow 111 = .ok (.invokevirtual 109, 3) := by decide +kernel
theorem dX8_putRow_114 : decode cX8_putRow 114 = .ok (.iconst 0, 1) := by decide +kernel
theorem dX8_putRow_115 : decode cX8_putRow 115 = .ok (.istore 7, 2) := by decide +kernel
theorem dX8_putRow_117 : decode cX8_putRow 117 = .ok (.iload 7, 2) := by decide +kernel
theorem dX8_putRow_119 : decode cX8_putRow 119 = .ok (.iload 5, 2) := by decide +kernel
theorem dX8_putRow_121 : decode cX8_putRow 121 = .ok (.if_icmp .ge 30, 3) := by decide +kernel
theorem dX8_putRow_124 : decode cX8_putRow 124 = .ok (.aload 6, 2) := by decide +kernel
theorem dX8_putRow_126 : decode cX8_putRow 126 = .ok (.iload_n 2, 1) := by decide +kernel
theorem dX8_putRow_127 : decode cX8_putRow 127 = .ok (.iload 7, 2) := by decide +kernel
theorem dX8_putRow_129 : decode cX8_putRow 129 = .ok (.iload_n 3, 1) := by decide +kernel
theorem dX8_putRow_130 : decode cX8_putRow 130 = .ok (.imul, 1) := by decide +kernel
theorem dX8_putRow_131 : decode cX8_putRow 131 = .ok (.iadd, 1) := by decide +kernel
theorem dX8_putRow_132 : decode cX8_putRow 132 = .ok (.iload 4, 2) := by decide +kernel
theorem dX8_putRow_134 : decode cX8_putRow 134 = .ok (.invokestatic 128, 3) := by decide +kernel
theorem dX8_putRow_137 : decode cX8_putRow 137 = .ok (.iload 7, 2) := by decide +kernel
theorem dX8_putRow_139 : decode cX8_putRow 139 = .ok (.bipush 100, 2) := by decide +kernel
theorem dX8_putRow_141 : decode cX8_putRow 141 = .ok (.irem, 1) := by decide +kernel
theorem dX8_putRow_142 : decode cX8_putRow 142 = .ok (.invokevirtual 112, 3) := by decide +kernel
theorem dX8_putRow_145 : decode cX8_putRow 145 = .ok (.iinc 7 1, 3) := by decide +kernel
theorem dX8_putRow_148 : decode cX8_putRow 148 = .ok (.goto (-31), 3) := by decide +kernel
theorem dX8_putRow_151 : decode cX8_putRow 151 = .ok (.aload 6, 2) := by decide +kernel
theorem dX8_putRow_153 : decode cX8_putRow 153 = .ok (.invokevirtual 116, 3) := by decide +kernel
theorem dX8_putRow_156 : decode cX8_putRow 156 = .ok (.ireturn, 1) := by decide +kernel
theorem dX8_size_0 : decode cX8_size 0 = .ok (.aload_n 0, 1) := by decide +kernel
theorem dX8_size_1 : decode cX8_size 1 = .ok (.iload_n 1, 1) := by decide +kernel
theorem dX8_size_2 : decode cX8_size 2 = .ok (.invokevirtual 97, 3) := by decide +kernel
theorem dX8_size_5 : decode cX8_size 5 = .ok (.invokevirtual 116, 3) := by decide +kernel
theorem dX8_size_8 : decode cX8_size 8 = .ok (.ireturn, 1) := by decide +kernel
theorem dX8_at_0 : decode cX8_at 0 = .ok (.aload_n 0, 1) := by decide +kernel
theorem dX8_at_1 : decode cX8_at 1 = .ok (.iload_n 1, 1) := by decide +kernel
theorem dX8_at_2 : decode cX8_at 2 = .ok (.invokevirtual 97, 3) := by decide +kernel
theorem dX8_at_5 : decode cX8_at 5 = .ok (.astore 4, 2) := by decide +kernel
theorem dX8_at_7 : decode cX8_at 7 = .ok (.aload 4, 2) := by decide +kernel
theorem dX8_at_9 : decode cX8_at 9 = .ok (.iload_n 2, 1) := by decide +kernel
theorem dX8_at_10 : decode cX8_at 10 = .ok (.invokevirtual 139, 3) := by decide +kernel
theorem dX8_at_13 : decode cX8_at 13 = .ok (.ifCond .ne 13, 3) := by decide +kernel
theorem dX8_at_16 : decode cX8_at 16 = .ok (.new 143, 3) := by decide +kernel
theorem dX8_at_19 : decode cX8_at 19 = .ok (.dup, 1) := by decide +kernel
theorem dX8_at_20 : decode cX8_at 20 = .ok (.ldc 145, 2) := by decide +kernel
theorem dX8_at_22 : decode cX8_at 22 = .ok (.invokespecial 147, 3) := by decide +kernel
theorem dX8_at_25 : decode cX8_at 25 = .ok (.athrow, 1) := by decide +kernel
theorem dX8_at_26 : decode cX8_at 26 = .ok (.iload_n 3, 1) := by decide +kernel
theorem dX8_at_27 : decode cX8_at 27 = .ok (.ifCond .eq 12, 3) := by decide +kernel
theorem dX8_at_30 : decode cX8_at 30 = .ok (.aload 4, 2) := by decide +kernel
theorem dX8_at_32 : decode cX8_at 32 = .ok (.iload_n 2, 1) := by decide +kernel
theorem dX8_at_33 : decode cX8_at 33 = .ok (.invokevirtual 148, 3) := by decide +kernel
theorem dX8_at_36 : decode cX8_at 36 = .ok (.goto 9, 3) := by decide +kernel
theorem dX8_at_39 : decode cX8_at 39 = .ok (.aload 4, 2) := by decide +kernel
theorem dX8_at_41 : decode cX8_at 41 = .ok (.iload_n 2, 1) := by decide +kernel
theorem dX8_at_42 : decode cX8_at 42 = .ok (.invokevirtual 152, 3) := by decide +kernel
theorem dX8_at_45 : decode cX8_at 45 = .ok (.ireturn, 1) := by decide +kernel
theorem dX8_order_0 : decode cX8_order 0 = .ok (.aload_n 0, 1) := by decide +kernel
theorem dX8_order_1 : decode cX8_order 1 = .ok (.iload_n 1, 1) := by decide +kernel
theorem dX8_order_2 : decode cX8_order 2 = .ok (.invokevirtual 97, 3) := by decide +kernel
theorem dX8_order_5 : decode cX8_order 5 = .ok (.invokestatic 158, 3) := by decide +kernel
theorem dX8_order_8 : decode cX8_order 8 = .ok (.ireturn, 1) := by decide +kernel
theorem dX8_distinct_0 : decode cX8_distinct 0 = .ok (.aload_n 0, 1) := by decide +kernel
theorem dX8_distinct_1 : decode cX8_distinct 1 = .ok (.aload_n 0, 1) := by decide +kernel
theorem dX8_distinct_2 : decode cX8_distinct 2 = .ok (.iload_n 1, 1) := by decide +kernel
theorem dX8_distinct_3 : decode cX8_distinct 3 = .ok (.invokevirtual 97, 3) := by decide +kernel
theorem dX8_distinct_6 : decode cX8_distinct 6 = .ok (.invokevirtual 162, 3) := by decide +kernel
theorem dX8_distinct_9 : decode cX8_distinct 9 = .ok (.ireturn, 1) := by decide +kernel
theorem dX8_inversions_0 : decode cX8_inversions 0 = .ok (.aload_n 0, 1) := by decide +kernel
theorem dX8_inversions_1 : decode cX8_inversions 1 = .ok (.iload_n 1, 1) := by decide +kernel
theorem dX8_inversions_2 : decode cX8_inversions 2 = .ok (.invokevirtual 97, 3) := by decide +kernel
theorem dX8_inversions_5 : decode cX8_inversions 5 = .ok (.astore_n 2, 1) := by decide +kernel
theorem dX8_inversions_6 : decode cX8_inversions 6 = .ok (.iconst 0, 1) := by decide +kernel
theorem dX8_inversions_7 : decode cX8_inversions 7 = .ok (.istore_n 3, 1) := by decide +kernel
theorem dX8_inversions_8 : decode cX8_inversions 8 = .ok (.iconst 1, 1) := by decide +kernel
theorem dX8_inversions_9 : decode cX8_inversions 9 = .ok (.istore 4, 2) := by decide +kernel
theorem dX8_inversions_11 : decode cX8_inversions 11 = .ok (.iload 4, 2) := by decide +kernel
theorem dX8_inversions_13 : decode cX8_inversions 13 = .ok (.aload_n 2, 1) := by decide +kernel
theorem dX8_inversions_14 : decode cX8_inversions 14 = .ok (.invokevirtual 116, 3) := by decide +kernel
theorem dX8_inversions_17 : decode cX8_inversions 17 = .ok (.if_icmp .ge 43, 3) := by decide +kernel
theorem dX8_inversions_20 : decode cX8_inversions 20 = .ok (.iconst 0, 1) := by decide +kernel
theorem dX8_inversions_21 : decode cX8_inversions 21 = .ok (.istore 5, 2) := by decide +kernel
theorem dX8_inversions_23 : decode cX8_inversions 23 = .ok (.iload 5, 2) := by decide +kernel
theorem dX8_inversions_25 : decode cX8_inversions 25 = .ok (.iload 4, 2) := by decide +kernel
theorem dX8_inversions_27 : decode cX8_inversions 27 = .ok (.if_icmp .ge 27, 3) := by decide +kernel
theorem dX8_inversions_30 : decode cX8_inversions 30 = .ok (.aload_n 2, 1) := by decide +kernel
theorem dX8_inversions_31 : decode cX8_inversions 31 = .ok (.iload 5, 2) := by decide +kernel
theorem dX8_inversions_33 : decode cX8_inversions 33 = .ok (.invokevirtual 152, 3) := by decide +kernel
theorem dX8_inversions_36 : decode cX8_inversions 36 = .ok (.aload_n 2, 1) := by decide +kernel
theorem dX8_inversions_37 : decode cX8_inversions 37 = .ok (.iload 4, 2) := by decide +kernel
theorem dX8_inversions_39 : decode cX8_inversions 39 = .ok (.invokevirtual 152, 3) := by decide +kernel
theorem dX8_inversions_42 : decode cX8_inversions 42 = .ok (.if_icmp .le 6, 3) := by decide +kernel
theorem dX8_inversions_45 : decode cX8_inversions 45 = .ok (.iinc 3 1, 3) := by decide +kernel
theorem dX8_inversions_48 : decode cX8_inversions 48 = .ok (.iinc 5 1, 3) := by decide +kernel
theorem dX8_inversions_51 : decode cX8_inversions 51 = .ok (.goto (-28), 3) := by decide +kernel
theorem dX8_inversions_54 : decode cX8_inversions 54 = .ok (.iinc 4 1, 3) := by decide +kernel
theorem dX8_inversions_57 : decode cX8_inversions 57 = .ok (.goto (-46), 3) := by decide +kernel
theorem dX8_inversions_60 : decode cX8_inversions 60 = .ok (.iload_n 3, 1) := by decide +kernel
theorem dX8_inversions_61 : decode cX8_inversions 61 = .ok (.ireturn, 1) := by decide +kernel
theorem dX8_read_0 : decode cX8_read 0 = .ok (.aload_n 0, 1) := by decide +kernel
theorem dX8_read_1 : decode cX8_read 1 = .ok (.getfield 25, 3) := by decide +kernel
theorem dX8_read_4 : decode cX8_read 4 = .ok (.ireturn, 1) := by decide +kernel
theorem dX8_written_0 : decode cX8_written 0 = .ok (.aload_n 0, 1) := by decide +kernel
theorem dX8_written_1 : decode cX8_written 1 = .ok (.getfield 28, 3) := by decide +kernel
theorem dX8_written_4 : decode cX8_written 4 = .ok (.ireturn, 1) := by decide +kernel
theorem dX8_sort_0 : decode cX8_sort 0 = .ok (.aload_n 0, 1) := by decide +kernel
theorem dX8_sort_1 : decode cX8_sort 1 = .ok (.iload_n 1, 1) := by decide +kernel
theorem dX8_sort_2 : decode cX8_sort 2 = .ok (.invokevirtual 97, 3) := by decide +kernel
theorem dX8_sort_5 : decode cX8_sort 5 = .ok (.astore 5, 2) := by decide +kernel
theorem dX8_sort_7 : decode cX8_sort 7 = .ok (.aload_n 0, 1) := by decide +kernel
theorem dX8_sort_8 : decode cX8_sort 8 = .ok (.invokevirtual 91, 3) := by decide +kernel
theorem dX8_sort_11 : decode cX8_sort 11 = .ok (.aload_n 0, 1) := by decide +kernel
theorem dX8_sort_12 : decode cX8_sort 12 = .ok (.getfield 37, 3) := by decide +kernel
theorem dX8_sort_15 : decode cX8_sort 15 = .ok (.aload 5, 2) := by decide +kernel
theorem dX8_sort_17 : decode cX8_sort 17 = .ok (.iload_n 2, 1) := by decide +kernel
theorem dX8_sort_18 : decode cX8_sort 18 = .ok (.iload_n 3, 1) := by decide +kernel
theorem dX8_sort_19 : decode cX8_sort 19 = .ok (.iload 4, 2) := by decide +kernel
theorem dX8_sort_21 : decode cX8_sort 21 = .ok (.aload_n 0, 1) := by decide +kernel
theorem dX8_sort_22 : decode cX8_sort 22 = .ok (.getfield 19, 3) := by decide +kernel
theorem dX8_sort_25 : decode cX8_sort 25 = .ok (.aload_n 0, 1) := by decide +kernel
theorem dX8_sort_26 : decode cX8_sort 26 = .ok (.getfield 22, 3) := by decide +kernel
theorem dX8_sort_29 : decode cX8_sort 29 = .ok (.invokevirtual 165, 3) := by decide +kernel
theorem dX8_sort_32 : decode cX8_sort 32 = .ok (.aload_n 0, 1) := by decide +kernel
theorem dX8_sort_33 : decode cX8_sort 33 = .ok (.getfield 61, 3) := by decide +kernel
theorem dX8_sort_36 : decode cX8_sort 36 = .ok (.invokevirtual 169, 3) := by decide +kernel
theorem dX8_sort_39 : decode cX8_sort 39 = .ok (.aload_n 0, 1) := by decide +kernel
theorem dX8_sort_40 : decode cX8_sort 40 = .ok (.getfield 61, 3) := by decide +kernel
theorem dX8_sort_43 : decode cX8_sort 43 = .ok (.aload_n 0, 1) := by decide +kernel
theorem dX8_sort_44 : decode cX8_sort 44 = .ok (.getfield 37, 3) := by decide +kernel
theorem dX8_sort_47 : decode cX8_sort 47 = .ok (.getfield 172, 3) := by decide +kernel
theorem dX8_sort_50 : decode cX8_sort 50 = .ok (.putfield 173, 3) := by decide +kernel
theorem dX8_sort_53 : decode cX8_sort 53 = .ok (.aload_n 0, 1) := by decide +kernel
theorem dX8_sort_54 : decode cX8_sort 54 = .ok (.getfield 61, 3) := by decide +kernel
theorem dX8_sort_57 : decode cX8_sort 57 = .ok (.aload_n 0, 1) := by decide +kernel
theorem dX8_sort_58 : decode cX8_sort 58 = .ok (.getfield 37, 3) := by decide +kernel
theorem dX8_sort_61 : decode cX8_sort 61 = .ok (.getfield 174, 3) := by decide +kernel
theorem dX8_sort_64 : decode cX8_sort 64 = .ok (.putfield 175, 3) := by decide +kernel
theorem dX8_sort_67 : decode cX8_sort 67 = .ok (.aload_n 0, 1) := by decide +kernel
theorem dX8_sort_68 : decode cX8_sort 68 = .ok (.aload 5, 2) := by decide +kernel
theorem dX8_sort_70 : decode cX8_sort 70 = .ok (.iload 4, 2) := by decide +kernel
theorem dX8_sort_72 : decode cX8_sort 72 = .ok (.invokevirtual 176, 3) := by decide +kernel
theorem dX8_sort_75 : decode cX8_sort 75 = .ok (.aload_n 0, 1) := by decide +kernel
theorem dX8_sort_76 : decode cX8_sort 76 = .ok (.invokevirtual 180, 3) := by decide +kernel
theorem dX8_sort_79 : decode cX8_sort 79 = .ok (.ireturn, 1) := by decide +kernel
theorem dX8_runs_0 : decode cX8_runs 0 = .ok (.aload_n 0, 1) := by decide +kernel
theorem dX8_runs_1 : decode cX8_runs 1 = .ok (.getfield 37, 3) := by decide +kernel
theorem dX8_runs_4 : decode cX8_runs 4 = .ok (.getfield 183, 3) := by decide +kernel
theorem dX8_runs_7 : decode cX8_runs 7 = .ok (.invokevirtual 187, 3) := by decide +kernel
theorem dX8_runs_10 : decode cX8_runs 10 = .ok (.ireturn, 1) := by decide +kernel
theorem dX8_runSize_0 : decode cX8_runSize 0 = .ok (.aload_n 0, 1) := by decide +kernel
theorem dX8_runSize_1 : decode cX8_runSize 1 = .ok (.getfield 37, 3) := by decide +kernel
theorem dX8_runSize_4 : decode cX8_runSize 4 = .ok (.getfield 183, 3) := by decide +kernel
theorem dX8_runSize_7 : decode cX8_runSize 7 = .ok (.iload_n 1, 1) := by decide +kernel
theorem dX8_runSize_8 : decode cX8_runSize 8 = .ok (.invokevirtual 190, 3) := by decide +kernel
theorem dX8_runSize_11 : decode cX8_runSize 11 = .ok (.ifCond .ne 13, 3) := by decide +kernel
theorem dX8_runSize_14 : decode cX8_runSize 14 = .ok (.new 143, 3) := by decide +kernel
theorem dX8_runSize_17 : decode cX8_runSize 17 = .ok (.dup, 1) := by decide +kernel
theorem dX8_runSize_18 : decode cX8_runSize 18 = .ok (.ldc 191, 2) := by decide +kernel
theorem dX8_runSize_20 : decode cX8_runSize 20 = .ok (.invokespecial 147, 3) := by decide +kernel
theorem dX8_runSize_23 : decode cX8_runSize 23 = .ok (.athrow, 1) := by decide +kernel
theorem dX8_runSize_24 : decode cX8_runSize 24 = .ok (.aload_n 0, 1) := by decide +kernel
theorem dX8_runSize_25 : decode cX8_runSize 25 = .ok (.getfield 37, 3) := by decide +kernel
theorem dX8_runSize_28 : decode cX8_runSize 28 = .ok (.getfield 183, 3) := by decide +kernel
theorem dX8_runSize_31 : decode cX8_runSize 31 = .ok (.iload_n 1, 1) := by decide +kernel
theorem dX8_runSize_32 : decode cX8_runSize 32 = .ok (.invokevirtual 193, 3) := by decide +kernel
theorem dX8_runSize_35 : decode cX8_runSize 35 = .ok (.ireturn, 1) := by decide +kernel
theorem dX8_merges_0 : decode cX8_merges 0 = .ok (.aload_n 0, 1) := by decide +kernel
theorem dX8_merges_1 : decode cX8_merges 1 = .ok (.getfield 37, 3) := by decide +kernel
theorem dX8_merges_4 : decode cX8_merges 4 = .ok (.getfield 196, 3) := by decide +kernel
theorem dX8_merges_7 : decode cX8_merges 7 = .ok (.invokevirtual 187, 3) := by decide +kernel
theorem dX8_merges_10 : decode cX8_merges 10 = .ok (.ireturn, 1) := by decide +kernel
theorem dX8_merge_0 : decode cX8_merge 0 = .ok (.aload_n 0, 1) := by decide +kernel
theorem dX8_merge_1 : decode cX8_merge 1 = .ok (.getfield 37, 3) := by decide +kernel
theorem dX8_merge_4 : decode cX8_merge 4 = .ok (.getfield 196, 3) := by decide +kernel
theorem dX8_merge_7 : decode cX8_merge 7 = .ok (.iload_n 1, 1) := by decide +kernel
theorem dX8_merge_8 : decode cX8_merge 8 = .ok (.invokevirtual 190, 3) := by decide +kernel
theorem dX8_merge_11 : decode cX8_merge 11 = .ok (.ifCond .ne 13, 3) := by decide +kernel
theorem dX8_merge_14 : decode cX8_merge 14 = .ok (.new 143, 3) := by decide +kernel
theorem dX8_merge_17 : decode cX8_merge 17 = .ok (.dup, 1) := by decide +kernel
theorem dX8_merge_18 : decode cX8_merge 18 = .ok (.ldc 199, 2) := by decide +kernel
theorem dX8_merge_20 : decode cX8_merge 20 = .ok (.invokespecial 147, 3) := by decide +kernel
theorem dX8_merge_23 : decode cX8_merge 23 = .ok (.athrow, 1) := by decide +kernel
theorem dX8_merge_24 : decode cX8_merge 24 = .ok (.iload_n 2, 1) := by decide +kernel
theorem dX8_merge_25 : decode cX8_merge 25 = .ok (.ifCond .eq 18, 3) := by decide +kernel
theorem dX8_merge_28 : decode cX8_merge 28 = .ok (.iload_n 2, 1) := by decide +kernel
theorem dX8_merge_29 : decode cX8_merge 29 = .ok (.iconst 1, 1) := by decide +kernel
theorem dX8_merge_30 : decode cX8_merge 30 = .ok (.if_icmp .eq 13, 3) := by decide +kernel
theorem dX8_merge_33 : decode cX8_merge 33 = .ok (.new 80, 3) := by decide +kernel
theorem dX8_merge_36 : decode cX8_merge 36 = .ok (.dup, 1) := by decide +kernel
theorem dX8_merge_37 : decode cX8_merge 37 = .ok (.ldc 201, 2) := by decide +kernel
theorem dX8_merge_39 : decode cX8_merge 39 = .ok (.invokespecial 84, 3) := by decide +kernel
theorem dX8_merge_42 : decode cX8_merge 42 = .ok (.athrow, 1) := by decide +kernel
theorem dX8_merge_43 : decode cX8_merge 43 = .ok (.iload_n 2, 1) := by decide +kernel
theorem dX8_merge_44 : decode cX8_merge 44 = .ok (.ifCond .ne 17, 3) := by decide +kernel
theorem dX8_merge_47 : decode cX8_merge 47 = .ok (.aload_n 0, 1) := by decide +kernel
theorem dX8_merge_48 : decode cX8_merge 48 = .ok (.getfield 37, 3) := by decide +kernel
theorem dX8_merge_51 : decode cX8_merge 51 = .ok (.getfield 203, 3) := by decide +kernel
theorem dX8_merge_54 : decode cX8_merge 54 = .ok (.iload_n 1, 1) := by decide +kernel
theorem dX8_merge_55 : decode cX8_merge 55 = .ok (.invokevirtual 193, 3) := by decide +kernel
theorem dX8_merge_58 : decode cX8_merge 58 = .ok (.goto 14, 3) := by decide +kernel
theorem dX8_merge_61 : decode cX8_merge 61 = .ok (.aload_n 0, 1) := by decide +kernel
theorem dX8_merge_62 : decode cX8_merge 62 = .ok (.getfield 37, 3) := by decide +kernel
theorem dX8_merge_65 : decode cX8_merge 65 = .ok (.getfield 196, 3) := by decide +kernel
theorem dX8_merge_68 : decode cX8_merge 68 = .ok (.iload_n 1, 1) := by decide +kernel
theorem dX8_merge_69 : decode cX8_merge 69 = .ok (.invokevirtual 193, 3) := by decide +kernel
theorem dX8_merge_72 : decode cX8_merge 72 = .ok (.ireturn, 1) := by decide +kernel
theorem dX8_begin_0 : decode cX8_begin 0 = .ok (.iload_n 1, 1) := by decide +kernel
theorem dX8_begin_1 : decode cX8_begin 1 = .ok (.ifCond .lt 21, 3) := by decide +kernel
theorem dX8_begin_4 : decode cX8_begin 4 = .ok (.iload_n 1, 1) := by decide +kernel
theorem dX8_begin_5 : decode cX8_begin 5 = .ok (.aload_n 0, 1) := by decide +kernel
theorem dX8_begin_6 : decode cX8_begin 6 = .ok (.getfield 15, 3) := by decide +kernel
theorem dX8_begin_9 : decode cX8_begin 9 = .ok (.if_icmp .ge 13, 3) := by decide +kernel
theorem dX8_begin_12 : decode cX8_begin 12 = .ok (.iload_n 2, 1) := by decide +kernel
theorem dX8_begin_13 : decode cX8_begin 13 = .ok (.aload_n 0, 1) := by decide +kernel
theorem dX8_begin_14 : decode cX8_begin 14 = .ok (.getfield 15, 3) := by decide +kernel
theorem dX8_begin_17 : decode cX8_begin 17 = .ok (.iload_n 1, 1) := by decide +kernel
theorem dX8_begin_18 : decode cX8_begin 18 = .ok (.isub, 1) := by decide +kernel
theorem dX8_begin_19 : decode cX8_begin 19 = .ok (.if_icmp .le 13, 3) := by decide +kernel
theorem dX8_begin_22 : decode cX8_begin 22 = .ok (.new 143, 3) := by decide +kernel
theorem dX8_begin_25 : decode cX8_begin 25 = .ok (.dup, 1) := by decide +kernel
theorem dX8_begin_26 : decode cX8_begin 26 = .ok (.ldc 206, 2) := by decide +kernel
theorem dX8_begin_28 : decode cX8_begin 28 = .ok (.invokespecial 147, 3) := by decide +kernel
theorem dX8_begin_31 : decode cX8_begin 31 = .ok (.athrow, 1) := by decide +kernel
theorem dX8_begin_32 : decode cX8_begin 32 = .ok (.iload_n 2, 1) := by decide +kernel
theorem dX8_begin_33 : decode cX8_begin 33 = .ok (.iconst 2, 1) := by decide +kernel
theorem dX8_begin_34 : decode cX8_begin 34 = .ok (.if_icmp .lt 9, 3) := by decide +kernel
theorem dX8_begin_37 : decode cX8_begin 37 = .ok (.iload_n 2, 1) := by decide +kernel
theorem dX8_begin_38 : decode cX8_begin 38 = .ok (.bipush 8, 2) := by decide +kernel
theorem dX8_begin_40 : decode cX8_begin 40 = .ok (.if_icmp .le 13, 3) := by decide +kernel
theorem dX8_begin_43 : decode cX8_begin 43 = .ok (.new 80, 3) := by decide +kernel
theorem dX8_begin_46 : decode cX8_begin 46 = .ok (.dup, 1) := by decide +kernel
theorem dX8_begin_47 : decode cX8_begin 47 = .ok (.ldc 208, 2) := by decide +kernel
theorem dX8_begin_49 : decode cX8_begin 49 = .ok (.invokespecial 84, 3) := by decide +kernel
theorem dX8_begin_52 : decode cX8_begin 52 = .ok (.athrow, 1) := by decide +kernel
theorem dX8_begin_53 : decode cX8_begin 53 = .ok (.iload_n 1, 1) := by decide +kernel
theorem dX8_begin_54 : decode cX8_begin 54 = .ok (.istore_n 3, 1) := by decide +kernel
theorem dX8_begin_55 : decode cX8_begin 55 = .ok (.iload_n 3, 1) := by decide +kernel
theorem dX8_begin_56 : decode cX8_begin 56 = .ok (.iload_n 1, 1) := by decide +kernel
theorem dX8_begin_57 : decode cX8_begin 57 = .ok (.iload_n 2, 1) := by decide +kernel
theorem dX8_begin_58 : decode cX8_begin 58 = .ok (.iadd, 1) := by decide +kernel
theorem dX8_begin_59 : decode cX8_begin 59 = .ok (.if_icmp .ge 18, 3) := by decide +kernel
theorem dX8_begin_62 : decode cX8_begin 62 = .ok (.aload_n 0, 1) := by decide +kernel
theorem dX8_begin_63 : decode cX8_begin 63 = .ok (.getfield 11, 3) := by decide +kernel
theorem dX8_begin_66 : decode cX8_begin 66 = .ok (.iload_n 3, 1) := by decide +kernel
theorem dX8_begin_67 : decode cX8_begin 67 = .ok (.aaload, 1) := by decide +kernel
theorem dX8_begin_68 : decode cX8_begin 68 = .ok (.invokestatic 210, 3) := by decide +kernel
theorem dX8_begin_71 : decode cX8_begin 71 = .ok (.iinc 3 1, 3) := by decide +kernel
theorem dX8_begin_74 : decode cX8_begin 74 = .ok (.goto (-19), 3) := by decide +kernel
theorem dX8_begin_77 : decode cX8_begin 77 = .ok (.aload_n 0, 1) := by decide +kernel
theorem dX8_begin_78 : decode cX8_begin 78 = .ok (.getfield 54, 3) := by decide +kernel
theorem dX8_begin_81 : decode cX8_begin 81 = .ok (.iload_n 1, 1) := by decide +kernel
theorem dX8_begin_82 : decode cX8_begin 82 = .ok (.iload_n 2, 1) := by decide +kernel
theorem dX8_begin_83 : decode cX8_begin 83 = .ok (.invokevirtual 214, 3) := by decide +kernel
theorem dX8_begin_86 : decode cX8_begin 86 = .ok (.iconst 0, 1) := by decide +kernel
theorem dX8_begin_87 : decode cX8_begin 87 = .ok (.istore_n 3, 1) := by decide +kernel
theorem dX8_begin_88 : decode cX8_begin 88 = .ok (.iload_n 3, 1) := by decide +kernel
theorem dX8_begin_89 : decode cX8_begin 89 = .ok (.iload_n 2, 1) := by decide +kernel
theorem dX8_begin_90 : decode cX8_begin 90 = .ok (.if_icmp .ge 25, 3) := by decide +kernel
theorem dX8_begin_93 : decode cX8_begin 93 = .ok (.aload_n 0, 1) := by decide +kernel
theorem dX8_begin_94 : decode cX8_begin 94 = .ok (.getfield 54, 3) := by decide +kernel
theorem dX8_begin_97 : decode cX8_begin 97 = .ok (.iload_n 3, 1) := by decide +kernel
theorem dX8_begin_98 : decode cX8_begin 98 = .ok (.aload_n 0, 1) := by decide +kernel
theorem dX8_begin_99 : decode cX8_begin 99 = .ok (.getfield 11, 3) := by decide +kernel
theorem dX8_begin_102 : decode cX8_begin 102 = .ok (.iload_n 1, 1) := by decide +kernel
theorem dX8_begin_103 : decode cX8_begin 103 = .ok (.iload_n 3, 1) := by decide +kernel
theorem dX8_begin_104 : decode cX8_begin 104 = .ok (.iadd, 1) := by decide +kernel
theorem dX8_begin_105 : decode cX8_begin 105 = .ok (.aaload, 1) := by decide +kernel
theorem dX8_begin_106 : decode cX8_begin 106 = .ok (.invokevirtual 217, 3) := by decide +kernel
theorem dX8_begin_109 : decode cX8_begin 109 = .ok (.iinc 3 1, 3) := by decide +kernel
theorem dX8_begin_112 : decode cX8_begin 112 = .ok (.goto (-24), 3) := by decide +kernel
theorem dX8_begin_115 : decode cX8_begin 115 = .ok (.aload_n 0, 1) := by decide +kernel
theorem dX8_begin_116 : decode cX8_begin 116 = .ok (.getfield 54, 3) := by decide +kernel
theorem dX8_begin_119 : decode cX8_begin 119 = .ok (.invokevirtual 221, 3) := by decide +kernel
theorem dX8_begin_122 : decode cX8_begin 122 = .ok (.aload_n 0, 1) := by decide +kernel
theorem dX8_begin_123 : decode cX8_begin 123 = .ok (.getfield 54, 3) := by decide +kernel
theorem dX8_begin_126 : decode cX8_begin 126 = .ok (.getfield 224, 3) := by decide +kernel
theorem dX8_begin_129 : decode cX8_begin 129 = .ok (.ireturn, 1) := by decide +kernel
theorem dX8_next_0 : decode cX8_next 0 = .ok (.aload_n 0, 1) := by decide +kernel
theorem dX8_next_1 : decode cX8_next 1 = .ok (.invokevirtual 227, 3) := by decide +kernel
theorem dX8_next_4 : decode cX8_next 4 = .ok (.aload_n 0, 1) := by decide +kernel
theorem dX8_next_5 : decode cX8_next 5 = .ok (.getfield 54, 3) := by decide +kernel
theorem dX8_next_8 : decode cX8_next 8 = .ok (.invokevirtual 230, 3) := by decide +kernel
theorem dX8_next_11 : decode cX8_next 11 = .ok (.ireturn, 1) := by decide +kernel
theorem dX8_matches_0 : decode cX8_matches 0 = .ok (.aload_n 0, 1) := by decide +kernel
theorem dX8_matches_1 : decode cX8_matches 1 = .ok (.getfield 54, 3) := by decide +kernel
theorem dX8_matches_4 : decode cX8_matches 4 = .ok (.getfield 244, 3) := by decide +kernel
theorem dX8_matches_7 : decode cX8_matches 7 = .ok (.ifCond .eq 13, 3) := by decide +kernel
theorem dX8_matches_10 : decode cX8_matches 10 = .ok (.aload_n 0, 1) := by decide +kernel
theorem dX8_matches_11 : decode cX8_matches 11 = .ok (.getfield 54, 3) := by decide +kernel
theorem dX8_matches_14 : decode cX8_matches 14 = .ok (.getfield 248, 3) := by decide +kernel
theorem dX8_matches_17 : decode cX8_matches 17 = .ok (.goto 4, 3) := by decide +kernel
theorem dX8_matches_20 : decode cX8_matches 20 = .ok (.iconst 0, 1) := by decide +kernel
theorem dX8_matches_21 : decode cX8_matches 21 = .ok (.ireturn, 1) := by decide +kernel
theorem dX8_join_0 : decode cX8_join 0 = .ok (.aload_n 0, 1) := by decide +kernel
theorem dX8_join_1 : decode cX8_join 1 = .ok (.iload_n 1, 1) := by decide +kernel
theorem dX8_join_2 : decode cX8_join 2 = .ok (.invokevirtual 97, 3) := by decide +kernel
theorem dX8_join_5 : decode cX8_join 5 = .ok (.astore 4, 2) := by decide +kernel
theorem dX8_join_7 : decode cX8_join 7 = .ok (.aload_n 0, 1) := by decide +kernel
theorem dX8_join_8 : decode cX8_join 8 = .ok (.iload_n 2, 1) := by decide +kernel
theorem dX8_join_9 : decode cX8_join 9 = .ok (.invokevirtual 97, 3) := by decide +kernel
theorem dX8_join_12 : decode cX8_join 12 = .ok (.astore 5, 2) := by decide +kernel
theorem dX8_join_14 : decode cX8_join 14 = .ok (.iload_n 3, 1) := by decide +kernel
theorem dX8_join_15 : decode cX8_join 15 = .ok (.invokestatic 251, 3) := by decide +kernel
theorem dX8_join_18 : decode cX8_join 18 = .ok (.aload 4, 2) := by decide +kernel
theorem dX8_join_20 : decode cX8_join 20 = .ok (.invokestatic 210, 3) := by decide +kernel
theorem dX8_join_23 : decode cX8_join 23 = .ok (.aload 5, 2) := by decide +kernel
theorem dX8_join_25 : decode cX8_join 25 = .ok (.invokestatic 210, 3) := by decide +kernel
theorem dX8_join_28 : decode cX8_join 28 = .ok (.aload_n 0, 1) := by decide +kernel
theorem dX8_join_29 : decode cX8_join 29 = .ok (.invokevirtual 91, 3) := by decide +kernel
theorem dX8_join_32 : decode cX8_join 32 = .ok (.aload_n 0, 1) := by decide +kernel
theorem dX8_join_33 : decode cX8_join 33 = .ok (.getfield 61, 3) := by decide +kernel
theorem dX8_join_36 : decode cX8_join 36 = .ok (.invokevirtual 169, 3) := by decide +kernel
theorem dX8_join_39 : decode cX8_join 39 = .ok (.aload_n 0, 1) := by decide +kernel
theorem dX8_join_40 : decode cX8_join 40 = .ok (.aload 4, 2) := by decide +kernel
theorem dX8_join_42 : decode cX8_join 42 = .ok (.aload 5, 2) := by decide +kernel
theorem dX8_join_44 : decode cX8_join 44 = .ok (.iload_n 3, 1) := by decide +kernel
theorem dX8_join_45 : decode cX8_join 45 = .ok (.invokevirtual 254, 3) := by decide +kernel
theorem dX8_join_48 : decode cX8_join 48 = .ok (.aload_n 0, 1) := by decide +kernel
theorem dX8_join_49 : decode cX8_join 49 = .ok (.invokevirtual 258, 3) := by decide +kernel
theorem dX8_join_52 : decode cX8_join 52 = .ok (.aload_n 0, 1) := by decide +kernel
theorem dX8_join_53 : decode cX8_join 53 = .ok (.invokevirtual 180, 3) := by decide +kernel
theorem dX8_join_56 : decode cX8_join 56 = .ok (.ireturn, 1) := by decide +kernel
theorem dX8_split_0 : decode cX8_split 0 = .ok (.aload_n 0, 1) := by decide +kernel
theorem dX8_split_1 : decode cX8_split 1 = .ok (.iload_n 1, 1) := by decide +kernel
theorem dX8_split_2 : decode cX8_split 2 = .ok (.invokevirtual 97, 3) := by decide +kernel
theorem dX8_split_5 : decode cX8_split 5 = .ok (.astore_n 3, 1) := by decide +kernel
theorem dX8_split_6 : decode cX8_split 6 = .ok (.aload_n 0, 1) := by decide +kernel
theorem dX8_split_7 : decode cX8_split 7 = .ok (.iload_n 2, 1) := by decide +kernel
theorem dX8_split_8 : decode cX8_split 8 = .ok (.invokevirtual 97, 3) := by decide +kernel
theorem dX8_split_11 : decode cX8_split 11 = .ok (.astore 4, 2) := by decide +kernel
theorem dX8_split_13 : decode cX8_split 13 = .ok (.aload_n 0, 1) := by decide +kernel
theorem dX8_split_14 : decode cX8_split 14 = .ok (.invokevirtual 91, 3) := by decide +kernel
theorem dX8_split_17 : decode cX8_split 17 = .ok (.aload_n 0, 1) := by decide +kernel
theorem dX8_split_18 : decode cX8_split 18 = .ok (.aload_n 3, 1) := by decide +kernel
theorem dX8_split_19 : decode cX8_split 19 = .ok (.aload 4, 2) := by decide +kernel
theorem dX8_split_21 : decode cX8_split 21 = .ok (.invokevirtual 261, 3) := by decide +kernel
theorem dX8_split_24 : decode cX8_split 24 = .ok (.aload_n 0, 1) := by decide +kernel
theorem dX8_split_25 : decode cX8_split 25 = .ok (.invokevirtual 258, 3) := by decide +kernel
theorem dX8_split_28 : decode cX8_split 28 = .ok (.aload_n 0, 1) := by decide +kernel
theorem dX8_split_29 : decode cX8_split 29 = .ok (.invokevirtual 180, 3) := by decide +kernel
theorem dX8_split_32 : decode cX8_split 32 = .ok (.ireturn, 1) := by decide +kernel
theorem dX8_group_0 : decode cX8_group 0 = .ok (.aload_n 0, 1) := by decide +kernel
theorem dX8_group_1 : decode cX8_group 1 = .ok (.iload_n 1, 1) := by decide +kernel
theorem dX8_group_2 : decode cX8_group 2 = .ok (.invokevirtual 97, 3) := by decide +kernel
theorem dX8_group_5 : decode cX8_group 5 = .ok (.astore_n 3, 1) := by decide +kernel
theorem dX8_group_6 : decode cX8_group 6 = .ok (.iload_n 2, 1) := by decide +kernel
theorem dX8_group_7 : decode cX8_group 7 = .ok (.invokestatic 251, 3) := by decide +kernel
theorem dX8_group_10 : decode cX8_group 10 = .ok (.aload_n 3, 1) := by decide +kernel
theorem dX8_group_11 : decode cX8_group 11 = .ok (.invokevirtual 265, 3) := by decide +kernel
theorem dX8_group_14 : decode cX8_group 14 = .ok (.ifCond .ne 21, 3) := by decide +kernel
theorem dX8_group_17 : decode cX8_group 17 = .ok (.aload_n 3, 1) := by decide +kernel
theorem dX8_group_18 : decode cX8_group 18 = .ok (.invokevirtual 269, 3) := by decide +kernel
theorem dX8_group_21 : decode cX8_group 21 = .ok (.ifCond .ne 14, 3) := by decide +kernel
theorem dX8_group_24 : decode cX8_group 24 = .ok (.new 134, 3) := by decide +kernel
theorem dX8_group_27 : decode cX8_group 27 = .ok (.dup, 1) := by decide +kernel
theorem dX8_group_28 : decode cX8_group 28 = .ok (.ldc_w 272, 3) := by decide +kernel
