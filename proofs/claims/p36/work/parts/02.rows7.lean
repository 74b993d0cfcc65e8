-- decode rows, part 7
theorem dX8_splitRows_21 : decode cX8_splitRows 21 = .ok (.aload_n 3, 1) := by decide +kernel
theorem dX8_splitRows_22 : decode cX8_splitRows 22 = .ok (.invokevirtual 116, 3) := by decide +kernel
theorem dX8_splitRows_25 : decode cX8_splitRows 25 = .ok (.aload_n 0, 1) := by decide +kernel
theorem dX8_splitRows_26 : decode cX8_splitRows 26 = .ok (.getfield 363, 3) := by decide +kernel
theorem dX8_splitRows_29 : decode cX8_splitRows 29 = .ok (.invokestatic 155, 3) := by decide +kernel
theorem dX8_splitRows_32 : decode cX8_splitRows 32 = .ok (.aload_n 0, 1) := by decide +kernel
theorem dX8_splitRows_33 : decode cX8_splitRows 33 = .ok (.getfield 364, 3) := by decide +kernel
theorem dX8_splitRows_36 : decode cX8_splitRows 36 = .ok (.iconst 2, 1) := by decide +kernel
theorem dX8_splitRows_37 : decode cX8_splitRows 37 = .ok (.isub, 1) := by decide +kernel
theorem dX8_splitRows_38 : decode cX8_splitRows 38 = .ok (.if_icmp .gt 11, 3) := by decide +kernel
theorem dX8_splitRows_41 : decode cX8_splitRows 41 = .ok (.aload_n 0, 1) := by decide +kernel
theorem dX8_splitRows_42 : decode cX8_splitRows 42 = .ok (.aload_n 1, 1) := by decide +kernel
theorem dX8_splitRows_43 : decode cX8_splitRows 43 = .ok (.aload_n 2, 1) := by decide +kernel
theorem dX8_splitRows_44 : decode cX8_splitRows 44 = .ok (.aload_n 3, 1) := by decide +kernel
theorem dX8_splitRows_45 : decode cX8_splitRows 45 = .ok (.invokestatic 369, 3) := by decide +kernel
theorem dX8_splitRows_48 : decode cX8_splitRows 48 = .ok (.return_, 1) := by decide +kernel
theorem dX8_splitRows_49 : decode cX8_splitRows 49 = .ok (.aload_n 1, 1) := by decide +kernel
theorem dX8_splitRows_50 : decode cX8_splitRows 50 = .ok (.dup, 1) := by decide +kernel
theorem dX8_splitRows_51 : decode cX8_splitRows 51 = .ok (.getfield 173, 3) := by decide +kernel
theorem dX8_splitRows_54 : decode cX8_splitRows 54 = .ok (.aload_n 2, 1) := by decide +kernel
theorem dX8_splitRows_55 : decode cX8_splitRows 55 = .ok (.invokevirtual 116, 3) := by decide +kernel
theorem dX8_splitRows_58 : decode cX8_splitRows 58 = .ok (.aload_n 0, 1) := by decide +kernel
theorem dX8_splitRows_59 : decode cX8_splitRows 59 = .ok (.getfield 363, 3) := by decide +kernel
theorem dX8_splitRows_62 : decode cX8_splitRows 62 = .ok (.invokestatic 155, 3) := by decide +kernel
theorem dX8_splitRows_65 : decode cX8_splitRows 65 = .ok (.aload_n 3, 1) := by decide +kernel
theorem dX8_splitRows_66 : decode cX8_splitRows 66 = .ok (.invokevirtual 116, 3) := by decide +kernel
theorem dX8_splitRows_69 : decode cX8_splitRows 69 = .ok (.aload_n 0, 1) := by decide +kernel
theorem dX8_splitRows_70 : decode cX8_splitRows 70 = .ok (.getfield 363, 3) := by decide +kernel
theorem dX8_splitRows_73 : decode cX8_splitRows 73 = .ok (.invokestatic 155, 3) := by decide +kernel
theorem dX8_splitRows_76 : decode cX8_splitRows 76 = .ok (.iadd, 1) := by decide +kernel
theorem dX8_splitRows_77 : decode cX8_splitRows 77 = .ok (.iadd, 1) := by decide +kernel
theorem dX8_splitRows_78 : decode cX8_splitRows 78 = .ok (.putfield 173, 3) := by decide +kernel
theorem dX8_splitRows_81 : decode cX8_splitRows 81 = .ok (.aload_n 0, 1) := by decide +kernel
theorem dX8_splitRows_82 : decode cX8_splitRows 82 = .ok (.getfield 364, 3) := by decide +kernel
theorem dX8_splitRows_85 : decode cX8_splitRows 85 = .ok (.iconst 1, 1) := by decide +kernel
theorem dX8_splitRows_86 : decode cX8_splitRows 86 = .ok (.isub, 1) := by decide +kernel
theorem dX8_splitRows_87 : decode cX8_splitRows 87 = .ok (.istore 5, 2) := by decide +kernel
theorem dX8_splitRows_89 : decode cX8_splitRows 89 = .ok (.iconst 0, 1) := by decide +kernel
theorem dX8_splitRows_90 : decode cX8_splitRows 90 = .ok (.istore 6, 2) := by decide +kernel
theorem dX8_splitRows_92 : decode cX8_splitRows 92 = .ok (.iload 6, 2) := by decide +kernel
theorem dX8_splitRows_94 : decode cX8_splitRows 94 = .ok (.iload 5, 2) := by decide +kernel
theorem dX8_splitRows_96 : decode cX8_splitRows 96 = .ok (.if_icmp .ge 86, 3) := by decide +kernel
theorem dX8_splitRows_99 : decode cX8_splitRows 99 = .ok (.aload_n 0, 1) := by decide +kernel
theorem dX8_splitRows_100 : decode cX8_splitRows 100 = .ok (.aload_n 2, 1) := by decide +kernel
theorem dX8_splitRows_101 : decode cX8_splitRows 101 = .ok (.iload 4, 2) := by decide +kernel
theorem dX8_splitRows_103 : decode cX8_splitRows 103 = .ok (.iload 6, 2) := by decide +kernel
theorem dX8_splitRows_105 : decode cX8_splitRows 105 = .ok (.invokevirtual 373, 3) := by decide +kernel
theorem dX8_splitRows_108 : decode cX8_splitRows 108 = .ok (.astore 7, 2) := by decide +kernel
theorem dX8_splitRows_110 : decode cX8_splitRows 110 = .ok (.aload_n 0, 1) := by decide +kernel
theorem dX8_splitRows_111 : decode cX8_splitRows 111 = .ok (.aload_n 3, 1) := by decide +kernel
theorem dX8_splitRows_112 : decode cX8_splitRows 112 = .ok (.iload 4, 2) := by decide +kernel
theorem dX8_splitRows_114 : decode cX8_splitRows 114 = .ok (.iload 6, 2) := by decide +kernel
theorem dX8_splitRows_116 : decode cX8_splitRows 116 = .ok (.invokevirtual 377, 3) := by decide +kernel
theorem dX8_splitRows_119 : decode cX8_splitRows 119 = .ok (.astore 8, 2) := by decide +kernel
theorem dX8_splitRows_121 : decode cX8_splitRows 121 = .ok (.aload_n 1, 1) := by decide +kernel
theorem dX8_splitRows_122 : decode cX8_splitRows 122 = .ok (.dup, 1) := by decide +kernel
theorem dX8_splitRows_123 : decode cX8_splitRows 123 = .ok (.getfield 175, 3) := by decide +kernel
theorem dX8_splitRows_126 : decode cX8_splitRows 126 = .ok (.aload 7, 2) := by decide +kernel
theorem dX8_splitRows_128 : decode cX8_splitRows 128 = .ok (.invokevirtual 116, 3) := by decide +kernel
theorem dX8_splitRows_131 : decode cX8_splitRows 131 = .ok (.aload_n 0, 1) := by decide +kernel
theorem dX8_splitRows_132 : decode cX8_splitRows 132 = .ok (.getfield 363, 3) := by decide +kernel
theorem dX8_splitRows_135 : decode cX8_splitRows 135 = .ok (.invokestatic 155, 3) := by decide +kernel
theorem dX8_splitRows_138 : decode cX8_splitRows 138 = .ok (.iadd, 1) := by decide +kernel
theorem dX8_splitRows_139 : decode cX8_splitRows 139 = .ok (.putfield 175, 3) := by decide +kernel
theorem dX8_splitRows_142 : decode cX8_splitRows 142 = .ok (.aload_n 1, 1) := by decide +kernel
theorem dX8_splitRows_143 : decode cX8_splitRows 143 = .ok (.dup, 1) := by decide +kernel
theorem dX8_splitRows_144 : decode cX8_splitRows 144 = .ok (.getfield 175, 3) := by decide +kernel
theorem dX8_splitRows_147 : decode cX8_splitRows 147 = .ok (.aload 8, 2) := by decide +kernel
theorem dX8_splitRows_149 : decode cX8_splitRows 149 = .ok (.invokevirtual 116, 3) := by decide +kernel
theorem dX8_splitRows_152 : decode cX8_splitRows 152 = .ok (.aload_n 0, 1) := by decide +kernel
theorem dX8_splitRows_153 : decode cX8_splitRows 153 = .ok (.getfield 363, 3) := by decide +kernel
theorem dX8_splitRows_156 : decode cX8_splitRows 156 = .ok (.invokestatic 155, 3) := by decide +kernel
theorem dX8_splitRows_159 : decode cX8_splitRows 159 = .ok (.iadd, 1) := by decide +kernel
theorem dX8_splitRows_160 : decode cX8_splitRows 160 = .ok (.putfield 175, 3) := by decide +kernel
theorem dX8_splitRows_163 : decode cX8_splitRows 163 = .ok (.aload_n 0, 1) := by decide +kernel
theorem dX8_splitRows_164 : decode cX8_splitRows 164 = .ok (.aload_n 1, 1) := by decide +kernel
theorem dX8_splitRows_165 : decode cX8_splitRows 165 = .ok (.aload 7, 2) := by decide +kernel
theorem dX8_splitRows_167 : decode cX8_splitRows 167 = .ok (.aload 8, 2) := by decide +kernel
theorem dX8_splitRows_169 : decode cX8_splitRows 169 = .ok (.iload 4, 2) := by decide +kernel
theorem dX8_splitRows_171 : decode cX8_splitRows 171 = .ok (.iconst 1, 1) := by decide +kernel
theorem dX8_splitRows_172 : decode cX8_splitRows 172 = .ok (.iadd, 1) := by decide +kernel
theorem dX8_splitRows_173 : decode cX8_splitRows 173 = .ok (.invokestatic 365, 3) := by decide +kernel
theorem dX8_splitRows_176 : decode cX8_splitRows 176 = .ok (.iinc 6 1, 3) := by decide +kernel
theorem dX8_splitRows_179 : decode cX8_splitRows 179 = .ok (.goto (-87), 3) := by decide +kernel
theorem dX8_splitRows_182 : decode cX8_splitRows 182 = .ok (.return_, 1) := by decide +kernel
theorem dX8_pairByParts_0 : decode cX8_pairByParts 0 = .ok (.iconst 1, 1) := by decide +kernel
theorem dX8_pairByParts_1 : decode cX8_pairByParts 1 = .ok (.aload_n 0, 1) := by decide +kernel
theorem dX8_pairByParts_2 : decode cX8_pairByParts 2 = .ok (.getfield 364, 3) := by decide +kernel
theorem dX8_pairByParts_5 : decode cX8_pairByParts 5 = .ok (.iconst 2, 1) := by decide +kernel
theorem dX8_pairByParts_6 : decode cX8_pairByParts 6 = .ok (.isub, 1) := by decide +kernel
theorem dX8_pairByParts_7 : decode cX8_pairByParts 7 = .ok (.aload_n 0, 1) := by decide +kernel
theorem dX8_pairByParts_8 : decode cX8_pairByParts 8 = .ok (.getfield 363, 3) := by decide +kernel
theorem dX8_pairByParts_11 : decode cX8_pairByParts 11 = .ok (.imul, 1) := by decide +kernel
theorem dX8_pairByParts_12 : decode cX8_pairByParts 12 = .ok (.invokestatic 380, 3) := by decide +kernel
theorem dX8_pairByParts_15 : decode cX8_pairByParts 15 = .ok (.istore 4, 2) := by decide +kernel
theorem dX8_pairByParts_17 : decode cX8_pairByParts 17 = .ok (.iconst 0, 1) := by decide +kernel
theorem dX8_pairByParts_18 : decode cX8_pairByParts 18 = .ok (.istore 5, 2) := by decide +kernel
theorem dX8_pairByParts_20 : decode cX8_pairByParts 20 = .ok (.iload 5, 2) := by decide +kernel
theorem dX8_pairByParts_22 : decode cX8_pairByParts 22 = .ok (.aload_n 3, 1) := by decide +kernel
theorem dX8_pairByParts_23 : decode cX8_pairByParts 23 = .ok (.invokevirtual 116, 3) := by decide +kernel
theorem dX8_pairByParts_26 : decode cX8_pairByParts 26 = .ok (.if_icmp .ge 120, 3) := by decide +kernel
theorem dX8_pairByParts_29 : decode cX8_pairByParts 29 = .ok (.iload 5, 2) := by decide +kernel
theorem dX8_pairByParts_31 : decode cX8_pairByParts 31 = .ok (.iload 4, 2) := by decide +kernel
theorem dX8_pairByParts_33 : decode cX8_pairByParts 33 = .ok (.iadd, 1) := by decide +kernel
theorem dX8_pairByParts_34 : decode cX8_pairByParts 34 = .ok (.aload_n 3, 1) := by decide +kernel
theorem dX8_pairByParts_35 : decode cX8_pairByParts 35 = .ok (.invokevirtual 116, 3) := by decide +kernel
theorem dX8_pairByParts_38 : decode cX8_pairByParts 38 = .ok (.invokestatic 383, 3) := by decide +kernel
theorem dX8_pairByParts_41 : decode cX8_pairByParts 41 = .ok (.istore 6, 2) := by decide +kernel
theorem dX8_pairByParts_43 : decode cX8_pairByParts 43 = .ok (.aload_n 1, 1) := by decide +kernel
theorem dX8_pairByParts_44 : decode cX8_pairByParts 44 = .ok (.dup, 1) := by decide +kernel
theorem dX8_pairByParts_45 : decode cX8_pairByParts 45 = .ok (.getfield 173, 3) := by decide +kernel
theorem dX8_pairByParts_48 : decode cX8_pairByParts 48 = .ok (.iload 6, 2) := by decide +kernel
theorem dX8_pairByParts_50 : decode cX8_pairByParts 50 = .ok (.iload 5, 2) := by decide +kernel
theorem dX8_pairByParts_52 : decode cX8_pairByParts 52 = .ok (.isub, 1) := by decide +kernel
theorem dX8_pairByParts_53 : decode cX8_pairByParts 53 = .ok (.aload_n 0, 1) := by decide +kernel
theorem dX8_pairByParts_54 : decode cX8_pairByParts 54 = .ok (.getfield 363, 3) := by decide +kernel
theorem dX8_pairByParts_57 : decode cX8_pairByParts 57 = .ok (.invokestatic 155, 3) := by decide +kernel
theorem dX8_pairByParts_60 : decode cX8_pairByParts 60 = .ok (.aload_n 2, 1) := by decide +kernel
theorem dX8_pairByParts_61 : decode cX8_pairByParts 61 = .ok (.invokevirtual 116, 3) := by decide +kernel
theorem dX8_pairByParts_64 : decode cX8_pairByParts 64 = .ok (.aload_n 0, 1) := by decide +kernel
theorem dX8_pairByParts_65 : decode cX8_pairByParts 65 = .ok (.getfield 363, 3) := by decide +kernel
theorem dX8_pairByParts_68 : decode cX8_pairByParts 68 = .ok (.invokestatic 155, 3) := by decide +kernel
theorem dX8_pairByParts_71 : decode cX8_pairByParts 71 = .ok (.iadd, 1) := by decide +kernel
theorem dX8_pairByParts_72 : decode cX8_pairByParts 72 = .ok (.iadd, 1) := by decide +kernel
theorem dX8_pairByParts_73 : decode cX8_pairByParts 73 = .ok (.putfield 173, 3) := by decide +kernel
theorem dX8_pairByParts_76 : decode cX8_pairByParts 76 = .ok (.iconst 0, 1) := by decide +kernel
theorem dX8_pairByParts_77 : decode cX8_pairByParts 77 = .ok (.istore 7, 2) := by decide +kernel
theorem dX8_pairByParts_79 : decode cX8_pairByParts 79 = .ok (.iload 7, 2) := by decide +kernel
theorem dX8_pairByParts_81 : decode cX8_pairByParts 81 = .ok (.aload_n 2, 1) := by decide +kernel
theorem dX8_pairByParts_82 : decode cX8_pairByParts 82 = .ok (.invokevirtual 116, 3) := by decide +kernel
theorem dX8_pairByParts_85 : decode cX8_pairByParts 85 = .ok (.if_icmp .ge 51, 3) := by decide +kernel
theorem dX8_pairByParts_88 : decode cX8_pairByParts 88 = .ok (.iload 5, 2) := by decide +kernel
theorem dX8_pairByParts_90 : decode cX8_pairByParts 90 = .ok (.istore 8, 2) := by decide +kernel
theorem dX8_pairByParts_92 : decode cX8_pairByParts 92 = .ok (.iload 8, 2) := by decide +kernel
theorem dX8_pairByParts_94 : decode cX8_pairByParts 94 = .ok (.iload 6, 2) := by decide +kernel
theorem dX8_pairByParts_96 : decode cX8_pairByParts 96 = .ok (.if_icmp .ge 34, 3) := by decide +kernel
theorem dX8_pairByParts_99 : decode cX8_pairByParts 99 = .ok (.aload_n 2, 1) := by decide +kernel
theorem dX8_pairByParts_100 : decode cX8_pairByParts 100 = .ok (.iload 7, 2) := by decide +kernel
theorem dX8_pairByParts_102 : decode cX8_pairByParts 102 = .ok (.invokevirtual 152, 3) := by decide +kernel
theorem dX8_pairByParts_105 : decode cX8_pairByParts 105 = .ok (.aload_n 3, 1) := by decide +kernel
theorem dX8_pairByParts_106 : decode cX8_pairByParts 106 = .ok (.iload 8, 2) := by decide +kernel
theorem dX8_pairByParts_108 : decode cX8_pairByParts 108 = .ok (.invokevirtual 152, 3) := by decide +kernel
theorem dX8_pairByParts_111 : decode cX8_pairByParts 111 = .ok (.if_icmp .ne 13, 3) := by decide +kernel
theorem dX8_pairByParts_114 : decode cX8_pairByParts 114 = .ok (.aload_n 1, 1) := by decide +kernel
theorem dX8_pairByParts_115 : decode cX8_pairByParts 115 = .ok (.aload_n 2, 1) := by decide +kernel
theorem dX8_pairByParts_116 : decode cX8_pairByParts 116 = .ok (.iload 7, 2) := by decide +kernel
theorem dX8_pairByParts_118 : decode cX8_pairByParts 118 = .ok (.aload_n 3, 1) := by decide +kernel
theorem dX8_pairByParts_119 : decode cX8_pairByParts 119 = .ok (.iload 8, 2) := by decide +kernel
theorem dX8_pairByParts_121 : decode cX8_pairByParts 121 = .ok (.invokevirtual 359, 3) := by decide +kernel
theorem dX8_pairByParts_124 : decode cX8_pairByParts 124 = .ok (.iinc 8 1, 3) := by decide +kernel
theorem dX8_pairByParts_127 : decode cX8_pairByParts 127 = .ok (.goto (-35), 3) := by decide +kernel
theorem dX8_pairByParts_130 : decode cX8_pairByParts 130 = .ok (.iinc 7 1, 3) := by decide +kernel
theorem dX8_pairByParts_133 : decode cX8_pairByParts 133 = .ok (.goto (-54), 3) := by decide +kernel
theorem dX8_pairByParts_136 : decode cX8_pairByParts 136 = .ok (.iload 5, 2) := by decide +kernel
theorem dX8_pairByParts_138 : decode cX8_pairByParts 138 = .ok (.iload 4, 2) := by decide +kernel
theorem dX8_pairByParts_140 : decode cX8_pairByParts 140 = .ok (.iadd, 1) := by decide +kernel
theorem dX8_pairByParts_141 : decode cX8_pairByParts 141 = .ok (.istore 5, 2) := by decide +kernel
theorem dX8_pairByParts_143 : decode cX8_pairByParts 143 = .ok (.goto (-123), 3) := by decide +kernel
theorem dX8_pairByParts_146 : decode cX8_pairByParts 146 = .ok (.return_, 1) := by decide +kernel
theorem dX8_giveGroups_0 : decode cX8_giveGroups 0 = .ok (.iconst 0, 1) := by decide +kernel
theorem dX8_giveGroups_1 : decode cX8_giveGroups 1 = .ok (.istore_n 3, 1) := by decide +kernel
theorem dX8_giveGroups_2 : decode cX8_giveGroups 2 = .ok (.iconst 0, 1) := by decide +kernel
theorem dX8_giveGroups_3 : decode cX8_giveGroups 3 = .ok (.istore 4, 2) := by decide +kernel
theorem dX8_giveGroups_5 : decode cX8_giveGroups 5 = .ok (.iload 4, 2) := by decide +kernel
theorem dX8_giveGroups_7 : decode cX8_giveGroups 7 = .ok (.aload_n 1, 1) := by decide +kernel
theorem dX8_giveGroups_8 : decode cX8_giveGroups 8 = .ok (.invokevirtual 116, 3) := by decide +kernel
theorem dX8_giveGroups_11 : decode cX8_giveGroups 11 = .ok (.if_icmp .ge 106, 3) := by decide +kernel
theorem dX8_giveGroups_14 : decode cX8_giveGroups 14 = .ok (.aload_n 1, 1) := by decide +kernel
theorem dX8_giveGroups_15 : decode cX8_giveGroups 15 = .ok (.iload 4, 2) := by decide +kernel
theorem dX8_giveGroups_17 : decode cX8_giveGroups 17 = .ok (.invokevirtual 152, 3) := by decide +kernel
theorem dX8_giveGroups_20 : decode cX8_giveGroups 20 = .ok (.istore 5, 2) := by decide +kernel
theorem dX8_giveGroups_22 : decode cX8_giveGroups 22 = .ok (.iload 4, 2) := by decide +kernel
theorem dX8_giveGroups_24 : decode cX8_giveGroups 24 = .ok (.ifCond .eq 16, 3) := by decide +kernel
theorem dX8_giveGroups_27 : decode cX8_giveGroups 27 = .ok (.aload_n 1, 1) := by decide +kernel
theorem dX8_giveGroups_28 : decode cX8_giveGroups 28 = .ok (.iload 4, 2) := by decide +kernel
theorem dX8_giveGroups_30 : decode cX8_giveGroups 30 = .ok (.iconst 1, 1) := by decide +kernel
theorem dX8_giveGroups_31 : decode cX8_giveGroups 31 = .ok (.isub, 1) := by decide +kernel
theorem dX8_giveGroups_32 : decode cX8_giveGroups 32 = .ok (.invokevirtual 152, 3) := by decide +kernel
theorem dX8_giveGroups_35 : decode cX8_giveGroups 35 = .ok (.iload 5, 2) := by decide +kernel
theorem dX8_giveGroups_37 : decode cX8_giveGroups 37 = .ok (.if_icmp .eq 7, 3) := by decide +kernel
theorem dX8_giveGroups_40 : decode cX8_giveGroups 40 = .ok (.iconst 1, 1) := by decide +kernel
theorem dX8_giveGroups_41 : decode cX8_giveGroups 41 = .ok (.goto 4, 3) := by decide +kernel
theorem dX8_giveGroups_44 : decode cX8_giveGroups 44 = .ok (.iconst 0, 1) := by decide +kernel
theorem dX8_giveGroups_45 : decode cX8_giveGroups 45 = .ok (.istore 6, 2) := by decide +kernel
theorem dX8_giveGroups_47 : decode cX8_giveGroups 47 = .ok (.iload 6, 2) := by decide +kernel
theorem dX8_giveGroups_49 : decode cX8_giveGroups 49 = .ok (.ifCond .eq 16, 3) := by decide +kernel
theorem dX8_giveGroups_52 : decode cX8_giveGroups 52 = .ok (.iload_n 2, 1) := by decide +kernel
theorem dX8_giveGroups_53 : decode cX8_giveGroups 53 = .ok (.aload_n 1, 1) := by decide +kernel
theorem dX8_giveGroups_54 : decode cX8_giveGroups 54 = .ok (.iload 4, 2) := by decide +kernel
theorem dX8_giveGroups_56 : decode cX8_giveGroups 56 = .ok (.invokevirtual 148, 3) := by decide +kernel
theorem dX8_giveGroups_59 : decode cX8_giveGroups 59 = .ok (.invokestatic 386, 3) := by decide +kernel
theorem dX8_giveGroups_62 : decode cX8_giveGroups 62 = .ok (.goto 14, 3) := by decide +kernel
theorem dX8_giveGroups_65 : decode cX8_giveGroups 65 = .ok (.iload_n 2, 1) := by decide +kernel
theorem dX8_giveGroups_66 : decode cX8_giveGroups 66 = .ok (.iload_n 3, 1) := by decide +kernel
theorem dX8_giveGroups_67 : decode cX8_giveGroups 67 = .ok (.aload_n 1, 1) := by decide +kernel
theorem dX8_giveGroups_68 : decode cX8_giveGroups 68 = .ok (.iload 4, 2) := by decide +kernel
theorem dX8_giveGroups_70 : decode cX8_giveGroups 70 = .ok (.invokevirtual 148, 3) := by decide +kernel
theorem dX8_giveGroups_73 : decode cX8_giveGroups 73 = .ok (.invokestatic 389, 3) := by decide +kernel
theorem dX8_giveGroups_76 : decode cX8_giveGroups 76 = .ok (.istore_n 3, 1) := by decide +kernel
theorem dX8_giveGroups_77 : decode cX8_giveGroups 77 = .ok (.aload_n 1, 1) := by decide +kernel
theorem dX8_giveGroups_78 : decode cX8_giveGroups 78 = .ok (.iload 4, 2) := by decide +kernel
theorem dX8_giveGroups_80 : decode cX8_giveGroups 80 = .ok (.iconst 1, 1) := by decide +kernel
theorem dX8_giveGroups_81 : decode cX8_giveGroups 81 = .ok (.iadd, 1) := by decide +kernel
theorem dX8_giveGroups_82 : decode cX8_giveGroups 82 = .ok (.invokevirtual 139, 3) := by decide +kernel
theorem dX8_giveGroups_85 : decode cX8_giveGroups 85 = .ok (.ifCond .eq 16, 3) := by decide +kernel
theorem dX8_giveGroups_88 : decode cX8_giveGroups 88 = .ok (.aload_n 1, 1) := by decide +kernel
theorem dX8_giveGroups_89 : decode cX8_giveGroups 89 = .ok (.iload 4, 2) := by decide +kernel
theorem dX8_giveGroups_91 : decode cX8_giveGroups 91 = .ok (.iconst 1, 1) := by decide +kernel
theorem dX8_giveGroups_92 : decode cX8_giveGroups 92 = .ok (.iadd, 1) := by decide +kernel
theorem dX8_giveGroups_93 : decode cX8_giveGroups 93 = .ok (.invokevirtual 152, 3) := by decide +kernel
theorem dX8_giveGroups_96 : decode cX8_giveGroups 96 = .ok (.iload 5, 2) := by decide +kernel
theorem dX8_giveGroups_98 : decode cX8_giveGroups 98 = .ok (.if_icmp .eq 13, 3) := by decide +kernel
theorem dX8_giveGroups_101 : decode cX8_giveGroups 101 = .ok (.aload_n 0, 1) := by decide +kernel
theorem dX8_giveGroups_102 : decode cX8_giveGroups 102 = .ok (.getfield 61, 3) := by decide +kernel
theorem dX8_giveGroups_105 : decode cX8_giveGroups 105 = .ok (.iload 5, 2) := by decide +kernel
theorem dX8_giveGroups_107 : decode cX8_giveGroups 107 = .ok (.iload_n 3, 1) := by decide +kernel
theorem dX8_giveGroups_108 : decode cX8_giveGroups 108 = .ok (.invokevirtual 347, 3) := by decide +kernel
theorem dX8_giveGroups_111 : decode cX8_giveGroups 111 = .ok (.iinc 4 1, 3) := by decide +kernel
theorem dX8_giveGroups_114 : decode cX8_giveGroups 114 = .ok (.goto (-109), 3) := by decide +kernel
theorem dX8_giveGroups_117 : decode cX8_giveGroups 117 = .ok (.return_, 1) := by decide +kernel
theorem dX8_startMark_0 : decode cX8_startMark 0 = .ok (.iload_n 0, 1) := by decide +kernel
theorem dX8_startMark_1 : decode cX8_startMark 1 = .ok (.ifCond .ne 7, 3) := by decide +kernel
theorem dX8_startMark_4 : decode cX8_startMark 4 = .ok (.iconst 1, 1) := by decide +kernel
theorem dX8_startMark_5 : decode cX8_startMark 5 = .ok (.goto 4, 3) := by decide +kernel
theorem dX8_startMark_8 : decode cX8_startMark 8 = .ok (.iload_n 1, 1) := by decide +kernel
theorem dX8_startMark_9 : decode cX8_startMark 9 = .ok (.ireturn, 1) := by decide +kernel
theorem dX8_moreMark_0 : decode cX8_moreMark 0 = .ok (.iload_n 0, 1) := by decide +kernel
theorem dX8_moreMark_1 : decode cX8_moreMark 1 = .ok (.tableswitch 45 0 2 #[27, 31, 39], 27) := by decide +kernel
theorem dX8_moreMark_28 : decode cX8_moreMark 28 = .ok (.iload_n 1, 1) := by decide +kernel
theorem dX8_moreMark_29 : decode cX8_moreMark 29 = .ok (.iconst 1, 1) := by decide +kernel
theorem dX8_moreMark_30 : decode cX8_moreMark 30 = .ok (.iadd, 1) := by decide +kernel
theorem dX8_moreMark_31 : decode cX8_moreMark 31 = .ok (.ireturn, 1) := by decide +kernel
theorem dX8_moreMark_32 : decode cX8_moreMark 32 = .ok (.iload_n 1, 1) := by decide +kernel
theorem dX8_moreMark_33 : decode cX8_moreMark 33 = .ok (.iload_n 2, 1) := by decide +kernel
theorem dX8_moreMark_34 : decode cX8_moreMark 34 = .ok (.iadd, 1) := by decide +kernel
theorem dX8_moreMark_35 : decode cX8_moreMark 35 = .ok (.sipush 10000, 3) := by decide +kernel
theorem dX8_moreMark_38 : decode cX8_moreMark 38 = .ok (.irem, 1) := by decide +kernel
theorem dX8_moreMark_39 : decode cX8_moreMark 39 = .ok (.ireturn, 1) := by decide +kernel
theorem dX8_moreMark_40 : decode cX8_moreMark 40 = .ok (.iload_n 1, 1) := by decide +kernel
theorem dX8_moreMark_41 : decode cX8_moreMark 41 = .ok (.iload_n 2, 1) := by decide +kernel
theorem dX8_moreMark_42 : decode cX8_moreMark 42 = .ok (.invokestatic 383, 3) := by decide +kernel
theorem dX8_moreMark_45 : decode cX8_moreMark 45 = .ok (.ireturn, 1) := by decide +kernel
theorem dX8_moreMark_46 : decode cX8_moreMark 46 = .ok (.iload_n 1, 1) := by decide +kernel
theorem dX8_moreMark_47 : decode cX8_moreMark 47 = .ok (.iload_n 2, 1) := by decide +kernel
theorem dX8_moreMark_48 : decode cX8_moreMark 48 = .ok (.invokestatic 380, 3) := by decide +kernel
theorem dX8_moreMark_51 : decode cX8_moreMark 51 = .ok (.ireturn, 1) := by decide +kernel
theorem dJ9_floorMod_7cf53_0 : decode cJ9_floorMod_7cf53 0 = .ok (.iload_n 0, 1) := by decide +kernel
theorem dJ9_floorMod_7cf53_1 : decode cJ9_floorMod_7cf53 1 = .ok (.iload_n 1, 1) := by decide +kernel
theorem dJ9_floorMod_7cf53_2 : decode cJ9_floorMod_7cf53 2 = .ok (.irem, 1) := by decide +kernel
theorem dJ9_floorMod_7cf53_3 : decode cJ9_floorMod_7cf53 3 = .ok (.istore_n 2, 1) := by decide +kernel
theorem dJ9_floorMod_7cf53_4 : decode cJ9_floorMod_7cf53 4 = .ok (.iload_n 0, 1) := by decide +kernel
theorem dJ9_floorMod_7cf53_5 : decode cJ9_floorMod_7cf53 5 = .ok (.iload_n 1, 1) := by decide +kernel
theorem dJ9_floorMod_7cf53_6 : decode cJ9_floorMod_7cf53 6 = .ok (.ixor, 1) := by decide +kernel
theorem dJ9_floorMod_7cf53_7 : decode cJ9_floorMod_7cf53 7 = .ok (.ifCond .ge 11, 3) := by decide +kernel
theorem dJ9_floorMod_7cf53_10 : decode cJ9_floorMod_7cf53 10 = .ok (.iload_n 2, 1) := by decide +kernel
theorem dJ9_floorMod_7cf53_11 : decode cJ9_floorMod_7cf53 11 = .ok (.ifCond .eq 7, 3) := by decide +kernel
theorem dJ9_floorMod_7cf53_14 : decode cJ9_floorMod_7cf53 14 = .ok (.iload_n 2, 1) := by decide +kernel
theorem dJ9_floorMod_7cf53_15 : decode cJ9_floorMod_7cf53 15 = .ok (.iload_n 1, 1) := by decide +kernel
theorem dJ9_floorMod_7cf53_16 : decode cJ9_floorMod_7cf53 16 = .ok (.iadd, 1) := by decide +kernel
theorem dJ9_floorMod_7cf53_17 : decode cJ9_floorMod_7cf53 17 = .ok (.ireturn, 1) := by decide +kernel
theorem dJ9_floorMod_7cf53_18 : decode cJ9_floorMod_7cf53 18 = .ok (.iload_n 2, 1) := by decide +kernel
theorem dJ9_floorMod_7cf53_19 : decode cJ9_floorMod_7cf53 19 = .ok (.ireturn, 1) := by decide +kernel
theorem dJ9_abs_0f7a4_0 : decode cJ9_abs_0f7a4 0 = .ok (.iload_n 0, 1) := by decide +kernel
theorem dJ9_abs_0f7a4_1 : decode cJ9_abs_0f7a4 1 = .ok (.ifCond .ge 8, 3) := by decide +kernel
theorem dJ9_abs_0f7a4_4 : decode cJ9_abs_0f7a4 4 = .ok (.iload_n 0, 1) := by decide +kernel
theorem dJ9_abs_0f7a4_5 : decode cJ9_abs_0f7a4 5 = .ok (.ineg, 1) := by decide +kernel
theorem dJ9_abs_0f7a4_6 : decode cJ9_abs_0f7a4 6 = .ok (.goto 4, 3) := by decide +kernel
theorem dJ9_abs_0f7a4_9 : decode cJ9_abs_0f7a4 9 = .ok (.iload_n 0, 1) := by decide +kernel
theorem dJ9_abs_0f7a4_10 : decode cJ9_abs_0f7a4 10 = .ok (.ireturn, 1) := by decide +kernel
theorem dJ9_max_7cf53_0 : decode cJ9_max_7cf53 0 = .ok (.iload_n 0, 1) := by decide +kernel
theorem dJ9_max_7cf53_1 : decode cJ9_max_7cf53 1 = .ok (.iload_n 1, 1) := by decide +kernel
theorem dJ9_max_7cf53_2 : decode cJ9_max_7cf53 2 = .ok (.if_icmp .lt 7, 3) := by decide +kernel
theorem dJ9_max_7cf53_5 : decode cJ9_max_7cf53 5 = .ok (.iload_n 0, 1) := by decide +kernel
theorem dJ9_max_7cf53_6 : decode cJ9_max_7cf53 6 = .ok (.goto 4, 3) := by decide +kernel
theorem dJ9_max_7cf53_9 : decode cJ9_max_7cf53 9 = .ok (.iload_n 1, 1) := by decide +kernel
theorem dJ9_max_7cf53_10 : decode cJ9_max_7cf53 10 = .ok (.ireturn, 1) := by decide +kernel
theorem dJ9_min_7cf53_0 : decode cJ9_min_7cf53 0 = .ok (.iload_n 0, 1) := by decide +kernel
theorem dJ9_min_7cf53_1 : decode cJ9_min_7cf53 1 = .ok (.iload_n 1, 1) := by decide +kernel
theorem dJ9_min_7cf53_2 : decode cJ9_min_7cf53 2 = .ok (.if_icmp .gt 7, 3) := by decide +kernel
theorem dJ9_min_7cf53_5 : decode cJ9_min_7cf53 5 = .ok (.iload_n 0, 1) := by decide +kernel
theorem dJ9_min_7cf53_6 : decode cJ9_min_7cf53 6 = .ok (.goto 4, 3) := by decide +kernel
theorem dJ9_min_7cf53_9 : decode cJ9_min_7cf53 9 = .ok (.iload_n 1, 1) := by decide +kernel
theorem dJ9_min_7cf53_10 : decode cJ9_min_7cf53 10 = .ok (.ireturn, 1) := by decide +kernel
theorem dL_below_0 : decode cL_below 0 = .ok (.iload_n 0, 1) := by decide +kernel
theorem dL_below_1 : decode cL_below 1 = .ok (.ldc 7, 2) := by decide +kernel
theorem dL_below_3 : decode cL_below 3 = .ok (.iand, 1) := by decide +kernel
theorem dL_below_4 : decode cL_below 4 = .ok (.iload_n 1, 1) := by decide +kernel
theorem dL_below_5 : decode cL_below 5 = .ok (.irem, 1) := by decide +kernel
theorem dL_below_6 : decode cL_below 6 = .ok (.ireturn, 1) := by decide +kernel
theorem dL_cell_0 : decode cL_cell 0 = .ok (.iload_n 1, 1) := by decide +kernel
theorem dL_cell_1 : decode cL_cell 1 = .ok (.aload_n 0, 1) := by decide +kernel
theorem dL_cell_2 : decode cL_cell 2 = .ok (.arraylength, 1) := by decide +kernel
theorem dL_cell_3 : decode cL_cell 3 = .ok (.if_icmp .ge 9, 3) := by decide +kernel
theorem dL_cell_6 : decode cL_cell 6 = .ok (.aload_n 0, 1) := by decide +kernel
theorem dL_cell_7 : decode cL_cell 7 = .ok (.iload_n 1, 1) := by decide +kernel
theorem dL_cell_8 : decode cL_cell 8 = .ok (.iaload, 1) := by decide +kernel
theorem dL_cell_9 : decode cL_cell 9 = .ok (.goto 9, 3) := by decide +kernel
theorem dL_cell_12 : decode cL_cell 12 = .ok (.ldc 8, 2) := by decide +kernel
theorem dL_cell_14 : decode cL_cell 14 = .ok (.iload_n 1, 1) := by decide +kernel
theorem dL_cell_15 : decode cL_cell 15 = .ok (.iconst 3, 1) := by decide +kernel
theorem dL_cell_16 : decode cL_cell 16 = .ok (.iadd, 1) := by decide +kernel
theorem dL_cell_17 : decode cL_cell 17 = .ok (.imul, 1) := by decide +kernel
theorem dL_cell_18 : decode cL_cell 18 = .ok (.ireturn, 1) := by decide +kernel
theorem dL_isSame_0 : decode cL_isSame 0 = .ok (.aload_n 0, 1) := by decide +kernel
theorem dL_isSame_1 : decode cL_isSame 1 = .ok (.iload_n 1, 1) := by decide +kernel
theorem dL_isSame_2 : decode cL_isSame 2 = .ok (.invokevirtual 9, 3) := by decide +kernel
theorem dL_isSame_5 : decode cL_isSame 5 = .ok (.aload_n 0, 1) := by decide +kernel
theorem dL_isSame_6 : decode cL_isSame 6 = .ok (.iload_n 2, 1) := by decide +kernel
theorem dL_isSame_7 : decode cL_isSame 7 = .ok (.invokevirtual 9, 3) := by decide +kernel
theorem dL_isSame_10 : decode cL_isSame 10 = .ok (.if_icmp .eq 5, 3) := by decide +kernel
theorem dL_isSame_13 : decode cL_isSame 13 = .ok (.iconst 0, 1) := by decide +kernel
theorem dL_isSame_14 : decode cL_isSame 14 = .ok (.ireturn, 1) := by decide +kernel
theorem dL_isSame_15 : decode cL_isSame 15 = .ok (.iconst 0, 1) := by decide +kernel
theorem dL_isSame_16 : decode cL_isSame 16 = .ok (.istore_n 3, 1) := by decide +kernel
theorem dL_isSame_17 : decode cL_isSame 17 = .ok (.iload_n 3, 1) := by decide +kernel
theorem dL_isSame_18 : decode cL_isSame 18 = .ok (.aload_n 0, 1) := by decide +kernel
theorem dL_isSame_19 : decode cL_isSame 19 = .ok (.iload_n 1, 1) := by decide +kernel
theorem dL_isSame_20 : decode cL_isSame 20 = .ok (.invokevirtual 9, 3) := by decide +kernel
theorem dL_isSame_23 : decode cL_isSame 23 = .ok (.if_icmp .ge 45, 3) := by decide +kernel
theorem dL_isSame_26 : decode cL_isSame 26 = .ok (.aload_n 0, 1) := by decide +kernel
theorem dL_isSame_27 : decode cL_isSame 27 = .ok (.iload_n 1, 1) := by decide +kernel
theorem dL_isSame_28 : decode cL_isSame 28 = .ok (.iload_n 3, 1) := by decide +kernel
theorem dL_isSame_29 : decode cL_isSame 29 = .ok (.iconst 0, 1) := by decide +kernel
theorem dL_isSame_30 : decode cL_isSame 30 = .ok (.invokevirtual 15, 3) := by decide +kernel
theorem dL_isSame_33 : decode cL_isSame 33 = .ok (.aload_n 0, 1) := by decide +kernel
theorem dL_isSame_34 : decode cL_isSame 34 = .ok (.iload_n 2, 1) := by decide +kernel
theorem dL_isSame_35 : decode cL_isSame 35 = .ok (.iload_n 3, 1) := by decide +kernel
theorem dL_isSame_36 : decode cL_isSame 36 = .ok (.iconst 0, 1) := by decide +kernel
theorem dL_isSame_37 : decode cL_isSame 37 = .ok (.invokevirtual 15, 3) := by decide +kernel
theorem dL_isSame_40 : decode cL_isSame 40 = .ok (.if_icmp .ne 20, 3) := by decide +kernel
theorem dL_isSame_43 : decode cL_isSame 43 = .ok (.aload_n 0, 1) := by decide +kernel
theorem dL_isSame_44 : decode cL_isSame 44 = .ok (.iload_n 1, 1) := by decide +kernel
theorem dL_isSame_45 : decode cL_isSame 45 = .ok (.iload_n 3, 1) := by decide +kernel
theorem dL_isSame_46 : decode cL_isSame 46 = .ok (.iconst 1, 1) := by decide +kernel
theorem dL_isSame_47 : decode cL_isSame 47 = .ok (.invokevirtual 15, 3) := by decide +kernel
theorem dL_isSame_50 : decode cL_isSame 50 = .ok (.aload_n 0, 1) := by decide +kernel
theorem dL_isSame_51 : decode cL_isSame 51 = .ok (.iload_n 2, 1) := by decide +kernel
theorem dL_isSame_52 : decode cL_isSame 52 = .ok (.iload_n 3, 1) := by decide +kernel
theorem dL_isSame_53 : decode cL_isSame 53 = .ok (.iconst 1, 1) := by decide +kernel
theorem dL_isSame_54 : decode cL_isSame 54 = .ok (.invokevirtual 15, 3) := by decide +kernel
theorem dL_isSame_57 : decode cL_isSame 57 = .ok (.if_icmp .eq 5, 3) := by decide +kernel
theorem dL_isSame_60 : decode cL_isSame 60 = .ok (.iconst 0, 1) := by decide +kernel
theorem dL_isSame_61 : decode cL_isSame 61 = .ok (.ireturn, 1) := by decide +kernel
theorem dL_isSame_62 : decode cL_isSame 62 = .ok (.iinc 3 1, 3) := by decide +kernel
theorem dL_isSame_65 : decode cL_isSame 65 = .ok (.goto (-48), 3) := by decide +kernel
theorem dL_isSame_68 : decode cL_isSame 68 = .ok (.iconst 1, 1) := by decide +kernel
theorem dL_isSame_69 : decode cL_isSame 69 = .ok (.ireturn, 1) := by decide +kernel
