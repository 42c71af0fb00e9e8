theorem dX9_shows_19 : decode cX9_shows 19 = .ok (.iload 5, 2) := by decide +kernel
theorem dX9_shows_21 : decode cX9_shows 21 = .ok (.ifCond .ne 184, 3) := by decide +kernel
theorem dX9_shows_24 : decode cX9_shows 24 = .ok (.aload_n 0, 1) := by decide +kernel
theorem dX9_shows_25 : decode cX9_shows 25 = .ok (.getfield 107, 3) := by decide +kernel
theorem dX9_shows_28 : decode cX9_shows 28 = .ok (.iload_n 3, 1) := by decide +kernel
theorem dX9_shows_29 : decode cX9_shows 29 = .ok (.dup2, 1) := by decide +kernel
theorem dX9_shows_30 : decode cX9_shows 30 = .ok (.iaload, 1) := by decide +kernel
theorem dX9_shows_31 : decode cX9_shows 31 = .ok (.iconst 1, 1) := by decide +kernel
theorem dX9_shows_32 : decode cX9_shows 32 = .ok (.iadd, 1) := by decide +kernel
theorem dX9_shows_33 : decode cX9_shows 33 = .ok (.iastore, 1) := by decide +kernel
theorem dX9_shows_34 : decode cX9_shows 34 = .ok (.aload_n 0, 1) := by decide +kernel
theorem dX9_shows_35 : decode cX9_shows 35 = .ok (.getfield 107, 3) := by decide +kernel
theorem dX9_shows_38 : decode cX9_shows 38 = .ok (.iload_n 3, 1) := by decide +kernel
theorem dX9_shows_39 : decode cX9_shows 39 = .ok (.iaload, 1) := by decide +kernel
theorem dX9_shows_40 : decode cX9_shows 40 = .ok (.iload_n 2, 1) := by decide +kernel
theorem dX9_shows_41 : decode cX9_shows 41 = .ok (.if_icmp .ge 30, 3) := by decide +kernel
theorem dX9_shows_44 : decode cX9_shows 44 = .ok (.iload 4, 2) := by decide +kernel
theorem dX9_shows_46 : decode cX9_shows 46 = .ok (.aload_n 0, 1) := by decide +kernel
theorem dX9_shows_47 : decode cX9_shows 47 = .ok (.getfield 107, 3) := by decide +kernel
theorem dX9_shows_50 : decode cX9_shows 50 = .ok (.iload_n 3, 1) := by decide +kernel
theorem dX9_shows_51 : decode cX9_shows 51 = .ok (.iaload, 1) := by decide +kernel
theorem dX9_shows_52 : decode cX9_shows 52 = .ok (.invokestatic 208, 3) := by decide +kernel
theorem dX9_shows_55 : decode cX9_shows 55 = .ok (.ifCond .eq 16, 3) := by decide +kernel
theorem dX9_shows_58 : decode cX9_shows 58 = .ok (.aload_n 0, 1) := by decide +kernel
theorem dX9_shows_59 : decode cX9_shows 59 = .ok (.getfield 107, 3) := by decide +kernel
theorem dX9_shows_62 : decode cX9_shows 62 = .ok (.iload_n 3, 1) := by decide +kernel
theorem dX9_shows_63 : decode cX9_shows 63 = .ok (.dup2, 1) := by decide +kernel
theorem dX9_shows_64 : decode cX9_shows 64 = .ok (.iaload, 1) := by decide +kernel
theorem dX9_shows_65 : decode cX9_shows 65 = .ok (.iconst 1, 1) := by decide +kernel
theorem dX9_shows_66 : decode cX9_shows 66 = .ok (.iadd, 1) := by decide +kernel
theorem dX9_shows_67 : decode cX9_shows 67 = .ok (.iastore, 1) := by decide +kernel
theorem dX9_shows_68 : decode cX9_shows 68 = .ok (.goto (-34), 3) := by decide +kernel
theorem dX9_shows_71 : decode cX9_shows 71 = .ok (.aload_n 0, 1) := by decide +kernel
theorem dX9_shows_72 : decode cX9_shows 72 = .ok (.getfield 107, 3) := by decide +kernel
theorem dX9_shows_75 : decode cX9_shows 75 = .ok (.iload_n 3, 1) := by decide +kernel
theorem dX9_shows_76 : decode cX9_shows 76 = .ok (.iaload, 1) := by decide +kernel
theorem dX9_shows_77 : decode cX9_shows 77 = .ok (.iload_n 2, 1) := by decide +kernel
theorem dX9_shows_78 : decode cX9_shows 78 = .ok (.if_icmp .ne 32, 3) := by decide +kernel
theorem dX9_shows_81 : decode cX9_shows 81 = .ok (.iinc 3 (-1), 3) := by decide +kernel
theorem dX9_shows_84 : decode cX9_shows 84 = .ok (.iload 4, 2) := by decide +kernel
theorem dX9_shows_86 : decode cX9_shows 86 = .ok (.iload_n 3, 1) := by decide +kernel
theorem dX9_shows_87 : decode cX9_shows 87 = .ok (.ifCond .ge 7, 3) := by decide +kernel
theorem dX9_shows_90 : decode cX9_shows 90 = .ok (.iconst 0, 1) := by decide +kernel
theorem dX9_shows_91 : decode cX9_shows 91 = .ok (.goto 13, 3) := by decide +kernel
theorem dX9_shows_94 : decode cX9_shows 94 = .ok (.iconst 1, 1) := by decide +kernel
theorem dX9_shows_95 : decode cX9_shows 95 = .ok (.aload_n 0, 1) := by decide +kernel
theorem dX9_shows_96 : decode cX9_shows 96 = .ok (.getfield 107, 3) := by decide +kernel
theorem dX9_shows_99 : decode cX9_shows 99 = .ok (.iload_n 3, 1) := by decide +kernel
theorem dX9_shows_100 : decode cX9_shows 100 = .ok (.iaload, 1) := by decide +kernel
theorem dX9_shows_101 : decode cX9_shows 101 = .ok (.ishl, 1) := by decide +kernel
theorem dX9_shows_102 : decode cX9_shows 102 = .ok (.iconst (-1), 1) := by decide +kernel
theorem dX9_shows_103 : decode cX9_shows 103 = .ok (.ixor, 1) := by decide +kernel
theorem dX9_shows_104 : decode cX9_shows 104 = .ok (.iand, 1) := by decide +kernel
theorem dX9_shows_105 : decode cX9_shows 105 = .ok (.istore 4, 2) := by decide +kernel
theorem dX9_shows_107 : decode cX9_shows 107 = .ok (.goto (-92), 3) := by decide +kernel
theorem dX9_shows_110 : decode cX9_shows 110 = .ok (.aload_n 0, 1) := by decide +kernel
theorem dX9_shows_111 : decode cX9_shows 111 = .ok (.iload_n 3, 1) := by decide +kernel
theorem dX9_shows_112 : decode cX9_shows 112 = .ok (.invokevirtual 292, 3) := by decide +kernel
theorem dX9_shows_115 : decode cX9_shows 115 = .ok (.aload_n 0, 1) := by decide +kernel
theorem dX9_shows_116 : decode cX9_shows 116 = .ok (.aload_n 0, 1) := by decide +kernel
theorem dX9_shows_117 : decode cX9_shows 117 = .ok (.getfield 104, 3) := by decide +kernel
theorem dX9_shows_120 : decode cX9_shows 120 = .ok (.aload_n 0, 1) := by decide +kernel
theorem dX9_shows_121 : decode cX9_shows 121 = .ok (.getfield 107, 3) := by decide +kernel
theorem dX9_shows_124 : decode cX9_shows 124 = .ok (.iload_n 3, 1) := by decide +kernel
theorem dX9_shows_125 : decode cX9_shows 125 = .ok (.iaload, 1) := by decide +kernel
theorem dX9_shows_126 : decode cX9_shows 126 = .ok (.iaload, 1) := by decide +kernel
theorem dX9_shows_127 : decode cX9_shows 127 = .ok (.invokevirtual 295, 3) := by decide +kernel
theorem dX9_shows_130 : decode cX9_shows 130 = .ok (.istore 5, 2) := by decide +kernel
theorem dX9_shows_132 : decode cX9_shows 132 = .ok (.iload 5, 2) := by decide +kernel
theorem dX9_shows_134 : decode cX9_shows 134 = .ok (.ifCond .ne (-119), 3) := by decide +kernel
theorem dX9_shows_137 : decode cX9_shows 137 = .ok (.iload_n 3, 1) := by decide +kernel
theorem dX9_shows_138 : decode cX9_shows 138 = .ok (.iconst 1, 1) := by decide +kernel
theorem dX9_shows_139 : decode cX9_shows 139 = .ok (.iadd, 1) := by decide +kernel
theorem dX9_shows_140 : decode cX9_shows 140 = .ok (.iload_n 1, 1) := by decide +kernel
theorem dX9_shows_141 : decode cX9_shows 141 = .ok (.if_icmp .ge (-126), 3) := by decide +kernel
theorem dX9_shows_144 : decode cX9_shows 144 = .ok (.iload 4, 2) := by decide +kernel
theorem dX9_shows_146 : decode cX9_shows 146 = .ok (.iconst 1, 1) := by decide +kernel
theorem dX9_shows_147 : decode cX9_shows 147 = .ok (.aload_n 0, 1) := by decide +kernel
theorem dX9_shows_148 : decode cX9_shows 148 = .ok (.getfield 107, 3) := by decide +kernel
theorem dX9_shows_151 : decode cX9_shows 151 = .ok (.iload_n 3, 1) := by decide +kernel
theorem dX9_shows_152 : decode cX9_shows 152 = .ok (.iaload, 1) := by decide +kernel
theorem dX9_shows_153 : decode cX9_shows 153 = .ok (.ishl, 1) := by decide +kernel
theorem dX9_shows_154 : decode cX9_shows 154 = .ok (.ior, 1) := by decide +kernel
theorem dX9_shows_155 : decode cX9_shows 155 = .ok (.istore 4, 2) := by decide +kernel
theorem dX9_shows_157 : decode cX9_shows 157 = .ok (.iinc 3 1, 3) := by decide +kernel
theorem dX9_shows_160 : decode cX9_shows 160 = .ok (.aload_n 0, 1) := by decide +kernel
theorem dX9_shows_161 : decode cX9_shows 161 = .ok (.getfield 107, 3) := by decide +kernel
theorem dX9_shows_164 : decode cX9_shows 164 = .ok (.iload_n 3, 1) := by decide +kernel
theorem dX9_shows_165 : decode cX9_shows 165 = .ok (.iconst (-1), 1) := by decide +kernel
theorem dX9_shows_166 : decode cX9_shows 166 = .ok (.iastore, 1) := by decide +kernel
theorem dX9_shows_167 : decode cX9_shows 167 = .ok (.iconst 0, 1) := by decide +kernel
theorem dX9_shows_168 : decode cX9_shows 168 = .ok (.istore 6, 2) := by decide +kernel
theorem dX9_shows_170 : decode cX9_shows 170 = .ok (.iload 6, 2) := by decide +kernel
theorem dX9_shows_172 : decode cX9_shows 172 = .ok (.bipush 10, 2) := by decide +kernel
theorem dX9_shows_174 : decode cX9_shows 174 = .ok (.if_icmp .ge 28, 3) := by decide +kernel
theorem dX9_shows_177 : decode cX9_shows 177 = .ok (.aload_n 0, 1) := by decide +kernel
theorem dX9_shows_178 : decode cX9_shows 178 = .ok (.getfield 110, 3) := by decide +kernel
theorem dX9_shows_181 : decode cX9_shows 181 = .ok (.bipush 10, 2) := by decide +kernel
theorem dX9_shows_183 : decode cX9_shows 183 = .ok (.iload_n 3, 1) := by decide +kernel
theorem dX9_shows_184 : decode cX9_shows 184 = .ok (.imul, 1) := by decide +kernel
theorem dX9_shows_185 : decode cX9_shows 185 = .ok (.iload 6, 2) := by decide +kernel
theorem dX9_shows_187 : decode cX9_shows 187 = .ok (.iadd, 1) := by decide +kernel
theorem dX9_shows_188 : decode cX9_shows 188 = .ok (.aload_n 0, 1) := by decide +kernel
theorem dX9_shows_189 : decode cX9_shows 189 = .ok (.getfield 22, 3) := by decide +kernel
theorem dX9_shows_192 : decode cX9_shows 192 = .ok (.iload 6, 2) := by decide +kernel
theorem dX9_shows_194 : decode cX9_shows 194 = .ok (.iaload, 1) := by decide +kernel
theorem dX9_shows_195 : decode cX9_shows 195 = .ok (.iastore, 1) := by decide +kernel
theorem dX9_shows_196 : decode cX9_shows 196 = .ok (.iinc 6 1, 3) := by decide +kernel
theorem dX9_shows_199 : decode cX9_shows 199 = .ok (.goto (-29), 3) := by decide +kernel
theorem dX9_shows_202 : decode cX9_shows 202 = .ok (.goto (-187), 3) := by decide +kernel
theorem dX9_shows_205 : decode cX9_shows 205 = .ok (.aload_n 0, 1) := by decide +kernel
theorem dX9_shows_206 : decode cX9_shows 206 = .ok (.iconst 0, 1) := by decide +kernel
theorem dX9_shows_207 : decode cX9_shows 207 = .ok (.invokevirtual 292, 3) := by decide +kernel
theorem dX9_shows_210 : decode cX9_shows 210 = .ok (.iload 5, 2) := by decide +kernel
theorem dX9_shows_212 : decode cX9_shows 212 = .ok (.ireturn, 1) := by decide +kernel
theorem dX9_bitsOf_0 : decode cX9_bitsOf 0 = .ok (.iconst 0, 1) := by decide +kernel
theorem dX9_bitsOf_1 : decode cX9_bitsOf 1 = .ok (.istore_n 1, 1) := by decide +kernel
theorem dX9_bitsOf_2 : decode cX9_bitsOf 2 = .ok (.iload_n 0, 1) := by decide +kernel
theorem dX9_bitsOf_3 : decode cX9_bitsOf 3 = .ok (.istore_n 2, 1) := by decide +kernel
theorem dX9_bitsOf_4 : decode cX9_bitsOf 4 = .ok (.iload_n 2, 1) := by decide +kernel
theorem dX9_bitsOf_5 : decode cX9_bitsOf 5 = .ok (.ifCond .eq 15, 3) := by decide +kernel
theorem dX9_bitsOf_8 : decode cX9_bitsOf 8 = .ok (.iinc 1 1, 3) := by decide +kernel
theorem dX9_bitsOf_11 : decode cX9_bitsOf 11 = .ok (.iload_n 2, 1) := by decide +kernel
theorem dX9_bitsOf_12 : decode cX9_bitsOf 12 = .ok (.iload_n 2, 1) := by decide +kernel
theorem dX9_bitsOf_13 : decode cX9_bitsOf 13 = .ok (.iconst 1, 1) := by decide +kernel
theorem dX9_bitsOf_14 : decode cX9_bitsOf 14 = .ok (.isub, 1) := by decide +kernel
theorem dX9_bitsOf_15 : decode cX9_bitsOf 15 = .ok (.iand, 1) := by decide +kernel
theorem dX9_bitsOf_16 : decode cX9_bitsOf 16 = .ok (.istore_n 2, 1) := by decide +kernel
theorem dX9_bitsOf_17 : decode cX9_bitsOf 17 = .ok (.goto (-13), 3) := by decide +kernel
theorem dX9_bitsOf_20 : decode cX9_bitsOf 20 = .ok (.iload_n 1, 1) := by decide +kernel
theorem dX9_bitsOf_21 : decode cX9_bitsOf 21 = .ok (.ireturn, 1) := by decide +kernel
theorem dX9_show_0 : decode cX9_show 0 = .ok (.iconst 0, 1) := by decide +kernel
theorem dX9_show_1 : decode cX9_show 1 = .ok (.istore_n 1, 1) := by decide +kernel
theorem dX9_show_2 : decode cX9_show 2 = .ok (.iconst 0, 1) := by decide +kernel
theorem dX9_show_3 : decode cX9_show 3 = .ok (.istore_n 2, 1) := by decide +kernel
theorem dX9_show_4 : decode cX9_show 4 = .ok (.iload_n 2, 1) := by decide +kernel
theorem dX9_show_5 : decode cX9_show 5 = .ok (.aload_n 0, 1) := by decide +kernel
theorem dX9_show_6 : decode cX9_show 6 = .ok (.getfield 245, 3) := by decide +kernel
theorem dX9_show_9 : decode cX9_show 9 = .ok (.if_icmp .ge 30, 3) := by decide +kernel
theorem dX9_show_12 : decode cX9_show 12 = .ok (.aload_n 0, 1) := by decide +kernel
theorem dX9_show_13 : decode cX9_show 13 = .ok (.getfield 80, 3) := by decide +kernel
theorem dX9_show_16 : decode cX9_show 16 = .ok (.iconst 5, 1) := by decide +kernel
theorem dX9_show_17 : decode cX9_show 17 = .ok (.iload_n 2, 1) := by decide +kernel
theorem dX9_show_18 : decode cX9_show 18 = .ok (.imul, 1) := by decide +kernel
theorem dX9_show_19 : decode cX9_show 19 = .ok (.iaload, 1) := by decide +kernel
theorem dX9_show_20 : decode cX9_show 20 = .ok (.ifCond .ne 13, 3) := by decide +kernel
theorem dX9_show_23 : decode cX9_show 23 = .ok (.aload_n 0, 1) := by decide +kernel
theorem dX9_show_24 : decode cX9_show 24 = .ok (.getfield 104, 3) := by decide +kernel
theorem dX9_show_27 : decode cX9_show 27 = .ok (.iload_n 1, 1) := by decide +kernel
theorem dX9_show_28 : decode cX9_show 28 = .ok (.iload_n 2, 1) := by decide +kernel
theorem dX9_show_29 : decode cX9_show 29 = .ok (.iastore, 1) := by decide +kernel
theorem dX9_show_30 : decode cX9_show 30 = .ok (.iinc 1 1, 3) := by decide +kernel
theorem dX9_show_33 : decode cX9_show 33 = .ok (.iinc 2 1, 3) := by decide +kernel
theorem dX9_show_36 : decode cX9_show 36 = .ok (.goto (-32), 3) := by decide +kernel
theorem dX9_show_39 : decode cX9_show 39 = .ok (.iconst 0, 1) := by decide +kernel
theorem dX9_show_40 : decode cX9_show 40 = .ok (.istore_n 2, 1) := by decide +kernel
theorem dX9_show_41 : decode cX9_show 41 = .ok (.iload_n 2, 1) := by decide +kernel
theorem dX9_show_42 : decode cX9_show 42 = .ok (.bipush 10, 2) := by decide +kernel
theorem dX9_show_44 : decode cX9_show 44 = .ok (.if_icmp .ge 21, 3) := by decide +kernel
theorem dX9_show_47 : decode cX9_show 47 = .ok (.aload_n 0, 1) := by decide +kernel
theorem dX9_show_48 : decode cX9_show 48 = .ok (.getfield 110, 3) := by decide +kernel
theorem dX9_show_51 : decode cX9_show 51 = .ok (.iload_n 2, 1) := by decide +kernel
theorem dX9_show_52 : decode cX9_show 52 = .ok (.aload_n 0, 1) := by decide +kernel
theorem dX9_show_53 : decode cX9_show 53 = .ok (.getfield 22, 3) := by decide +kernel
theorem dX9_show_56 : decode cX9_show 56 = .ok (.iload_n 2, 1) := by decide +kernel
theorem dX9_show_57 : decode cX9_show 57 = .ok (.iaload, 1) := by decide +kernel
theorem dX9_show_58 : decode cX9_show 58 = .ok (.iastore, 1) := by decide +kernel
theorem dX9_show_59 : decode cX9_show 59 = .ok (.iinc 2 1, 3) := by decide +kernel
theorem dX9_show_62 : decode cX9_show 62 = .ok (.goto (-21), 3) := by decide +kernel
theorem dX9_show_65 : decode cX9_show 65 = .ok (.aload_n 0, 1) := by decide +kernel
theorem dX9_show_66 : decode cX9_show 66 = .ok (.invokevirtual 251, 3) := by decide +kernel
theorem dX9_show_69 : decode cX9_show 69 = .ok (.iconst 1, 1) := by decide +kernel
theorem dX9_show_70 : decode cX9_show 70 = .ok (.istore_n 2, 1) := by decide +kernel
theorem dX9_show_71 : decode cX9_show 71 = .ok (.iload_n 2, 1) := by decide +kernel
theorem dX9_show_72 : decode cX9_show 72 = .ok (.iload_n 1, 1) := by decide +kernel
theorem dX9_show_73 : decode cX9_show 73 = .ok (.if_icmp .gt 20, 3) := by decide +kernel
theorem dX9_show_76 : decode cX9_show 76 = .ok (.aload_n 0, 1) := by decide +kernel
theorem dX9_show_77 : decode cX9_show 77 = .ok (.iload_n 2, 1) := by decide +kernel
theorem dX9_show_78 : decode cX9_show 78 = .ok (.iload_n 1, 1) := by decide +kernel
theorem dX9_show_79 : decode cX9_show 79 = .ok (.invokevirtual 298, 3) := by decide +kernel
theorem dX9_show_82 : decode cX9_show 82 = .ok (.ifCond .eq 5, 3) := by decide +kernel
theorem dX9_show_85 : decode cX9_show 85 = .ok (.iload_n 2, 1) := by decide +kernel
theorem dX9_show_86 : decode cX9_show 86 = .ok (.ireturn, 1) := by decide +kernel
theorem dX9_show_87 : decode cX9_show 87 = .ok (.iinc 2 1, 3) := by decide +kernel
theorem dX9_show_90 : decode cX9_show 90 = .ok (.goto (-19), 3) := by decide +kernel
theorem dX9_show_93 : decode cX9_show 93 = .ok (.bipush (-4), 2) := by decide +kernel
theorem dX9_show_95 : decode cX9_show 95 = .ok (.ireturn, 1) := by decide +kernel
theorem dX9_daysOf_0 : decode cX9_daysOf 0 = .ok (.aload_n 0, 1) := by decide +kernel
theorem dX9_daysOf_1 : decode cX9_daysOf 1 = .ok (.getfield 266, 3) := by decide +kernel
theorem dX9_daysOf_4 : decode cX9_daysOf 4 = .ok (.bipush 24, 2) := by decide +kernel
theorem dX9_daysOf_6 : decode cX9_daysOf 6 = .ok (.idiv, 1) := by decide +kernel
theorem dX9_daysOf_7 : decode cX9_daysOf 7 = .ok (.istore 5, 2) := by decide +kernel
theorem dX9_daysOf_9 : decode cX9_daysOf 9 = .ok (.iconst 0, 1) := by decide +kernel
theorem dX9_daysOf_10 : decode cX9_daysOf 10 = .ok (.istore 6, 2) := by decide +kernel
theorem dX9_daysOf_12 : decode cX9_daysOf 12 = .ok (.iload 5, 2) := by decide +kernel
theorem dX9_daysOf_14 : decode cX9_daysOf 14 = .ok (.iload_n 1, 1) := by decide +kernel
theorem dX9_daysOf_15 : decode cX9_daysOf 15 = .ok (.isub, 1) := by decide +kernel
theorem dX9_daysOf_16 : decode cX9_daysOf 16 = .ok (.iconst 1, 1) := by decide +kernel
theorem dX9_daysOf_17 : decode cX9_daysOf 17 = .ok (.iadd, 1) := by decide +kernel
theorem dX9_daysOf_18 : decode cX9_daysOf 18 = .ok (.istore 7, 2) := by decide +kernel
theorem dX9_daysOf_20 : decode cX9_daysOf 20 = .ok (.iload 7, 2) := by decide +kernel
theorem dX9_daysOf_22 : decode cX9_daysOf 22 = .ok (.iload 5, 2) := by decide +kernel
theorem dX9_daysOf_24 : decode cX9_daysOf 24 = .ok (.if_icmp .gt 113, 3) := by decide +kernel
theorem dX9_daysOf_27 : decode cX9_daysOf 27 = .ok (.iconst 0, 1) := by decide +kernel
theorem dX9_daysOf_28 : decode cX9_daysOf 28 = .ok (.istore 8, 2) := by decide +kernel
theorem dX9_daysOf_30 : decode cX9_daysOf 30 = .ok (.iconst 0, 1) := by decide +kernel
theorem dX9_daysOf_31 : decode cX9_daysOf 31 = .ok (.istore 9, 2) := by decide +kernel
theorem dX9_daysOf_33 : decode cX9_daysOf 33 = .ok (.iload 9, 2) := by decide +kernel
theorem dX9_daysOf_35 : decode cX9_daysOf 35 = .ok (.iconst 5, 1) := by decide +kernel
theorem dX9_daysOf_36 : decode cX9_daysOf 36 = .ok (.aload_n 0, 1) := by decide +kernel
theorem dX9_daysOf_37 : decode cX9_daysOf 37 = .ok (.getfield 263, 3) := by decide +kernel
theorem dX9_daysOf_40 : decode cX9_daysOf 40 = .ok (.imul, 1) := by decide +kernel
theorem dX9_daysOf_41 : decode cX9_daysOf 41 = .ok (.if_icmp .ge 75, 3) := by decide +kernel
theorem dX9_daysOf_44 : decode cX9_daysOf 44 = .ok (.iload 8, 2) := by decide +kernel
theorem dX9_daysOf_46 : decode cX9_daysOf 46 = .ok (.ifCond .ne 57, 3) := by decide +kernel
theorem dX9_daysOf_49 : decode cX9_daysOf 49 = .ok (.aload_n 0, 1) := by decide +kernel
theorem dX9_daysOf_50 : decode cX9_daysOf 50 = .ok (.getfield 83, 3) := by decide +kernel
theorem dX9_daysOf_53 : decode cX9_daysOf 53 = .ok (.iload 9, 2) := by decide +kernel
theorem dX9_daysOf_55 : decode cX9_daysOf 55 = .ok (.iconst 1, 1) := by decide +kernel
theorem dX9_daysOf_56 : decode cX9_daysOf 56 = .ok (.iadd, 1) := by decide +kernel
theorem dX9_daysOf_57 : decode cX9_daysOf 57 = .ok (.iaload, 1) := by decide +kernel
theorem dX9_daysOf_58 : decode cX9_daysOf 58 = .ok (.iload 7, 2) := by decide +kernel
theorem dX9_daysOf_60 : decode cX9_daysOf 60 = .ok (.if_icmp .ne 47, 3) := by decide +kernel
theorem dX9_daysOf_63 : decode cX9_daysOf 63 = .ok (.aload_n 0, 1) := by decide +kernel
theorem dX9_daysOf_64 : decode cX9_daysOf 64 = .ok (.getfield 83, 3) := by decide +kernel
theorem dX9_daysOf_67 : decode cX9_daysOf 67 = .ok (.iload 9, 2) := by decide +kernel
theorem dX9_daysOf_69 : decode cX9_daysOf 69 = .ok (.iconst 2, 1) := by decide +kernel
theorem dX9_daysOf_70 : decode cX9_daysOf 70 = .ok (.iadd, 1) := by decide +kernel
theorem dX9_daysOf_71 : decode cX9_daysOf 71 = .ok (.iaload, 1) := by decide +kernel
theorem dX9_daysOf_72 : decode cX9_daysOf 72 = .ok (.iload_n 2, 1) := by decide +kernel
theorem dX9_daysOf_73 : decode cX9_daysOf 73 = .ok (.if_icmp .ne 34, 3) := by decide +kernel
theorem dX9_daysOf_76 : decode cX9_daysOf 76 = .ok (.aload_n 0, 1) := by decide +kernel
theorem dX9_daysOf_77 : decode cX9_daysOf 77 = .ok (.getfield 83, 3) := by decide +kernel
theorem dX9_daysOf_80 : decode cX9_daysOf 80 = .ok (.iload 9, 2) := by decide +kernel
theorem dX9_daysOf_82 : decode cX9_daysOf 82 = .ok (.iconst 3, 1) := by decide +kernel
theorem dX9_daysOf_83 : decode cX9_daysOf 83 = .ok (.iadd, 1) := by decide +kernel
theorem dX9_daysOf_84 : decode cX9_daysOf 84 = .ok (.iaload, 1) := by decide +kernel
theorem dX9_daysOf_85 : decode cX9_daysOf 85 = .ok (.iload_n 3, 1) := by decide +kernel
theorem dX9_daysOf_86 : decode cX9_daysOf 86 = .ok (.if_icmp .ne 21, 3) := by decide +kernel
theorem dX9_daysOf_89 : decode cX9_daysOf 89 = .ok (.aload_n 0, 1) := by decide +kernel
theorem dX9_daysOf_90 : decode cX9_daysOf 90 = .ok (.getfield 83, 3) := by decide +kernel
theorem dX9_daysOf_93 : decode cX9_daysOf 93 = .ok (.iload 9, 2) := by decide +kernel
theorem dX9_daysOf_95 : decode cX9_daysOf 95 = .ok (.iconst 4, 1) := by decide +kernel
theorem dX9_daysOf_96 : decode cX9_daysOf 96 = .ok (.iadd, 1) := by decide +kernel
theorem dX9_daysOf_97 : decode cX9_daysOf 97 = .ok (.iaload, 1) := by decide +kernel
theorem dX9_daysOf_98 : decode cX9_daysOf 98 = .ok (.iload 4, 2) := by decide +kernel
theorem dX9_daysOf_100 : decode cX9_daysOf 100 = .ok (.if_icmp .ne 7, 3) := by decide +kernel
theorem dX9_daysOf_103 : decode cX9_daysOf 103 = .ok (.iconst 1, 1) := by decide +kernel
theorem dX9_daysOf_104 : decode cX9_daysOf 104 = .ok (.goto 4, 3) := by decide +kernel
theorem dX9_daysOf_107 : decode cX9_daysOf 107 = .ok (.iconst 0, 1) := by decide +kernel
theorem dX9_daysOf_108 : decode cX9_daysOf 108 = .ok (.istore 8, 2) := by decide +kernel
theorem dX9_daysOf_110 : decode cX9_daysOf 110 = .ok (.iinc 9 5, 3) := by decide +kernel
theorem dX9_daysOf_113 : decode cX9_daysOf 113 = .ok (.goto (-80), 3) := by decide +kernel
theorem dX9_daysOf_116 : decode cX9_daysOf 116 = .ok (.iload 6, 2) := by decide +kernel
theorem dX9_daysOf_118 : decode cX9_daysOf 118 = .ok (.iload 8, 2) := by decide +kernel
theorem dX9_daysOf_120 : decode cX9_daysOf 120 = .ok (.ifCond .eq 7, 3) := by decide +kernel
theorem dX9_daysOf_123 : decode cX9_daysOf 123 = .ok (.iconst 1, 1) := by decide +kernel
theorem dX9_daysOf_124 : decode cX9_daysOf 124 = .ok (.goto 4, 3) := by decide +kernel
theorem dX9_daysOf_127 : decode cX9_daysOf 127 = .ok (.iconst 0, 1) := by decide +kernel
theorem dX9_daysOf_128 : decode cX9_daysOf 128 = .ok (.iadd, 1) := by decide +kernel
theorem dX9_daysOf_129 : decode cX9_daysOf 129 = .ok (.istore 6, 2) := by decide +kernel
theorem dX9_daysOf_131 : decode cX9_daysOf 131 = .ok (.iinc 7 1, 3) := by decide +kernel
theorem dX9_daysOf_134 : decode cX9_daysOf 134 = .ok (.goto (-114), 3) := by decide +kernel
theorem dX9_daysOf_137 : decode cX9_daysOf 137 = .ok (.iload 6, 2) := by decide +kernel
theorem dX9_daysOf_139 : decode cX9_daysOf 139 = .ok (.ireturn, 1) := by decide +kernel
theorem dX9_habits_0 : decode cX9_habits 0 = .ok (.iload_n 1, 1) := by decide +kernel
theorem dX9_habits_1 : decode cX9_habits 1 = .ok (.i2l, 1) := by decide +kernel
theorem dX9_habits_2 : decode cX9_habits 2 = .ok (.lconst 1, 1) := by decide +kernel
theorem dX9_habits_3 : decode cX9_habits 3 = .ok (.ldc2_w 301, 3) := by decide +kernel
theorem dX9_habits_6 : decode cX9_habits 6 = .ok (.invokestatic 117, 3) := by decide +kernel
theorem dX9_habits_9 : decode cX9_habits 9 = .ok (.ifCond .eq 19, 3) := by decide +kernel
theorem dX9_habits_12 : decode cX9_habits 12 = .ok (.iload_n 2, 1) := by decide +kernel
theorem dX9_habits_13 : decode cX9_habits 13 = .ok (.i2l, 1) := by decide +kernel
theorem dX9_habits_14 : decode cX9_habits 14 = .ok (.lconst 1, 1) := by decide +kernel
theorem dX9_habits_15 : decode cX9_habits 15 = .ok (.iload_n 1, 1) := by decide +kernel
theorem dX9_habits_16 : decode cX9_habits 16 = .ok (.i2l, 1) := by decide +kernel
theorem dX9_habits_17 : decode cX9_habits 17 = .ok (.invokestatic 117, 3) := by decide +kernel
theorem dX9_habits_20 : decode cX9_habits 20 = .ok (.ifCond .eq 8, 3) := by decide +kernel
theorem dX9_habits_23 : decode cX9_habits 23 = .ok (.iload_n 3, 1) := by decide +kernel
theorem dX9_habits_24 : decode cX9_habits 24 = .ok (.iconst (-1), 1) := by decide +kernel
theorem dX9_habits_25 : decode cX9_habits 25 = .ok (.if_icmp .ge 5, 3) := by decide +kernel
theorem dX9_habits_28 : decode cX9_habits 28 = .ok (.iconst (-1), 1) := by decide +kernel
theorem dX9_habits_29 : decode cX9_habits 29 = .ok (.ireturn, 1) := by decide +kernel
theorem dX9_habits_30 : decode cX9_habits 30 = .ok (.iconst 0, 1) := by decide +kernel
theorem dX9_habits_31 : decode cX9_habits 31 = .ok (.istore 4, 2) := by decide +kernel
theorem dX9_habits_33 : decode cX9_habits 33 = .ok (.iconst 0, 1) := by decide +kernel
theorem dX9_habits_34 : decode cX9_habits 34 = .ok (.istore 5, 2) := by decide +kernel
theorem dX9_habits_36 : decode cX9_habits 36 = .ok (.iload 5, 2) := by decide +kernel
theorem dX9_habits_38 : decode cX9_habits 38 = .ok (.sipush 2400, 3) := by decide +kernel
theorem dX9_habits_41 : decode cX9_habits 41 = .ok (.if_icmp .ge 70, 3) := by decide +kernel
theorem dX9_habits_44 : decode cX9_habits 44 = .ok (.iload 5, 2) := by decide +kernel
theorem dX9_habits_46 : decode cX9_habits 46 = .ok (.bipush 10, 2) := by decide +kernel
theorem dX9_habits_48 : decode cX9_habits 48 = .ok (.idiv, 1) := by decide +kernel
theorem dX9_habits_49 : decode cX9_habits 49 = .ok (.bipush 10, 2) := by decide +kernel
theorem dX9_habits_51 : decode cX9_habits 51 = .ok (.irem, 1) := by decide +kernel
theorem dX9_habits_52 : decode cX9_habits 52 = .ok (.istore 6, 2) := by decide +kernel
theorem dX9_habits_54 : decode cX9_habits 54 = .ok (.iload 5, 2) := by decide +kernel
theorem dX9_habits_56 : decode cX9_habits 56 = .ok (.bipush 10, 2) := by decide +kernel
theorem dX9_habits_58 : decode cX9_habits 58 = .ok (.irem, 1) := by decide +kernel
theorem dX9_habits_59 : decode cX9_habits 59 = .ok (.iconst 4, 1) := by decide +kernel
theorem dX9_habits_60 : decode cX9_habits 60 = .ok (.if_icmp .ge 45, 3) := by decide +kernel
theorem dX9_habits_63 : decode cX9_habits 63 = .ok (.aload_n 0, 1) := by decide +kernel
theorem dX9_habits_64 : decode cX9_habits 64 = .ok (.iload 6, 2) := by decide +kernel
theorem dX9_habits_66 : decode cX9_habits 66 = .ok (.invokevirtual 131, 3) := by decide +kernel
theorem dX9_habits_69 : decode cX9_habits 69 = .ok (.ifCond .eq 36, 3) := by decide +kernel
theorem dX9_habits_72 : decode cX9_habits 72 = .ok (.aload_n 0, 1) := by decide +kernel
theorem dX9_habits_73 : decode cX9_habits 73 = .ok (.iload_n 1, 1) := by decide +kernel
theorem dX9_habits_74 : decode cX9_habits 74 = .ok (.iload 5, 2) := by decide +kernel
theorem dX9_habits_76 : decode cX9_habits 76 = .ok (.bipush 100, 2) := by decide +kernel
theorem dX9_habits_78 : decode cX9_habits 78 = .ok (.idiv, 1) := by decide +kernel
theorem dX9_habits_79 : decode cX9_habits 79 = .ok (.iload 6, 2) := by decide +kernel
theorem dX9_habits_81 : decode cX9_habits 81 = .ok (.iload 5, 2) := by decide +kernel
theorem dX9_habits_83 : decode cX9_habits 83 = .ok (.bipush 10, 2) := by decide +kernel
theorem dX9_habits_85 : decode cX9_habits 85 = .ok (.irem, 1) := by decide +kernel
theorem dX9_habits_86 : decode cX9_habits 86 = .ok (.invokevirtual 303, 3) := by decide +kernel
theorem dX9_habits_89 : decode cX9_habits 89 = .ok (.iload_n 2, 1) := by decide +kernel
theorem dX9_habits_90 : decode cX9_habits 90 = .ok (.if_icmp .lt 15, 3) := by decide +kernel
theorem dX9_habits_93 : decode cX9_habits 93 = .ok (.iload 4, 2) := by decide +kernel
theorem dX9_habits_95 : decode cX9_habits 95 = .ok (.iload_n 3, 1) := by decide +kernel
theorem dX9_habits_96 : decode cX9_habits 96 = .ok (.if_icmp .ne 6, 3) := by decide +kernel
theorem dX9_habits_99 : decode cX9_habits 99 = .ok (.iload 5, 2) := by decide +kernel
theorem dX9_habits_101 : decode cX9_habits 101 = .ok (.ireturn, 1) := by decide +kernel
theorem dX9_habits_102 : decode cX9_habits 102 = .ok (.iinc 4 1, 3) := by decide +kernel
theorem dX9_habits_105 : decode cX9_habits 105 = .ok (.iinc 5 1, 3) := by decide +kernel
theorem dX9_habits_108 : decode cX9_habits 108 = .ok (.goto (-72), 3) := by decide +kernel
theorem dX9_habits_111 : decode cX9_habits 111 = .ok (.iload_n 3, 1) := by decide +kernel
theorem dX9_habits_112 : decode cX9_habits 112 = .ok (.ifCond .ge 8, 3) := by decide +kernel
theorem dX9_habits_115 : decode cX9_habits 115 = .ok (.iload 4, 2) := by decide +kernel
theorem dX9_habits_117 : decode cX9_habits 117 = .ok (.goto 5, 3) := by decide +kernel
theorem dX9_habits_120 : decode cX9_habits 120 = .ok (.bipush (-4), 2) := by decide +kernel
theorem dX9_habits_122 : decode cX9_habits 122 = .ok (.ireturn, 1) := by decide +kernel
theorem dX9_keepHabit_0 : decode cX9_keepHabit 0 = .ok (.iload_n 1, 1) := by decide +kernel
theorem dX9_keepHabit_1 : decode cX9_keepHabit 1 = .ok (.i2l, 1) := by decide +kernel
theorem dX9_keepHabit_2 : decode cX9_keepHabit 2 = .ok (.lconst 0, 1) := by decide +kernel
theorem dX9_keepHabit_3 : decode cX9_keepHabit 3 = .ok (.ldc2_w 307, 3) := by decide +kernel
theorem dX9_keepHabit_6 : decode cX9_keepHabit 6 = .ok (.invokestatic 117, 3) := by decide +kernel
theorem dX9_keepHabit_9 : decode cX9_keepHabit 9 = .ok (.ifCond .eq 21, 3) := by decide +kernel
theorem dX9_keepHabit_12 : decode cX9_keepHabit 12 = .ok (.aload_n 0, 1) := by decide +kernel
theorem dX9_keepHabit_13 : decode cX9_keepHabit 13 = .ok (.iload_n 1, 1) := by decide +kernel
theorem dX9_keepHabit_14 : decode cX9_keepHabit 14 = .ok (.bipush 10, 2) := by decide +kernel
theorem dX9_keepHabit_16 : decode cX9_keepHabit 16 = .ok (.idiv, 1) := by decide +kernel
theorem dX9_keepHabit_17 : decode cX9_keepHabit 17 = .ok (.bipush 10, 2) := by decide +kernel
theorem dX9_keepHabit_19 : decode cX9_keepHabit 19 = .ok (.irem, 1) := by decide +kernel
theorem dX9_keepHabit_20 : decode cX9_keepHabit 20 = .ok (.iload_n 1, 1) := by decide +kernel
theorem dX9_keepHabit_21 : decode cX9_keepHabit 21 = .ok (.bipush 10, 2) := by decide +kernel
theorem dX9_keepHabit_23 : decode cX9_keepHabit 23 = .ok (.irem, 1) := by decide +kernel
theorem dX9_keepHabit_24 : decode cX9_keepHabit 24 = .ok (.invokevirtual 282, 3) := by decide +kernel
theorem dX9_keepHabit_27 : decode cX9_keepHabit 27 = .ok (.ifCond .ne 5, 3) := by decide +kernel
theorem dX9_keepHabit_30 : decode cX9_keepHabit 30 = .ok (.iconst (-1), 1) := by decide +kernel
theorem dX9_keepHabit_31 : decode cX9_keepHabit 31 = .ok (.ireturn, 1) := by decide +kernel
theorem dX9_keepHabit_32 : decode cX9_keepHabit 32 = .ok (.aload_n 0, 1) := by decide +kernel
theorem dX9_keepHabit_33 : decode cX9_keepHabit 33 = .ok (.iconst 0, 1) := by decide +kernel
theorem dX9_keepHabit_34 : decode cX9_keepHabit 34 = .ok (.iload_n 1, 1) := by decide +kernel
theorem dX9_keepHabit_35 : decode cX9_keepHabit 35 = .ok (.bipush 100, 2) := by decide +kernel
theorem dX9_keepHabit_37 : decode cX9_keepHabit 37 = .ok (.idiv, 1) := by decide +kernel
theorem dX9_keepHabit_38 : decode cX9_keepHabit 38 = .ok (.iconst 0, 1) := by decide +kernel
theorem dX9_keepHabit_39 : decode cX9_keepHabit 39 = .ok (.iload_n 1, 1) := by decide +kernel
theorem dX9_keepHabit_40 : decode cX9_keepHabit 40 = .ok (.bipush 10, 2) := by decide +kernel
theorem dX9_keepHabit_42 : decode cX9_keepHabit 42 = .ok (.idiv, 1) := by decide +kernel
theorem dX9_keepHabit_43 : decode cX9_keepHabit 43 = .ok (.bipush 10, 2) := by decide +kernel
theorem dX9_keepHabit_45 : decode cX9_keepHabit 45 = .ok (.irem, 1) := by decide +kernel
theorem dX9_keepHabit_46 : decode cX9_keepHabit 46 = .ok (.iload_n 1, 1) := by decide +kernel
theorem dX9_keepHabit_47 : decode cX9_keepHabit 47 = .ok (.bipush 10, 2) := by decide +kernel
theorem dX9_keepHabit_49 : decode cX9_keepHabit 49 = .ok (.irem, 1) := by decide +kernel
theorem dX9_keepHabit_50 : decode cX9_keepHabit 50 = .ok (.invokevirtual 285, 3) := by decide +kernel
theorem dX9_keepHabit_53 : decode cX9_keepHabit 53 = .ok (.ireturn, 1) := by decide +kernel
theorem dX9_forget_0 : decode cX9_forget 0 = .ok (.iload_n 1, 1) := by decide +kernel
theorem dX9_forget_1 : decode cX9_forget 1 = .ok (.i2l, 1) := by decide +kernel
theorem dX9_forget_2 : decode cX9_forget 2 = .ok (.lconst 0, 1) := by decide +kernel
theorem dX9_forget_3 : decode cX9_forget 3 = .ok (.ldc2_w 127, 3) := by decide +kernel
theorem dX9_forget_6 : decode cX9_forget 6 = .ok (.invokestatic 117, 3) := by decide +kernel
theorem dX9_forget_9 : decode cX9_forget 9 = .ok (.ifCond .ne 5, 3) := by decide +kernel
theorem dX9_forget_12 : decode cX9_forget 12 = .ok (.iconst (-1), 1) := by decide +kernel
theorem dX9_forget_13 : decode cX9_forget 13 = .ok (.ireturn, 1) := by decide +kernel
theorem dX9_forget_14 : decode cX9_forget 14 = .ok (.iconst 0, 1) := by decide +kernel
theorem dX9_forget_15 : decode cX9_forget 15 = .ok (.istore_n 2, 1) := by decide +kernel
theorem dX9_forget_16 : decode cX9_forget 16 = .ok (.iconst 0, 1) := by decide +kernel
theorem dX9_forget_17 : decode cX9_forget 17 = .ok (.istore_n 3, 1) := by decide +kernel
theorem dX9_forget_18 : decode cX9_forget 18 = .ok (.iload_n 3, 1) := by decide +kernel
theorem dX9_forget_19 : decode cX9_forget 19 = .ok (.aload_n 0, 1) := by decide +kernel
theorem dX9_forget_20 : decode cX9_forget 20 = .ok (.getfield 263, 3) := by decide +kernel
theorem dX9_forget_23 : decode cX9_forget 23 = .ok (.if_icmp .ge 83, 3) := by decide +kernel
theorem dX9_forget_26 : decode cX9_forget 26 = .ok (.aload_n 0, 1) := by decide +kernel
theorem dX9_forget_27 : decode cX9_forget 27 = .ok (.getfield 83, 3) := by decide +kernel
theorem dX9_forget_30 : decode cX9_forget 30 = .ok (.iconst 5, 1) := by decide +kernel
theorem dX9_forget_31 : decode cX9_forget 31 = .ok (.iload_n 3, 1) := by decide +kernel
theorem dX9_forget_32 : decode cX9_forget 32 = .ok (.imul, 1) := by decide +kernel
theorem dX9_forget_33 : decode cX9_forget 33 = .ok (.iaload, 1) := by decide +kernel
theorem dX9_forget_34 : decode cX9_forget 34 = .ok (.iload_n 1, 1) := by decide +kernel
theorem dX9_forget_35 : decode cX9_forget 35 = .ok (.if_icmp .eq 7, 3) := by decide +kernel
theorem dX9_forget_38 : decode cX9_forget 38 = .ok (.iconst 1, 1) := by decide +kernel
theorem dX9_forget_39 : decode cX9_forget 39 = .ok (.goto 4, 3) := by decide +kernel
theorem dX9_forget_42 : decode cX9_forget 42 = .ok (.iconst 0, 1) := by decide +kernel
theorem dX9_forget_43 : decode cX9_forget 43 = .ok (.istore 4, 2) := by decide +kernel
theorem dX9_forget_45 : decode cX9_forget 45 = .ok (.iconst 0, 1) := by decide +kernel
theorem dX9_forget_46 : decode cX9_forget 46 = .ok (.istore 5, 2) := by decide +kernel
theorem dX9_forget_48 : decode cX9_forget 48 = .ok (.iload 5, 2) := by decide +kernel
theorem dX9_forget_50 : decode cX9_forget 50 = .ok (.iconst 5, 1) := by decide +kernel
theorem dX9_forget_51 : decode cX9_forget 51 = .ok (.if_icmp .ge 36, 3) := by decide +kernel
theorem dX9_forget_54 : decode cX9_forget 54 = .ok (.iload 4, 2) := by decide +kernel
theorem dX9_forget_56 : decode cX9_forget 56 = .ok (.ifCond .eq 31, 3) := by decide +kernel
theorem dX9_forget_59 : decode cX9_forget 59 = .ok (.aload_n 0, 1) := by decide +kernel
theorem dX9_forget_60 : decode cX9_forget 60 = .ok (.getfield 83, 3) := by decide +kernel
theorem dX9_forget_63 : decode cX9_forget 63 = .ok (.iconst 5, 1) := by decide +kernel
theorem dX9_forget_64 : decode cX9_forget 64 = .ok (.iload_n 2, 1) := by decide +kernel
theorem dX9_forget_65 : decode cX9_forget 65 = .ok (.imul, 1) := by decide +kernel
theorem dX9_forget_66 : decode cX9_forget 66 = .ok (.iload 5, 2) := by decide +kernel
theorem dX9_forget_68 : decode cX9_forget 68 = .ok (.iadd, 1) := by decide +kernel
theorem dX9_forget_69 : decode cX9_forget 69 = .ok (.aload_n 0, 1) := by decide +kernel
theorem dX9_forget_70 : decode cX9_forget 70 = .ok (.getfield 83, 3) := by decide +kernel
theorem dX9_forget_73 : decode cX9_forget 73 = .ok (.iconst 5, 1) := by decide +kernel
theorem dX9_forget_74 : decode cX9_forget 74 = .ok (.iload_n 3, 1) := by decide +kernel
theorem dX9_forget_75 : decode cX9_forget 75 = .ok (.imul, 1) := by decide +kernel
theorem dX9_forget_76 : decode cX9_forget 76 = .ok (.iload 5, 2) := by decide +kernel
theorem dX9_forget_78 : decode cX9_forget 78 = .ok (.iadd, 1) := by decide +kernel
theorem dX9_forget_79 : decode cX9_forget 79 = .ok (.iaload, 1) := by decide +kernel
theorem dX9_forget_80 : decode cX9_forget 80 = .ok (.iastore, 1) := by decide +kernel
theorem dX9_forget_81 : decode cX9_forget 81 = .ok (.iinc 5 1, 3) := by decide +kernel
theorem dX9_forget_84 : decode cX9_forget 84 = .ok (.goto (-36), 3) := by decide +kernel
theorem dX9_forget_87 : decode cX9_forget 87 = .ok (.iload_n 2, 1) := by decide +kernel
theorem dX9_forget_88 : decode cX9_forget 88 = .ok (.iload 4, 2) := by decide +kernel
theorem dX9_forget_90 : decode cX9_forget 90 = .ok (.ifCond .eq 7, 3) := by decide +kernel
theorem dX9_forget_93 : decode cX9_forget 93 = .ok (.iconst 1, 1) := by decide +kernel
theorem dX9_forget_94 : decode cX9_forget 94 = .ok (.goto 4, 3) := by decide +kernel
theorem dX9_forget_97 : decode cX9_forget 97 = .ok (.iconst 0, 1) := by decide +kernel
theorem dX9_forget_98 : decode cX9_forget 98 = .ok (.iadd, 1) := by decide +kernel
theorem dX9_forget_99 : decode cX9_forget 99 = .ok (.istore_n 2, 1) := by decide +kernel
theorem dX9_forget_100 : decode cX9_forget 100 = .ok (.iinc 3 1, 3) := by decide +kernel
theorem dX9_forget_103 : decode cX9_forget 103 = .ok (.goto (-85), 3) := by decide +kernel
theorem dX9_forget_106 : decode cX9_forget 106 = .ok (.aload_n 0, 1) := by decide +kernel
theorem dX9_forget_107 : decode cX9_forget 107 = .ok (.getfield 263, 3) := by decide +kernel
theorem dX9_forget_110 : decode cX9_forget 110 = .ok (.iload_n 2, 1) := by decide +kernel
theorem dX9_forget_111 : decode cX9_forget 111 = .ok (.isub, 1) := by decide +kernel
theorem dX9_forget_112 : decode cX9_forget 112 = .ok (.istore_n 3, 1) := by decide +kernel
theorem dX9_forget_113 : decode cX9_forget 113 = .ok (.aload_n 0, 1) := by decide +kernel
theorem dX9_forget_114 : decode cX9_forget 114 = .ok (.iload_n 2, 1) := by decide +kernel
theorem dX9_forget_115 : decode cX9_forget 115 = .ok (.putfield 263, 3) := by decide +kernel
theorem dX9_forget_118 : decode cX9_forget 118 = .ok (.aload_n 0, 1) := by decide +kernel
theorem dX9_forget_119 : decode cX9_forget 119 = .ok (.dup, 1) := by decide +kernel
theorem dX9_forget_120 : decode cX9_forget 120 = .ok (.getfield 309, 3) := by decide +kernel
theorem dX9_forget_123 : decode cX9_forget 123 = .ok (.iload_n 3, 1) := by decide +kernel
theorem dX9_forget_124 : decode cX9_forget 124 = .ok (.iadd, 1) := by decide +kernel
theorem dX9_forget_125 : decode cX9_forget 125 = .ok (.putfield 309, 3) := by decide +kernel
theorem dX9_forget_128 : decode cX9_forget 128 = .ok (.iload_n 3, 1) := by decide +kernel
theorem dX9_forget_129 : decode cX9_forget 129 = .ok (.ireturn, 1) := by decide +kernel
theorem dX9_cost_0 : decode cX9_cost 0 = .ok (.iload_n 1, 1) := by decide +kernel
theorem dX9_cost_1 : decode cX9_cost 1 = .ok (.i2l, 1) := by decide +kernel
theorem dX9_cost_2 : decode cX9_cost 2 = .ok (.ldc2_w 129, 3) := by decide +kernel
theorem dX9_cost_5 : decode cX9_cost 5 = .ok (.aload_n 0, 1) := by decide +kernel
theorem dX9_cost_6 : decode cX9_cost 6 = .ok (.getfield 113, 3) := by decide +kernel
theorem dX9_cost_9 : decode cX9_cost 9 = .ok (.iconst 1, 1) := by decide +kernel
theorem dX9_cost_10 : decode cX9_cost 10 = .ok (.isub, 1) := by decide +kernel
theorem dX9_cost_11 : decode cX9_cost 11 = .ok (.i2l, 1) := by decide +kernel
theorem dX9_cost_12 : decode cX9_cost 12 = .ok (.invokestatic 117, 3) := by decide +kernel
theorem dX9_cost_15 : decode cX9_cost 15 = .ok (.ifCond .ne 5, 3) := by decide +kernel
theorem dX9_cost_18 : decode cX9_cost 18 = .ok (.iconst (-1), 1) := by decide +kernel
theorem dX9_cost_19 : decode cX9_cost 19 = .ok (.ireturn, 1) := by decide +kernel
theorem dX9_cost_20 : decode cX9_cost 20 = .ok (.iconst 0, 1) := by decide +kernel
theorem dX9_cost_21 : decode cX9_cost 21 = .ok (.istore_n 2, 1) := by decide +kernel
theorem dX9_cost_22 : decode cX9_cost 22 = .ok (.iconst 0, 1) := by decide +kernel
theorem dX9_cost_23 : decode cX9_cost 23 = .ok (.istore_n 3, 1) := by decide +kernel
theorem dX9_cost_24 : decode cX9_cost 24 = .ok (.iload_n 3, 1) := by decide +kernel
theorem dX9_cost_25 : decode cX9_cost 25 = .ok (.aload_n 0, 1) := by decide +kernel
theorem dX9_cost_26 : decode cX9_cost 26 = .ok (.getfield 113, 3) := by decide +kernel
theorem dX9_cost_29 : decode cX9_cost 29 = .ok (.if_icmp .ge 31, 3) := by decide +kernel
theorem dX9_cost_32 : decode cX9_cost 32 = .ok (.iload_n 2, 1) := by decide +kernel
theorem dX9_cost_33 : decode cX9_cost 33 = .ok (.iload_n 1, 1) := by decide +kernel
theorem dX9_cost_34 : decode cX9_cost 34 = .ok (.ifCond .lt 8, 3) := by decide +kernel
theorem dX9_cost_37 : decode cX9_cost 37 = .ok (.iload_n 3, 1) := by decide +kernel
theorem dX9_cost_38 : decode cX9_cost 38 = .ok (.iload_n 1, 1) := by decide +kernel
theorem dX9_cost_39 : decode cX9_cost 39 = .ok (.if_icmp .ne 12, 3) := by decide +kernel
theorem dX9_cost_42 : decode cX9_cost 42 = .ok (.aload_n 0, 1) := by decide +kernel
theorem dX9_cost_43 : decode cX9_cost 43 = .ok (.getfield 19, 3) := by decide +kernel
theorem dX9_cost_46 : decode cX9_cost 46 = .ok (.iload_n 3, 1) := by decide +kernel
theorem dX9_cost_47 : decode cX9_cost 47 = .ok (.iaload, 1) := by decide +kernel
theorem dX9_cost_48 : decode cX9_cost 48 = .ok (.goto 4, 3) := by decide +kernel
theorem dX9_cost_51 : decode cX9_cost 51 = .ok (.iconst 0, 1) := by decide +kernel
theorem dX9_cost_52 : decode cX9_cost 52 = .ok (.iadd, 1) := by decide +kernel
theorem dX9_cost_53 : decode cX9_cost 53 = .ok (.istore_n 2, 1) := by decide +kernel
theorem dX9_cost_54 : decode cX9_cost 54 = .ok (.iinc 3 1, 3) := by decide +kernel
theorem dX9_cost_57 : decode cX9_cost 57 = .ok (.goto (-33), 3) := by decide +kernel
theorem dX9_cost_60 : decode cX9_cost 60 = .ok (.iload_n 2, 1) := by decide +kernel
theorem dX9_cost_61 : decode cX9_cost 61 = .ok (.ireturn, 1) := by decide +kernel
theorem dX9_why_0 : decode cX9_why 0 = .ok (.aload_n 0, 1) := by decide +kernel
theorem dX9_why_1 : decode cX9_why 1 = .ok (.iload_n 1, 1) := by decide +kernel
theorem dX9_why_2 : decode cX9_why 2 = .ok (.invokevirtual 131, 3) := by decide +kernel
theorem dX9_why_5 : decode cX9_why 5 = .ok (.ifCond .eq 12, 3) := by decide +kernel
theorem dX9_why_8 : decode cX9_why 8 = .ok (.aload_n 0, 1) := by decide +kernel
theorem dX9_why_9 : decode cX9_why 9 = .ok (.getfield 25, 3) := by decide +kernel
theorem dX9_why_12 : decode cX9_why 12 = .ok (.iload_n 1, 1) := by decide +kernel
theorem dX9_why_13 : decode cX9_why 13 = .ok (.iaload, 1) := by decide +kernel
theorem dX9_why_14 : decode cX9_why 14 = .ok (.goto 4, 3) := by decide +kernel
theorem dX9_why_17 : decode cX9_why 17 = .ok (.iconst (-1), 1) := by decide +kernel
theorem dX9_why_18 : decode cX9_why 18 = .ok (.ireturn, 1) := by decide +kernel
theorem dX9_count_0 : decode cX9_count 0 = .ok (.iload_n 1, 1) := by decide +kernel
theorem dX9_count_1 : decode cX9_count 1 = .ok (.tableswitch 107 0 9 #[55, 60, 65, 70, 77, 82, 87, 92, 97, 102], 55) := by decide +kernel
theorem dX9_count_56 : decode cX9_count 56 = .ok (.aload_n 0, 1) := by decide +kernel
theorem dX9_count_57 : decode cX9_count 57 = .ok (.getfield 113, 3) := by decide +kernel
theorem dX9_count_60 : decode cX9_count 60 = .ok (.ireturn, 1) := by decide +kernel
theorem dX9_count_61 : decode cX9_count 61 = .ok (.aload_n 0, 1) := by decide +kernel
theorem dX9_count_62 : decode cX9_count 62 = .ok (.getfield 139, 3) := by decide +kernel
theorem dX9_count_65 : decode cX9_count 65 = .ok (.ireturn, 1) := by decide +kernel
theorem dX9_count_66 : decode cX9_count 66 = .ok (.aload_n 0, 1) := by decide +kernel
theorem dX9_count_67 : decode cX9_count 67 = .ok (.getfield 150, 3) := by decide +kernel
theorem dX9_count_70 : decode cX9_count 70 = .ok (.ireturn, 1) := by decide +kernel
theorem dX9_count_71 : decode cX9_count 71 = .ok (.aload_n 0, 1) := by decide +kernel
theorem dX9_count_72 : decode cX9_count 72 = .ok (.getfield 52, 3) := by decide +kernel
theorem dX9_count_75 : decode cX9_count 75 = .ok (.iconst 1, 1) := by decide +kernel
theorem dX9_count_76 : decode cX9_count 76 = .ok (.iaload, 1) := by decide +kernel
theorem dX9_count_77 : decode cX9_count 77 = .ok (.ireturn, 1) := by decide +kernel
theorem dX9_count_78 : decode cX9_count 78 = .ok (.aload_n 0, 1) := by decide +kernel
theorem dX9_count_79 : decode cX9_count 79 = .ok (.getfield 245, 3) := by decide +kernel
theorem dX9_count_82 : decode cX9_count 82 = .ok (.ireturn, 1) := by decide +kernel
theorem dX9_count_83 : decode cX9_count 83 = .ok (.aload_n 0, 1) := by decide +kernel
theorem dX9_count_84 : decode cX9_count 84 = .ok (.getfield 257, 3) := by decide +kernel
theorem dX9_count_87 : decode cX9_count 87 = .ok (.ireturn, 1) := by decide +kernel
theorem dX9_count_88 : decode cX9_count 88 = .ok (.aload_n 0, 1) := by decide +kernel
theorem dX9_count_89 : decode cX9_count 89 = .ok (.getfield 269, 3) := by decide +kernel
theorem dX9_count_92 : decode cX9_count 92 = .ok (.ireturn, 1) := by decide +kernel
theorem dX9_count_93 : decode cX9_count 93 = .ok (.aload_n 0, 1) := by decide +kernel
theorem dX9_count_94 : decode cX9_count 94 = .ok (.getfield 263, 3) := by decide +kernel
theorem dX9_count_97 : decode cX9_count 97 = .ok (.ireturn, 1) := by decide +kernel
theorem dX9_count_98 : decode cX9_count 98 = .ok (.aload_n 0, 1) := by decide +kernel
theorem dX9_count_99 : decode cX9_count 99 = .ok (.getfield 266, 3) := by decide +kernel
theorem dX9_count_102 : decode cX9_count 102 = .ok (.ireturn, 1) := by decide +kernel
theorem dX9_count_103 : decode cX9_count 103 = .ok (.aload_n 0, 1) := by decide +kernel
theorem dX9_count_104 : decode cX9_count 104 = .ok (.getfield 309, 3) := by decide +kernel
theorem dX9_count_107 : decode cX9_count 107 = .ok (.ireturn, 1) := by decide +kernel
theorem dX9_count_108 : decode cX9_count 108 = .ok (.iconst (-1), 1) := by decide +kernel
theorem dX9_count_109 : decode cX9_count 109 = .ok (.ireturn, 1) := by decide +kernel
theorem dJ6_bitCount_0f7a4_0 : decode cJ6_bitCount_0f7a4 0 = .ok (.iload_n 0, 1) := by decide +kernel
theorem dJ6_bitCount_0f7a4_1 : decode cJ6_bitCount_0f7a4 1 = .ok (.iload_n 0, 1) := by decide +kernel
theorem dJ6_bitCount_0f7a4_2 : decode cJ6_bitCount_0f7a4 2 = .ok (.iconst 1, 1) := by decide +kernel
theorem dJ6_bitCount_0f7a4_3 : decode cJ6_bitCount_0f7a4 3 = .ok (.iushr, 1) := by decide +kernel
theorem dJ6_bitCount_0f7a4_4 : decode cJ6_bitCount_0f7a4 4 = .ok (.ldc_w 265, 3) := by decide +kernel
theorem dJ6_bitCount_0f7a4_7 : decode cJ6_bitCount_0f7a4 7 = .ok (.iand, 1) := by decide +kernel
theorem dJ6_bitCount_0f7a4_8 : decode cJ6_bitCount_0f7a4 8 = .ok (.isub, 1) := by decide +kernel
theorem dJ6_bitCount_0f7a4_9 : decode cJ6_bitCount_0f7a4 9 = .ok (.istore_n 0, 1) := by decide +kernel
theorem dJ6_bitCount_0f7a4_10 : decode cJ6_bitCount_0f7a4 10 = .ok (.iload_n 0, 1) := by decide +kernel
theorem dJ6_bitCount_0f7a4_11 : decode cJ6_bitCount_0f7a4 11 = .ok (.ldc_w 266, 3) := by decide +kernel
theorem dJ6_bitCount_0f7a4_14 : decode cJ6_bitCount_0f7a4 14 = .ok (.iand, 1) := by decide +kernel
theorem dJ6_bitCount_0f7a4_15 : decode cJ6_bitCount_0f7a4 15 = .ok (.iload_n 0, 1) := by decide +kernel
theorem dJ6_bitCount_0f7a4_16 : decode cJ6_bitCount_0f7a4 16 = .ok (.iconst 2, 1) := by decide +kernel
theorem dJ6_bitCount_0f7a4_17 : decode cJ6_bitCount_0f7a4 17 = .ok (.iushr, 1) := by decide +kernel
theorem dJ6_bitCount_0f7a4_18 : decode cJ6_bitCount_0f7a4 18 = .ok (.ldc_w 266, 3) := by decide +kernel
theorem dJ6_bitCount_0f7a4_21 : decode cJ6_bitCount_0f7a4 21 = .ok (.iand, 1) := by decide +kernel
theorem dJ6_bitCount_0f7a4_22 : decode cJ6_bitCount_0f7a4 22 = .ok (.iadd, 1) := by decide +kernel
theorem dJ6_bitCount_0f7a4_23 : decode cJ6_bitCount_0f7a4 23 = .ok (.istore_n 0, 1) := by decide +kernel
theorem dJ6_bitCount_0f7a4_24 : decode cJ6_bitCount_0f7a4 24 = .ok (.iload_n 0, 1) := by decide +kernel
theorem dJ6_bitCount_0f7a4_25 : decode cJ6_bitCount_0f7a4 25 = .ok (.iload_n 0, 1) := by decide +kernel
theorem dJ6_bitCount_0f7a4_26 : decode cJ6_bitCount_0f7a4 26 = .ok (.iconst 4, 1) := by decide +kernel
theorem dJ6_bitCount_0f7a4_27 : decode cJ6_bitCount_0f7a4 27 = .ok (.iushr, 1) := by decide +kernel
theorem dJ6_bitCount_0f7a4_28 : decode cJ6_bitCount_0f7a4 28 = .ok (.iadd, 1) := by decide +kernel
theorem dJ6_bitCount_0f7a4_29 : decode cJ6_bitCount_0f7a4 29 = .ok (.ldc_w 267, 3) := by decide +kernel
theorem dJ6_bitCount_0f7a4_32 : decode cJ6_bitCount_0f7a4 32 = .ok (.iand, 1) := by decide +kernel
theorem dJ6_bitCount_0f7a4_33 : decode cJ6_bitCount_0f7a4 33 = .ok (.istore_n 0, 1) := by decide +kernel
theorem dJ6_bitCount_0f7a4_34 : decode cJ6_bitCount_0f7a4 34 = .ok (.iload_n 0, 1) := by decide +kernel
theorem dJ6_bitCount_0f7a4_35 : decode cJ6_bitCount_0f7a4 35 = .ok (.iload_n 0, 1) := by decide +kernel
theorem dJ6_bitCount_0f7a4_36 : decode cJ6_bitCount_0f7a4 36 = .ok (.bipush 8, 2) := by decide +kernel
theorem dJ6_bitCount_0f7a4_38 : decode cJ6_bitCount_0f7a4 38 = .ok (.iushr, 1) := by decide +kernel
theorem dJ6_bitCount_0f7a4_39 : decode cJ6_bitCount_0f7a4 39 = .ok (.iadd, 1) := by decide +kernel
theorem dJ6_bitCount_0f7a4_40 : decode cJ6_bitCount_0f7a4 40 = .ok (.istore_n 0, 1) := by decide +kernel
theorem dJ6_bitCount_0f7a4_41 : decode cJ6_bitCount_0f7a4 41 = .ok (.iload_n 0, 1) := by decide +kernel
theorem dJ6_bitCount_0f7a4_42 : decode cJ6_bitCount_0f7a4 42 = .ok (.iload_n 0, 1) := by decide +kernel
theorem dJ6_bitCount_0f7a4_43 : decode cJ6_bitCount_0f7a4 43 = .ok (.bipush 16, 2) := by decide +kernel
theorem dJ6_bitCount_0f7a4_45 : decode cJ6_bitCount_0f7a4 45 = .ok (.iushr, 1) := by decide +kernel
theorem dJ6_bitCount_0f7a4_46 : decode cJ6_bitCount_0f7a4 46 = .ok (.iadd, 1) := by decide +kernel
theorem dJ6_bitCount_0f7a4_47 : decode cJ6_bitCount_0f7a4 47 = .ok (.istore_n 0, 1) := by decide +kernel
theorem dJ6_bitCount_0f7a4_48 : decode cJ6_bitCount_0f7a4 48 = .ok (.iload_n 0, 1) := by decide +kernel
theorem dJ6_bitCount_0f7a4_49 : decode cJ6_bitCount_0f7a4 49 = .ok (.bipush 63, 2) := by decide +kernel
theorem dJ6_bitCount_0f7a4_51 : decode cJ6_bitCount_0f7a4 51 = .ok (.iand, 1) := by decide +kernel
theorem dJ6_bitCount_0f7a4_52 : decode cJ6_bitCount_0f7a4 52 = .ok (.ireturn, 1) := by decide +kernel
theorem dJ13_bitCount_95d88_0 : decode cJ13_bitCount_95d88 0 = .ok (.lload_n 0, 1) := by decide +kernel
theorem dJ13_bitCount_95d88_1 : decode cJ13_bitCount_95d88 1 = .ok (.lload_n 0, 1) := by decide +kernel
theorem dJ13_bitCount_95d88_2 : decode cJ13_bitCount_95d88 2 = .ok (.iconst 1, 1) := by decide +kernel
theorem dJ13_bitCount_95d88_3 : decode cJ13_bitCount_95d88 3 = .ok (.lushr, 1) := by decide +kernel
theorem dJ13_bitCount_95d88_4 : decode cJ13_bitCount_95d88 4 = .ok (.ldc2_w 314, 3) := by decide +kernel
theorem dJ13_bitCount_95d88_7 : decode cJ13_bitCount_95d88 7 = .ok (.land, 1) := by decide +kernel
theorem dJ13_bitCount_95d88_8 : decode cJ13_bitCount_95d88 8 = .ok (.lsub, 1) := by decide +kernel
theorem dJ13_bitCount_95d88_9 : decode cJ13_bitCount_95d88 9 = .ok (.lstore_n 0, 1) := by decide +kernel
theorem dJ13_bitCount_95d88_10 : decode cJ13_bitCount_95d88 10 = .ok (.lload_n 0, 1) := by decide +kernel
theorem dJ13_bitCount_95d88_11 : decode cJ13_bitCount_95d88 11 = .ok (.ldc2_w 316, 3) := by decide +kernel
theorem dJ13_bitCount_95d88_14 : decode cJ13_bitCount_95d88 14 = .ok (.land, 1) := by decide +kernel
theorem dJ13_bitCount_95d88_15 : decode cJ13_bitCount_95d88 15 = .ok (.lload_n 0, 1) := by decide +kernel
theorem dJ13_bitCount_95d88_16 : decode cJ13_bitCount_95d88 16 = .ok (.iconst 2, 1) := by decide +kernel
theorem dJ13_bitCount_95d88_17 : decode cJ13_bitCount_95d88 17 = .ok (.lushr, 1) := by decide +kernel
theorem dJ13_bitCount_95d88_18 : decode cJ13_bitCount_95d88 18 = .ok (.ldc2_w 316, 3) := by decide +kernel
theorem dJ13_bitCount_95d88_21 : decode cJ13_bitCount_95d88 21 = .ok (.land, 1) := by decide +kernel
theorem dJ13_bitCount_95d88_22 : decode cJ13_bitCount_95d88 22 = .ok (.ladd, 1) := by decide +kernel
theorem dJ13_bitCount_95d88_23 : decode cJ13_bitCount_95d88 23 = .ok (.lstore_n 0, 1) := by decide +kernel
theorem dJ13_bitCount_95d88_24 : decode cJ13_bitCount_95d88 24 = .ok (.lload_n 0, 1) := by decide +kernel
theorem dJ13_bitCount_95d88_25 : decode cJ13_bitCount_95d88 25 = .ok (.lload_n 0, 1) := by decide +kernel
theorem dJ13_bitCount_95d88_26 : decode cJ13_bitCount_95d88 26 = .ok (.iconst 4, 1) := by decide +kernel
theorem dJ13_bitCount_95d88_27 : decode cJ13_bitCount_95d88 27 = .ok (.lushr, 1) := by decide +kernel
theorem dJ13_bitCount_95d88_28 : decode cJ13_bitCount_95d88 28 = .ok (.ladd, 1) := by decide +kernel
theorem dJ13_bitCount_95d88_29 : decode cJ13_bitCount_95d88 29 = .ok (.ldc2_w 318, 3) := by decide +kernel
theorem dJ13_bitCount_95d88_32 : decode cJ13_bitCount_95d88 32 = .ok (.land, 1) := by decide +kernel
theorem dJ13_bitCount_95d88_33 : decode cJ13_bitCount_95d88 33 = .ok (.lstore_n 0, 1) := by decide +kernel
theorem dJ13_bitCount_95d88_34 : decode cJ13_bitCount_95d88 34 = .ok (.lload_n 0, 1) := by decide +kernel
theorem dJ13_bitCount_95d88_35 : decode cJ13_bitCount_95d88 35 = .ok (.lload_n 0, 1) := by decide +kernel
theorem dJ13_bitCount_95d88_36 : decode cJ13_bitCount_95d88 36 = .ok (.bipush 8, 2) := by decide +kernel
theorem dJ13_bitCount_95d88_38 : decode cJ13_bitCount_95d88 38 = .ok (.lushr, 1) := by decide +kernel
theorem dJ13_bitCount_95d88_39 : decode cJ13_bitCount_95d88 39 = .ok (.ladd, 1) := by decide +kernel
theorem dJ13_bitCount_95d88_40 : decode cJ13_bitCount_95d88 40 = .ok (.lstore_n 0, 1) := by decide +kernel
theorem dJ13_bitCount_95d88_41 : decode cJ13_bitCount_95d88 41 = .ok (.lload_n 0, 1) := by decide +kernel
theorem dJ13_bitCount_95d88_42 : decode cJ13_bitCount_95d88 42 = .ok (.lload_n 0, 1) := by decide +kernel
theorem dJ13_bitCount_95d88_43 : decode cJ13_bitCount_95d88 43 = .ok (.bipush 16, 2) := by decide +kernel
theorem dJ13_bitCount_95d88_45 : decode cJ13_bitCount_95d88 45 = .ok (.lushr, 1) := by decide +kernel
theorem dJ13_bitCount_95d88_46 : decode cJ13_bitCount_95d88 46 = .ok (.ladd, 1) := by decide +kernel
theorem dJ13_bitCount_95d88_47 : decode cJ13_bitCount_95d88 47 = .ok (.lstore_n 0, 1) := by decide +kernel
theorem dJ13_bitCount_95d88_48 : decode cJ13_bitCount_95d88 48 = .ok (.lload_n 0, 1) := by decide +kernel
theorem dJ13_bitCount_95d88_49 : decode cJ13_bitCount_95d88 49 = .ok (.lload_n 0, 1) := by decide +kernel
theorem dJ13_bitCount_95d88_50 : decode cJ13_bitCount_95d88 50 = .ok (.bipush 32, 2) := by decide +kernel
theorem dJ13_bitCount_95d88_52 : decode cJ13_bitCount_95d88 52 = .ok (.lushr, 1) := by decide +kernel
theorem dJ13_bitCount_95d88_53 : decode cJ13_bitCount_95d88 53 = .ok (.ladd, 1) := by decide +kernel
theorem dJ13_bitCount_95d88_54 : decode cJ13_bitCount_95d88 54 = .ok (.lstore_n 0, 1) := by decide +kernel
theorem dJ13_bitCount_95d88_55 : decode cJ13_bitCount_95d88 55 = .ok (.lload_n 0, 1) := by decide +kernel
theorem dJ13_bitCount_95d88_56 : decode cJ13_bitCount_95d88 56 = .ok (.l2i, 1) := by decide +kernel
theorem dJ13_bitCount_95d88_57 : decode cJ13_bitCount_95d88 57 = .ok (.bipush 127, 2) := by decide +kernel
theorem dJ13_bitCount_95d88_59 : decode cJ13_bitCount_95d88 59 = .ok (.iand, 1) := by decide +kernel
theorem dJ13_bitCount_95d88_60 : decode cJ13_bitCount_95d88 60 = .ok (.ireturn, 1) := by decide +kernel
theorem dJ9_floorDiv_7cf53_0 : decode cJ9_floorDiv_7cf53 0 = .ok (.iload_n 0, 1) := by decide +kernel
theorem dJ9_floorDiv_7cf53_1 : decode cJ9_floorDiv_7cf53 1 = .ok (.iload_n 1, 1) := by decide +kernel
theorem dJ9_floorDiv_7cf53_2 : decode cJ9_floorDiv_7cf53 2 = .ok (.idiv, 1) := by decide +kernel
theorem dJ9_floorDiv_7cf53_3 : decode cJ9_floorDiv_7cf53 3 = .ok (.istore_n 2, 1) := by decide +kernel
theorem dJ9_floorDiv_7cf53_4 : decode cJ9_floorDiv_7cf53 4 = .ok (.iload_n 0, 1) := by decide +kernel
theorem dJ9_floorDiv_7cf53_5 : decode cJ9_floorDiv_7cf53 5 = .ok (.iload_n 1, 1) := by decide +kernel
theorem dJ9_floorDiv_7cf53_6 : decode cJ9_floorDiv_7cf53 6 = .ok (.ixor, 1) := by decide +kernel
theorem dJ9_floorDiv_7cf53_7 : decode cJ9_floorDiv_7cf53 7 = .ok (.ifCond .ge 14, 3) := by decide +kernel
theorem dJ9_floorDiv_7cf53_10 : decode cJ9_floorDiv_7cf53 10 = .ok (.iload_n 2, 1) := by decide +kernel
theorem dJ9_floorDiv_7cf53_11 : decode cJ9_floorDiv_7cf53 11 = .ok (.iload_n 1, 1) := by decide +kernel
theorem dJ9_floorDiv_7cf53_12 : decode cJ9_floorDiv_7cf53 12 = .ok (.imul, 1) := by decide +kernel
theorem dJ9_floorDiv_7cf53_13 : decode cJ9_floorDiv_7cf53 13 = .ok (.iload_n 0, 1) := by decide +kernel
theorem dJ9_floorDiv_7cf53_14 : decode cJ9_floorDiv_7cf53 14 = .ok (.if_icmp .eq 7, 3) := by decide +kernel
theorem dJ9_floorDiv_7cf53_17 : decode cJ9_floorDiv_7cf53 17 = .ok (.iload_n 2, 1) := by decide +kernel
theorem dJ9_floorDiv_7cf53_18 : decode cJ9_floorDiv_7cf53 18 = .ok (.iconst 1, 1) := by decide +kernel
theorem dJ9_floorDiv_7cf53_19 : decode cJ9_floorDiv_7cf53 19 = .ok (.isub, 1) := by decide +kernel
theorem dJ9_floorDiv_7cf53_20 : decode cJ9_floorDiv_7cf53 20 = .ok (.ireturn, 1) := by decide +kernel
theorem dJ9_floorDiv_7cf53_21 : decode cJ9_floorDiv_7cf53 21 = .ok (.iload_n 2, 1) := by decide +kernel
theorem dJ9_floorDiv_7cf53_22 : decode cJ9_floorDiv_7cf53 22 = .ok (.ireturn, 1) := by decide +kernel
theorem dJ9_floorMod_7cf53_0 : decode cJ9_floorMod_7cf53 0 = .ok (.iload_n 0, 1) := by decide +kernel
theorem dJ9_floorMod_7cf53_1 : decode cJ9_floorMod_7cf53 1 = .ok (.iload_n 1, 1) := by decide +kernel
theorem dJ9_floorMod_7cf53_2 : decode cJ9_floorMod_7cf53 2 = .ok (.irem, 1) := by decide +kernel
theorem dJ9_floorMod_7cf53_3 : decode cJ9_floorMod_7cf53 3 = .ok (.istore_n 2, 1) := by decide +kernel
theorem dJ9_floorMod_7cf53_4 : decode cJ9_floorMod_7cf53 4 = .ok (.iload_n 0, 1) := by decide +kernel
theorem dJ9_floorMod_7cf53_5 : decode cJ9_floorMod_7cf53 5 = .ok (.iload_n 1, 1) := by decide +kernel
theorem dJ9_floorMod_7cf53_6 : decode cJ9_floorMod_7cf53 6 = .ok (.ixor, 1) := by decide +kernel
theorem dJ9_floorMod_7cf53_7 : decode cJ9_floorMod_7cf53 7 = .ok (.ifCond .ge 11, 3) := by decide +kernel
theorem dJ9_floorMod_7cf53_10 : decode cJ9_floorMod_7cf53 10 = .ok (.iload_n 2, 1) := by decide +kernel
theorem dJ9_floorMod_7cf53_11 : decode cJ9_floorMod_7cf53 11 = .ok (.ifCond .eq 7, 3) := by decide +kernel
theorem dJ9_floorMod_7cf53_14 : decode cJ9_floorMod_7cf53 14 = .ok (.iload_n 2, 1) := by decide +kernel
theorem dJ9_floorMod_7cf53_15 : decode cJ9_floorMod_7cf53 15 = .ok (.iload_n 1, 1) := by decide +kernel
theorem dJ9_floorMod_7cf53_16 : decode cJ9_floorMod_7cf53 16 = .ok (.iadd, 1) := by decide +kernel
theorem dJ9_floorMod_7cf53_17 : decode cJ9_floorMod_7cf53 17 = .ok (.ireturn, 1) := by decide +kernel
theorem dJ9_floorMod_7cf53_18 : decode cJ9_floorMod_7cf53 18 = .ok (.iload_n 2, 1) := by decide +kernel
theorem dJ9_floorMod_7cf53_19 : decode cJ9_floorMod_7cf53 19 = .ok (.ireturn, 1) := by decide +kernel
theorem dJ9_max_7cf53_0 : decode cJ9_max_7cf53 0 = .ok (.iload_n 0, 1) := by decide +kernel
theorem dJ9_max_7cf53_1 : decode cJ9_max_7cf53 1 = .ok (.iload_n 1, 1) := by decide +kernel
theorem dJ9_max_7cf53_2 : decode cJ9_max_7cf53 2 = .ok (.if_icmp .lt 7, 3) := by decide +kernel
theorem dJ9_max_7cf53_5 : decode cJ9_max_7cf53 5 = .ok (.iload_n 0, 1) := by decide +kernel
theorem dJ9_max_7cf53_6 : decode cJ9_max_7cf53 6 = .ok (.goto 4, 3) := by decide +kernel
theorem dJ9_max_7cf53_9 : decode cJ9_max_7cf53 9 = .ok (.iload_n 1, 1) := by decide +kernel
theorem dJ9_max_7cf53_10 : decode cJ9_max_7cf53 10 = .ok (.ireturn, 1) := by decide +kernel
theorem dJ9_min_7cf53_0 : decode cJ9_min_7cf53 0 = .ok (.iload_n 0, 1) := by decide +kernel
theorem dJ9_min_7cf53_1 : decode cJ9_min_7cf53 1 = .ok (.iload_n 1, 1) := by decide +kernel
theorem dJ9_min_7cf53_2 : decode cJ9_min_7cf53 2 = .ok (.if_icmp .gt 7, 3) := by decide +kernel
theorem dJ9_min_7cf53_5 : decode cJ9_min_7cf53 5 = .ok (.iload_n 0, 1) := by decide +kernel
theorem dJ9_min_7cf53_6 : decode cJ9_min_7cf53 6 = .ok (.goto 4, 3) := by decide +kernel
theorem dJ9_min_7cf53_9 : decode cJ9_min_7cf53 9 = .ok (.iload_n 1, 1) := by decide +kernel
theorem dJ9_min_7cf53_10 : decode cJ9_min_7cf53 10 = .ok (.ireturn, 1) := by decide +kernel
theorem dJ7_fill_53178_0 : decode cJ7_fill_53178 0 = .ok (.iconst 0, 1) := by decide +kernel
theorem dJ7_fill_53178_1 : decode cJ7_fill_53178 1 = .ok (.istore_n 2, 1) := by decide +kernel
theorem dJ7_fill_53178_2 : decode cJ7_fill_53178 2 = .ok (.aload_n 0, 1) := by decide +kernel
theorem dJ7_fill_53178_3 : decode cJ7_fill_53178 3 = .ok (.arraylength, 1) := by decide +kernel
theorem dJ7_fill_53178_4 : decode cJ7_fill_53178 4 = .ok (.istore_n 3, 1) := by decide +kernel
theorem dJ7_fill_53178_5 : decode cJ7_fill_53178 5 = .ok (.iload_n 2, 1) := by decide +kernel
theorem dJ7_fill_53178_6 : decode cJ7_fill_53178 6 = .ok (.iload_n 3, 1) := by decide +kernel
theorem dJ7_fill_53178_7 : decode cJ7_fill_53178 7 = .ok (.if_icmp .ge 13, 3) := by decide +kernel
theorem dJ7_fill_53178_10 : decode cJ7_fill_53178 10 = .ok (.aload_n 0, 1) := by decide +kernel
theorem dJ7_fill_53178_11 : decode cJ7_fill_53178 11 = .ok (.iload_n 2, 1) := by decide +kernel
theorem dJ7_fill_53178_12 : decode cJ7_fill_53178 12 = .ok (.iload_n 1, 1) := by decide +kernel
theorem dJ7_fill_53178_13 : decode cJ7_fill_53178 13 = .ok (.iastore, 1) := by decide +kernel
theorem dJ7_fill_53178_14 : decode cJ7_fill_53178 14 = .ok (.iinc 2 1, 3) := by decide +kernel
theorem dJ7_fill_53178_17 : decode cJ7_fill_53178 17 = .ok (.goto (-12), 3) := by decide +kernel
theorem dJ7_fill_53178_20 : decode cJ7_fill_53178 20 = .ok (.return_, 1) := by decide +kernel
theorem dL_law_0 : decode cL_law 0 = .ok (.new 7, 3) := by decide +kernel
theorem dL_law_3 : decode cL_law 3 = .ok (.dup, 1) := by decide +kernel
theorem dL_law_4 : decode cL_law 4 = .ok (.invokespecial 9, 3) := by decide +kernel
theorem dL_law_7 : decode cL_law 7 = .ok (.astore_n 1, 1) := by decide +kernel
theorem dL_law_8 : decode cL_law 8 = .ok (.new 10, 3) := by decide +kernel
theorem dL_law_11 : decode cL_law 11 = .ok (.dup, 1) := by decide +kernel
theorem dL_law_12 : decode cL_law 12 = .ok (.invokespecial 12, 3) := by decide +kernel
theorem dL_law_15 : decode cL_law 15 = .ok (.astore_n 2, 1) := by decide +kernel
theorem dL_law_16 : decode cL_law 16 = .ok (.iconst 0, 1) := by decide +kernel
theorem dL_law_17 : decode cL_law 17 = .ok (.istore_n 3, 1) := by decide +kernel
theorem dL_law_18 : decode cL_law 18 = .ok (.iload_n 3, 1) := by decide +kernel
theorem dL_law_19 : decode cL_law 19 = .ok (.aload_n 0, 1) := by decide +kernel
theorem dL_law_20 : decode cL_law 20 = .ok (.arraylength, 1) := by decide +kernel
theorem dL_law_21 : decode cL_law 21 = .ok (.bipush 6, 2) := by decide +kernel
theorem dL_law_23 : decode cL_law 23 = .ok (.isub, 1) := by decide +kernel
theorem dL_law_24 : decode cL_law 24 = .ok (.if_icmp .gt 1057, 3) := by decide +kernel
theorem dL_law_27 : decode cL_law 27 = .ok (.aload_n 0, 1) := by decide +kernel
theorem dL_law_28 : decode cL_law 28 = .ok (.iload_n 3, 1) := by decide +kernel
theorem dL_law_29 : decode cL_law 29 = .ok (.iaload, 1) := by decide +kernel
theorem dL_law_30 : decode cL_law 30 = .ok (.bipush 31, 2) := by decide +kernel
theorem dL_law_32 : decode cL_law 32 = .ok (.iand, 1) := by decide +kernel
theorem dL_law_33 : decode cL_law 33 = .ok (.tableswitch 1042 0 30 #[139, 182, 215, 238, 281, 334, 367, 430, 443, 456, 469, 512, 525, 608, 641, 654, 667, 700, 713, 726, 779, 822, 845, 858, 871, 884, 927, 950, 973, 996, 1019], 139) := by decide +kernel
theorem dL_law_172 : decode cL_law 172 = .ok (.aload_n 1, 1) := by decide +kernel
theorem dL_law_173 : decode cL_law 173 = .ok (.aload_n 0, 1) := by decide +kernel
theorem dL_law_174 : decode cL_law 174 = .ok (.iload_n 3, 1) := by decide +kernel
theorem dL_law_175 : decode cL_law 175 = .ok (.iconst 1, 1) := by decide +kernel
theorem dL_law_176 : decode cL_law 176 = .ok (.iadd, 1) := by decide +kernel
theorem dL_law_177 : decode cL_law 177 = .ok (.iaload, 1) := by decide +kernel
theorem dL_law_178 : decode cL_law 178 = .ok (.aload_n 0, 1) := by decide +kernel
theorem dL_law_179 : decode cL_law 179 = .ok (.iload_n 3, 1) := by decide +kernel
theorem dL_law_180 : decode cL_law 180 = .ok (.iconst 2, 1) := by decide +kernel
theorem dL_law_181 : decode cL_law 181 = .ok (.iadd, 1) := by decide +kernel
theorem dL_law_182 : decode cL_law 182 = .ok (.iaload, 1) := by decide +kernel
theorem dL_law_183 : decode cL_law 183 = .ok (.aload_n 0, 1) := by decide +kernel
theorem dL_law_184 : decode cL_law 184 = .ok (.iload_n 3, 1) := by decide +kernel
theorem dL_law_185 : decode cL_law 185 = .ok (.iconst 3, 1) := by decide +kernel
theorem dL_law_186 : decode cL_law 186 = .ok (.iadd, 1) := by decide +kernel
theorem dL_law_187 : decode cL_law 187 = .ok (.iaload, 1) := by decide +kernel
theorem dL_law_188 : decode cL_law 188 = .ok (.invokevirtual 13, 3) := by decide +kernel
theorem dL_law_191 : decode cL_law 191 = .ok (.aload_n 2, 1) := by decide +kernel
theorem dL_law_192 : decode cL_law 192 = .ok (.aload_n 0, 1) := by decide +kernel
theorem dL_law_193 : decode cL_law 193 = .ok (.iload_n 3, 1) := by decide +kernel
theorem dL_law_194 : decode cL_law 194 = .ok (.iconst 1, 1) := by decide +kernel
theorem dL_law_195 : decode cL_law 195 = .ok (.iadd, 1) := by decide +kernel
theorem dL_law_196 : decode cL_law 196 = .ok (.iaload, 1) := by decide +kernel
theorem dL_law_197 : decode cL_law 197 = .ok (.aload_n 0, 1) := by decide +kernel
theorem dL_law_198 : decode cL_law 198 = .ok (.iload_n 3, 1) := by decide +kernel
theorem dL_law_199 : decode cL_law 199 = .ok (.iconst 2, 1) := by decide +kernel
theorem dL_law_200 : decode cL_law 200 = .ok (.iadd, 1) := by decide +kernel
theorem dL_law_201 : decode cL_law 201 = .ok (.iaload, 1) := by decide +kernel
theorem dL_law_202 : decode cL_law 202 = .ok (.aload_n 0, 1) := by decide +kernel
theorem dL_law_203 : decode cL_law 203 = .ok (.iload_n 3, 1) := by decide +kernel
theorem dL_law_204 : decode cL_law 204 = .ok (.iconst 3, 1) := by decide +kernel
theorem dL_law_205 : decode cL_law 205 = .ok (.iadd, 1) := by decide +kernel
theorem dL_law_206 : decode cL_law 206 = .ok (.iaload, 1) := by decide +kernel
theorem dL_law_207 : decode cL_law 207 = .ok (.invokevirtual 17, 3) := by decide +kernel
theorem dL_law_210 : decode cL_law 210 = .ok (.if_icmp .eq 865, 3) := by decide +kernel
theorem dL_law_213 : decode cL_law 213 = .ok (.iconst 0, 1) := by decide +kernel
theorem dL_law_214 : decode cL_law 214 = .ok (.ireturn, 1) := by decide +kernel
theorem dL_law_215 : decode cL_law 215 = .ok (.aload_n 1, 1) := by decide +kernel
theorem dL_law_216 : decode cL_law 216 = .ok (.aload_n 0, 1) := by decide +kernel
theorem dL_law_217 : decode cL_law 217 = .ok (.iload_n 3, 1) := by decide +kernel
theorem dL_law_218 : decode cL_law 218 = .ok (.iconst 1, 1) := by decide +kernel
theorem dL_law_219 : decode cL_law 219 = .ok (.iadd, 1) := by decide +kernel
theorem dL_law_220 : decode cL_law 220 = .ok (.iaload, 1) := by decide +kernel
theorem dL_law_221 : decode cL_law 221 = .ok (.aload_n 0, 1) := by decide +kernel
theorem dL_law_222 : decode cL_law 222 = .ok (.iload_n 3, 1) := by decide +kernel
theorem dL_law_223 : decode cL_law 223 = .ok (.iconst 2, 1) := by decide +kernel
theorem dL_law_224 : decode cL_law 224 = .ok (.iadd, 1) := by decide +kernel
theorem dL_law_225 : decode cL_law 225 = .ok (.iaload, 1) := by decide +kernel
theorem dL_law_226 : decode cL_law 226 = .ok (.invokevirtual 18, 3) := by decide +kernel
theorem dL_law_229 : decode cL_law 229 = .ok (.aload_n 2, 1) := by decide +kernel
theorem dL_law_230 : decode cL_law 230 = .ok (.aload_n 0, 1) := by decide +kernel
theorem dL_law_231 : decode cL_law 231 = .ok (.iload_n 3, 1) := by decide +kernel
theorem dL_law_232 : decode cL_law 232 = .ok (.iconst 1, 1) := by decide +kernel
theorem dL_law_233 : decode cL_law 233 = .ok (.iadd, 1) := by decide +kernel
theorem dL_law_234 : decode cL_law 234 = .ok (.iaload, 1) := by decide +kernel
theorem dL_law_235 : decode cL_law 235 = .ok (.aload_n 0, 1) := by decide +kernel
theorem dL_law_236 : decode cL_law 236 = .ok (.iload_n 3, 1) := by decide +kernel
theorem dL_law_237 : decode cL_law 237 = .ok (.iconst 2, 1) := by decide +kernel
theorem dL_law_238 : decode cL_law 238 = .ok (.iadd, 1) := by decide +kernel
theorem dL_law_239 : decode cL_law 239 = .ok (.iaload, 1) := by decide +kernel
theorem dL_law_240 : decode cL_law 240 = .ok (.invokevirtual 22, 3) := by decide +kernel
theorem dL_law_243 : decode cL_law 243 = .ok (.if_icmp .eq 832, 3) := by decide +kernel
theorem dL_law_246 : decode cL_law 246 = .ok (.iconst 0, 1) := by decide +kernel
theorem dL_law_247 : decode cL_law 247 = .ok (.ireturn, 1) := by decide +kernel
theorem dL_law_248 : decode cL_law 248 = .ok (.aload_n 1, 1) := by decide +kernel
theorem dL_law_249 : decode cL_law 249 = .ok (.aload_n 0, 1) := by decide +kernel
theorem dL_law_250 : decode cL_law 250 = .ok (.iload_n 3, 1) := by decide +kernel
theorem dL_law_251 : decode cL_law 251 = .ok (.iconst 1, 1) := by decide +kernel
theorem dL_law_252 : decode cL_law 252 = .ok (.iadd, 1) := by decide +kernel
theorem dL_law_253 : decode cL_law 253 = .ok (.iaload, 1) := by decide +kernel
theorem dL_law_254 : decode cL_law 254 = .ok (.invokevirtual 23, 3) := by decide +kernel
theorem dL_law_257 : decode cL_law 257 = .ok (.aload_n 2, 1) := by decide +kernel
theorem dL_law_258 : decode cL_law 258 = .ok (.aload_n 0, 1) := by decide +kernel
theorem dL_law_259 : decode cL_law 259 = .ok (.iload_n 3, 1) := by decide +kernel
theorem dL_law_260 : decode cL_law 260 = .ok (.iconst 1, 1) := by decide +kernel
theorem dL_law_261 : decode cL_law 261 = .ok (.iadd, 1) := by decide +kernel
theorem dL_law_262 : decode cL_law 262 = .ok (.iaload, 1) := by decide +kernel
theorem dL_law_263 : decode cL_law 263 = .ok (.invokevirtual 27, 3) := by decide +kernel
theorem dL_law_266 : decode cL_law 266 = .ok (.if_icmp .eq 809, 3) := by decide +kernel
theorem dL_law_269 : decode cL_law 269 = .ok (.iconst 0, 1) := by decide +kernel
theorem dL_law_270 : decode cL_law 270 = .ok (.ireturn, 1) := by decide +kernel
theorem dL_law_271 : decode cL_law 271 = .ok (.aload_n 1, 1) := by decide +kernel
theorem dL_law_272 : decode cL_law 272 = .ok (.aload_n 0, 1) := by decide +kernel
theorem dL_law_273 : decode cL_law 273 = .ok (.iload_n 3, 1) := by decide +kernel
theorem dL_law_274 : decode cL_law 274 = .ok (.iconst 1, 1) := by decide +kernel
theorem dL_law_275 : decode cL_law 275 = .ok (.iadd, 1) := by decide +kernel
theorem dL_law_276 : decode cL_law 276 = .ok (.iaload, 1) := by decide +kernel
theorem dL_law_277 : decode cL_law 277 = .ok (.aload_n 0, 1) := by decide +kernel
theorem dL_law_278 : decode cL_law 278 = .ok (.iload_n 3, 1) := by decide +kernel
theorem dL_law_279 : decode cL_law 279 = .ok (.iconst 2, 1) := by decide +kernel
theorem dL_law_280 : decode cL_law 280 = .ok (.iadd, 1) := by decide +kernel
theorem dL_law_281 : decode cL_law 281 = .ok (.iaload, 1) := by decide +kernel
theorem dL_law_282 : decode cL_law 282 = .ok (.aload_n 0, 1) := by decide +kernel
theorem dL_law_283 : decode cL_law 283 = .ok (.iload_n 3, 1) := by decide +kernel
theorem dL_law_284 : decode cL_law 284 = .ok (.iconst 3, 1) := by decide +kernel
theorem dL_law_285 : decode cL_law 285 = .ok (.iadd, 1) := by decide +kernel
theorem dL_law_286 : decode cL_law 286 = .ok (.iaload, 1) := by decide +kernel
theorem dL_law_287 : decode cL_law 287 = .ok (.invokevirtual 28, 3) := by decide +kernel
theorem dL_law_290 : decode cL_law 290 = .ok (.aload_n 2, 1) := by decide +kernel
theorem dL_law_291 : decode cL_law 291 = .ok (.aload_n 0, 1) := by decide +kernel
theorem dL_law_292 : decode cL_law 292 = .ok (.iload_n 3, 1) := by decide +kernel
theorem dL_law_293 : decode cL_law 293 = .ok (.iconst 1, 1) := by decide +kernel
theorem dL_law_294 : decode cL_law 294 = .ok (.iadd, 1) := by decide +kernel
theorem dL_law_295 : decode cL_law 295 = .ok (.iaload, 1) := by decide +kernel
theorem dL_law_296 : decode cL_law 296 = .ok (.aload_n 0, 1) := by decide +kernel
theorem dL_law_297 : decode cL_law 297 = .ok (.iload_n 3, 1) := by decide +kernel
theorem dL_law_298 : decode cL_law 298 = .ok (.iconst 2, 1) := by decide +kernel
theorem dL_law_299 : decode cL_law 299 = .ok (.iadd, 1) := by decide +kernel
theorem dL_law_300 : decode cL_law 300 = .ok (.iaload, 1) := by decide +kernel
theorem dL_law_301 : decode cL_law 301 = .ok (.aload_n 0, 1) := by decide +kernel
theorem dL_law_302 : decode cL_law 302 = .ok (.iload_n 3, 1) := by decide +kernel
theorem dL_law_303 : decode cL_law 303 = .ok (.iconst 3, 1) := by decide +kernel
theorem dL_law_304 : decode cL_law 304 = .ok (.iadd, 1) := by decide +kernel
theorem dL_law_305 : decode cL_law 305 = .ok (.iaload, 1) := by decide +kernel
theorem dL_law_306 : decode cL_law 306 = .ok (.invokevirtual 31, 3) := by decide +kernel
theorem dL_law_309 : decode cL_law 309 = .ok (.if_icmp .eq 766, 3) := by decide +kernel
theorem dL_law_312 : decode cL_law 312 = .ok (.iconst 0, 1) := by decide +kernel
theorem dL_law_313 : decode cL_law 313 = .ok (.ireturn, 1) := by decide +kernel
theorem dL_law_314 : decode cL_law 314 = .ok (.aload_n 1, 1) := by decide +kernel
theorem dL_law_315 : decode cL_law 315 = .ok (.aload_n 0, 1) := by decide +kernel
theorem dL_law_316 : decode cL_law 316 = .ok (.iload_n 3, 1) := by decide +kernel
theorem dL_law_317 : decode cL_law 317 = .ok (.iconst 1, 1) := by decide +kernel
theorem dL_law_318 : decode cL_law 318 = .ok (.iadd, 1) := by decide +kernel
theorem dL_law_319 : decode cL_law 319 = .ok (.iaload, 1) := by decide +kernel
theorem dL_law_320 : decode cL_law 320 = .ok (.aload_n 0, 1) := by decide +kernel
theorem dL_law_321 : decode cL_law 321 = .ok (.iload_n 3, 1) := by decide +kernel
theorem dL_law_322 : decode cL_law 322 = .ok (.iconst 2, 1) := by decide +kernel
theorem dL_law_323 : decode cL_law 323 = .ok (.iadd, 1) := by decide +kernel
theorem dL_law_324 : decode cL_law 324 = .ok (.iaload, 1) := by decide +kernel
theorem dL_law_325 : decode cL_law 325 = .ok (.aload_n 0, 1) := by decide +kernel
theorem dL_law_326 : decode cL_law 326 = .ok (.iload_n 3, 1) := by decide +kernel
theorem dL_law_327 : decode cL_law 327 = .ok (.iconst 3, 1) := by decide +kernel
theorem dL_law_328 : decode cL_law 328 = .ok (.iadd, 1) := by decide +kernel
theorem dL_law_329 : decode cL_law 329 = .ok (.iaload, 1) := by decide +kernel
theorem dL_law_330 : decode cL_law 330 = .ok (.aload_n 0, 1) := by decide +kernel
theorem dL_law_331 : decode cL_law 331 = .ok (.iload_n 3, 1) := by decide +kernel
theorem dL_law_332 : decode cL_law 332 = .ok (.iconst 4, 1) := by decide +kernel
theorem dL_law_333 : decode cL_law 333 = .ok (.iadd, 1) := by decide +kernel
theorem dL_law_334 : decode cL_law 334 = .ok (.iaload, 1) := by decide +kernel
theorem dL_law_335 : decode cL_law 335 = .ok (.invokevirtual 32, 3) := by decide +kernel
theorem dL_law_338 : decode cL_law 338 = .ok (.aload_n 2, 1) := by decide +kernel
theorem dL_law_339 : decode cL_law 339 = .ok (.aload_n 0, 1) := by decide +kernel
theorem dL_law_340 : decode cL_law 340 = .ok (.iload_n 3, 1) := by decide +kernel
theorem dL_law_341 : decode cL_law 341 = .ok (.iconst 1, 1) := by decide +kernel
theorem dL_law_342 : decode cL_law 342 = .ok (.iadd, 1) := by decide +kernel
theorem dL_law_343 : decode cL_law 343 = .ok (.iaload, 1) := by decide +kernel
theorem dL_law_344 : decode cL_law 344 = .ok (.aload_n 0, 1) := by decide +kernel
theorem dL_law_345 : decode cL_law 345 = .ok (.iload_n 3, 1) := by decide +kernel
theorem dL_law_346 : decode cL_law 346 = .ok (.iconst 2, 1) := by decide +kernel
theorem dL_law_347 : decode cL_law 347 = .ok (.iadd, 1) := by decide +kernel
theorem dL_law_348 : decode cL_law 348 = .ok (.iaload, 1) := by decide +kernel
theorem dL_law_349 : decode cL_law 349 = .ok (.aload_n 0, 1) := by decide +kernel
theorem dL_law_350 : decode cL_law 350 = .ok (.iload_n 3, 1) := by decide +kernel
theorem dL_law_351 : decode cL_law 351 = .ok (.iconst 3, 1) := by decide +kernel
theorem dL_law_352 : decode cL_law 352 = .ok (.iadd, 1) := by decide +kernel
theorem dL_law_353 : decode cL_law 353 = .ok (.iaload, 1) := by decide +kernel
theorem dL_law_354 : decode cL_law 354 = .ok (.aload_n 0, 1) := by decide +kernel
theorem dL_law_355 : decode cL_law 355 = .ok (.iload_n 3, 1) := by decide +kernel
theorem dL_law_356 : decode cL_law 356 = .ok (.iconst 4, 1) := by decide +kernel
theorem dL_law_357 : decode cL_law 357 = .ok (.iadd, 1) := by decide +kernel
theorem dL_law_358 : decode cL_law 358 = .ok (.iaload, 1) := by decide +kernel
theorem dL_law_359 : decode cL_law 359 = .ok (.invokevirtual 36, 3) := by decide +kernel
theorem dL_law_362 : decode cL_law 362 = .ok (.if_icmp .eq 713, 3) := by decide +kernel
theorem dL_law_365 : decode cL_law 365 = .ok (.iconst 0, 1) := by decide +kernel
theorem dL_law_366 : decode cL_law 366 = .ok (.ireturn, 1) := by decide +kernel
theorem dL_law_367 : decode cL_law 367 = .ok (.aload_n 1, 1) := by decide +kernel
theorem dL_law_368 : decode cL_law 368 = .ok (.aload_n 0, 1) := by decide +kernel
theorem dL_law_369 : decode cL_law 369 = .ok (.iload_n 3, 1) := by decide +kernel
theorem dL_law_370 : decode cL_law 370 = .ok (.iconst 1, 1) := by decide +kernel
theorem dL_law_371 : decode cL_law 371 = .ok (.iadd, 1) := by decide +kernel
theorem dL_law_372 : decode cL_law 372 = .ok (.iaload, 1) := by decide +kernel
theorem dL_law_373 : decode cL_law 373 = .ok (.aload_n 0, 1) := by decide +kernel
theorem dL_law_374 : decode cL_law 374 = .ok (.iload_n 3, 1) := by decide +kernel
theorem dL_law_375 : decode cL_law 375 = .ok (.iconst 2, 1) := by decide +kernel
theorem dL_law_376 : decode cL_law 376 = .ok (.iadd, 1) := by decide +kernel
theorem dL_law_377 : decode cL_law 377 = .ok (.iaload, 1) := by decide +kernel
theorem dL_law_378 : decode cL_law 378 = .ok (.invokevirtual 37, 3) := by decide +kernel
theorem dL_law_381 : decode cL_law 381 = .ok (.aload_n 2, 1) := by decide +kernel
theorem dL_law_382 : decode cL_law 382 = .ok (.aload_n 0, 1) := by decide +kernel
theorem dL_law_383 : decode cL_law 383 = .ok (.iload_n 3, 1) := by decide +kernel
theorem dL_law_384 : decode cL_law 384 = .ok (.iconst 1, 1) := by decide +kernel
theorem dL_law_385 : decode cL_law 385 = .ok (.iadd, 1) := by decide +kernel
theorem dL_law_386 : decode cL_law 386 = .ok (.iaload, 1) := by decide +kernel
theorem dL_law_387 : decode cL_law 387 = .ok (.aload_n 0, 1) := by decide +kernel
theorem dL_law_388 : decode cL_law 388 = .ok (.iload_n 3, 1) := by decide +kernel
theorem dL_law_389 : decode cL_law 389 = .ok (.iconst 2, 1) := by decide +kernel
theorem dL_law_390 : decode cL_law 390 = .ok (.iadd, 1) := by decide +kernel
theorem dL_law_391 : decode cL_law 391 = .ok (.iaload, 1) := by decide +kernel
theorem dL_law_392 : decode cL_law 392 = .ok (.invokevirtual 40, 3) := by decide +kernel
theorem dL_law_395 : decode cL_law 395 = .ok (.if_icmp .eq 680, 3) := by decide +kernel
theorem dL_law_398 : decode cL_law 398 = .ok (.iconst 0, 1) := by decide +kernel
theorem dL_law_399 : decode cL_law 399 = .ok (.ireturn, 1) := by decide +kernel
theorem dL_law_400 : decode cL_law 400 = .ok (.aload_n 1, 1) := by decide +kernel
theorem dL_law_401 : decode cL_law 401 = .ok (.aload_n 0, 1) := by decide +kernel
theorem dL_law_402 : decode cL_law 402 = .ok (.iload_n 3, 1) := by decide +kernel
theorem dL_law_403 : decode cL_law 403 = .ok (.iconst 1, 1) := by decide +kernel
theorem dL_law_404 : decode cL_law 404 = .ok (.iadd, 1) := by decide +kernel
theorem dL_law_405 : decode cL_law 405 = .ok (.iaload, 1) := by decide +kernel
theorem dL_law_406 : decode cL_law 406 = .ok (.aload_n 0, 1) := by decide +kernel
theorem dL_law_407 : decode cL_law 407 = .ok (.iload_n 3, 1) := by decide +kernel
theorem dL_law_408 : decode cL_law 408 = .ok (.iconst 2, 1) := by decide +kernel
theorem dL_law_409 : decode cL_law 409 = .ok (.iadd, 1) := by decide +kernel
theorem dL_law_410 : decode cL_law 410 = .ok (.iaload, 1) := by decide +kernel
theorem dL_law_411 : decode cL_law 411 = .ok (.i2l, 1) := by decide +kernel
theorem dL_law_412 : decode cL_law 412 = .ok (.bipush 32, 2) := by decide +kernel
theorem dL_law_414 : decode cL_law 414 = .ok (.lshl, 1) := by decide +kernel
theorem dL_law_415 : decode cL_law 415 = .ok (.aload_n 0, 1) := by decide +kernel
theorem dL_law_416 : decode cL_law 416 = .ok (.iload_n 3, 1) := by decide +kernel
theorem dL_law_417 : decode cL_law 417 = .ok (.iconst 3, 1) := by decide +kernel
theorem dL_law_418 : decode cL_law 418 = .ok (.iadd, 1) := by decide +kernel
theorem dL_law_419 : decode cL_law 419 = .ok (.iaload, 1) := by decide +kernel
theorem dL_law_420 : decode cL_law 420 = .ok (.i2l, 1) := by decide +kernel
theorem dL_law_421 : decode cL_law 421 = .ok (.ldc2_w 41, 3) := by decide +kernel
theorem dL_law_424 : decode cL_law 424 = .ok (.land, 1) := by decide +kernel
theorem dL_law_425 : decode cL_law 425 = .ok (.lor, 1) := by decide +kernel
theorem dL_law_426 : decode cL_law 426 = .ok (.invokevirtual 43, 3) := by decide +kernel
theorem dL_law_429 : decode cL_law 429 = .ok (.aload_n 2, 1) := by decide +kernel
theorem dL_law_430 : decode cL_law 430 = .ok (.aload_n 0, 1) := by decide +kernel
theorem dL_law_431 : decode cL_law 431 = .ok (.iload_n 3, 1) := by decide +kernel
theorem dL_law_432 : decode cL_law 432 = .ok (.iconst 1, 1) := by decide +kernel
theorem dL_law_433 : decode cL_law 433 = .ok (.iadd, 1) := by decide +kernel
theorem dL_law_434 : decode cL_law 434 = .ok (.iaload, 1) := by decide +kernel
theorem dL_law_435 : decode cL_law 435 = .ok (.aload_n 0, 1) := by decide +kernel
theorem dL_law_436 : decode cL_law 436 = .ok (.iload_n 3, 1) := by decide +kernel
theorem dL_law_437 : decode cL_law 437 = .ok (.iconst 2, 1) := by decide +kernel
theorem dL_law_438 : decode cL_law 438 = .ok (.iadd, 1) := by decide +kernel
theorem dL_law_439 : decode cL_law 439 = .ok (.iaload, 1) := by decide +kernel
theorem dL_law_440 : decode cL_law 440 = .ok (.i2l, 1) := by decide +kernel
theorem dL_law_441 : decode cL_law 441 = .ok (.bipush 32, 2) := by decide +kernel
theorem dL_law_443 : decode cL_law 443 = .ok (.lshl, 1) := by decide +kernel
theorem dL_law_444 : decode cL_law 444 = .ok (.aload_n 0, 1) := by decide +kernel
theorem dL_law_445 : decode cL_law 445 = .ok (.iload_n 3, 1) := by decide +kernel
theorem dL_law_446 : decode cL_law 446 = .ok (.iconst 3, 1) := by decide +kernel
theorem dL_law_447 : decode cL_law 447 = .ok (.iadd, 1) := by decide +kernel
theorem dL_law_448 : decode cL_law 448 = .ok (.iaload, 1) := by decide +kernel
theorem dL_law_449 : decode cL_law 449 = .ok (.i2l, 1) := by decide +kernel
theorem dL_law_450 : decode cL_law 450 = .ok (.ldc2_w 41, 3) := by decide +kernel
theorem dL_law_453 : decode cL_law 453 = .ok (.land, 1) := by decide +kernel
theorem dL_law_454 : decode cL_law 454 = .ok (.lor, 1) := by decide +kernel
theorem dL_law_455 : decode cL_law 455 = .ok (.invokevirtual 47, 3) := by decide +kernel
theorem dL_law_458 : decode cL_law 458 = .ok (.if_icmp .eq 617, 3) := by decide +kernel
theorem dL_law_461 : decode cL_law 461 = .ok (.iconst 0, 1) := by decide +kernel
theorem dL_law_462 : decode cL_law 462 = .ok (.ireturn, 1) := by decide +kernel
theorem dL_law_463 : decode cL_law 463 = .ok (.aload_n 1, 1) := by decide +kernel
theorem dL_law_464 : decode cL_law 464 = .ok (.invokevirtual 48, 3) := by decide +kernel
theorem dL_law_467 : decode cL_law 467 = .ok (.aload_n 2, 1) := by decide +kernel
theorem dL_law_468 : decode cL_law 468 = .ok (.invokevirtual 52, 3) := by decide +kernel
theorem dL_law_471 : decode cL_law 471 = .ok (.if_icmp .eq 604, 3) := by decide +kernel
theorem dL_law_474 : decode cL_law 474 = .ok (.iconst 0, 1) := by decide +kernel
theorem dL_law_475 : decode cL_law 475 = .ok (.ireturn, 1) := by decide +kernel
theorem dL_law_476 : decode cL_law 476 = .ok (.aload_n 1, 1) := by decide +kernel
theorem dL_law_477 : decode cL_law 477 = .ok (.invokevirtual 53, 3) := by decide +kernel
theorem dL_law_480 : decode cL_law 480 = .ok (.aload_n 2, 1) := by decide +kernel
theorem dL_law_481 : decode cL_law 481 = .ok (.invokevirtual 56, 3) := by decide +kernel
theorem dL_law_484 : decode cL_law 484 = .ok (.if_icmp .eq 591, 3) := by decide +kernel
theorem dL_law_487 : decode cL_law 487 = .ok (.iconst 0, 1) := by decide +kernel
theorem dL_law_488 : decode cL_law 488 = .ok (.ireturn, 1) := by decide +kernel
theorem dL_law_489 : decode cL_law 489 = .ok (.aload_n 1, 1) := by decide +kernel
theorem dL_law_490 : decode cL_law 490 = .ok (.invokevirtual 57, 3) := by decide +kernel
theorem dL_law_493 : decode cL_law 493 = .ok (.aload_n 2, 1) := by decide +kernel
theorem dL_law_494 : decode cL_law 494 = .ok (.invokevirtual 60, 3) := by decide +kernel
theorem dL_law_497 : decode cL_law 497 = .ok (.if_icmp .eq 578, 3) := by decide +kernel
theorem dL_law_500 : decode cL_law 500 = .ok (.iconst 0, 1) := by decide +kernel
theorem dL_law_501 : decode cL_law 501 = .ok (.ireturn, 1) := by decide +kernel
theorem dL_law_502 : decode cL_law 502 = .ok (.aload_n 1, 1) := by decide +kernel
theorem dL_law_503 : decode cL_law 503 = .ok (.aload_n 0, 1) := by decide +kernel
theorem dL_law_504 : decode cL_law 504 = .ok (.iload_n 3, 1) := by decide +kernel
theorem dL_law_505 : decode cL_law 505 = .ok (.iconst 1, 1) := by decide +kernel
theorem dL_law_506 : decode cL_law 506 = .ok (.iadd, 1) := by decide +kernel
theorem dL_law_507 : decode cL_law 507 = .ok (.iaload, 1) := by decide +kernel
theorem dL_law_508 : decode cL_law 508 = .ok (.aload_n 0, 1) := by decide +kernel
theorem dL_law_509 : decode cL_law 509 = .ok (.iload_n 3, 1) := by decide +kernel
theorem dL_law_510 : decode cL_law 510 = .ok (.iconst 2, 1) := by decide +kernel
theorem dL_law_511 : decode cL_law 511 = .ok (.iadd, 1) := by decide +kernel
theorem dL_law_512 : decode cL_law 512 = .ok (.iaload, 1) := by decide +kernel
theorem dL_law_513 : decode cL_law 513 = .ok (.aload_n 0, 1) := by decide +kernel
theorem dL_law_514 : decode cL_law 514 = .ok (.iload_n 3, 1) := by decide +kernel
theorem dL_law_515 : decode cL_law 515 = .ok (.iconst 3, 1) := by decide +kernel
theorem dL_law_516 : decode cL_law 516 = .ok (.iadd, 1) := by decide +kernel
theorem dL_law_517 : decode cL_law 517 = .ok (.iaload, 1) := by decide +kernel
theorem dL_law_518 : decode cL_law 518 = .ok (.invokevirtual 61, 3) := by decide +kernel
theorem dL_law_521 : decode cL_law 521 = .ok (.aload_n 2, 1) := by decide +kernel
theorem dL_law_522 : decode cL_law 522 = .ok (.aload_n 0, 1) := by decide +kernel
theorem dL_law_523 : decode cL_law 523 = .ok (.iload_n 3, 1) := by decide +kernel
theorem dL_law_524 : decode cL_law 524 = .ok (.iconst 1, 1) := by decide +kernel
theorem dL_law_525 : decode cL_law 525 = .ok (.iadd, 1) := by decide +kernel
theorem dL_law_526 : decode cL_law 526 = .ok (.iaload, 1) := by decide +kernel
theorem dL_law_527 : decode cL_law 527 = .ok (.aload_n 0, 1) := by decide +kernel
theorem dL_law_528 : decode cL_law 528 = .ok (.iload_n 3, 1) := by decide +kernel
theorem dL_law_529 : decode cL_law 529 = .ok (.iconst 2, 1) := by decide +kernel
theorem dL_law_530 : decode cL_law 530 = .ok (.iadd, 1) := by decide +kernel
theorem dL_law_531 : decode cL_law 531 = .ok (.iaload, 1) := by decide +kernel
theorem dL_law_532 : decode cL_law 532 = .ok (.aload_n 0, 1) := by decide +kernel
theorem dL_law_533 : decode cL_law 533 = .ok (.iload_n 3, 1) := by decide +kernel
theorem dL_law_534 : decode cL_law 534 = .ok (.iconst 3, 1) := by decide +kernel
theorem dL_law_535 : decode cL_law 535 = .ok (.iadd, 1) := by decide +kernel
theorem dL_law_536 : decode cL_law 536 = .ok (.iaload, 1) := by decide +kernel
theorem dL_law_537 : decode cL_law 537 = .ok (.invokevirtual 64, 3) := by decide +kernel
theorem dL_law_540 : decode cL_law 540 = .ok (.if_icmp .eq 535, 3) := by decide +kernel
theorem dL_law_543 : decode cL_law 543 = .ok (.iconst 0, 1) := by decide +kernel
theorem dL_law_544 : decode cL_law 544 = .ok (.ireturn, 1) := by decide +kernel
theorem dL_law_545 : decode cL_law 545 = .ok (.aload_n 1, 1) := by decide +kernel
theorem dL_law_546 : decode cL_law 546 = .ok (.invokevirtual 65, 3) := by decide +kernel
theorem dL_law_549 : decode cL_law 549 = .ok (.aload_n 2, 1) := by decide +kernel
theorem dL_law_550 : decode cL_law 550 = .ok (.invokevirtual 68, 3) := by decide +kernel
theorem dL_law_553 : decode cL_law 553 = .ok (.if_icmp .eq 522, 3) := by decide +kernel
theorem dL_law_556 : decode cL_law 556 = .ok (.iconst 0, 1) := by decide +kernel
theorem dL_law_557 : decode cL_law 557 = .ok (.ireturn, 1) := by decide +kernel
theorem dL_law_558 : decode cL_law 558 = .ok (.aload_n 1, 1) := by decide +kernel
theorem dL_law_559 : decode cL_law 559 = .ok (.aload_n 0, 1) := by decide +kernel
theorem dL_law_560 : decode cL_law 560 = .ok (.iload_n 3, 1) := by decide +kernel
theorem dL_law_561 : decode cL_law 561 = .ok (.iconst 1, 1) := by decide +kernel
theorem dL_law_562 : decode cL_law 562 = .ok (.iadd, 1) := by decide +kernel
theorem dL_law_563 : decode cL_law 563 = .ok (.iaload, 1) := by decide +kernel
theorem dL_law_564 : decode cL_law 564 = .ok (.aload_n 0, 1) := by decide +kernel
theorem dL_law_565 : decode cL_law 565 = .ok (.iload_n 3, 1) := by decide +kernel
theorem dL_law_566 : decode cL_law 566 = .ok (.iconst 2, 1) := by decide +kernel
theorem dL_law_567 : decode cL_law 567 = .ok (.iadd, 1) := by decide +kernel
theorem dL_law_568 : decode cL_law 568 = .ok (.iaload, 1) := by decide +kernel
theorem dL_law_569 : decode cL_law 569 = .ok (.aload_n 0, 1) := by decide +kernel
theorem dL_law_570 : decode cL_law 570 = .ok (.iload_n 3, 1) := by decide +kernel
theorem dL_law_571 : decode cL_law 571 = .ok (.iconst 3, 1) := by decide +kernel
theorem dL_law_572 : decode cL_law 572 = .ok (.iadd, 1) := by decide +kernel
theorem dL_law_573 : decode cL_law 573 = .ok (.iaload, 1) := by decide +kernel
theorem dL_law_574 : decode cL_law 574 = .ok (.aload_n 0, 1) := by decide +kernel
theorem dL_law_575 : decode cL_law 575 = .ok (.iload_n 3, 1) := by decide +kernel
theorem dL_law_576 : decode cL_law 576 = .ok (.iconst 4, 1) := by decide +kernel
theorem dL_law_577 : decode cL_law 577 = .ok (.iadd, 1) := by decide +kernel
theorem dL_law_578 : decode cL_law 578 = .ok (.iaload, 1) := by decide +kernel
theorem dL_law_579 : decode cL_law 579 = .ok (.i2l, 1) := by decide +kernel
theorem dL_law_580 : decode cL_law 580 = .ok (.bipush 32, 2) := by decide +kernel
theorem dL_law_582 : decode cL_law 582 = .ok (.lshl, 1) := by decide +kernel
theorem dL_law_583 : decode cL_law 583 = .ok (.aload_n 0, 1) := by decide +kernel
theorem dL_law_584 : decode cL_law 584 = .ok (.iload_n 3, 1) := by decide +kernel
theorem dL_law_585 : decode cL_law 585 = .ok (.iconst 5, 1) := by decide +kernel
theorem dL_law_586 : decode cL_law 586 = .ok (.iadd, 1) := by decide +kernel
theorem dL_law_587 : decode cL_law 587 = .ok (.iaload, 1) := by decide +kernel
theorem dL_law_588 : decode cL_law 588 = .ok (.i2l, 1) := by decide +kernel
theorem dL_law_589 : decode cL_law 589 = .ok (.ldc2_w 41, 3) := by decide +kernel
theorem dL_law_592 : decode cL_law 592 = .ok (.land, 1) := by decide +kernel
theorem dL_law_593 : decode cL_law 593 = .ok (.lor, 1) := by decide +kernel
theorem dL_law_594 : decode cL_law 594 = .ok (.invokevirtual 69, 3) := by decide +kernel
theorem dL_law_597 : decode cL_law 597 = .ok (.aload_n 2, 1) := by decide +kernel
theorem dL_law_598 : decode cL_law 598 = .ok (.aload_n 0, 1) := by decide +kernel
theorem dL_law_599 : decode cL_law 599 = .ok (.iload_n 3, 1) := by decide +kernel
theorem dL_law_600 : decode cL_law 600 = .ok (.iconst 1, 1) := by decide +kernel
theorem dL_law_601 : decode cL_law 601 = .ok (.iadd, 1) := by decide +kernel
theorem dL_law_602 : decode cL_law 602 = .ok (.iaload, 1) := by decide +kernel
theorem dL_law_603 : decode cL_law 603 = .ok (.aload_n 0, 1) := by decide +kernel
theorem dL_law_604 : decode cL_law 604 = .ok (.iload_n 3, 1) := by decide +kernel
theorem dL_law_605 : decode cL_law 605 = .ok (.iconst 2, 1) := by decide +kernel
theorem dL_law_606 : decode cL_law 606 = .ok (.iadd, 1) := by decide +kernel
theorem dL_law_607 : decode cL_law 607 = .ok (.iaload, 1) := by decide +kernel
theorem dL_law_608 : decode cL_law 608 = .ok (.aload_n 0, 1) := by decide +kernel
theorem dL_law_609 : decode cL_law 609 = .ok (.iload_n 3, 1) := by decide +kernel
theorem dL_law_610 : decode cL_law 610 = .ok (.iconst 3, 1) := by decide +kernel
theorem dL_law_611 : decode cL_law 611 = .ok (.iadd, 1) := by decide +kernel
theorem dL_law_612 : decode cL_law 612 = .ok (.iaload, 1) := by decide +kernel
theorem dL_law_613 : decode cL_law 613 = .ok (.aload_n 0, 1) := by decide +kernel
theorem dL_law_614 : decode cL_law 614 = .ok (.iload_n 3, 1) := by decide +kernel
theorem dL_law_615 : decode cL_law 615 = .ok (.iconst 4, 1) := by decide +kernel
theorem dL_law_616 : decode cL_law 616 = .ok (.iadd, 1) := by decide +kernel
theorem dL_law_617 : decode cL_law 617 = .ok (.iaload, 1) := by decide +kernel
theorem dL_law_618 : decode cL_law 618 = .ok (.i2l, 1) := by decide +kernel
theorem dL_law_619 : decode cL_law 619 = .ok (.bipush 32, 2) := by decide +kernel
theorem dL_law_621 : decode cL_law 621 = .ok (.lshl, 1) := by decide +kernel
theorem dL_law_622 : decode cL_law 622 = .ok (.aload_n 0, 1) := by decide +kernel
theorem dL_law_623 : decode cL_law 623 = .ok (.iload_n 3, 1) := by decide +kernel
theorem dL_law_624 : decode cL_law 624 = .ok (.iconst 5, 1) := by decide +kernel
theorem dL_law_625 : decode cL_law 625 = .ok (.iadd, 1) := by decide +kernel
theorem dL_law_626 : decode cL_law 626 = .ok (.iaload, 1) := by decide +kernel
theorem dL_law_627 : decode cL_law 627 = .ok (.i2l, 1) := by decide +kernel
theorem dL_law_628 : decode cL_law 628 = .ok (.ldc2_w 41, 3) := by decide +kernel
theorem dL_law_631 : decode cL_law 631 = .ok (.land, 1) := by decide +kernel
theorem dL_law_632 : decode cL_law 632 = .ok (.lor, 1) := by decide +kernel
theorem dL_law_633 : decode cL_law 633 = .ok (.invokevirtual 73, 3) := by decide +kernel
theorem dL_law_636 : decode cL_law 636 = .ok (.if_icmp .eq 439, 3) := by decide +kernel
theorem dL_law_639 : decode cL_law 639 = .ok (.iconst 0, 1) := by decide +kernel
theorem dL_law_640 : decode cL_law 640 = .ok (.ireturn, 1) := by decide +kernel
theorem dL_law_641 : decode cL_law 641 = .ok (.aload_n 1, 1) := by decide +kernel
theorem dL_law_642 : decode cL_law 642 = .ok (.aload_n 0, 1) := by decide +kernel
theorem dL_law_643 : decode cL_law 643 = .ok (.iload_n 3, 1) := by decide +kernel
theorem dL_law_644 : decode cL_law 644 = .ok (.iconst 1, 1) := by decide +kernel
theorem dL_law_645 : decode cL_law 645 = .ok (.iadd, 1) := by decide +kernel
theorem dL_law_646 : decode cL_law 646 = .ok (.iaload, 1) := by decide +kernel
theorem dL_law_647 : decode cL_law 647 = .ok (.aload_n 0, 1) := by decide +kernel
theorem dL_law_648 : decode cL_law 648 = .ok (.iload_n 3, 1) := by decide +kernel
theorem dL_law_649 : decode cL_law 649 = .ok (.iconst 2, 1) := by decide +kernel
theorem dL_law_650 : decode cL_law 650 = .ok (.iadd, 1) := by decide +kernel
theorem dL_law_651 : decode cL_law 651 = .ok (.iaload, 1) := by decide +kernel
theorem dL_law_652 : decode cL_law 652 = .ok (.invokevirtual 74, 3) := by decide +kernel
theorem dL_law_655 : decode cL_law 655 = .ok (.aload_n 2, 1) := by decide +kernel
theorem dL_law_656 : decode cL_law 656 = .ok (.aload_n 0, 1) := by decide +kernel
theorem dL_law_657 : decode cL_law 657 = .ok (.iload_n 3, 1) := by decide +kernel
theorem dL_law_658 : decode cL_law 658 = .ok (.iconst 1, 1) := by decide +kernel
theorem dL_law_659 : decode cL_law 659 = .ok (.iadd, 1) := by decide +kernel
theorem dL_law_660 : decode cL_law 660 = .ok (.iaload, 1) := by decide +kernel
theorem dL_law_661 : decode cL_law 661 = .ok (.aload_n 0, 1) := by decide +kernel
theorem dL_law_662 : decode cL_law 662 = .ok (.iload_n 3, 1) := by decide +kernel
theorem dL_law_663 : decode cL_law 663 = .ok (.iconst 2, 1) := by decide +kernel
theorem dL_law_664 : decode cL_law 664 = .ok (.iadd, 1) := by decide +kernel
theorem dL_law_665 : decode cL_law 665 = .ok (.iaload, 1) := by decide +kernel
theorem dL_law_666 : decode cL_law 666 = .ok (.invokevirtual 77, 3) := by decide +kernel
theorem dL_law_669 : decode cL_law 669 = .ok (.if_icmp .eq 406, 3) := by decide +kernel
theorem dL_law_672 : decode cL_law 672 = .ok (.iconst 0, 1) := by decide +kernel
theorem dL_law_673 : decode cL_law 673 = .ok (.ireturn, 1) := by decide +kernel
theorem dL_law_674 : decode cL_law 674 = .ok (.aload_n 1, 1) := by decide +kernel
theorem dL_law_675 : decode cL_law 675 = .ok (.invokevirtual 78, 3) := by decide +kernel
theorem dL_law_678 : decode cL_law 678 = .ok (.aload_n 2, 1) := by decide +kernel
theorem dL_law_679 : decode cL_law 679 = .ok (.invokevirtual 81, 3) := by decide +kernel
theorem dL_law_682 : decode cL_law 682 = .ok (.if_icmp .eq 393, 3) := by decide +kernel
theorem dL_law_685 : decode cL_law 685 = .ok (.iconst 0, 1) := by decide +kernel
theorem dL_law_686 : decode cL_law 686 = .ok (.ireturn, 1) := by decide +kernel
theorem dL_law_687 : decode cL_law 687 = .ok (.aload_n 1, 1) := by decide +kernel
theorem dL_law_688 : decode cL_law 688 = .ok (.invokevirtual 82, 3) := by decide +kernel
theorem dL_law_691 : decode cL_law 691 = .ok (.aload_n 2, 1) := by decide +kernel
theorem dL_law_692 : decode cL_law 692 = .ok (.invokevirtual 85, 3) := by decide +kernel
theorem dL_law_695 : decode cL_law 695 = .ok (.if_icmp .eq 380, 3) := by decide +kernel
theorem dL_law_698 : decode cL_law 698 = .ok (.iconst 0, 1) := by decide +kernel
theorem dL_law_699 : decode cL_law 699 = .ok (.ireturn, 1) := by decide +kernel
theorem dL_law_700 : decode cL_law 700 = .ok (.aload_n 1, 1) := by decide +kernel
theorem dL_law_701 : decode cL_law 701 = .ok (.aload_n 0, 1) := by decide +kernel
theorem dL_law_702 : decode cL_law 702 = .ok (.iload_n 3, 1) := by decide +kernel
theorem dL_law_703 : decode cL_law 703 = .ok (.iconst 1, 1) := by decide +kernel
theorem dL_law_704 : decode cL_law 704 = .ok (.iadd, 1) := by decide +kernel
theorem dL_law_705 : decode cL_law 705 = .ok (.iaload, 1) := by decide +kernel
theorem dL_law_706 : decode cL_law 706 = .ok (.aload_n 0, 1) := by decide +kernel
theorem dL_law_707 : decode cL_law 707 = .ok (.iload_n 3, 1) := by decide +kernel
theorem dL_law_708 : decode cL_law 708 = .ok (.iconst 2, 1) := by decide +kernel
theorem dL_law_709 : decode cL_law 709 = .ok (.iadd, 1) := by decide +kernel
theorem dL_law_710 : decode cL_law 710 = .ok (.iaload, 1) := by decide +kernel
theorem dL_law_711 : decode cL_law 711 = .ok (.invokevirtual 86, 3) := by decide +kernel
theorem dL_law_714 : decode cL_law 714 = .ok (.aload_n 2, 1) := by decide +kernel
theorem dL_law_715 : decode cL_law 715 = .ok (.aload_n 0, 1) := by decide +kernel
theorem dL_law_716 : decode cL_law 716 = .ok (.iload_n 3, 1) := by decide +kernel
theorem dL_law_717 : decode cL_law 717 = .ok (.iconst 1, 1) := by decide +kernel
theorem dL_law_718 : decode cL_law 718 = .ok (.iadd, 1) := by decide +kernel
theorem dL_law_719 : decode cL_law 719 = .ok (.iaload, 1) := by decide +kernel
theorem dL_law_720 : decode cL_law 720 = .ok (.aload_n 0, 1) := by decide +kernel
theorem dL_law_721 : decode cL_law 721 = .ok (.iload_n 3, 1) := by decide +kernel
theorem dL_law_722 : decode cL_law 722 = .ok (.iconst 2, 1) := by decide +kernel
theorem dL_law_723 : decode cL_law 723 = .ok (.iadd, 1) := by decide +kernel
theorem dL_law_724 : decode cL_law 724 = .ok (.iaload, 1) := by decide +kernel
theorem dL_law_725 : decode cL_law 725 = .ok (.invokevirtual 89, 3) := by decide +kernel
theorem dL_law_728 : decode cL_law 728 = .ok (.if_icmp .eq 347, 3) := by decide +kernel
theorem dL_law_731 : decode cL_law 731 = .ok (.iconst 0, 1) := by decide +kernel
theorem dL_law_732 : decode cL_law 732 = .ok (.ireturn, 1) := by decide +kernel
theorem dL_law_733 : decode cL_law 733 = .ok (.aload_n 1, 1) := by decide +kernel
theorem dL_law_734 : decode cL_law 734 = .ok (.invokevirtual 90, 3) := by decide +kernel
theorem dL_law_737 : decode cL_law 737 = .ok (.aload_n 2, 1) := by decide +kernel
theorem dL_law_738 : decode cL_law 738 = .ok (.invokevirtual 93, 3) := by decide +kernel
theorem dL_law_741 : decode cL_law 741 = .ok (.if_icmp .eq 334, 3) := by decide +kernel
theorem dL_law_744 : decode cL_law 744 = .ok (.iconst 0, 1) := by decide +kernel
theorem dL_law_745 : decode cL_law 745 = .ok (.ireturn, 1) := by decide +kernel
theorem dL_law_746 : decode cL_law 746 = .ok (.aload_n 1, 1) := by decide +kernel
theorem dL_law_747 : decode cL_law 747 = .ok (.invokevirtual 94, 3) := by decide +kernel
theorem dL_law_750 : decode cL_law 750 = .ok (.aload_n 2, 1) := by decide +kernel
theorem dL_law_751 : decode cL_law 751 = .ok (.invokevirtual 97, 3) := by decide +kernel
theorem dL_law_754 : decode cL_law 754 = .ok (.if_icmp .eq 321, 3) := by decide +kernel
theorem dL_law_757 : decode cL_law 757 = .ok (.iconst 0, 1) := by decide +kernel
theorem dL_law_758 : decode cL_law 758 = .ok (.ireturn, 1) := by decide +kernel
theorem dL_law_759 : decode cL_law 759 = .ok (.aload_n 1, 1) := by decide +kernel
theorem dL_law_760 : decode cL_law 760 = .ok (.aload_n 0, 1) := by decide +kernel
theorem dL_law_761 : decode cL_law 761 = .ok (.iload_n 3, 1) := by decide +kernel
theorem dL_law_762 : decode cL_law 762 = .ok (.iconst 1, 1) := by decide +kernel
theorem dL_law_763 : decode cL_law 763 = .ok (.iadd, 1) := by decide +kernel
theorem dL_law_764 : decode cL_law 764 = .ok (.iaload, 1) := by decide +kernel
theorem dL_law_765 : decode cL_law 765 = .ok (.aload_n 0, 1) := by decide +kernel
theorem dL_law_766 : decode cL_law 766 = .ok (.iload_n 3, 1) := by decide +kernel
theorem dL_law_767 : decode cL_law 767 = .ok (.iconst 2, 1) := by decide +kernel
theorem dL_law_768 : decode cL_law 768 = .ok (.iadd, 1) := by decide +kernel
theorem dL_law_769 : decode cL_law 769 = .ok (.iaload, 1) := by decide +kernel
theorem dL_law_770 : decode cL_law 770 = .ok (.aload_n 0, 1) := by decide +kernel
theorem dL_law_771 : decode cL_law 771 = .ok (.iload_n 3, 1) := by decide +kernel
theorem dL_law_772 : decode cL_law 772 = .ok (.iconst 3, 1) := by decide +kernel
theorem dL_law_773 : decode cL_law 773 = .ok (.iadd, 1) := by decide +kernel
theorem dL_law_774 : decode cL_law 774 = .ok (.iaload, 1) := by decide +kernel
theorem dL_law_775 : decode cL_law 775 = .ok (.aload_n 0, 1) := by decide +kernel
theorem dL_law_776 : decode cL_law 776 = .ok (.iload_n 3, 1) := by decide +kernel
theorem dL_law_777 : decode cL_law 777 = .ok (.iconst 4, 1) := by decide +kernel
theorem dL_law_778 : decode cL_law 778 = .ok (.iadd, 1) := by decide +kernel
theorem dL_law_779 : decode cL_law 779 = .ok (.iaload, 1) := by decide +kernel
theorem dL_law_780 : decode cL_law 780 = .ok (.invokevirtual 98, 3) := by decide +kernel
theorem dL_law_783 : decode cL_law 783 = .ok (.aload_n 2, 1) := by decide +kernel
theorem dL_law_784 : decode cL_law 784 = .ok (.aload_n 0, 1) := by decide +kernel
theorem dL_law_785 : decode cL_law 785 = .ok (.iload_n 3, 1) := by decide +kernel
theorem dL_law_786 : decode cL_law 786 = .ok (.iconst 1, 1) := by decide +kernel
theorem dL_law_787 : decode cL_law 787 = .ok (.iadd, 1) := by decide +kernel
theorem dL_law_788 : decode cL_law 788 = .ok (.iaload, 1) := by decide +kernel
theorem dL_law_789 : decode cL_law 789 = .ok (.aload_n 0, 1) := by decide +kernel
theorem dL_law_790 : decode cL_law 790 = .ok (.iload_n 3, 1) := by decide +kernel
theorem dL_law_791 : decode cL_law 791 = .ok (.iconst 2, 1) := by decide +kernel
theorem dL_law_792 : decode cL_law 792 = .ok (.iadd, 1) := by decide +kernel
theorem dL_law_793 : decode cL_law 793 = .ok (.iaload, 1) := by decide +kernel
theorem dL_law_794 : decode cL_law 794 = .ok (.aload_n 0, 1) := by decide +kernel
theorem dL_law_795 : decode cL_law 795 = .ok (.iload_n 3, 1) := by decide +kernel
theorem dL_law_796 : decode cL_law 796 = .ok (.iconst 3, 1) := by decide +kernel
theorem dL_law_797 : decode cL_law 797 = .ok (.iadd, 1) := by decide +kernel
theorem dL_law_798 : decode cL_law 798 = .ok (.iaload, 1) := by decide +kernel
theorem dL_law_799 : decode cL_law 799 = .ok (.aload_n 0, 1) := by decide +kernel
theorem dL_law_800 : decode cL_law 800 = .ok (.iload_n 3, 1) := by decide +kernel
theorem dL_law_801 : decode cL_law 801 = .ok (.iconst 4, 1) := by decide +kernel
theorem dL_law_802 : decode cL_law 802 = .ok (.iadd, 1) := by decide +kernel
theorem dL_law_803 : decode cL_law 803 = .ok (.iaload, 1) := by decide +kernel
theorem dL_law_804 : decode cL_law 804 = .ok (.invokevirtual 101, 3) := by decide +kernel
theorem dL_law_807 : decode cL_law 807 = .ok (.if_icmp .eq 268, 3) := by decide +kernel
theorem dL_law_810 : decode cL_law 810 = .ok (.iconst 0, 1) := by decide +kernel
theorem dL_law_811 : decode cL_law 811 = .ok (.ireturn, 1) := by decide +kernel
theorem dL_law_812 : decode cL_law 812 = .ok (.aload_n 1, 1) := by decide +kernel
theorem dL_law_813 : decode cL_law 813 = .ok (.aload_n 0, 1) := by decide +kernel
theorem dL_law_814 : decode cL_law 814 = .ok (.iload_n 3, 1) := by decide +kernel
theorem dL_law_815 : decode cL_law 815 = .ok (.iconst 1, 1) := by decide +kernel
theorem dL_law_816 : decode cL_law 816 = .ok (.iadd, 1) := by decide +kernel
theorem dL_law_817 : decode cL_law 817 = .ok (.iaload, 1) := by decide +kernel
theorem dL_law_818 : decode cL_law 818 = .ok (.aload_n 0, 1) := by decide +kernel
theorem dL_law_819 : decode cL_law 819 = .ok (.iload_n 3, 1) := by decide +kernel
theorem dL_law_820 : decode cL_law 820 = .ok (.iconst 2, 1) := by decide +kernel
theorem dL_law_821 : decode cL_law 821 = .ok (.iadd, 1) := by decide +kernel
theorem dL_law_822 : decode cL_law 822 = .ok (.iaload, 1) := by decide +kernel
theorem dL_law_823 : decode cL_law 823 = .ok (.aload_n 0, 1) := by decide +kernel
theorem dL_law_824 : decode cL_law 824 = .ok (.iload_n 3, 1) := by decide +kernel
theorem dL_law_825 : decode cL_law 825 = .ok (.iconst 3, 1) := by decide +kernel
theorem dL_law_826 : decode cL_law 826 = .ok (.iadd, 1) := by decide +kernel
theorem dL_law_827 : decode cL_law 827 = .ok (.iaload, 1) := by decide +kernel
theorem dL_law_828 : decode cL_law 828 = .ok (.invokevirtual 102, 3) := by decide +kernel
theorem dL_law_831 : decode cL_law 831 = .ok (.aload_n 2, 1) := by decide +kernel
theorem dL_law_832 : decode cL_law 832 = .ok (.aload_n 0, 1) := by decide +kernel
theorem dL_law_833 : decode cL_law 833 = .ok (.iload_n 3, 1) := by decide +kernel
theorem dL_law_834 : decode cL_law 834 = .ok (.iconst 1, 1) := by decide +kernel
theorem dL_law_835 : decode cL_law 835 = .ok (.iadd, 1) := by decide +kernel
theorem dL_law_836 : decode cL_law 836 = .ok (.iaload, 1) := by decide +kernel
theorem dL_law_837 : decode cL_law 837 = .ok (.aload_n 0, 1) := by decide +kernel
theorem dL_law_838 : decode cL_law 838 = .ok (.iload_n 3, 1) := by decide +kernel
theorem dL_law_839 : decode cL_law 839 = .ok (.iconst 2, 1) := by decide +kernel
theorem dL_law_840 : decode cL_law 840 = .ok (.iadd, 1) := by decide +kernel
theorem dL_law_841 : decode cL_law 841 = .ok (.iaload, 1) := by decide +kernel
theorem dL_law_842 : decode cL_law 842 = .ok (.aload_n 0, 1) := by decide +kernel
theorem dL_law_843 : decode cL_law 843 = .ok (.iload_n 3, 1) := by decide +kernel
theorem dL_law_844 : decode cL_law 844 = .ok (.iconst 3, 1) := by decide +kernel
theorem dL_law_845 : decode cL_law 845 = .ok (.iadd, 1) := by decide +kernel
theorem dL_law_846 : decode cL_law 846 = .ok (.iaload, 1) := by decide +kernel
theorem dL_law_847 : decode cL_law 847 = .ok (.invokevirtual 105, 3) := by decide +kernel
theorem dL_law_850 : decode cL_law 850 = .ok (.if_icmp .eq 225, 3) := by decide +kernel
theorem dL_law_853 : decode cL_law 853 = .ok (.iconst 0, 1) := by decide +kernel
theorem dL_law_854 : decode cL_law 854 = .ok (.ireturn, 1) := by decide +kernel
theorem dL_law_855 : decode cL_law 855 = .ok (.aload_n 1, 1) := by decide +kernel
theorem dL_law_856 : decode cL_law 856 = .ok (.aload_n 0, 1) := by decide +kernel
theorem dL_law_857 : decode cL_law 857 = .ok (.iload_n 3, 1) := by decide +kernel
theorem dL_law_858 : decode cL_law 858 = .ok (.iconst 1, 1) := by decide +kernel
theorem dL_law_859 : decode cL_law 859 = .ok (.iadd, 1) := by decide +kernel
theorem dL_law_860 : decode cL_law 860 = .ok (.iaload, 1) := by decide +kernel
theorem dL_law_861 : decode cL_law 861 = .ok (.invokevirtual 106, 3) := by decide +kernel
theorem dL_law_864 : decode cL_law 864 = .ok (.aload_n 2, 1) := by decide +kernel
theorem dL_law_865 : decode cL_law 865 = .ok (.aload_n 0, 1) := by decide +kernel
theorem dL_law_866 : decode cL_law 866 = .ok (.iload_n 3, 1) := by decide +kernel
theorem dL_law_867 : decode cL_law 867 = .ok (.iconst 1, 1) := by decide +kernel
theorem dL_law_868 : decode cL_law 868 = .ok (.iadd, 1) := by decide +kernel
theorem dL_law_869 : decode cL_law 869 = .ok (.iaload, 1) := by decide +kernel
theorem dL_law_870 : decode cL_law 870 = .ok (.invokevirtual 109, 3) := by decide +kernel
theorem dL_law_873 : decode cL_law 873 = .ok (.if_icmp .eq 202, 3) := by decide +kernel
theorem dL_law_876 : decode cL_law 876 = .ok (.iconst 0, 1) := by decide +kernel
theorem dL_law_877 : decode cL_law 877 = .ok (.ireturn, 1) := by decide +kernel
theorem dL_law_878 : decode cL_law 878 = .ok (.aload_n 1, 1) := by decide +kernel
theorem dL_law_879 : decode cL_law 879 = .ok (.invokevirtual 110, 3) := by decide +kernel
theorem dL_law_882 : decode cL_law 882 = .ok (.aload_n 2, 1) := by decide +kernel
theorem dL_law_883 : decode cL_law 883 = .ok (.invokevirtual 113, 3) := by decide +kernel
theorem dL_law_886 : decode cL_law 886 = .ok (.if_icmp .eq 189, 3) := by decide +kernel
theorem dL_law_889 : decode cL_law 889 = .ok (.iconst 0, 1) := by decide +kernel
theorem dL_law_890 : decode cL_law 890 = .ok (.ireturn, 1) := by decide +kernel
theorem dL_law_891 : decode cL_law 891 = .ok (.aload_n 1, 1) := by decide +kernel
theorem dL_law_892 : decode cL_law 892 = .ok (.invokevirtual 114, 3) := by decide +kernel
theorem dL_law_895 : decode cL_law 895 = .ok (.aload_n 2, 1) := by decide +kernel
theorem dL_law_896 : decode cL_law 896 = .ok (.invokevirtual 117, 3) := by decide +kernel
theorem dL_law_899 : decode cL_law 899 = .ok (.if_icmp .eq 176, 3) := by decide +kernel
theorem dL_law_902 : decode cL_law 902 = .ok (.iconst 0, 1) := by decide +kernel
theorem dL_law_903 : decode cL_law 903 = .ok (.ireturn, 1) := by decide +kernel
theorem dL_law_904 : decode cL_law 904 = .ok (.aload_n 1, 1) := by decide +kernel
theorem dL_law_905 : decode cL_law 905 = .ok (.invokevirtual 118, 3) := by decide +kernel
theorem dL_law_908 : decode cL_law 908 = .ok (.aload_n 2, 1) := by decide +kernel
theorem dL_law_909 : decode cL_law 909 = .ok (.invokevirtual 121, 3) := by decide +kernel
theorem dL_law_912 : decode cL_law 912 = .ok (.if_icmp .eq 163, 3) := by decide +kernel
theorem dL_law_915 : decode cL_law 915 = .ok (.iconst 0, 1) := by decide +kernel
theorem dL_law_916 : decode cL_law 916 = .ok (.ireturn, 1) := by decide +kernel
theorem dL_law_917 : decode cL_law 917 = .ok (.aload_n 1, 1) := by decide +kernel
theorem dL_law_918 : decode cL_law 918 = .ok (.aload_n 0, 1) := by decide +kernel
theorem dL_law_919 : decode cL_law 919 = .ok (.iload_n 3, 1) := by decide +kernel
theorem dL_law_920 : decode cL_law 920 = .ok (.iconst 1, 1) := by decide +kernel
theorem dL_law_921 : decode cL_law 921 = .ok (.iadd, 1) := by decide +kernel
theorem dL_law_922 : decode cL_law 922 = .ok (.iaload, 1) := by decide +kernel
theorem dL_law_923 : decode cL_law 923 = .ok (.aload_n 0, 1) := by decide +kernel
theorem dL_law_924 : decode cL_law 924 = .ok (.iload_n 3, 1) := by decide +kernel
theorem dL_law_925 : decode cL_law 925 = .ok (.iconst 2, 1) := by decide +kernel
theorem dL_law_926 : decode cL_law 926 = .ok (.iadd, 1) := by decide +kernel
theorem dL_law_927 : decode cL_law 927 = .ok (.iaload, 1) := by decide +kernel
theorem dL_law_928 : decode cL_law 928 = .ok (.aload_n 0, 1) := by decide +kernel
theorem dL_law_929 : decode cL_law 929 = .ok (.iload_n 3, 1) := by decide +kernel
theorem dL_law_930 : decode cL_law 930 = .ok (.iconst 3, 1) := by decide +kernel
theorem dL_law_931 : decode cL_law 931 = .ok (.iadd, 1) := by decide +kernel
theorem dL_law_932 : decode cL_law 932 = .ok (.iaload, 1) := by decide +kernel
theorem dL_law_933 : decode cL_law 933 = .ok (.invokevirtual 122, 3) := by decide +kernel
theorem dL_law_936 : decode cL_law 936 = .ok (.aload_n 2, 1) := by decide +kernel
theorem dL_law_937 : decode cL_law 937 = .ok (.aload_n 0, 1) := by decide +kernel
theorem dL_law_938 : decode cL_law 938 = .ok (.iload_n 3, 1) := by decide +kernel
theorem dL_law_939 : decode cL_law 939 = .ok (.iconst 1, 1) := by decide +kernel
theorem dL_law_940 : decode cL_law 940 = .ok (.iadd, 1) := by decide +kernel
theorem dL_law_941 : decode cL_law 941 = .ok (.iaload, 1) := by decide +kernel
theorem dL_law_942 : decode cL_law 942 = .ok (.aload_n 0, 1) := by decide +kernel
theorem dL_law_943 : decode cL_law 943 = .ok (.iload_n 3, 1) := by decide +kernel
theorem dL_law_944 : decode cL_law 944 = .ok (.iconst 2, 1) := by decide +kernel
theorem dL_law_945 : decode cL_law 945 = .ok (.iadd, 1) := by decide +kernel
theorem dL_law_946 : decode cL_law 946 = .ok (.iaload, 1) := by decide +kernel
theorem dL_law_947 : decode cL_law 947 = .ok (.aload_n 0, 1) := by decide +kernel
theorem dL_law_948 : decode cL_law 948 = .ok (.iload_n 3, 1) := by decide +kernel
theorem dL_law_949 : decode cL_law 949 = .ok (.iconst 3, 1) := by decide +kernel
theorem dL_law_950 : decode cL_law 950 = .ok (.iadd, 1) := by decide +kernel
theorem dL_law_951 : decode cL_law 951 = .ok (.iaload, 1) := by decide +kernel
theorem dL_law_952 : decode cL_law 952 = .ok (.invokevirtual 125, 3) := by decide +kernel
theorem dL_law_955 : decode cL_law 955 = .ok (.if_icmp .eq 120, 3) := by decide +kernel
theorem dL_law_958 : decode cL_law 958 = .ok (.iconst 0, 1) := by decide +kernel
theorem dL_law_959 : decode cL_law 959 = .ok (.ireturn, 1) := by decide +kernel
theorem dL_law_960 : decode cL_law 960 = .ok (.aload_n 1, 1) := by decide +kernel
theorem dL_law_961 : decode cL_law 961 = .ok (.aload_n 0, 1) := by decide +kernel
theorem dL_law_962 : decode cL_law 962 = .ok (.iload_n 3, 1) := by decide +kernel
theorem dL_law_963 : decode cL_law 963 = .ok (.iconst 1, 1) := by decide +kernel
theorem dL_law_964 : decode cL_law 964 = .ok (.iadd, 1) := by decide +kernel
theorem dL_law_965 : decode cL_law 965 = .ok (.iaload, 1) := by decide +kernel
theorem dL_law_966 : decode cL_law 966 = .ok (.invokevirtual 126, 3) := by decide +kernel
theorem dL_law_969 : decode cL_law 969 = .ok (.aload_n 2, 1) := by decide +kernel
theorem dL_law_970 : decode cL_law 970 = .ok (.aload_n 0, 1) := by decide +kernel
theorem dL_law_971 : decode cL_law 971 = .ok (.iload_n 3, 1) := by decide +kernel
theorem dL_law_972 : decode cL_law 972 = .ok (.iconst 1, 1) := by decide +kernel
theorem dL_law_973 : decode cL_law 973 = .ok (.iadd, 1) := by decide +kernel
theorem dL_law_974 : decode cL_law 974 = .ok (.iaload, 1) := by decide +kernel
theorem dL_law_975 : decode cL_law 975 = .ok (.invokevirtual 129, 3) := by decide +kernel
theorem dL_law_978 : decode cL_law 978 = .ok (.if_icmp .eq 97, 3) := by decide +kernel
theorem dL_law_981 : decode cL_law 981 = .ok (.iconst 0, 1) := by decide +kernel
theorem dL_law_982 : decode cL_law 982 = .ok (.ireturn, 1) := by decide +kernel
theorem dL_law_983 : decode cL_law 983 = .ok (.aload_n 1, 1) := by decide +kernel
theorem dL_law_984 : decode cL_law 984 = .ok (.aload_n 0, 1) := by decide +kernel
theorem dL_law_985 : decode cL_law 985 = .ok (.iload_n 3, 1) := by decide +kernel
theorem dL_law_986 : decode cL_law 986 = .ok (.iconst 1, 1) := by decide +kernel
theorem dL_law_987 : decode cL_law 987 = .ok (.iadd, 1) := by decide +kernel
theorem dL_law_988 : decode cL_law 988 = .ok (.iaload, 1) := by decide +kernel
theorem dL_law_989 : decode cL_law 989 = .ok (.invokevirtual 130, 3) := by decide +kernel
theorem dL_law_992 : decode cL_law 992 = .ok (.aload_n 2, 1) := by decide +kernel
theorem dL_law_993 : decode cL_law 993 = .ok (.aload_n 0, 1) := by decide +kernel
theorem dL_law_994 : decode cL_law 994 = .ok (.iload_n 3, 1) := by decide +kernel
theorem dL_law_995 : decode cL_law 995 = .ok (.iconst 1, 1) := by decide +kernel
theorem dL_law_996 : decode cL_law 996 = .ok (.iadd, 1) := by decide +kernel
theorem dL_law_997 : decode cL_law 997 = .ok (.iaload, 1) := by decide +kernel
theorem dL_law_998 : decode cL_law 998 = .ok (.invokevirtual 133, 3) := by decide +kernel
theorem dL_law_1001 : decode cL_law 1001 = .ok (.if_icmp .eq 74, 3) := by decide +kernel
theorem dL_law_1004 : decode cL_law 1004 = .ok (.iconst 0, 1) := by decide +kernel
theorem dL_law_1005 : decode cL_law 1005 = .ok (.ireturn, 1) := by decide +kernel
theorem dL_law_1006 : decode cL_law 1006 = .ok (.aload_n 1, 1) := by decide +kernel
theorem dL_law_1007 : decode cL_law 1007 = .ok (.aload_n 0, 1) := by decide +kernel
theorem dL_law_1008 : decode cL_law 1008 = .ok (.iload_n 3, 1) := by decide +kernel
theorem dL_law_1009 : decode cL_law 1009 = .ok (.iconst 1, 1) := by decide +kernel
theorem dL_law_1010 : decode cL_law 1010 = .ok (.iadd, 1) := by decide +kernel
theorem dL_law_1011 : decode cL_law 1011 = .ok (.iaload, 1) := by decide +kernel
theorem dL_law_1012 : decode cL_law 1012 = .ok (.invokevirtual 134, 3) := by decide +kernel
theorem dL_law_1015 : decode cL_law 1015 = .ok (.aload_n 2, 1) := by decide +kernel
theorem dL_law_1016 : decode cL_law 1016 = .ok (.aload_n 0, 1) := by decide +kernel
theorem dL_law_1017 : decode cL_law 1017 = .ok (.iload_n 3, 1) := by decide +kernel
theorem dL_law_1018 : decode cL_law 1018 = .ok (.iconst 1, 1) := by decide +kernel
theorem dL_law_1019 : decode cL_law 1019 = .ok (.iadd, 1) := by decide +kernel
theorem dL_law_1020 : decode cL_law 1020 = .ok (.iaload, 1) := by decide +kernel
theorem dL_law_1021 : decode cL_law 1021 = .ok (.invokevirtual 137, 3) := by decide +kernel
theorem dL_law_1024 : decode cL_law 1024 = .ok (.if_icmp .eq 51, 3) := by decide +kernel
theorem dL_law_1027 : decode cL_law 1027 = .ok (.iconst 0, 1) := by decide +kernel
theorem dL_law_1028 : decode cL_law 1028 = .ok (.ireturn, 1) := by decide +kernel
theorem dL_law_1029 : decode cL_law 1029 = .ok (.aload_n 1, 1) := by decide +kernel
theorem dL_law_1030 : decode cL_law 1030 = .ok (.aload_n 0, 1) := by decide +kernel
theorem dL_law_1031 : decode cL_law 1031 = .ok (.iload_n 3, 1) := by decide +kernel
theorem dL_law_1032 : decode cL_law 1032 = .ok (.iconst 1, 1) := by decide +kernel
theorem dL_law_1033 : decode cL_law 1033 = .ok (.iadd, 1) := by decide +kernel
theorem dL_law_1034 : decode cL_law 1034 = .ok (.iaload, 1) := by decide +kernel
theorem dL_law_1035 : decode cL_law 1035 = .ok (.invokevirtual 138, 3) := by decide +kernel
theorem dL_law_1038 : decode cL_law 1038 = .ok (.aload_n 2, 1) := by decide +kernel
theorem dL_law_1039 : decode cL_law 1039 = .ok (.aload_n 0, 1) := by decide +kernel
theorem dL_law_1040 : decode cL_law 1040 = .ok (.iload_n 3, 1) := by decide +kernel
theorem dL_law_1041 : decode cL_law 1041 = .ok (.iconst 1, 1) := by decide +kernel
theorem dL_law_1042 : decode cL_law 1042 = .ok (.iadd, 1) := by decide +kernel
theorem dL_law_1043 : decode cL_law 1043 = .ok (.iaload, 1) := by decide +kernel
theorem dL_law_1044 : decode cL_law 1044 = .ok (.invokevirtual 141, 3) := by decide +kernel
theorem dL_law_1047 : decode cL_law 1047 = .ok (.if_icmp .eq 28, 3) := by decide +kernel
theorem dL_law_1050 : decode cL_law 1050 = .ok (.iconst 0, 1) := by decide +kernel
theorem dL_law_1051 : decode cL_law 1051 = .ok (.ireturn, 1) := by decide +kernel
theorem dL_law_1052 : decode cL_law 1052 = .ok (.aload_n 1, 1) := by decide +kernel
theorem dL_law_1053 : decode cL_law 1053 = .ok (.aload_n 0, 1) := by decide +kernel
theorem dL_law_1054 : decode cL_law 1054 = .ok (.iload_n 3, 1) := by decide +kernel
theorem dL_law_1055 : decode cL_law 1055 = .ok (.iconst 1, 1) := by decide +kernel
theorem dL_law_1056 : decode cL_law 1056 = .ok (.iadd, 1) := by decide +kernel
