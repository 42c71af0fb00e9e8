theorem dX9_word_53 : decode cX9_word 53 = .ok (.ifCond .eq 21, 3) := by decide +kernel
theorem dX9_word_56 : decode cX9_word 56 = .ok (.iload 4, 2) := by decide +kernel
theorem dX9_word_58 : decode cX9_word 58 = .ok (.i2l, 1) := by decide +kernel
theorem dX9_word_59 : decode cX9_word 59 = .ok (.lconst 0, 1) := by decide +kernel
theorem dX9_word_60 : decode cX9_word 60 = .ok (.iconst 1, 1) := by decide +kernel
theorem dX9_word_61 : decode cX9_word 61 = .ok (.iconst 4, 1) := by decide +kernel
theorem dX9_word_62 : decode cX9_word 62 = .ok (.iload_n 3, 1) := by decide +kernel
theorem dX9_word_63 : decode cX9_word 63 = .ok (.imul, 1) := by decide +kernel
theorem dX9_word_64 : decode cX9_word 64 = .ok (.ishl, 1) := by decide +kernel
theorem dX9_word_65 : decode cX9_word 65 = .ok (.iconst 1, 1) := by decide +kernel
theorem dX9_word_66 : decode cX9_word 66 = .ok (.isub, 1) := by decide +kernel
theorem dX9_word_67 : decode cX9_word 67 = .ok (.i2l, 1) := by decide +kernel
theorem dX9_word_68 : decode cX9_word 68 = .ok (.invokestatic 117, 3) := by decide +kernel
theorem dX9_word_71 : decode cX9_word 71 = .ok (.ifCond .ne 5, 3) := by decide +kernel
theorem dX9_word_74 : decode cX9_word 74 = .ok (.iconst (-1), 1) := by decide +kernel
theorem dX9_word_75 : decode cX9_word 75 = .ok (.ireturn, 1) := by decide +kernel
theorem dX9_word_76 : decode cX9_word 76 = .ok (.aload_n 0, 1) := by decide +kernel
theorem dX9_word_77 : decode cX9_word 77 = .ok (.getfield 139, 3) := by decide +kernel
theorem dX9_word_80 : decode cX9_word 80 = .ok (.bipush 16, 2) := by decide +kernel
theorem dX9_word_82 : decode cX9_word 82 = .ok (.if_icmp .ne 6, 3) := by decide +kernel
theorem dX9_word_85 : decode cX9_word 85 = .ok (.bipush (-3), 2) := by decide +kernel
theorem dX9_word_87 : decode cX9_word 87 = .ok (.ireturn, 1) := by decide +kernel
theorem dX9_word_88 : decode cX9_word 88 = .ok (.aload_n 0, 1) := by decide +kernel
theorem dX9_word_89 : decode cX9_word 89 = .ok (.getfield 34, 3) := by decide +kernel
theorem dX9_word_92 : decode cX9_word 92 = .ok (.aload_n 0, 1) := by decide +kernel
theorem dX9_word_93 : decode cX9_word 93 = .ok (.getfield 139, 3) := by decide +kernel
theorem dX9_word_96 : decode cX9_word 96 = .ok (.iload_n 1, 1) := by decide +kernel
theorem dX9_word_97 : decode cX9_word 97 = .ok (.iastore, 1) := by decide +kernel
theorem dX9_word_98 : decode cX9_word 98 = .ok (.aload_n 0, 1) := by decide +kernel
theorem dX9_word_99 : decode cX9_word 99 = .ok (.getfield 37, 3) := by decide +kernel
theorem dX9_word_102 : decode cX9_word 102 = .ok (.aload_n 0, 1) := by decide +kernel
theorem dX9_word_103 : decode cX9_word 103 = .ok (.getfield 139, 3) := by decide +kernel
theorem dX9_word_106 : decode cX9_word 106 = .ok (.iload_n 2, 1) := by decide +kernel
theorem dX9_word_107 : decode cX9_word 107 = .ok (.iastore, 1) := by decide +kernel
theorem dX9_word_108 : decode cX9_word 108 = .ok (.aload_n 0, 1) := by decide +kernel
theorem dX9_word_109 : decode cX9_word 109 = .ok (.getfield 40, 3) := by decide +kernel
theorem dX9_word_112 : decode cX9_word 112 = .ok (.aload_n 0, 1) := by decide +kernel
theorem dX9_word_113 : decode cX9_word 113 = .ok (.getfield 139, 3) := by decide +kernel
theorem dX9_word_116 : decode cX9_word 116 = .ok (.iload_n 3, 1) := by decide +kernel
theorem dX9_word_117 : decode cX9_word 117 = .ok (.iastore, 1) := by decide +kernel
theorem dX9_word_118 : decode cX9_word 118 = .ok (.iconst 0, 1) := by decide +kernel
theorem dX9_word_119 : decode cX9_word 119 = .ok (.istore 5, 2) := by decide +kernel
theorem dX9_word_121 : decode cX9_word 121 = .ok (.iload 5, 2) := by decide +kernel
theorem dX9_word_123 : decode cX9_word 123 = .ok (.iload_n 3, 1) := by decide +kernel
theorem dX9_word_124 : decode cX9_word 124 = .ok (.if_icmp .ge 37, 3) := by decide +kernel
theorem dX9_word_127 : decode cX9_word 127 = .ok (.aload_n 0, 1) := by decide +kernel
theorem dX9_word_128 : decode cX9_word 128 = .ok (.getfield 43, 3) := by decide +kernel
theorem dX9_word_131 : decode cX9_word 131 = .ok (.iconst 4, 1) := by decide +kernel
theorem dX9_word_132 : decode cX9_word 132 = .ok (.aload_n 0, 1) := by decide +kernel
theorem dX9_word_133 : decode cX9_word 133 = .ok (.getfield 139, 3) := by decide +kernel
theorem dX9_word_136 : decode cX9_word 136 = .ok (.imul, 1) := by decide +kernel
theorem dX9_word_137 : decode cX9_word 137 = .ok (.iload 5, 2) := by decide +kernel
theorem dX9_word_139 : decode cX9_word 139 = .ok (.iadd, 1) := by decide +kernel
theorem dX9_word_140 : decode cX9_word 140 = .ok (.iload 4, 2) := by decide +kernel
theorem dX9_word_142 : decode cX9_word 142 = .ok (.iconst 4, 1) := by decide +kernel
theorem dX9_word_143 : decode cX9_word 143 = .ok (.iload_n 3, 1) := by decide +kernel
theorem dX9_word_144 : decode cX9_word 144 = .ok (.iconst 1, 1) := by decide +kernel
theorem dX9_word_145 : decode cX9_word 145 = .ok (.isub, 1) := by decide +kernel
theorem dX9_word_146 : decode cX9_word 146 = .ok (.iload 5, 2) := by decide +kernel
theorem dX9_word_148 : decode cX9_word 148 = .ok (.isub, 1) := by decide +kernel
theorem dX9_word_149 : decode cX9_word 149 = .ok (.imul, 1) := by decide +kernel
theorem dX9_word_150 : decode cX9_word 150 = .ok (.ishr, 1) := by decide +kernel
theorem dX9_word_151 : decode cX9_word 151 = .ok (.bipush 15, 2) := by decide +kernel
theorem dX9_word_153 : decode cX9_word 153 = .ok (.iand, 1) := by decide +kernel
theorem dX9_word_154 : decode cX9_word 154 = .ok (.iastore, 1) := by decide +kernel
theorem dX9_word_155 : decode cX9_word 155 = .ok (.iinc 5 1, 3) := by decide +kernel
theorem dX9_word_158 : decode cX9_word 158 = .ok (.goto (-37), 3) := by decide +kernel
theorem dX9_word_161 : decode cX9_word 161 = .ok (.aload_n 0, 1) := by decide +kernel
theorem dX9_word_162 : decode cX9_word 162 = .ok (.dup, 1) := by decide +kernel
theorem dX9_word_163 : decode cX9_word 163 = .ok (.getfield 139, 3) := by decide +kernel
theorem dX9_word_166 : decode cX9_word 166 = .ok (.iconst 1, 1) := by decide +kernel
theorem dX9_word_167 : decode cX9_word 167 = .ok (.iadd, 1) := by decide +kernel
theorem dX9_word_168 : decode cX9_word 168 = .ok (.putfield 139, 3) := by decide +kernel
theorem dX9_word_171 : decode cX9_word 171 = .ok (.aload_n 0, 1) := by decide +kernel
theorem dX9_word_172 : decode cX9_word 172 = .ok (.getfield 139, 3) := by decide +kernel
theorem dX9_word_175 : decode cX9_word 175 = .ok (.iconst 1, 1) := by decide +kernel
theorem dX9_word_176 : decode cX9_word 176 = .ok (.isub, 1) := by decide +kernel
theorem dX9_word_177 : decode cX9_word 177 = .ok (.ireturn, 1) := by decide +kernel
theorem dX9_rule_0 : decode cX9_rule 0 = .ok (.iload_n 1, 1) := by decide +kernel
theorem dX9_rule_1 : decode cX9_rule 1 = .ok (.i2l, 1) := by decide +kernel
theorem dX9_rule_2 : decode cX9_rule 2 = .ok (.lconst 0, 1) := by decide +kernel
theorem dX9_rule_3 : decode cX9_rule 3 = .ok (.ldc2_w 142, 3) := by decide +kernel
theorem dX9_rule_6 : decode cX9_rule 6 = .ok (.invokestatic 117, 3) := by decide +kernel
theorem dX9_rule_9 : decode cX9_rule 9 = .ok (.ifCond .eq 36, 3) := by decide +kernel
theorem dX9_rule_12 : decode cX9_rule 12 = .ok (.iload_n 2, 1) := by decide +kernel
theorem dX9_rule_13 : decode cX9_rule 13 = .ok (.i2l, 1) := by decide +kernel
theorem dX9_rule_14 : decode cX9_rule 14 = .ok (.lconst 0, 1) := by decide +kernel
theorem dX9_rule_15 : decode cX9_rule 15 = .ok (.iload_n 1, 1) := by decide +kernel
theorem dX9_rule_16 : decode cX9_rule 16 = .ok (.ifCond .ne 9, 3) := by decide +kernel
theorem dX9_rule_19 : decode cX9_rule 19 = .ok (.ldc2_w 144, 3) := by decide +kernel
theorem dX9_rule_22 : decode cX9_rule 22 = .ok (.goto 17, 3) := by decide +kernel
theorem dX9_rule_25 : decode cX9_rule 25 = .ok (.iload_n 1, 1) := by decide +kernel
theorem dX9_rule_26 : decode cX9_rule 26 = .ok (.iconst 1, 1) := by decide +kernel
theorem dX9_rule_27 : decode cX9_rule 27 = .ok (.if_icmp .ne 9, 3) := by decide +kernel
theorem dX9_rule_30 : decode cX9_rule 30 = .ok (.ldc2_w 146, 3) := by decide +kernel
theorem dX9_rule_33 : decode cX9_rule 33 = .ok (.goto 6, 3) := by decide +kernel
theorem dX9_rule_36 : decode cX9_rule 36 = .ok (.ldc2_w 125, 3) := by decide +kernel
theorem dX9_rule_39 : decode cX9_rule 39 = .ok (.invokestatic 117, 3) := by decide +kernel
theorem dX9_rule_42 : decode cX9_rule 42 = .ok (.ifCond .ne 5, 3) := by decide +kernel
theorem dX9_rule_45 : decode cX9_rule 45 = .ok (.iconst (-1), 1) := by decide +kernel
theorem dX9_rule_46 : decode cX9_rule 46 = .ok (.ireturn, 1) := by decide +kernel
theorem dX9_rule_47 : decode cX9_rule 47 = .ok (.aload_n 0, 1) := by decide +kernel
theorem dX9_rule_48 : decode cX9_rule 48 = .ok (.getfield 46, 3) := by decide +kernel
theorem dX9_rule_51 : decode cX9_rule 51 = .ok (.iload_n 1, 1) := by decide +kernel
theorem dX9_rule_52 : decode cX9_rule 52 = .ok (.iaload, 1) := by decide +kernel
theorem dX9_rule_53 : decode cX9_rule 53 = .ok (.istore_n 3, 1) := by decide +kernel
theorem dX9_rule_54 : decode cX9_rule 54 = .ok (.aload_n 0, 1) := by decide +kernel
theorem dX9_rule_55 : decode cX9_rule 55 = .ok (.getfield 46, 3) := by decide +kernel
theorem dX9_rule_58 : decode cX9_rule 58 = .ok (.iload_n 1, 1) := by decide +kernel
theorem dX9_rule_59 : decode cX9_rule 59 = .ok (.iload_n 2, 1) := by decide +kernel
theorem dX9_rule_60 : decode cX9_rule 60 = .ok (.iastore, 1) := by decide +kernel
theorem dX9_rule_61 : decode cX9_rule 61 = .ok (.iload_n 3, 1) := by decide +kernel
theorem dX9_rule_62 : decode cX9_rule 62 = .ok (.ireturn, 1) := by decide +kernel
theorem dX9_write_0 : decode cX9_write 0 = .ok (.iload_n 1, 1) := by decide +kernel
theorem dX9_write_1 : decode cX9_write 1 = .ok (.i2l, 1) := by decide +kernel
theorem dX9_write_2 : decode cX9_write 2 = .ok (.lconst 1, 1) := by decide +kernel
theorem dX9_write_3 : decode cX9_write 3 = .ok (.ldc2_w 148, 3) := by decide +kernel
theorem dX9_write_6 : decode cX9_write 6 = .ok (.invokestatic 117, 3) := by decide +kernel
theorem dX9_write_9 : decode cX9_write 9 = .ok (.ifCond .ne 5, 3) := by decide +kernel
theorem dX9_write_12 : decode cX9_write 12 = .ok (.iconst (-1), 1) := by decide +kernel
theorem dX9_write_13 : decode cX9_write 13 = .ok (.ireturn, 1) := by decide +kernel
theorem dX9_write_14 : decode cX9_write 14 = .ok (.aload_n 0, 1) := by decide +kernel
theorem dX9_write_15 : decode cX9_write 15 = .ok (.getfield 150, 3) := by decide +kernel
theorem dX9_write_18 : decode cX9_write 18 = .ok (.iload_n 1, 1) := by decide +kernel
theorem dX9_write_19 : decode cX9_write 19 = .ok (.iadd, 1) := by decide +kernel
theorem dX9_write_20 : decode cX9_write 20 = .ok (.sipush 200, 3) := by decide +kernel
theorem dX9_write_23 : decode cX9_write 23 = .ok (.if_icmp .le 6, 3) := by decide +kernel
theorem dX9_write_26 : decode cX9_write 26 = .ok (.bipush (-3), 2) := by decide +kernel
theorem dX9_write_28 : decode cX9_write 28 = .ok (.ireturn, 1) := by decide +kernel
theorem dX9_write_29 : decode cX9_write 29 = .ok (.iload_n 1, 1) := by decide +kernel
theorem dX9_write_30 : decode cX9_write 30 = .ok (.iconst 1, 1) := by decide +kernel
theorem dX9_write_31 : decode cX9_write 31 = .ok (.isub, 1) := by decide +kernel
theorem dX9_write_32 : decode cX9_write 32 = .ok (.istore 4, 2) := by decide +kernel
theorem dX9_write_34 : decode cX9_write 34 = .ok (.iload 4, 2) := by decide +kernel
theorem dX9_write_36 : decode cX9_write 36 = .ok (.ifCond .lt 40, 3) := by decide +kernel
theorem dX9_write_39 : decode cX9_write 39 = .ok (.aload_n 0, 1) := by decide +kernel
theorem dX9_write_40 : decode cX9_write 40 = .ok (.getfield 49, 3) := by decide +kernel
theorem dX9_write_43 : decode cX9_write 43 = .ok (.aload_n 0, 1) := by decide +kernel
theorem dX9_write_44 : decode cX9_write 44 = .ok (.getfield 150, 3) := by decide +kernel
theorem dX9_write_47 : decode cX9_write 47 = .ok (.lload_n 2, 1) := by decide +kernel
theorem dX9_write_48 : decode cX9_write 48 = .ok (.bipush 8, 2) := by decide +kernel
theorem dX9_write_50 : decode cX9_write 50 = .ok (.iload 4, 2) := by decide +kernel
theorem dX9_write_52 : decode cX9_write 52 = .ok (.imul, 1) := by decide +kernel
theorem dX9_write_53 : decode cX9_write 53 = .ok (.lshr, 1) := by decide +kernel
theorem dX9_write_54 : decode cX9_write 54 = .ok (.ldc2_w 153, 3) := by decide +kernel
theorem dX9_write_57 : decode cX9_write 57 = .ok (.land, 1) := by decide +kernel
theorem dX9_write_58 : decode cX9_write 58 = .ok (.l2i, 1) := by decide +kernel
theorem dX9_write_59 : decode cX9_write 59 = .ok (.iastore, 1) := by decide +kernel
theorem dX9_write_60 : decode cX9_write 60 = .ok (.aload_n 0, 1) := by decide +kernel
theorem dX9_write_61 : decode cX9_write 61 = .ok (.dup, 1) := by decide +kernel
theorem dX9_write_62 : decode cX9_write 62 = .ok (.getfield 150, 3) := by decide +kernel
theorem dX9_write_65 : decode cX9_write 65 = .ok (.iconst 1, 1) := by decide +kernel
theorem dX9_write_66 : decode cX9_write 66 = .ok (.iadd, 1) := by decide +kernel
theorem dX9_write_67 : decode cX9_write 67 = .ok (.putfield 150, 3) := by decide +kernel
theorem dX9_write_70 : decode cX9_write 70 = .ok (.iinc 4 (-1), 3) := by decide +kernel
theorem dX9_write_73 : decode cX9_write 73 = .ok (.goto (-39), 3) := by decide +kernel
theorem dX9_write_76 : decode cX9_write 76 = .ok (.aload_n 0, 1) := by decide +kernel
theorem dX9_write_77 : decode cX9_write 77 = .ok (.getfield 150, 3) := by decide +kernel
theorem dX9_write_80 : decode cX9_write 80 = .ok (.ireturn, 1) := by decide +kernel
theorem dX9_wipe_0 : decode cX9_wipe 0 = .ok (.aload_n 0, 1) := by decide +kernel
theorem dX9_wipe_1 : decode cX9_wipe 1 = .ok (.getfield 150, 3) := by decide +kernel
theorem dX9_wipe_4 : decode cX9_wipe 4 = .ok (.istore_n 1, 1) := by decide +kernel
theorem dX9_wipe_5 : decode cX9_wipe 5 = .ok (.aload_n 0, 1) := by decide +kernel
theorem dX9_wipe_6 : decode cX9_wipe 6 = .ok (.iconst 0, 1) := by decide +kernel
theorem dX9_wipe_7 : decode cX9_wipe 7 = .ok (.putfield 150, 3) := by decide +kernel
theorem dX9_wipe_10 : decode cX9_wipe 10 = .ok (.iload_n 1, 1) := by decide +kernel
theorem dX9_wipe_11 : decode cX9_wipe 11 = .ok (.ireturn, 1) := by decide +kernel
theorem dX9_figures_0 : decode cX9_figures 0 = .ok (.iconst 0, 1) := by decide +kernel
theorem dX9_figures_1 : decode cX9_figures 1 = .ok (.istore_n 2, 1) := by decide +kernel
theorem dX9_figures_2 : decode cX9_figures 2 = .ok (.iload_n 2, 1) := by decide +kernel
theorem dX9_figures_3 : decode cX9_figures 3 = .ok (.iload_n 1, 1) := by decide +kernel
theorem dX9_figures_4 : decode cX9_figures 4 = .ok (.if_icmp .ge 157, 3) := by decide +kernel
theorem dX9_figures_7 : decode cX9_figures 7 = .ok (.iconst 0, 1) := by decide +kernel
theorem dX9_figures_8 : decode cX9_figures 8 = .ok (.istore_n 3, 1) := by decide +kernel
theorem dX9_figures_9 : decode cX9_figures 9 = .ok (.iconst 0, 1) := by decide +kernel
theorem dX9_figures_10 : decode cX9_figures 10 = .ok (.istore 4, 2) := by decide +kernel
theorem dX9_figures_12 : decode cX9_figures 12 = .ok (.aload_n 0, 1) := by decide +kernel
theorem dX9_figures_13 : decode cX9_figures 13 = .ok (.getfield 155, 3) := by decide +kernel
theorem dX9_figures_16 : decode cX9_figures 16 = .ok (.aload_n 0, 1) := by decide +kernel
theorem dX9_figures_17 : decode cX9_figures 17 = .ok (.getfield 150, 3) := by decide +kernel
theorem dX9_figures_20 : decode cX9_figures 20 = .ok (.if_icmp .ge 66, 3) := by decide +kernel
theorem dX9_figures_23 : decode cX9_figures 23 = .ok (.aload_n 0, 1) := by decide +kernel
theorem dX9_figures_24 : decode cX9_figures 24 = .ok (.getfield 49, 3) := by decide +kernel
theorem dX9_figures_27 : decode cX9_figures 27 = .ok (.aload_n 0, 1) := by decide +kernel
theorem dX9_figures_28 : decode cX9_figures 28 = .ok (.getfield 155, 3) := by decide +kernel
theorem dX9_figures_31 : decode cX9_figures 31 = .ok (.iaload, 1) := by decide +kernel
theorem dX9_figures_32 : decode cX9_figures 32 = .ok (.i2l, 1) := by decide +kernel
theorem dX9_figures_33 : decode cX9_figures 33 = .ok (.ldc2_w 158, 3) := by decide +kernel
theorem dX9_figures_36 : decode cX9_figures 36 = .ok (.ldc2_w 160, 3) := by decide +kernel
theorem dX9_figures_39 : decode cX9_figures 39 = .ok (.invokestatic 117, 3) := by decide +kernel
theorem dX9_figures_42 : decode cX9_figures 42 = .ok (.ifCond .eq 44, 3) := by decide +kernel
theorem dX9_figures_45 : decode cX9_figures 45 = .ok (.iload_n 3, 1) := by decide +kernel
theorem dX9_figures_46 : decode cX9_figures 46 = .ok (.iconst 3, 1) := by decide +kernel
theorem dX9_figures_47 : decode cX9_figures 47 = .ok (.if_icmp .ge 39, 3) := by decide +kernel
theorem dX9_figures_50 : decode cX9_figures 50 = .ok (.bipush 10, 2) := by decide +kernel
theorem dX9_figures_52 : decode cX9_figures 52 = .ok (.iload 4, 2) := by decide +kernel
theorem dX9_figures_54 : decode cX9_figures 54 = .ok (.imul, 1) := by decide +kernel
theorem dX9_figures_55 : decode cX9_figures 55 = .ok (.aload_n 0, 1) := by decide +kernel
theorem dX9_figures_56 : decode cX9_figures 56 = .ok (.getfield 49, 3) := by decide +kernel
theorem dX9_figures_59 : decode cX9_figures 59 = .ok (.aload_n 0, 1) := by decide +kernel
theorem dX9_figures_60 : decode cX9_figures 60 = .ok (.getfield 155, 3) := by decide +kernel
theorem dX9_figures_63 : decode cX9_figures 63 = .ok (.iaload, 1) := by decide +kernel
theorem dX9_figures_64 : decode cX9_figures 64 = .ok (.iadd, 1) := by decide +kernel
theorem dX9_figures_65 : decode cX9_figures 65 = .ok (.bipush 48, 2) := by decide +kernel
theorem dX9_figures_67 : decode cX9_figures 67 = .ok (.isub, 1) := by decide +kernel
theorem dX9_figures_68 : decode cX9_figures 68 = .ok (.istore 4, 2) := by decide +kernel
theorem dX9_figures_70 : decode cX9_figures 70 = .ok (.iinc 3 1, 3) := by decide +kernel
theorem dX9_figures_73 : decode cX9_figures 73 = .ok (.aload_n 0, 1) := by decide +kernel
theorem dX9_figures_74 : decode cX9_figures 74 = .ok (.dup, 1) := by decide +kernel
theorem dX9_figures_75 : decode cX9_figures 75 = .ok (.getfield 155, 3) := by decide +kernel
theorem dX9_figures_78 : decode cX9_figures 78 = .ok (.iconst 1, 1) := by decide +kernel
theorem dX9_figures_79 : decode cX9_figures 79 = .ok (.iadd, 1) := by decide +kernel
theorem dX9_figures_80 : decode cX9_figures 80 = .ok (.putfield 155, 3) := by decide +kernel
theorem dX9_figures_83 : decode cX9_figures 83 = .ok (.goto (-71), 3) := by decide +kernel
theorem dX9_figures_86 : decode cX9_figures 86 = .ok (.iload_n 3, 1) := by decide +kernel
theorem dX9_figures_87 : decode cX9_figures 87 = .ok (.i2l, 1) := by decide +kernel
theorem dX9_figures_88 : decode cX9_figures 88 = .ok (.lconst 1, 1) := by decide +kernel
theorem dX9_figures_89 : decode cX9_figures 89 = .ok (.ldc2_w 142, 3) := by decide +kernel
theorem dX9_figures_92 : decode cX9_figures 92 = .ok (.invokestatic 117, 3) := by decide +kernel
theorem dX9_figures_95 : decode cX9_figures 95 = .ok (.ifCond .eq 40, 3) := by decide +kernel
theorem dX9_figures_98 : decode cX9_figures 98 = .ok (.aload_n 0, 1) := by decide +kernel
theorem dX9_figures_99 : decode cX9_figures 99 = .ok (.getfield 155, 3) := by decide +kernel
theorem dX9_figures_102 : decode cX9_figures 102 = .ok (.aload_n 0, 1) := by decide +kernel
theorem dX9_figures_103 : decode cX9_figures 103 = .ok (.getfield 150, 3) := by decide +kernel
theorem dX9_figures_106 : decode cX9_figures 106 = .ok (.if_icmp .eq 29, 3) := by decide +kernel
theorem dX9_figures_109 : decode cX9_figures 109 = .ok (.aload_n 0, 1) := by decide +kernel
theorem dX9_figures_110 : decode cX9_figures 110 = .ok (.getfield 49, 3) := by decide +kernel
theorem dX9_figures_113 : decode cX9_figures 113 = .ok (.aload_n 0, 1) := by decide +kernel
theorem dX9_figures_114 : decode cX9_figures 114 = .ok (.getfield 155, 3) := by decide +kernel
theorem dX9_figures_117 : decode cX9_figures 117 = .ok (.iaload, 1) := by decide +kernel
theorem dX9_figures_118 : decode cX9_figures 118 = .ok (.iload_n 2, 1) := by decide +kernel
theorem dX9_figures_119 : decode cX9_figures 119 = .ok (.iload_n 1, 1) := by decide +kernel
theorem dX9_figures_120 : decode cX9_figures 120 = .ok (.iconst 1, 1) := by decide +kernel
theorem dX9_figures_121 : decode cX9_figures 121 = .ok (.isub, 1) := by decide +kernel
theorem dX9_figures_122 : decode cX9_figures 122 = .ok (.if_icmp .ge 8, 3) := by decide +kernel
theorem dX9_figures_125 : decode cX9_figures 125 = .ok (.bipush 44, 2) := by decide +kernel
theorem dX9_figures_127 : decode cX9_figures 127 = .ok (.goto 5, 3) := by decide +kernel
theorem dX9_figures_130 : decode cX9_figures 130 = .ok (.bipush 59, 2) := by decide +kernel
theorem dX9_figures_132 : decode cX9_figures 132 = .ok (.if_icmp .eq 5, 3) := by decide +kernel
theorem dX9_figures_135 : decode cX9_figures 135 = .ok (.iconst 0, 1) := by decide +kernel
theorem dX9_figures_136 : decode cX9_figures 136 = .ok (.ireturn, 1) := by decide +kernel
theorem dX9_figures_137 : decode cX9_figures 137 = .ok (.aload_n 0, 1) := by decide +kernel
theorem dX9_figures_138 : decode cX9_figures 138 = .ok (.getfield 86, 3) := by decide +kernel
theorem dX9_figures_141 : decode cX9_figures 141 = .ok (.iload_n 2, 1) := by decide +kernel
theorem dX9_figures_142 : decode cX9_figures 142 = .ok (.iload 4, 2) := by decide +kernel
theorem dX9_figures_144 : decode cX9_figures 144 = .ok (.iastore, 1) := by decide +kernel
theorem dX9_figures_145 : decode cX9_figures 145 = .ok (.aload_n 0, 1) := by decide +kernel
theorem dX9_figures_146 : decode cX9_figures 146 = .ok (.dup, 1) := by decide +kernel
theorem dX9_figures_147 : decode cX9_figures 147 = .ok (.getfield 155, 3) := by decide +kernel
theorem dX9_figures_150 : decode cX9_figures 150 = .ok (.iconst 1, 1) := by decide +kernel
theorem dX9_figures_151 : decode cX9_figures 151 = .ok (.iadd, 1) := by decide +kernel
theorem dX9_figures_152 : decode cX9_figures 152 = .ok (.putfield 155, 3) := by decide +kernel
theorem dX9_figures_155 : decode cX9_figures 155 = .ok (.iinc 2 1, 3) := by decide +kernel
theorem dX9_figures_158 : decode cX9_figures 158 = .ok (.goto (-156), 3) := by decide +kernel
theorem dX9_figures_161 : decode cX9_figures 161 = .ok (.iconst 1, 1) := by decide +kernel
theorem dX9_figures_162 : decode cX9_figures 162 = .ok (.ireturn, 1) := by decide +kernel
theorem dX9_item_0 : decode cX9_item 0 = .ok (.aload_n 0, 1) := by decide +kernel
theorem dX9_item_1 : decode cX9_item 1 = .ok (.getfield 49, 3) := by decide +kernel
theorem dX9_item_4 : decode cX9_item 4 = .ok (.aload_n 0, 1) := by decide +kernel
theorem dX9_item_5 : decode cX9_item 5 = .ok (.getfield 155, 3) := by decide +kernel
theorem dX9_item_8 : decode cX9_item 8 = .ok (.iaload, 1) := by decide +kernel
theorem dX9_item_9 : decode cX9_item 9 = .ok (.istore_n 1, 1) := by decide +kernel
theorem dX9_item_10 : decode cX9_item 10 = .ok (.aload_n 0, 1) := by decide +kernel
theorem dX9_item_11 : decode cX9_item 11 = .ok (.dup, 1) := by decide +kernel
theorem dX9_item_12 : decode cX9_item 12 = .ok (.getfield 155, 3) := by decide +kernel
theorem dX9_item_15 : decode cX9_item 15 = .ok (.iconst 1, 1) := by decide +kernel
theorem dX9_item_16 : decode cX9_item 16 = .ok (.iadd, 1) := by decide +kernel
theorem dX9_item_17 : decode cX9_item 17 = .ok (.putfield 155, 3) := by decide +kernel
theorem dX9_item_20 : decode cX9_item 20 = .ok (.iconst 0, 1) := by decide +kernel
theorem dX9_item_21 : decode cX9_item 21 = .ok (.istore_n 2, 1) := by decide +kernel
theorem dX9_item_22 : decode cX9_item 22 = .ok (.iload_n 2, 1) := by decide +kernel
theorem dX9_item_23 : decode cX9_item 23 = .ok (.iconst 5, 1) := by decide +kernel
theorem dX9_item_24 : decode cX9_item 24 = .ok (.if_icmp .ge 16, 3) := by decide +kernel
theorem dX9_item_27 : decode cX9_item 27 = .ok (.aload_n 0, 1) := by decide +kernel
theorem dX9_item_28 : decode cX9_item 28 = .ok (.getfield 86, 3) := by decide +kernel
theorem dX9_item_31 : decode cX9_item 31 = .ok (.iload_n 2, 1) := by decide +kernel
theorem dX9_item_32 : decode cX9_item 32 = .ok (.iconst 0, 1) := by decide +kernel
theorem dX9_item_33 : decode cX9_item 33 = .ok (.iastore, 1) := by decide +kernel
theorem dX9_item_34 : decode cX9_item 34 = .ok (.iinc 2 1, 3) := by decide +kernel
theorem dX9_item_37 : decode cX9_item 37 = .ok (.goto (-15), 3) := by decide +kernel
theorem dX9_item_40 : decode cX9_item 40 = .ok (.iload_n 1, 1) := by decide +kernel
theorem dX9_item_41 : decode cX9_item 41 = .ok (.lookupswitch 268 #[(110, 220), (114, 35), (120, 138)], 35) := by decide +kernel
theorem dX9_item_76 : decode cX9_item 76 = .ok (.aload_n 0, 1) := by decide +kernel
theorem dX9_item_77 : decode cX9_item 77 = .ok (.iconst 5, 1) := by decide +kernel
theorem dX9_item_78 : decode cX9_item 78 = .ok (.invokevirtual 162, 3) := by decide +kernel
theorem dX9_item_81 : decode cX9_item 81 = .ok (.ifCond .eq 96, 3) := by decide +kernel
theorem dX9_item_84 : decode cX9_item 84 = .ok (.aload_n 0, 1) := by decide +kernel
theorem dX9_item_85 : decode cX9_item 85 = .ok (.getfield 86, 3) := by decide +kernel
theorem dX9_item_88 : decode cX9_item 88 = .ok (.iconst 0, 1) := by decide +kernel
theorem dX9_item_89 : decode cX9_item 89 = .ok (.iaload, 1) := by decide +kernel
theorem dX9_item_90 : decode cX9_item 90 = .ok (.i2l, 1) := by decide +kernel
theorem dX9_item_91 : decode cX9_item 91 = .ok (.lconst 0, 1) := by decide +kernel
theorem dX9_item_92 : decode cX9_item 92 = .ok (.ldc2_w 165, 3) := by decide +kernel
theorem dX9_item_95 : decode cX9_item 95 = .ok (.invokestatic 117, 3) := by decide +kernel
theorem dX9_item_98 : decode cX9_item 98 = .ok (.ifCond .eq 79, 3) := by decide +kernel
theorem dX9_item_101 : decode cX9_item 101 = .ok (.aload_n 0, 1) := by decide +kernel
theorem dX9_item_102 : decode cX9_item 102 = .ok (.getfield 86, 3) := by decide +kernel
theorem dX9_item_105 : decode cX9_item 105 = .ok (.iconst 1, 1) := by decide +kernel
theorem dX9_item_106 : decode cX9_item 106 = .ok (.iaload, 1) := by decide +kernel
theorem dX9_item_107 : decode cX9_item 107 = .ok (.i2l, 1) := by decide +kernel
theorem dX9_item_108 : decode cX9_item 108 = .ok (.lconst 0, 1) := by decide +kernel
theorem dX9_item_109 : decode cX9_item 109 = .ok (.ldc2_w 121, 3) := by decide +kernel
theorem dX9_item_112 : decode cX9_item 112 = .ok (.invokestatic 117, 3) := by decide +kernel
theorem dX9_item_115 : decode cX9_item 115 = .ok (.ifCond .eq 62, 3) := by decide +kernel
theorem dX9_item_118 : decode cX9_item 118 = .ok (.aload_n 0, 1) := by decide +kernel
theorem dX9_item_119 : decode cX9_item 119 = .ok (.getfield 86, 3) := by decide +kernel
theorem dX9_item_122 : decode cX9_item 122 = .ok (.iconst 2, 1) := by decide +kernel
theorem dX9_item_123 : decode cX9_item 123 = .ok (.iaload, 1) := by decide +kernel
theorem dX9_item_124 : decode cX9_item 124 = .ok (.i2l, 1) := by decide +kernel
theorem dX9_item_125 : decode cX9_item 125 = .ok (.lconst 0, 1) := by decide +kernel
theorem dX9_item_126 : decode cX9_item 126 = .ok (.ldc2_w 127, 3) := by decide +kernel
theorem dX9_item_129 : decode cX9_item 129 = .ok (.invokestatic 117, 3) := by decide +kernel
theorem dX9_item_132 : decode cX9_item 132 = .ok (.ifCond .eq 45, 3) := by decide +kernel
theorem dX9_item_135 : decode cX9_item 135 = .ok (.aload_n 0, 1) := by decide +kernel
theorem dX9_item_136 : decode cX9_item 136 = .ok (.getfield 86, 3) := by decide +kernel
theorem dX9_item_139 : decode cX9_item 139 = .ok (.iconst 3, 1) := by decide +kernel
theorem dX9_item_140 : decode cX9_item 140 = .ok (.iaload, 1) := by decide +kernel
theorem dX9_item_141 : decode cX9_item 141 = .ok (.i2l, 1) := by decide +kernel
theorem dX9_item_142 : decode cX9_item 142 = .ok (.lconst 0, 1) := by decide +kernel
theorem dX9_item_143 : decode cX9_item 143 = .ok (.aload_n 0, 1) := by decide +kernel
theorem dX9_item_144 : decode cX9_item 144 = .ok (.getfield 86, 3) := by decide +kernel
theorem dX9_item_147 : decode cX9_item 147 = .ok (.iconst 4, 1) := by decide +kernel
theorem dX9_item_148 : decode cX9_item 148 = .ok (.iaload, 1) := by decide +kernel
theorem dX9_item_149 : decode cX9_item 149 = .ok (.i2l, 1) := by decide +kernel
theorem dX9_item_150 : decode cX9_item 150 = .ok (.invokestatic 117, 3) := by decide +kernel
theorem dX9_item_153 : decode cX9_item 153 = .ok (.ifCond .eq 24, 3) := by decide +kernel
theorem dX9_item_156 : decode cX9_item 156 = .ok (.aload_n 0, 1) := by decide +kernel
theorem dX9_item_157 : decode cX9_item 157 = .ok (.getfield 86, 3) := by decide +kernel
theorem dX9_item_160 : decode cX9_item 160 = .ok (.iconst 4, 1) := by decide +kernel
theorem dX9_item_161 : decode cX9_item 161 = .ok (.iaload, 1) := by decide +kernel
theorem dX9_item_162 : decode cX9_item 162 = .ok (.i2l, 1) := by decide +kernel
theorem dX9_item_163 : decode cX9_item 163 = .ok (.lconst 0, 1) := by decide +kernel
theorem dX9_item_164 : decode cX9_item 164 = .ok (.ldc2_w 167, 3) := by decide +kernel
theorem dX9_item_167 : decode cX9_item 167 = .ok (.invokestatic 117, 3) := by decide +kernel
theorem dX9_item_170 : decode cX9_item 170 = .ok (.ifCond .eq 7, 3) := by decide +kernel
theorem dX9_item_173 : decode cX9_item 173 = .ok (.iconst 1, 1) := by decide +kernel
theorem dX9_item_174 : decode cX9_item 174 = .ok (.goto 4, 3) := by decide +kernel
theorem dX9_item_177 : decode cX9_item 177 = .ok (.iconst 0, 1) := by decide +kernel
theorem dX9_item_178 : decode cX9_item 178 = .ok (.ireturn, 1) := by decide +kernel
theorem dX9_item_179 : decode cX9_item 179 = .ok (.aload_n 0, 1) := by decide +kernel
theorem dX9_item_180 : decode cX9_item 180 = .ok (.iconst 4, 1) := by decide +kernel
theorem dX9_item_181 : decode cX9_item 181 = .ok (.invokevirtual 162, 3) := by decide +kernel
theorem dX9_item_184 : decode cX9_item 184 = .ok (.ifCond .eq 75, 3) := by decide +kernel
theorem dX9_item_187 : decode cX9_item 187 = .ok (.aload_n 0, 1) := by decide +kernel
theorem dX9_item_188 : decode cX9_item 188 = .ok (.getfield 86, 3) := by decide +kernel
theorem dX9_item_191 : decode cX9_item 191 = .ok (.iconst 0, 1) := by decide +kernel
theorem dX9_item_192 : decode cX9_item 192 = .ok (.iaload, 1) := by decide +kernel
theorem dX9_item_193 : decode cX9_item 193 = .ok (.i2l, 1) := by decide +kernel
theorem dX9_item_194 : decode cX9_item 194 = .ok (.lconst 0, 1) := by decide +kernel
theorem dX9_item_195 : decode cX9_item 195 = .ok (.ldc2_w 137, 3) := by decide +kernel
theorem dX9_item_198 : decode cX9_item 198 = .ok (.invokestatic 117, 3) := by decide +kernel
theorem dX9_item_201 : decode cX9_item 201 = .ok (.ifCond .eq 58, 3) := by decide +kernel
theorem dX9_item_204 : decode cX9_item 204 = .ok (.aload_n 0, 1) := by decide +kernel
theorem dX9_item_205 : decode cX9_item 205 = .ok (.getfield 86, 3) := by decide +kernel
theorem dX9_item_208 : decode cX9_item 208 = .ok (.iconst 1, 1) := by decide +kernel
theorem dX9_item_209 : decode cX9_item 209 = .ok (.iaload, 1) := by decide +kernel
theorem dX9_item_210 : decode cX9_item 210 = .ok (.i2l, 1) := by decide +kernel
theorem dX9_item_211 : decode cX9_item 211 = .ok (.lconst 1, 1) := by decide +kernel
theorem dX9_item_212 : decode cX9_item 212 = .ok (.ldc2_w 123, 3) := by decide +kernel
theorem dX9_item_215 : decode cX9_item 215 = .ok (.invokestatic 117, 3) := by decide +kernel
theorem dX9_item_218 : decode cX9_item 218 = .ok (.ifCond .eq 41, 3) := by decide +kernel
theorem dX9_item_221 : decode cX9_item 221 = .ok (.aload_n 0, 1) := by decide +kernel
theorem dX9_item_222 : decode cX9_item 222 = .ok (.getfield 86, 3) := by decide +kernel
theorem dX9_item_225 : decode cX9_item 225 = .ok (.iconst 2, 1) := by decide +kernel
theorem dX9_item_226 : decode cX9_item 226 = .ok (.iaload, 1) := by decide +kernel
theorem dX9_item_227 : decode cX9_item 227 = .ok (.i2l, 1) := by decide +kernel
theorem dX9_item_228 : decode cX9_item 228 = .ok (.lconst 0, 1) := by decide +kernel
theorem dX9_item_229 : decode cX9_item 229 = .ok (.ldc2_w 137, 3) := by decide +kernel
theorem dX9_item_232 : decode cX9_item 232 = .ok (.invokestatic 117, 3) := by decide +kernel
theorem dX9_item_235 : decode cX9_item 235 = .ok (.ifCond .eq 24, 3) := by decide +kernel
theorem dX9_item_238 : decode cX9_item 238 = .ok (.aload_n 0, 1) := by decide +kernel
theorem dX9_item_239 : decode cX9_item 239 = .ok (.getfield 86, 3) := by decide +kernel
theorem dX9_item_242 : decode cX9_item 242 = .ok (.iconst 3, 1) := by decide +kernel
theorem dX9_item_243 : decode cX9_item 243 = .ok (.iaload, 1) := by decide +kernel
theorem dX9_item_244 : decode cX9_item 244 = .ok (.i2l, 1) := by decide +kernel
theorem dX9_item_245 : decode cX9_item 245 = .ok (.lconst 0, 1) := by decide +kernel
theorem dX9_item_246 : decode cX9_item 246 = .ok (.ldc2_w 123, 3) := by decide +kernel
theorem dX9_item_249 : decode cX9_item 249 = .ok (.invokestatic 117, 3) := by decide +kernel
theorem dX9_item_252 : decode cX9_item 252 = .ok (.ifCond .eq 7, 3) := by decide +kernel
theorem dX9_item_255 : decode cX9_item 255 = .ok (.iconst 1, 1) := by decide +kernel
theorem dX9_item_256 : decode cX9_item 256 = .ok (.goto 4, 3) := by decide +kernel
theorem dX9_item_259 : decode cX9_item 259 = .ok (.iconst 0, 1) := by decide +kernel
theorem dX9_item_260 : decode cX9_item 260 = .ok (.ireturn, 1) := by decide +kernel
theorem dX9_item_261 : decode cX9_item 261 = .ok (.aload_n 0, 1) := by decide +kernel
theorem dX9_item_262 : decode cX9_item 262 = .ok (.iconst 2, 1) := by decide +kernel
theorem dX9_item_263 : decode cX9_item 263 = .ok (.invokevirtual 162, 3) := by decide +kernel
theorem dX9_item_266 : decode cX9_item 266 = .ok (.ifCond .eq 41, 3) := by decide +kernel
theorem dX9_item_269 : decode cX9_item 269 = .ok (.aload_n 0, 1) := by decide +kernel
theorem dX9_item_270 : decode cX9_item 270 = .ok (.getfield 86, 3) := by decide +kernel
theorem dX9_item_273 : decode cX9_item 273 = .ok (.iconst 0, 1) := by decide +kernel
theorem dX9_item_274 : decode cX9_item 274 = .ok (.iaload, 1) := by decide +kernel
theorem dX9_item_275 : decode cX9_item 275 = .ok (.i2l, 1) := by decide +kernel
theorem dX9_item_276 : decode cX9_item 276 = .ok (.lconst 0, 1) := by decide +kernel
theorem dX9_item_277 : decode cX9_item 277 = .ok (.ldc2_w 137, 3) := by decide +kernel
theorem dX9_item_280 : decode cX9_item 280 = .ok (.invokestatic 117, 3) := by decide +kernel
theorem dX9_item_283 : decode cX9_item 283 = .ok (.ifCond .eq 24, 3) := by decide +kernel
theorem dX9_item_286 : decode cX9_item 286 = .ok (.aload_n 0, 1) := by decide +kernel
theorem dX9_item_287 : decode cX9_item 287 = .ok (.getfield 86, 3) := by decide +kernel
theorem dX9_item_290 : decode cX9_item 290 = .ok (.iconst 1, 1) := by decide +kernel
theorem dX9_item_291 : decode cX9_item 291 = .ok (.iaload, 1) := by decide +kernel
theorem dX9_item_292 : decode cX9_item 292 = .ok (.i2l, 1) := by decide +kernel
theorem dX9_item_293 : decode cX9_item 293 = .ok (.lconst 1, 1) := by decide +kernel
theorem dX9_item_294 : decode cX9_item 294 = .ok (.ldc2_w 123, 3) := by decide +kernel
theorem dX9_item_297 : decode cX9_item 297 = .ok (.invokestatic 117, 3) := by decide +kernel
theorem dX9_item_300 : decode cX9_item 300 = .ok (.ifCond .eq 7, 3) := by decide +kernel
theorem dX9_item_303 : decode cX9_item 303 = .ok (.iconst 1, 1) := by decide +kernel
theorem dX9_item_304 : decode cX9_item 304 = .ok (.goto 4, 3) := by decide +kernel
theorem dX9_item_307 : decode cX9_item 307 = .ok (.iconst 0, 1) := by decide +kernel
theorem dX9_item_308 : decode cX9_item 308 = .ok (.ireturn, 1) := by decide +kernel
theorem dX9_item_309 : decode cX9_item 309 = .ok (.iconst 0, 1) := by decide +kernel
theorem dX9_item_310 : decode cX9_item 310 = .ok (.ireturn, 1) := by decide +kernel
theorem dX9_readAll_0 : decode cX9_readAll 0 = .ok (.aload_n 0, 1) := by decide +kernel
theorem dX9_readAll_1 : decode cX9_readAll 1 = .ok (.getfield 52, 3) := by decide +kernel
theorem dX9_readAll_4 : decode cX9_readAll 4 = .ok (.iconst 0, 1) := by decide +kernel
theorem dX9_readAll_5 : decode cX9_readAll 5 = .ok (.iconst 0, 1) := by decide +kernel
theorem dX9_readAll_6 : decode cX9_readAll 6 = .ok (.iastore, 1) := by decide +kernel
theorem dX9_readAll_7 : decode cX9_readAll 7 = .ok (.aload_n 0, 1) := by decide +kernel
theorem dX9_readAll_8 : decode cX9_readAll 8 = .ok (.iconst 0, 1) := by decide +kernel
theorem dX9_readAll_9 : decode cX9_readAll 9 = .ok (.putfield 155, 3) := by decide +kernel
theorem dX9_readAll_12 : decode cX9_readAll 12 = .ok (.aload_n 0, 1) := by decide +kernel
theorem dX9_readAll_13 : decode cX9_readAll 13 = .ok (.getfield 155, 3) := by decide +kernel
theorem dX9_readAll_16 : decode cX9_readAll 16 = .ok (.aload_n 0, 1) := by decide +kernel
theorem dX9_readAll_17 : decode cX9_readAll 17 = .ok (.getfield 150, 3) := by decide +kernel
theorem dX9_readAll_20 : decode cX9_readAll 20 = .ok (.if_icmp .ge 81, 3) := by decide +kernel
theorem dX9_readAll_23 : decode cX9_readAll 23 = .ok (.aload_n 0, 1) := by decide +kernel
theorem dX9_readAll_24 : decode cX9_readAll 24 = .ok (.getfield 155, 3) := by decide +kernel
theorem dX9_readAll_27 : decode cX9_readAll 27 = .ok (.istore_n 1, 1) := by decide +kernel
theorem dX9_readAll_28 : decode cX9_readAll 28 = .ok (.aload_n 0, 1) := by decide +kernel
theorem dX9_readAll_29 : decode cX9_readAll 29 = .ok (.invokevirtual 169, 3) := by decide +kernel
theorem dX9_readAll_32 : decode cX9_readAll 32 = .ok (.ifCond .ne 5, 3) := by decide +kernel
theorem dX9_readAll_35 : decode cX9_readAll 35 = .ok (.iload_n 1, 1) := by decide +kernel
theorem dX9_readAll_36 : decode cX9_readAll 36 = .ok (.ireturn, 1) := by decide +kernel
theorem dX9_readAll_37 : decode cX9_readAll 37 = .ok (.bipush 6, 2) := by decide +kernel
theorem dX9_readAll_39 : decode cX9_readAll 39 = .ok (.aload_n 0, 1) := by decide +kernel
theorem dX9_readAll_40 : decode cX9_readAll 40 = .ok (.getfield 52, 3) := by decide +kernel
theorem dX9_readAll_43 : decode cX9_readAll 43 = .ok (.iconst 0, 1) := by decide +kernel
theorem dX9_readAll_44 : decode cX9_readAll 44 = .ok (.iaload, 1) := by decide +kernel
theorem dX9_readAll_45 : decode cX9_readAll 45 = .ok (.imul, 1) := by decide +kernel
theorem dX9_readAll_46 : decode cX9_readAll 46 = .ok (.istore_n 2, 1) := by decide +kernel
theorem dX9_readAll_47 : decode cX9_readAll 47 = .ok (.aload_n 0, 1) := by decide +kernel
theorem dX9_readAll_48 : decode cX9_readAll 48 = .ok (.getfield 55, 3) := by decide +kernel
theorem dX9_readAll_51 : decode cX9_readAll 51 = .ok (.iload_n 2, 1) := by decide +kernel
theorem dX9_readAll_52 : decode cX9_readAll 52 = .ok (.aload_n 0, 1) := by decide +kernel
theorem dX9_readAll_53 : decode cX9_readAll 53 = .ok (.getfield 49, 3) := by decide +kernel
theorem dX9_readAll_56 : decode cX9_readAll 56 = .ok (.iload_n 1, 1) := by decide +kernel
theorem dX9_readAll_57 : decode cX9_readAll 57 = .ok (.iaload, 1) := by decide +kernel
theorem dX9_readAll_58 : decode cX9_readAll 58 = .ok (.iastore, 1) := by decide +kernel
theorem dX9_readAll_59 : decode cX9_readAll 59 = .ok (.iconst 0, 1) := by decide +kernel
theorem dX9_readAll_60 : decode cX9_readAll 60 = .ok (.istore_n 3, 1) := by decide +kernel
theorem dX9_readAll_61 : decode cX9_readAll 61 = .ok (.iload_n 3, 1) := by decide +kernel
theorem dX9_readAll_62 : decode cX9_readAll 62 = .ok (.iconst 5, 1) := by decide +kernel
theorem dX9_readAll_63 : decode cX9_readAll 63 = .ok (.if_icmp .ge 25, 3) := by decide +kernel
theorem dX9_readAll_66 : decode cX9_readAll 66 = .ok (.aload_n 0, 1) := by decide +kernel
theorem dX9_readAll_67 : decode cX9_readAll 67 = .ok (.getfield 55, 3) := by decide +kernel
theorem dX9_readAll_70 : decode cX9_readAll 70 = .ok (.iload_n 2, 1) := by decide +kernel
theorem dX9_readAll_71 : decode cX9_readAll 71 = .ok (.iconst 1, 1) := by decide +kernel
theorem dX9_readAll_72 : decode cX9_readAll 72 = .ok (.iadd, 1) := by decide +kernel
theorem dX9_readAll_73 : decode cX9_readAll 73 = .ok (.iload_n 3, 1) := by decide +kernel
theorem dX9_readAll_74 : decode cX9_readAll 74 = .ok (.iadd, 1) := by decide +kernel
theorem dX9_readAll_75 : decode cX9_readAll 75 = .ok (.aload_n 0, 1) := by decide +kernel
theorem dX9_readAll_76 : decode cX9_readAll 76 = .ok (.getfield 86, 3) := by decide +kernel
theorem dX9_readAll_79 : decode cX9_readAll 79 = .ok (.iload_n 3, 1) := by decide +kernel
theorem dX9_readAll_80 : decode cX9_readAll 80 = .ok (.iaload, 1) := by decide +kernel
theorem dX9_readAll_81 : decode cX9_readAll 81 = .ok (.iastore, 1) := by decide +kernel
theorem dX9_readAll_82 : decode cX9_readAll 82 = .ok (.iinc 3 1, 3) := by decide +kernel
theorem dX9_readAll_85 : decode cX9_readAll 85 = .ok (.goto (-24), 3) := by decide +kernel
theorem dX9_readAll_88 : decode cX9_readAll 88 = .ok (.aload_n 0, 1) := by decide +kernel
theorem dX9_readAll_89 : decode cX9_readAll 89 = .ok (.getfield 52, 3) := by decide +kernel
theorem dX9_readAll_92 : decode cX9_readAll 92 = .ok (.iconst 0, 1) := by decide +kernel
theorem dX9_readAll_93 : decode cX9_readAll 93 = .ok (.dup2, 1) := by decide +kernel
theorem dX9_readAll_94 : decode cX9_readAll 94 = .ok (.iaload, 1) := by decide +kernel
theorem dX9_readAll_95 : decode cX9_readAll 95 = .ok (.iconst 1, 1) := by decide +kernel
theorem dX9_readAll_96 : decode cX9_readAll 96 = .ok (.iadd, 1) := by decide +kernel
theorem dX9_readAll_97 : decode cX9_readAll 97 = .ok (.iastore, 1) := by decide +kernel
theorem dX9_readAll_98 : decode cX9_readAll 98 = .ok (.goto (-86), 3) := by decide +kernel
theorem dX9_readAll_101 : decode cX9_readAll 101 = .ok (.bipush (-4), 2) := by decide +kernel
theorem dX9_readAll_103 : decode cX9_readAll 103 = .ok (.ireturn, 1) := by decide +kernel
theorem dX9_fault_0 : decode cX9_fault 0 = .ok (.aload_n 0, 1) := by decide +kernel
theorem dX9_fault_1 : decode cX9_fault 1 = .ok (.invokevirtual 173, 3) := by decide +kernel
theorem dX9_fault_4 : decode cX9_fault 4 = .ok (.ireturn, 1) := by decide +kernel
theorem dX9_force_0 : decode cX9_force 0 = .ok (.aload_n 0, 1) := by decide +kernel
theorem dX9_force_1 : decode cX9_force 1 = .ok (.invokevirtual 173, 3) := by decide +kernel
theorem dX9_force_4 : decode cX9_force 4 = .ok (.bipush (-4), 2) := by decide +kernel
theorem dX9_force_6 : decode cX9_force 6 = .ok (.if_icmp .eq 6, 3) := by decide +kernel
theorem dX9_force_9 : decode cX9_force 9 = .ok (.bipush (-2), 2) := by decide +kernel
theorem dX9_force_11 : decode cX9_force 11 = .ok (.ireturn, 1) := by decide +kernel
theorem dX9_force_12 : decode cX9_force 12 = .ok (.aload_n 0, 1) := by decide +kernel
theorem dX9_force_13 : decode cX9_force 13 = .ok (.getfield 52, 3) := by decide +kernel
theorem dX9_force_16 : decode cX9_force 16 = .ok (.iconst 1, 1) := by decide +kernel
theorem dX9_force_17 : decode cX9_force 17 = .ok (.aload_n 0, 1) := by decide +kernel
theorem dX9_force_18 : decode cX9_force 18 = .ok (.getfield 52, 3) := by decide +kernel
theorem dX9_force_21 : decode cX9_force 21 = .ok (.iconst 0, 1) := by decide +kernel
theorem dX9_force_22 : decode cX9_force 22 = .ok (.iaload, 1) := by decide +kernel
theorem dX9_force_23 : decode cX9_force 23 = .ok (.iastore, 1) := by decide +kernel
theorem dX9_force_24 : decode cX9_force 24 = .ok (.iconst 0, 1) := by decide +kernel
theorem dX9_force_25 : decode cX9_force 25 = .ok (.istore_n 1, 1) := by decide +kernel
theorem dX9_force_26 : decode cX9_force 26 = .ok (.iload_n 1, 1) := by decide +kernel
theorem dX9_force_27 : decode cX9_force 27 = .ok (.sipush 240, 3) := by decide +kernel
theorem dX9_force_30 : decode cX9_force 30 = .ok (.if_icmp .ge 25, 3) := by decide +kernel
theorem dX9_force_33 : decode cX9_force 33 = .ok (.aload_n 0, 1) := by decide +kernel
theorem dX9_force_34 : decode cX9_force 34 = .ok (.getfield 55, 3) := by decide +kernel
theorem dX9_force_37 : decode cX9_force 37 = .ok (.sipush 240, 3) := by decide +kernel
theorem dX9_force_40 : decode cX9_force 40 = .ok (.iload_n 1, 1) := by decide +kernel
theorem dX9_force_41 : decode cX9_force 41 = .ok (.iadd, 1) := by decide +kernel
theorem dX9_force_42 : decode cX9_force 42 = .ok (.aload_n 0, 1) := by decide +kernel
theorem dX9_force_43 : decode cX9_force 43 = .ok (.getfield 55, 3) := by decide +kernel
theorem dX9_force_46 : decode cX9_force 46 = .ok (.iload_n 1, 1) := by decide +kernel
theorem dX9_force_47 : decode cX9_force 47 = .ok (.iaload, 1) := by decide +kernel
theorem dX9_force_48 : decode cX9_force 48 = .ok (.iastore, 1) := by decide +kernel
theorem dX9_force_49 : decode cX9_force 49 = .ok (.iinc 1 1, 3) := by decide +kernel
theorem dX9_force_52 : decode cX9_force 52 = .ok (.goto (-26), 3) := by decide +kernel
theorem dX9_force_55 : decode cX9_force 55 = .ok (.aload_n 0, 1) := by decide +kernel
theorem dX9_force_56 : decode cX9_force 56 = .ok (.getfield 52, 3) := by decide +kernel
theorem dX9_force_59 : decode cX9_force 59 = .ok (.iconst 1, 1) := by decide +kernel
theorem dX9_force_60 : decode cX9_force 60 = .ok (.iaload, 1) := by decide +kernel
theorem dX9_force_61 : decode cX9_force 61 = .ok (.ireturn, 1) := by decide +kernel
theorem dX9_mayTurn_0 : decode cX9_mayTurn 0 = .ok (.iconst 0, 1) := by decide +kernel
theorem dX9_mayTurn_1 : decode cX9_mayTurn 1 = .ok (.istore 4, 2) := by decide +kernel
theorem dX9_mayTurn_3 : decode cX9_mayTurn 3 = .ok (.iconst 0, 1) := by decide +kernel
theorem dX9_mayTurn_4 : decode cX9_mayTurn 4 = .ok (.istore 5, 2) := by decide +kernel
theorem dX9_mayTurn_6 : decode cX9_mayTurn 6 = .ok (.iload 5, 2) := by decide +kernel
theorem dX9_mayTurn_8 : decode cX9_mayTurn 8 = .ok (.aload_n 0, 1) := by decide +kernel
theorem dX9_mayTurn_9 : decode cX9_mayTurn 9 = .ok (.getfield 52, 3) := by decide +kernel
theorem dX9_mayTurn_12 : decode cX9_mayTurn 12 = .ok (.iconst 1, 1) := by decide +kernel
theorem dX9_mayTurn_13 : decode cX9_mayTurn 13 = .ok (.iaload, 1) := by decide +kernel
theorem dX9_mayTurn_14 : decode cX9_mayTurn 14 = .ok (.if_icmp .ge 159, 3) := by decide +kernel
theorem dX9_mayTurn_17 : decode cX9_mayTurn 17 = .ok (.sipush 240, 3) := by decide +kernel
theorem dX9_mayTurn_20 : decode cX9_mayTurn 20 = .ok (.bipush 6, 2) := by decide +kernel
theorem dX9_mayTurn_22 : decode cX9_mayTurn 22 = .ok (.iload 5, 2) := by decide +kernel
theorem dX9_mayTurn_24 : decode cX9_mayTurn 24 = .ok (.imul, 1) := by decide +kernel
theorem dX9_mayTurn_25 : decode cX9_mayTurn 25 = .ok (.iadd, 1) := by decide +kernel
theorem dX9_mayTurn_26 : decode cX9_mayTurn 26 = .ok (.istore 6, 2) := by decide +kernel
theorem dX9_mayTurn_28 : decode cX9_mayTurn 28 = .ok (.aload_n 0, 1) := by decide +kernel
theorem dX9_mayTurn_29 : decode cX9_mayTurn 29 = .ok (.getfield 55, 3) := by decide +kernel
theorem dX9_mayTurn_32 : decode cX9_mayTurn 32 = .ok (.iload 6, 2) := by decide +kernel
theorem dX9_mayTurn_34 : decode cX9_mayTurn 34 = .ok (.iaload, 1) := by decide +kernel
theorem dX9_mayTurn_35 : decode cX9_mayTurn 35 = .ok (.bipush 114, 2) := by decide +kernel
theorem dX9_mayTurn_37 : decode cX9_mayTurn 37 = .ok (.if_icmp .ne 51, 3) := by decide +kernel
theorem dX9_mayTurn_40 : decode cX9_mayTurn 40 = .ok (.aload_n 0, 1) := by decide +kernel
theorem dX9_mayTurn_41 : decode cX9_mayTurn 41 = .ok (.getfield 55, 3) := by decide +kernel
theorem dX9_mayTurn_44 : decode cX9_mayTurn 44 = .ok (.iload 6, 2) := by decide +kernel
theorem dX9_mayTurn_46 : decode cX9_mayTurn 46 = .ok (.iconst 1, 1) := by decide +kernel
theorem dX9_mayTurn_47 : decode cX9_mayTurn 47 = .ok (.iadd, 1) := by decide +kernel
theorem dX9_mayTurn_48 : decode cX9_mayTurn 48 = .ok (.iaload, 1) := by decide +kernel
theorem dX9_mayTurn_49 : decode cX9_mayTurn 49 = .ok (.iload_n 1, 1) := by decide +kernel
theorem dX9_mayTurn_50 : decode cX9_mayTurn 50 = .ok (.if_icmp .ne 38, 3) := by decide +kernel
theorem dX9_mayTurn_53 : decode cX9_mayTurn 53 = .ok (.aload_n 0, 1) := by decide +kernel
theorem dX9_mayTurn_54 : decode cX9_mayTurn 54 = .ok (.getfield 55, 3) := by decide +kernel
theorem dX9_mayTurn_57 : decode cX9_mayTurn 57 = .ok (.iload 6, 2) := by decide +kernel
theorem dX9_mayTurn_59 : decode cX9_mayTurn 59 = .ok (.iconst 2, 1) := by decide +kernel
theorem dX9_mayTurn_60 : decode cX9_mayTurn 60 = .ok (.iadd, 1) := by decide +kernel
theorem dX9_mayTurn_61 : decode cX9_mayTurn 61 = .ok (.iaload, 1) := by decide +kernel
theorem dX9_mayTurn_62 : decode cX9_mayTurn 62 = .ok (.iconst 4, 1) := by decide +kernel
theorem dX9_mayTurn_63 : decode cX9_mayTurn 63 = .ok (.if_icmp .eq 21, 3) := by decide +kernel
theorem dX9_mayTurn_66 : decode cX9_mayTurn 66 = .ok (.aload_n 0, 1) := by decide +kernel
theorem dX9_mayTurn_67 : decode cX9_mayTurn 67 = .ok (.getfield 55, 3) := by decide +kernel
theorem dX9_mayTurn_70 : decode cX9_mayTurn 70 = .ok (.iload 6, 2) := by decide +kernel
theorem dX9_mayTurn_72 : decode cX9_mayTurn 72 = .ok (.iconst 2, 1) := by decide +kernel
theorem dX9_mayTurn_73 : decode cX9_mayTurn 73 = .ok (.iadd, 1) := by decide +kernel
theorem dX9_mayTurn_74 : decode cX9_mayTurn 74 = .ok (.iaload, 1) := by decide +kernel
theorem dX9_mayTurn_75 : decode cX9_mayTurn 75 = .ok (.aload_n 0, 1) := by decide +kernel
theorem dX9_mayTurn_76 : decode cX9_mayTurn 76 = .ok (.getfield 13, 3) := by decide +kernel
theorem dX9_mayTurn_79 : decode cX9_mayTurn 79 = .ok (.iload_n 2, 1) := by decide +kernel
theorem dX9_mayTurn_80 : decode cX9_mayTurn 80 = .ok (.iaload, 1) := by decide +kernel
theorem dX9_mayTurn_81 : decode cX9_mayTurn 81 = .ok (.if_icmp .ne 7, 3) := by decide +kernel
theorem dX9_mayTurn_84 : decode cX9_mayTurn 84 = .ok (.iconst 1, 1) := by decide +kernel
theorem dX9_mayTurn_85 : decode cX9_mayTurn 85 = .ok (.goto 4, 3) := by decide +kernel
theorem dX9_mayTurn_88 : decode cX9_mayTurn 88 = .ok (.iconst 0, 1) := by decide +kernel
theorem dX9_mayTurn_89 : decode cX9_mayTurn 89 = .ok (.istore 7, 2) := by decide +kernel
theorem dX9_mayTurn_91 : decode cX9_mayTurn 91 = .ok (.iload 4, 2) := by decide +kernel
theorem dX9_mayTurn_93 : decode cX9_mayTurn 93 = .ok (.ifCond .ne 67, 3) := by decide +kernel
theorem dX9_mayTurn_96 : decode cX9_mayTurn 96 = .ok (.iload 7, 2) := by decide +kernel
theorem dX9_mayTurn_98 : decode cX9_mayTurn 98 = .ok (.ifCond .eq 66, 3) := by decide +kernel
theorem dX9_mayTurn_101 : decode cX9_mayTurn 101 = .ok (.aload_n 0, 1) := by decide +kernel
theorem dX9_mayTurn_102 : decode cX9_mayTurn 102 = .ok (.getfield 55, 3) := by decide +kernel
theorem dX9_mayTurn_105 : decode cX9_mayTurn 105 = .ok (.iload 6, 2) := by decide +kernel
theorem dX9_mayTurn_107 : decode cX9_mayTurn 107 = .ok (.iconst 3, 1) := by decide +kernel
theorem dX9_mayTurn_108 : decode cX9_mayTurn 108 = .ok (.iadd, 1) := by decide +kernel
theorem dX9_mayTurn_109 : decode cX9_mayTurn 109 = .ok (.iaload, 1) := by decide +kernel
theorem dX9_mayTurn_110 : decode cX9_mayTurn 110 = .ok (.iconst 5, 1) := by decide +kernel
theorem dX9_mayTurn_111 : decode cX9_mayTurn 111 = .ok (.if_icmp .eq 21, 3) := by decide +kernel
theorem dX9_mayTurn_114 : decode cX9_mayTurn 114 = .ok (.aload_n 0, 1) := by decide +kernel
theorem dX9_mayTurn_115 : decode cX9_mayTurn 115 = .ok (.getfield 55, 3) := by decide +kernel
theorem dX9_mayTurn_118 : decode cX9_mayTurn 118 = .ok (.iload 6, 2) := by decide +kernel
theorem dX9_mayTurn_120 : decode cX9_mayTurn 120 = .ok (.iconst 3, 1) := by decide +kernel
theorem dX9_mayTurn_121 : decode cX9_mayTurn 121 = .ok (.iadd, 1) := by decide +kernel
theorem dX9_mayTurn_122 : decode cX9_mayTurn 122 = .ok (.iaload, 1) := by decide +kernel
theorem dX9_mayTurn_123 : decode cX9_mayTurn 123 = .ok (.aload_n 0, 1) := by decide +kernel
theorem dX9_mayTurn_124 : decode cX9_mayTurn 124 = .ok (.getfield 7, 3) := by decide +kernel
theorem dX9_mayTurn_127 : decode cX9_mayTurn 127 = .ok (.iload_n 2, 1) := by decide +kernel
theorem dX9_mayTurn_128 : decode cX9_mayTurn 128 = .ok (.iaload, 1) := by decide +kernel
theorem dX9_mayTurn_129 : decode cX9_mayTurn 129 = .ok (.if_icmp .ne 35, 3) := by decide +kernel
theorem dX9_mayTurn_132 : decode cX9_mayTurn 132 = .ok (.iload_n 3, 1) := by decide +kernel
theorem dX9_mayTurn_133 : decode cX9_mayTurn 133 = .ok (.i2l, 1) := by decide +kernel
theorem dX9_mayTurn_134 : decode cX9_mayTurn 134 = .ok (.aload_n 0, 1) := by decide +kernel
theorem dX9_mayTurn_135 : decode cX9_mayTurn 135 = .ok (.getfield 55, 3) := by decide +kernel
theorem dX9_mayTurn_138 : decode cX9_mayTurn 138 = .ok (.iload 6, 2) := by decide +kernel
theorem dX9_mayTurn_140 : decode cX9_mayTurn 140 = .ok (.iconst 4, 1) := by decide +kernel
theorem dX9_mayTurn_141 : decode cX9_mayTurn 141 = .ok (.iadd, 1) := by decide +kernel
theorem dX9_mayTurn_142 : decode cX9_mayTurn 142 = .ok (.iaload, 1) := by decide +kernel
theorem dX9_mayTurn_143 : decode cX9_mayTurn 143 = .ok (.i2l, 1) := by decide +kernel
theorem dX9_mayTurn_144 : decode cX9_mayTurn 144 = .ok (.aload_n 0, 1) := by decide +kernel
theorem dX9_mayTurn_145 : decode cX9_mayTurn 145 = .ok (.getfield 55, 3) := by decide +kernel
theorem dX9_mayTurn_148 : decode cX9_mayTurn 148 = .ok (.iload 6, 2) := by decide +kernel
theorem dX9_mayTurn_150 : decode cX9_mayTurn 150 = .ok (.iconst 5, 1) := by decide +kernel
theorem dX9_mayTurn_151 : decode cX9_mayTurn 151 = .ok (.iadd, 1) := by decide +kernel
theorem dX9_mayTurn_152 : decode cX9_mayTurn 152 = .ok (.iaload, 1) := by decide +kernel
theorem dX9_mayTurn_153 : decode cX9_mayTurn 153 = .ok (.i2l, 1) := by decide +kernel
theorem dX9_mayTurn_154 : decode cX9_mayTurn 154 = .ok (.invokestatic 117, 3) := by decide +kernel
theorem dX9_mayTurn_157 : decode cX9_mayTurn 157 = .ok (.ifCond .eq 7, 3) := by decide +kernel
theorem dX9_mayTurn_160 : decode cX9_mayTurn 160 = .ok (.iconst 1, 1) := by decide +kernel
theorem dX9_mayTurn_161 : decode cX9_mayTurn 161 = .ok (.goto 4, 3) := by decide +kernel
theorem dX9_mayTurn_164 : decode cX9_mayTurn 164 = .ok (.iconst 0, 1) := by decide +kernel
theorem dX9_mayTurn_165 : decode cX9_mayTurn 165 = .ok (.istore 4, 2) := by decide +kernel
theorem dX9_mayTurn_167 : decode cX9_mayTurn 167 = .ok (.iinc 5 1, 3) := by decide +kernel
theorem dX9_mayTurn_170 : decode cX9_mayTurn 170 = .ok (.goto (-164), 3) := by decide +kernel
theorem dX9_mayTurn_173 : decode cX9_mayTurn 173 = .ok (.iload 4, 2) := by decide +kernel
theorem dX9_mayTurn_175 : decode cX9_mayTurn 175 = .ok (.ireturn, 1) := by decide +kernel
theorem dX9_may_0 : decode cX9_may 0 = .ok (.iload_n 1, 1) := by decide +kernel
theorem dX9_may_1 : decode cX9_may 1 = .ok (.i2l, 1) := by decide +kernel
theorem dX9_may_2 : decode cX9_may 2 = .ok (.lconst 0, 1) := by decide +kernel
theorem dX9_may_3 : decode cX9_may 3 = .ok (.ldc2_w 165, 3) := by decide +kernel
theorem dX9_may_6 : decode cX9_may 6 = .ok (.invokestatic 117, 3) := by decide +kernel
theorem dX9_may_9 : decode cX9_may 9 = .ok (.ifCond .eq 23, 3) := by decide +kernel
theorem dX9_may_12 : decode cX9_may 12 = .ok (.aload_n 0, 1) := by decide +kernel
theorem dX9_may_13 : decode cX9_may 13 = .ok (.iload_n 2, 1) := by decide +kernel
theorem dX9_may_14 : decode cX9_may 14 = .ok (.invokevirtual 131, 3) := by decide +kernel
theorem dX9_may_17 : decode cX9_may 17 = .ok (.ifCond .eq 15, 3) := by decide +kernel
theorem dX9_may_20 : decode cX9_may 20 = .ok (.iload_n 3, 1) := by decide +kernel
theorem dX9_may_21 : decode cX9_may 21 = .ok (.i2l, 1) := by decide +kernel
theorem dX9_may_22 : decode cX9_may 22 = .ok (.lconst 0, 1) := by decide +kernel
theorem dX9_may_23 : decode cX9_may 23 = .ok (.ldc2_w 167, 3) := by decide +kernel
theorem dX9_may_26 : decode cX9_may 26 = .ok (.invokestatic 117, 3) := by decide +kernel
theorem dX9_may_29 : decode cX9_may 29 = .ok (.ifCond .ne 5, 3) := by decide +kernel
theorem dX9_may_32 : decode cX9_may 32 = .ok (.iconst (-1), 1) := by decide +kernel
theorem dX9_may_33 : decode cX9_may 33 = .ok (.ireturn, 1) := by decide +kernel
theorem dX9_may_34 : decode cX9_may 34 = .ok (.aload_n 0, 1) := by decide +kernel
theorem dX9_may_35 : decode cX9_may 35 = .ok (.iload_n 1, 1) := by decide +kernel
theorem dX9_may_36 : decode cX9_may 36 = .ok (.iload_n 2, 1) := by decide +kernel
theorem dX9_may_37 : decode cX9_may 37 = .ok (.iload_n 3, 1) := by decide +kernel
theorem dX9_may_38 : decode cX9_may 38 = .ok (.invokevirtual 177, 3) := by decide +kernel
theorem dX9_may_41 : decode cX9_may 41 = .ok (.ifCond .eq 7, 3) := by decide +kernel
theorem dX9_may_44 : decode cX9_may 44 = .ok (.iconst 1, 1) := by decide +kernel
theorem dX9_may_45 : decode cX9_may 45 = .ok (.goto 4, 3) := by decide +kernel
theorem dX9_may_48 : decode cX9_may 48 = .ok (.iconst 0, 1) := by decide +kernel
theorem dX9_may_49 : decode cX9_may 49 = .ok (.ireturn, 1) := by decide +kernel
theorem dX9_stateOf_0 : decode cX9_stateOf 0 = .ok (.iload_n 1, 1) := by decide +kernel
theorem dX9_stateOf_1 : decode cX9_stateOf 1 = .ok (.aload_n 0, 1) := by decide +kernel
theorem dX9_stateOf_2 : decode cX9_stateOf 2 = .ok (.getfield 113, 3) := by decide +kernel
theorem dX9_stateOf_5 : decode cX9_stateOf 5 = .ok (.if_icmp .ge 12, 3) := by decide +kernel
theorem dX9_stateOf_8 : decode cX9_stateOf 8 = .ok (.aload_n 0, 1) := by decide +kernel
theorem dX9_stateOf_9 : decode cX9_stateOf 9 = .ok (.getfield 22, 3) := by decide +kernel
theorem dX9_stateOf_12 : decode cX9_stateOf 12 = .ok (.iload_n 1, 1) := by decide +kernel
theorem dX9_stateOf_13 : decode cX9_stateOf 13 = .ok (.iaload, 1) := by decide +kernel
theorem dX9_stateOf_14 : decode cX9_stateOf 14 = .ok (.goto 4, 3) := by decide +kernel
theorem dX9_stateOf_17 : decode cX9_stateOf 17 = .ok (.iconst 0, 1) := by decide +kernel
theorem dX9_stateOf_18 : decode cX9_stateOf 18 = .ok (.ireturn, 1) := by decide +kernel
theorem dX9_bars_0 : decode cX9_bars 0 = .ok (.sipush 240, 3) := by decide +kernel
theorem dX9_bars_3 : decode cX9_bars 3 = .ok (.bipush 6, 2) := by decide +kernel
theorem dX9_bars_5 : decode cX9_bars 5 = .ok (.iload_n 1, 1) := by decide +kernel
theorem dX9_bars_6 : decode cX9_bars 6 = .ok (.imul, 1) := by decide +kernel
theorem dX9_bars_7 : decode cX9_bars 7 = .ok (.iadd, 1) := by decide +kernel
theorem dX9_bars_8 : decode cX9_bars 8 = .ok (.istore_n 2, 1) := by decide +kernel
theorem dX9_bars_9 : decode cX9_bars 9 = .ok (.aload_n 0, 1) := by decide +kernel
theorem dX9_bars_10 : decode cX9_bars 10 = .ok (.getfield 55, 3) := by decide +kernel
theorem dX9_bars_13 : decode cX9_bars 13 = .ok (.iload_n 2, 1) := by decide +kernel
theorem dX9_bars_14 : decode cX9_bars 14 = .ok (.iaload, 1) := by decide +kernel
theorem dX9_bars_15 : decode cX9_bars 15 = .ok (.bipush 120, 2) := by decide +kernel
theorem dX9_bars_17 : decode cX9_bars 17 = .ok (.if_icmp .ne 55, 3) := by decide +kernel
theorem dX9_bars_20 : decode cX9_bars 20 = .ok (.aload_n 0, 1) := by decide +kernel
theorem dX9_bars_21 : decode cX9_bars 21 = .ok (.aload_n 0, 1) := by decide +kernel
theorem dX9_bars_22 : decode cX9_bars 22 = .ok (.getfield 55, 3) := by decide +kernel
theorem dX9_bars_25 : decode cX9_bars 25 = .ok (.iload_n 2, 1) := by decide +kernel
theorem dX9_bars_26 : decode cX9_bars 26 = .ok (.iconst 1, 1) := by decide +kernel
theorem dX9_bars_27 : decode cX9_bars 27 = .ok (.iadd, 1) := by decide +kernel
theorem dX9_bars_28 : decode cX9_bars 28 = .ok (.iaload, 1) := by decide +kernel
theorem dX9_bars_29 : decode cX9_bars 29 = .ok (.invokevirtual 181, 3) := by decide +kernel
theorem dX9_bars_32 : decode cX9_bars 32 = .ok (.aload_n 0, 1) := by decide +kernel
theorem dX9_bars_33 : decode cX9_bars 33 = .ok (.getfield 55, 3) := by decide +kernel
theorem dX9_bars_36 : decode cX9_bars 36 = .ok (.iload_n 2, 1) := by decide +kernel
theorem dX9_bars_37 : decode cX9_bars 37 = .ok (.iconst 2, 1) := by decide +kernel
theorem dX9_bars_38 : decode cX9_bars 38 = .ok (.iadd, 1) := by decide +kernel
theorem dX9_bars_39 : decode cX9_bars 39 = .ok (.iaload, 1) := by decide +kernel
theorem dX9_bars_40 : decode cX9_bars 40 = .ok (.if_icmp .lt 30, 3) := by decide +kernel
theorem dX9_bars_43 : decode cX9_bars 43 = .ok (.aload_n 0, 1) := by decide +kernel
theorem dX9_bars_44 : decode cX9_bars 44 = .ok (.aload_n 0, 1) := by decide +kernel
theorem dX9_bars_45 : decode cX9_bars 45 = .ok (.getfield 55, 3) := by decide +kernel
theorem dX9_bars_48 : decode cX9_bars 48 = .ok (.iload_n 2, 1) := by decide +kernel
theorem dX9_bars_49 : decode cX9_bars 49 = .ok (.iconst 3, 1) := by decide +kernel
theorem dX9_bars_50 : decode cX9_bars 50 = .ok (.iadd, 1) := by decide +kernel
theorem dX9_bars_51 : decode cX9_bars 51 = .ok (.iaload, 1) := by decide +kernel
theorem dX9_bars_52 : decode cX9_bars 52 = .ok (.invokevirtual 181, 3) := by decide +kernel
theorem dX9_bars_55 : decode cX9_bars 55 = .ok (.aload_n 0, 1) := by decide +kernel
theorem dX9_bars_56 : decode cX9_bars 56 = .ok (.getfield 55, 3) := by decide +kernel
theorem dX9_bars_59 : decode cX9_bars 59 = .ok (.iload_n 2, 1) := by decide +kernel
theorem dX9_bars_60 : decode cX9_bars 60 = .ok (.iconst 4, 1) := by decide +kernel
theorem dX9_bars_61 : decode cX9_bars 61 = .ok (.iadd, 1) := by decide +kernel
theorem dX9_bars_62 : decode cX9_bars 62 = .ok (.iaload, 1) := by decide +kernel
theorem dX9_bars_63 : decode cX9_bars 63 = .ok (.if_icmp .lt 7, 3) := by decide +kernel
theorem dX9_bars_66 : decode cX9_bars 66 = .ok (.iconst 1, 1) := by decide +kernel
theorem dX9_bars_67 : decode cX9_bars 67 = .ok (.goto 4, 3) := by decide +kernel
theorem dX9_bars_70 : decode cX9_bars 70 = .ok (.iconst 0, 1) := by decide +kernel
theorem dX9_bars_71 : decode cX9_bars 71 = .ok (.ireturn, 1) := by decide +kernel
theorem dX9_bars_72 : decode cX9_bars 72 = .ok (.aload_n 0, 1) := by decide +kernel
theorem dX9_bars_73 : decode cX9_bars 73 = .ok (.getfield 55, 3) := by decide +kernel
theorem dX9_bars_76 : decode cX9_bars 76 = .ok (.iload_n 2, 1) := by decide +kernel
theorem dX9_bars_77 : decode cX9_bars 77 = .ok (.iaload, 1) := by decide +kernel
theorem dX9_bars_78 : decode cX9_bars 78 = .ok (.bipush 110, 2) := by decide +kernel
theorem dX9_bars_80 : decode cX9_bars 80 = .ok (.if_icmp .ne 26, 3) := by decide +kernel
theorem dX9_bars_83 : decode cX9_bars 83 = .ok (.aload_n 0, 1) := by decide +kernel
theorem dX9_bars_84 : decode cX9_bars 84 = .ok (.aload_n 0, 1) := by decide +kernel
theorem dX9_bars_85 : decode cX9_bars 85 = .ok (.getfield 55, 3) := by decide +kernel
theorem dX9_bars_88 : decode cX9_bars 88 = .ok (.iload_n 2, 1) := by decide +kernel
theorem dX9_bars_89 : decode cX9_bars 89 = .ok (.iconst 1, 1) := by decide +kernel
theorem dX9_bars_90 : decode cX9_bars 90 = .ok (.iadd, 1) := by decide +kernel
theorem dX9_bars_91 : decode cX9_bars 91 = .ok (.iaload, 1) := by decide +kernel
theorem dX9_bars_92 : decode cX9_bars 92 = .ok (.invokevirtual 181, 3) := by decide +kernel
theorem dX9_bars_95 : decode cX9_bars 95 = .ok (.aload_n 0, 1) := by decide +kernel
theorem dX9_bars_96 : decode cX9_bars 96 = .ok (.getfield 55, 3) := by decide +kernel
theorem dX9_bars_99 : decode cX9_bars 99 = .ok (.iload_n 2, 1) := by decide +kernel
theorem dX9_bars_100 : decode cX9_bars 100 = .ok (.iconst 2, 1) := by decide +kernel
theorem dX9_bars_101 : decode cX9_bars 101 = .ok (.iadd, 1) := by decide +kernel
theorem dX9_bars_102 : decode cX9_bars 102 = .ok (.iaload, 1) := by decide +kernel
theorem dX9_bars_103 : decode cX9_bars 103 = .ok (.if_icmp .ge 5, 3) := by decide +kernel
theorem dX9_bars_106 : decode cX9_bars 106 = .ok (.iconst 0, 1) := by decide +kernel
theorem dX9_bars_107 : decode cX9_bars 107 = .ok (.ireturn, 1) := by decide +kernel
theorem dX9_bars_108 : decode cX9_bars 108 = .ok (.iconst 0, 1) := by decide +kernel
theorem dX9_bars_109 : decode cX9_bars 109 = .ok (.istore_n 3, 1) := by decide +kernel
theorem dX9_bars_110 : decode cX9_bars 110 = .ok (.iconst 0, 1) := by decide +kernel
theorem dX9_bars_111 : decode cX9_bars 111 = .ok (.istore 4, 2) := by decide +kernel
theorem dX9_bars_113 : decode cX9_bars 113 = .ok (.iload 4, 2) := by decide +kernel
theorem dX9_bars_115 : decode cX9_bars 115 = .ok (.bipush 6, 2) := by decide +kernel
theorem dX9_bars_117 : decode cX9_bars 117 = .ok (.if_icmp .ge 42, 3) := by decide +kernel
theorem dX9_bars_120 : decode cX9_bars 120 = .ok (.iload_n 3, 1) := by decide +kernel
theorem dX9_bars_121 : decode cX9_bars 121 = .ok (.ifCond .ne 26, 3) := by decide +kernel
theorem dX9_bars_124 : decode cX9_bars 124 = .ok (.aload_n 0, 1) := by decide +kernel
theorem dX9_bars_125 : decode cX9_bars 125 = .ok (.getfield 28, 3) := by decide +kernel
theorem dX9_bars_128 : decode cX9_bars 128 = .ok (.iload 4, 2) := by decide +kernel
theorem dX9_bars_130 : decode cX9_bars 130 = .ok (.iaload, 1) := by decide +kernel
theorem dX9_bars_131 : decode cX9_bars 131 = .ok (.aload_n 0, 1) := by decide +kernel
theorem dX9_bars_132 : decode cX9_bars 132 = .ok (.getfield 7, 3) := by decide +kernel
theorem dX9_bars_135 : decode cX9_bars 135 = .ok (.aload_n 0, 1) := by decide +kernel
theorem dX9_bars_136 : decode cX9_bars 136 = .ok (.getfield 55, 3) := by decide +kernel
theorem dX9_bars_139 : decode cX9_bars 139 = .ok (.iload_n 2, 1) := by decide +kernel
theorem dX9_bars_140 : decode cX9_bars 140 = .ok (.iconst 1, 1) := by decide +kernel
theorem dX9_bars_141 : decode cX9_bars 141 = .ok (.iadd, 1) := by decide +kernel
theorem dX9_bars_142 : decode cX9_bars 142 = .ok (.iaload, 1) := by decide +kernel
theorem dX9_bars_143 : decode cX9_bars 143 = .ok (.iaload, 1) := by decide +kernel
theorem dX9_bars_144 : decode cX9_bars 144 = .ok (.if_icmp .ne 7, 3) := by decide +kernel
theorem dX9_bars_147 : decode cX9_bars 147 = .ok (.iconst 1, 1) := by decide +kernel
theorem dX9_bars_148 : decode cX9_bars 148 = .ok (.goto 4, 3) := by decide +kernel
theorem dX9_bars_151 : decode cX9_bars 151 = .ok (.iconst 0, 1) := by decide +kernel
theorem dX9_bars_152 : decode cX9_bars 152 = .ok (.istore_n 3, 1) := by decide +kernel
theorem dX9_bars_153 : decode cX9_bars 153 = .ok (.iinc 4 1, 3) := by decide +kernel
theorem dX9_bars_156 : decode cX9_bars 156 = .ok (.goto (-43), 3) := by decide +kernel
theorem dX9_bars_159 : decode cX9_bars 159 = .ok (.iload_n 3, 1) := by decide +kernel
theorem dX9_bars_160 : decode cX9_bars 160 = .ok (.ifCond .ne 7, 3) := by decide +kernel
theorem dX9_bars_163 : decode cX9_bars 163 = .ok (.iconst 1, 1) := by decide +kernel
theorem dX9_bars_164 : decode cX9_bars 164 = .ok (.goto 4, 3) := by decide +kernel
theorem dX9_bars_167 : decode cX9_bars 167 = .ok (.iconst 0, 1) := by decide +kernel
theorem dX9_bars_168 : decode cX9_bars 168 = .ok (.ireturn, 1) := by decide +kernel
theorem dX9_layBars_0 : decode cX9_layBars 0 = .ok (.iconst 0, 1) := by decide +kernel
theorem dX9_layBars_1 : decode cX9_layBars 1 = .ok (.istore_n 1, 1) := by decide +kernel
theorem dX9_layBars_2 : decode cX9_layBars 2 = .ok (.iload_n 1, 1) := by decide +kernel
theorem dX9_layBars_3 : decode cX9_layBars 3 = .ok (.aload_n 0, 1) := by decide +kernel
theorem dX9_layBars_4 : decode cX9_layBars 4 = .ok (.getfield 52, 3) := by decide +kernel
theorem dX9_layBars_7 : decode cX9_layBars 7 = .ok (.iconst 1, 1) := by decide +kernel
theorem dX9_layBars_8 : decode cX9_layBars 8 = .ok (.iaload, 1) := by decide +kernel
theorem dX9_layBars_9 : decode cX9_layBars 9 = .ok (.if_icmp .ge 20, 3) := by decide +kernel
theorem dX9_layBars_12 : decode cX9_layBars 12 = .ok (.aload_n 0, 1) := by decide +kernel
theorem dX9_layBars_13 : decode cX9_layBars 13 = .ok (.getfield 89, 3) := by decide +kernel
theorem dX9_layBars_16 : decode cX9_layBars 16 = .ok (.iload_n 1, 1) := by decide +kernel
theorem dX9_layBars_17 : decode cX9_layBars 17 = .ok (.aload_n 0, 1) := by decide +kernel
theorem dX9_layBars_18 : decode cX9_layBars 18 = .ok (.iload_n 1, 1) := by decide +kernel
theorem dX9_layBars_19 : decode cX9_layBars 19 = .ok (.invokevirtual 185, 3) := by decide +kernel
theorem dX9_layBars_22 : decode cX9_layBars 22 = .ok (.bastore, 1) := by decide +kernel
theorem dX9_layBars_23 : decode cX9_layBars 23 = .ok (.iinc 1 1, 3) := by decide +kernel
theorem dX9_layBars_26 : decode cX9_layBars 26 = .ok (.goto (-24), 3) := by decide +kernel
theorem dX9_layBars_29 : decode cX9_layBars 29 = .ok (.return_, 1) := by decide +kernel
theorem dX9_newBar_0 : decode cX9_newBar 0 = .ok (.iconst 0, 1) := by decide +kernel
theorem dX9_newBar_1 : decode cX9_newBar 1 = .ok (.istore_n 1, 1) := by decide +kernel
theorem dX9_newBar_2 : decode cX9_newBar 2 = .ok (.iload_n 1, 1) := by decide +kernel
theorem dX9_newBar_3 : decode cX9_newBar 3 = .ok (.aload_n 0, 1) := by decide +kernel
theorem dX9_newBar_4 : decode cX9_newBar 4 = .ok (.getfield 52, 3) := by decide +kernel
theorem dX9_newBar_7 : decode cX9_newBar 7 = .ok (.iconst 1, 1) := by decide +kernel
theorem dX9_newBar_8 : decode cX9_newBar 8 = .ok (.iaload, 1) := by decide +kernel
theorem dX9_newBar_9 : decode cX9_newBar 9 = .ok (.if_icmp .ge 28, 3) := by decide +kernel
theorem dX9_newBar_12 : decode cX9_newBar 12 = .ok (.aload_n 0, 1) := by decide +kernel
theorem dX9_newBar_13 : decode cX9_newBar 13 = .ok (.getfield 89, 3) := by decide +kernel
theorem dX9_newBar_16 : decode cX9_newBar 16 = .ok (.iload_n 1, 1) := by decide +kernel
theorem dX9_newBar_17 : decode cX9_newBar 17 = .ok (.baload, 1) := by decide +kernel
theorem dX9_newBar_18 : decode cX9_newBar 18 = .ok (.ifCond .ne 13, 3) := by decide +kernel
theorem dX9_newBar_21 : decode cX9_newBar 21 = .ok (.aload_n 0, 1) := by decide +kernel
theorem dX9_newBar_22 : decode cX9_newBar 22 = .ok (.iload_n 1, 1) := by decide +kernel
theorem dX9_newBar_23 : decode cX9_newBar 23 = .ok (.invokevirtual 185, 3) := by decide +kernel
theorem dX9_newBar_26 : decode cX9_newBar 26 = .ok (.ifCond .eq 5, 3) := by decide +kernel
theorem dX9_newBar_29 : decode cX9_newBar 29 = .ok (.iconst 1, 1) := by decide +kernel
theorem dX9_newBar_30 : decode cX9_newBar 30 = .ok (.ireturn, 1) := by decide +kernel
theorem dX9_newBar_31 : decode cX9_newBar 31 = .ok (.iinc 1 1, 3) := by decide +kernel
theorem dX9_newBar_34 : decode cX9_newBar 34 = .ok (.goto (-32), 3) := by decide +kernel
theorem dX9_newBar_37 : decode cX9_newBar 37 = .ok (.iconst 0, 1) := by decide +kernel
theorem dX9_newBar_38 : decode cX9_newBar 38 = .ok (.ireturn, 1) := by decide +kernel
theorem dX9_barred_0 : decode cX9_barred 0 = .ok (.iconst 0, 1) := by decide +kernel
theorem dX9_barred_1 : decode cX9_barred 1 = .ok (.istore_n 1, 1) := by decide +kernel
theorem dX9_barred_2 : decode cX9_barred 2 = .ok (.iconst 0, 1) := by decide +kernel
theorem dX9_barred_3 : decode cX9_barred 3 = .ok (.istore_n 2, 1) := by decide +kernel
theorem dX9_barred_4 : decode cX9_barred 4 = .ok (.iload_n 2, 1) := by decide +kernel
theorem dX9_barred_5 : decode cX9_barred 5 = .ok (.aload_n 0, 1) := by decide +kernel
theorem dX9_barred_6 : decode cX9_barred 6 = .ok (.getfield 52, 3) := by decide +kernel
theorem dX9_barred_9 : decode cX9_barred 9 = .ok (.iconst 1, 1) := by decide +kernel
theorem dX9_barred_10 : decode cX9_barred 10 = .ok (.iaload, 1) := by decide +kernel
theorem dX9_barred_11 : decode cX9_barred 11 = .ok (.if_icmp .ge 25, 3) := by decide +kernel
theorem dX9_barred_14 : decode cX9_barred 14 = .ok (.iload_n 1, 1) := by decide +kernel
theorem dX9_barred_15 : decode cX9_barred 15 = .ok (.aload_n 0, 1) := by decide +kernel
theorem dX9_barred_16 : decode cX9_barred 16 = .ok (.iload_n 2, 1) := by decide +kernel
theorem dX9_barred_17 : decode cX9_barred 17 = .ok (.invokevirtual 185, 3) := by decide +kernel
theorem dX9_barred_20 : decode cX9_barred 20 = .ok (.ifCond .eq 7, 3) := by decide +kernel
theorem dX9_barred_23 : decode cX9_barred 23 = .ok (.iconst 1, 1) := by decide +kernel
theorem dX9_barred_24 : decode cX9_barred 24 = .ok (.goto 4, 3) := by decide +kernel
theorem dX9_barred_27 : decode cX9_barred 27 = .ok (.iconst 0, 1) := by decide +kernel
theorem dX9_barred_28 : decode cX9_barred 28 = .ok (.iadd, 1) := by decide +kernel
theorem dX9_barred_29 : decode cX9_barred 29 = .ok (.istore_n 1, 1) := by decide +kernel
theorem dX9_barred_30 : decode cX9_barred 30 = .ok (.iinc 2 1, 3) := by decide +kernel
theorem dX9_barred_33 : decode cX9_barred 33 = .ok (.goto (-29), 3) := by decide +kernel
theorem dX9_barred_36 : decode cX9_barred 36 = .ok (.iload_n 1, 1) := by decide +kernel
theorem dX9_barred_37 : decode cX9_barred 37 = .ok (.ireturn, 1) := by decide +kernel
theorem dX9_addWord_0 : decode cX9_addWord 0 = .ok (.iconst 0, 1) := by decide +kernel
theorem dX9_addWord_1 : decode cX9_addWord 1 = .ok (.istore_n 2, 1) := by decide +kernel
theorem dX9_addWord_2 : decode cX9_addWord 2 = .ok (.iload_n 1, 1) := by decide +kernel
theorem dX9_addWord_3 : decode cX9_addWord 3 = .ok (.ifCond .lt 48, 3) := by decide +kernel
theorem dX9_addWord_6 : decode cX9_addWord 6 = .ok (.iload_n 2, 1) := by decide +kernel
theorem dX9_addWord_7 : decode cX9_addWord 7 = .ok (.aload_n 0, 1) := by decide +kernel
theorem dX9_addWord_8 : decode cX9_addWord 8 = .ok (.getfield 40, 3) := by decide +kernel
theorem dX9_addWord_11 : decode cX9_addWord 11 = .ok (.iload_n 1, 1) := by decide +kernel
theorem dX9_addWord_12 : decode cX9_addWord 12 = .ok (.iaload, 1) := by decide +kernel
theorem dX9_addWord_13 : decode cX9_addWord 13 = .ok (.if_icmp .ge 38, 3) := by decide +kernel
theorem dX9_addWord_16 : decode cX9_addWord 16 = .ok (.aload_n 0, 1) := by decide +kernel
theorem dX9_addWord_17 : decode cX9_addWord 17 = .ok (.getfield 92, 3) := by decide +kernel
theorem dX9_addWord_20 : decode cX9_addWord 20 = .ok (.aload_n 0, 1) := by decide +kernel
theorem dX9_addWord_21 : decode cX9_addWord 21 = .ok (.getfield 188, 3) := by decide +kernel
theorem dX9_addWord_24 : decode cX9_addWord 24 = .ok (.aload_n 0, 1) := by decide +kernel
theorem dX9_addWord_25 : decode cX9_addWord 25 = .ok (.getfield 43, 3) := by decide +kernel
theorem dX9_addWord_28 : decode cX9_addWord 28 = .ok (.iconst 4, 1) := by decide +kernel
theorem dX9_addWord_29 : decode cX9_addWord 29 = .ok (.iload_n 1, 1) := by decide +kernel
theorem dX9_addWord_30 : decode cX9_addWord 30 = .ok (.imul, 1) := by decide +kernel
theorem dX9_addWord_31 : decode cX9_addWord 31 = .ok (.iload_n 2, 1) := by decide +kernel
theorem dX9_addWord_32 : decode cX9_addWord 32 = .ok (.iadd, 1) := by decide +kernel
theorem dX9_addWord_33 : decode cX9_addWord 33 = .ok (.iaload, 1) := by decide +kernel
theorem dX9_addWord_34 : decode cX9_addWord 34 = .ok (.iastore, 1) := by decide +kernel
theorem dX9_addWord_35 : decode cX9_addWord 35 = .ok (.aload_n 0, 1) := by decide +kernel
theorem dX9_addWord_36 : decode cX9_addWord 36 = .ok (.dup, 1) := by decide +kernel
theorem dX9_addWord_37 : decode cX9_addWord 37 = .ok (.getfield 188, 3) := by decide +kernel
theorem dX9_addWord_40 : decode cX9_addWord 40 = .ok (.iconst 1, 1) := by decide +kernel
theorem dX9_addWord_41 : decode cX9_addWord 41 = .ok (.iadd, 1) := by decide +kernel
theorem dX9_addWord_42 : decode cX9_addWord 42 = .ok (.putfield 188, 3) := by decide +kernel
theorem dX9_addWord_45 : decode cX9_addWord 45 = .ok (.iinc 2 1, 3) := by decide +kernel
theorem dX9_addWord_48 : decode cX9_addWord 48 = .ok (.goto (-46), 3) := by decide +kernel
theorem dX9_addWord_51 : decode cX9_addWord 51 = .ok (.return_, 1) := by decide +kernel
theorem dX9_less_0 : decode cX9_less 0 = .ok (.iload_n 0, 1) := by decide +kernel
theorem dX9_less_1 : decode cX9_less 1 = .ok (.iload_n 1, 1) := by decide +kernel
theorem dX9_less_2 : decode cX9_less 2 = .ok (.if_icmp .ge 7, 3) := by decide +kernel
theorem dX9_less_5 : decode cX9_less 5 = .ok (.iload_n 0, 1) := by decide +kernel
theorem dX9_less_6 : decode cX9_less 6 = .ok (.goto 4, 3) := by decide +kernel
theorem dX9_less_9 : decode cX9_less 9 = .ok (.iload_n 1, 1) := by decide +kernel
theorem dX9_less_10 : decode cX9_less 10 = .ok (.ireturn, 1) := by decide +kernel
theorem dX9_priceOf_0 : decode cX9_priceOf 0 = .ok (.aload_n 0, 1) := by decide +kernel
theorem dX9_priceOf_1 : decode cX9_priceOf 1 = .ok (.iconst 0, 1) := by decide +kernel
theorem dX9_priceOf_2 : decode cX9_priceOf 2 = .ok (.putfield 188, 3) := by decide +kernel
theorem dX9_priceOf_5 : decode cX9_priceOf 5 = .ok (.aload_n 0, 1) := by decide +kernel
theorem dX9_priceOf_6 : decode cX9_priceOf 6 = .ok (.iload_n 1, 1) := by decide +kernel
theorem dX9_priceOf_7 : decode cX9_priceOf 7 = .ok (.invokevirtual 191, 3) := by decide +kernel
theorem dX9_priceOf_10 : decode cX9_priceOf 10 = .ok (.aload_n 0, 1) := by decide +kernel
theorem dX9_priceOf_11 : decode cX9_priceOf 11 = .ok (.iload_n 2, 1) := by decide +kernel
theorem dX9_priceOf_12 : decode cX9_priceOf 12 = .ok (.invokevirtual 191, 3) := by decide +kernel
theorem dX9_priceOf_15 : decode cX9_priceOf 15 = .ok (.aload_n 0, 1) := by decide +kernel
theorem dX9_priceOf_16 : decode cX9_priceOf 16 = .ok (.iload_n 3, 1) := by decide +kernel
theorem dX9_priceOf_17 : decode cX9_priceOf 17 = .ok (.invokevirtual 191, 3) := by decide +kernel
theorem dX9_priceOf_20 : decode cX9_priceOf 20 = .ok (.iconst 0, 1) := by decide +kernel
theorem dX9_priceOf_21 : decode cX9_priceOf 21 = .ok (.istore 4, 2) := by decide +kernel
theorem dX9_priceOf_23 : decode cX9_priceOf 23 = .ok (.iload 4, 2) := by decide +kernel
theorem dX9_priceOf_25 : decode cX9_priceOf 25 = .ok (.aload_n 0, 1) := by decide +kernel
theorem dX9_priceOf_26 : decode cX9_priceOf 26 = .ok (.getfield 195, 3) := by decide +kernel
theorem dX9_priceOf_29 : decode cX9_priceOf 29 = .ok (.if_icmp .gt 21, 3) := by decide +kernel
theorem dX9_priceOf_32 : decode cX9_priceOf 32 = .ok (.aload_n 0, 1) := by decide +kernel
theorem dX9_priceOf_33 : decode cX9_priceOf 33 = .ok (.getfield 98, 3) := by decide +kernel
theorem dX9_priceOf_36 : decode cX9_priceOf 36 = .ok (.iload 4, 2) := by decide +kernel
theorem dX9_priceOf_38 : decode cX9_priceOf 38 = .ok (.bipush 6, 2) := by decide +kernel
theorem dX9_priceOf_40 : decode cX9_priceOf 40 = .ok (.iload 4, 2) := by decide +kernel
theorem dX9_priceOf_42 : decode cX9_priceOf 42 = .ok (.imul, 1) := by decide +kernel
theorem dX9_priceOf_43 : decode cX9_priceOf 43 = .ok (.iastore, 1) := by decide +kernel
theorem dX9_priceOf_44 : decode cX9_priceOf 44 = .ok (.iinc 4 1, 3) := by decide +kernel
theorem dX9_priceOf_47 : decode cX9_priceOf 47 = .ok (.goto (-24), 3) := by decide +kernel
theorem dX9_priceOf_50 : decode cX9_priceOf 50 = .ok (.iconst 0, 1) := by decide +kernel
theorem dX9_priceOf_51 : decode cX9_priceOf 51 = .ok (.istore 4, 2) := by decide +kernel
theorem dX9_priceOf_53 : decode cX9_priceOf 53 = .ok (.iload 4, 2) := by decide +kernel
theorem dX9_priceOf_55 : decode cX9_priceOf 55 = .ok (.aload_n 0, 1) := by decide +kernel
theorem dX9_priceOf_56 : decode cX9_priceOf 56 = .ok (.getfield 188, 3) := by decide +kernel
theorem dX9_priceOf_59 : decode cX9_priceOf 59 = .ok (.if_icmp .ge 118, 3) := by decide +kernel
theorem dX9_priceOf_62 : decode cX9_priceOf 62 = .ok (.aload_n 0, 1) := by decide +kernel
theorem dX9_priceOf_63 : decode cX9_priceOf 63 = .ok (.getfield 98, 3) := by decide +kernel
theorem dX9_priceOf_66 : decode cX9_priceOf 66 = .ok (.iconst 0, 1) := by decide +kernel
theorem dX9_priceOf_67 : decode cX9_priceOf 67 = .ok (.iaload, 1) := by decide +kernel
theorem dX9_priceOf_68 : decode cX9_priceOf 68 = .ok (.istore 5, 2) := by decide +kernel
theorem dX9_priceOf_70 : decode cX9_priceOf 70 = .ok (.aload_n 0, 1) := by decide +kernel
theorem dX9_priceOf_71 : decode cX9_priceOf 71 = .ok (.getfield 98, 3) := by decide +kernel
theorem dX9_priceOf_74 : decode cX9_priceOf 74 = .ok (.iconst 0, 1) := by decide +kernel
theorem dX9_priceOf_75 : decode cX9_priceOf 75 = .ok (.dup2, 1) := by decide +kernel
theorem dX9_priceOf_76 : decode cX9_priceOf 76 = .ok (.iaload, 1) := by decide +kernel
theorem dX9_priceOf_77 : decode cX9_priceOf 77 = .ok (.bipush 6, 2) := by decide +kernel
theorem dX9_priceOf_79 : decode cX9_priceOf 79 = .ok (.iadd, 1) := by decide +kernel
theorem dX9_priceOf_80 : decode cX9_priceOf 80 = .ok (.iastore, 1) := by decide +kernel
theorem dX9_priceOf_81 : decode cX9_priceOf 81 = .ok (.iconst 0, 1) := by decide +kernel
theorem dX9_priceOf_82 : decode cX9_priceOf 82 = .ok (.istore 6, 2) := by decide +kernel
theorem dX9_priceOf_84 : decode cX9_priceOf 84 = .ok (.iload 6, 2) := by decide +kernel
theorem dX9_priceOf_86 : decode cX9_priceOf 86 = .ok (.aload_n 0, 1) := by decide +kernel
theorem dX9_priceOf_87 : decode cX9_priceOf 87 = .ok (.getfield 195, 3) := by decide +kernel
theorem dX9_priceOf_90 : decode cX9_priceOf 90 = .ok (.if_icmp .ge 81, 3) := by decide +kernel
theorem dX9_priceOf_93 : decode cX9_priceOf 93 = .ok (.aload_n 0, 1) := by decide +kernel
theorem dX9_priceOf_94 : decode cX9_priceOf 94 = .ok (.getfield 98, 3) := by decide +kernel
theorem dX9_priceOf_97 : decode cX9_priceOf 97 = .ok (.iload 6, 2) := by decide +kernel
theorem dX9_priceOf_99 : decode cX9_priceOf 99 = .ok (.iconst 1, 1) := by decide +kernel
theorem dX9_priceOf_100 : decode cX9_priceOf 100 = .ok (.iadd, 1) := by decide +kernel
theorem dX9_priceOf_101 : decode cX9_priceOf 101 = .ok (.iaload, 1) := by decide +kernel
theorem dX9_priceOf_102 : decode cX9_priceOf 102 = .ok (.istore 7, 2) := by decide +kernel
theorem dX9_priceOf_104 : decode cX9_priceOf 104 = .ok (.iload 5, 2) := by decide +kernel
theorem dX9_priceOf_106 : decode cX9_priceOf 106 = .ok (.aload_n 0, 1) := by decide +kernel
theorem dX9_priceOf_107 : decode cX9_priceOf 107 = .ok (.getfield 31, 3) := by decide +kernel
theorem dX9_priceOf_110 : decode cX9_priceOf 110 = .ok (.bipush 16, 2) := by decide +kernel
theorem dX9_priceOf_112 : decode cX9_priceOf 112 = .ok (.aload_n 0, 1) := by decide +kernel
theorem dX9_priceOf_113 : decode cX9_priceOf 113 = .ok (.getfield 92, 3) := by decide +kernel
theorem dX9_priceOf_116 : decode cX9_priceOf 116 = .ok (.iload 4, 2) := by decide +kernel
theorem dX9_priceOf_118 : decode cX9_priceOf 118 = .ok (.iaload, 1) := by decide +kernel
theorem dX9_priceOf_119 : decode cX9_priceOf 119 = .ok (.imul, 1) := by decide +kernel
theorem dX9_priceOf_120 : decode cX9_priceOf 120 = .ok (.aload_n 0, 1) := by decide +kernel
theorem dX9_priceOf_121 : decode cX9_priceOf 121 = .ok (.getfield 95, 3) := by decide +kernel
theorem dX9_priceOf_124 : decode cX9_priceOf 124 = .ok (.iload 6, 2) := by decide +kernel
theorem dX9_priceOf_126 : decode cX9_priceOf 126 = .ok (.iaload, 1) := by decide +kernel
theorem dX9_priceOf_127 : decode cX9_priceOf 127 = .ok (.iadd, 1) := by decide +kernel
theorem dX9_priceOf_128 : decode cX9_priceOf 128 = .ok (.iaload, 1) := by decide +kernel
theorem dX9_priceOf_129 : decode cX9_priceOf 129 = .ok (.iadd, 1) := by decide +kernel
theorem dX9_priceOf_130 : decode cX9_priceOf 130 = .ok (.istore 8, 2) := by decide +kernel
theorem dX9_priceOf_132 : decode cX9_priceOf 132 = .ok (.aload_n 0, 1) := by decide +kernel
theorem dX9_priceOf_133 : decode cX9_priceOf 133 = .ok (.getfield 98, 3) := by decide +kernel
theorem dX9_priceOf_136 : decode cX9_priceOf 136 = .ok (.iload 6, 2) := by decide +kernel
theorem dX9_priceOf_138 : decode cX9_priceOf 138 = .ok (.iconst 1, 1) := by decide +kernel
theorem dX9_priceOf_139 : decode cX9_priceOf 139 = .ok (.iadd, 1) := by decide +kernel
theorem dX9_priceOf_140 : decode cX9_priceOf 140 = .ok (.iload 8, 2) := by decide +kernel
theorem dX9_priceOf_142 : decode cX9_priceOf 142 = .ok (.bipush 6, 2) := by decide +kernel
theorem dX9_priceOf_144 : decode cX9_priceOf 144 = .ok (.iload 7, 2) := by decide +kernel
theorem dX9_priceOf_146 : decode cX9_priceOf 146 = .ok (.aload_n 0, 1) := by decide +kernel
theorem dX9_priceOf_147 : decode cX9_priceOf 147 = .ok (.getfield 98, 3) := by decide +kernel
theorem dX9_priceOf_150 : decode cX9_priceOf 150 = .ok (.iload 6, 2) := by decide +kernel
theorem dX9_priceOf_152 : decode cX9_priceOf 152 = .ok (.iaload, 1) := by decide +kernel
theorem dX9_priceOf_153 : decode cX9_priceOf 153 = .ok (.invokestatic 198, 3) := by decide +kernel
theorem dX9_priceOf_156 : decode cX9_priceOf 156 = .ok (.iadd, 1) := by decide +kernel
theorem dX9_priceOf_157 : decode cX9_priceOf 157 = .ok (.invokestatic 198, 3) := by decide +kernel
theorem dX9_priceOf_160 : decode cX9_priceOf 160 = .ok (.iastore, 1) := by decide +kernel
theorem dX9_priceOf_161 : decode cX9_priceOf 161 = .ok (.iload 7, 2) := by decide +kernel
theorem dX9_priceOf_163 : decode cX9_priceOf 163 = .ok (.istore 5, 2) := by decide +kernel
theorem dX9_priceOf_165 : decode cX9_priceOf 165 = .ok (.iinc 6 1, 3) := by decide +kernel
theorem dX9_priceOf_168 : decode cX9_priceOf 168 = .ok (.goto (-84), 3) := by decide +kernel
theorem dX9_priceOf_171 : decode cX9_priceOf 171 = .ok (.iinc 4 1, 3) := by decide +kernel
theorem dX9_priceOf_174 : decode cX9_priceOf 174 = .ok (.goto (-121), 3) := by decide +kernel
theorem dX9_priceOf_177 : decode cX9_priceOf 177 = .ok (.aload_n 0, 1) := by decide +kernel
theorem dX9_priceOf_178 : decode cX9_priceOf 178 = .ok (.getfield 98, 3) := by decide +kernel
theorem dX9_priceOf_181 : decode cX9_priceOf 181 = .ok (.aload_n 0, 1) := by decide +kernel
theorem dX9_priceOf_182 : decode cX9_priceOf 182 = .ok (.getfield 195, 3) := by decide +kernel
theorem dX9_priceOf_185 : decode cX9_priceOf 185 = .ok (.iaload, 1) := by decide +kernel
theorem dX9_priceOf_186 : decode cX9_priceOf 186 = .ok (.ireturn, 1) := by decide +kernel
theorem dX9_meaning_0 : decode cX9_meaning 0 = .ok (.iload_n 3, 1) := by decide +kernel
theorem dX9_meaning_1 : decode cX9_meaning 1 = .ok (.ifCond .ge 15, 3) := by decide +kernel
theorem dX9_meaning_4 : decode cX9_meaning 4 = .ok (.aload_n 0, 1) := by decide +kernel
theorem dX9_meaning_5 : decode cX9_meaning 5 = .ok (.getfield 28, 3) := by decide +kernel
theorem dX9_meaning_8 : decode cX9_meaning 8 = .ok (.aload_n 0, 1) := by decide +kernel
theorem dX9_meaning_9 : decode cX9_meaning 9 = .ok (.getfield 202, 3) := by decide +kernel
theorem dX9_meaning_12 : decode cX9_meaning 12 = .ok (.iaload, 1) := by decide +kernel
theorem dX9_meaning_13 : decode cX9_meaning 13 = .ok (.goto 9, 3) := by decide +kernel
theorem dX9_meaning_16 : decode cX9_meaning 16 = .ok (.aload_n 0, 1) := by decide +kernel
theorem dX9_meaning_17 : decode cX9_meaning 17 = .ok (.getfield 37, 3) := by decide +kernel
theorem dX9_meaning_20 : decode cX9_meaning 20 = .ok (.iload_n 3, 1) := by decide +kernel
theorem dX9_meaning_21 : decode cX9_meaning 21 = .ok (.iaload, 1) := by decide +kernel
theorem dX9_meaning_22 : decode cX9_meaning 22 = .ok (.istore 4, 2) := by decide +kernel
theorem dX9_meaning_24 : decode cX9_meaning 24 = .ok (.iconst 0, 1) := by decide +kernel
theorem dX9_meaning_25 : decode cX9_meaning 25 = .ok (.istore 5, 2) := by decide +kernel
theorem dX9_meaning_27 : decode cX9_meaning 27 = .ok (.iconst 0, 1) := by decide +kernel
theorem dX9_meaning_28 : decode cX9_meaning 28 = .ok (.istore 6, 2) := by decide +kernel
theorem dX9_meaning_30 : decode cX9_meaning 30 = .ok (.iload 6, 2) := by decide +kernel
theorem dX9_meaning_32 : decode cX9_meaning 32 = .ok (.aload_n 0, 1) := by decide +kernel
theorem dX9_meaning_33 : decode cX9_meaning 33 = .ok (.getfield 113, 3) := by decide +kernel
theorem dX9_meaning_36 : decode cX9_meaning 36 = .ok (.if_icmp .ge 103, 3) := by decide +kernel
theorem dX9_meaning_39 : decode cX9_meaning 39 = .ok (.aload_n 0, 1) := by decide +kernel
theorem dX9_meaning_40 : decode cX9_meaning 40 = .ok (.getfield 34, 3) := by decide +kernel
theorem dX9_meaning_43 : decode cX9_meaning 43 = .ok (.iload_n 2, 1) := by decide +kernel
theorem dX9_meaning_44 : decode cX9_meaning 44 = .ok (.iaload, 1) := by decide +kernel
theorem dX9_meaning_45 : decode cX9_meaning 45 = .ok (.iconst 3, 1) := by decide +kernel
theorem dX9_meaning_46 : decode cX9_meaning 46 = .ok (.if_icmp .ne 15, 3) := by decide +kernel
theorem dX9_meaning_49 : decode cX9_meaning 49 = .ok (.aload_n 0, 1) := by decide +kernel
theorem dX9_meaning_50 : decode cX9_meaning 50 = .ok (.getfield 205, 3) := by decide +kernel
theorem dX9_meaning_53 : decode cX9_meaning 53 = .ok (.iload 6, 2) := by decide +kernel
theorem dX9_meaning_55 : decode cX9_meaning 55 = .ok (.invokestatic 208, 3) := by decide +kernel
theorem dX9_meaning_58 : decode cX9_meaning 58 = .ok (.goto 36, 3) := by decide +kernel
theorem dX9_meaning_61 : decode cX9_meaning 61 = .ok (.aload_n 0, 1) := by decide +kernel
theorem dX9_meaning_62 : decode cX9_meaning 62 = .ok (.getfield 13, 3) := by decide +kernel
theorem dX9_meaning_65 : decode cX9_meaning 65 = .ok (.iload 6, 2) := by decide +kernel
theorem dX9_meaning_67 : decode cX9_meaning 67 = .ok (.iaload, 1) := by decide +kernel
theorem dX9_meaning_68 : decode cX9_meaning 68 = .ok (.aload_n 0, 1) := by decide +kernel
theorem dX9_meaning_69 : decode cX9_meaning 69 = .ok (.getfield 37, 3) := by decide +kernel
theorem dX9_meaning_72 : decode cX9_meaning 72 = .ok (.iload_n 2, 1) := by decide +kernel
theorem dX9_meaning_73 : decode cX9_meaning 73 = .ok (.iaload, 1) := by decide +kernel
theorem dX9_meaning_74 : decode cX9_meaning 74 = .ok (.if_icmp .ne 19, 3) := by decide +kernel
theorem dX9_meaning_77 : decode cX9_meaning 77 = .ok (.aload_n 0, 1) := by decide +kernel
theorem dX9_meaning_78 : decode cX9_meaning 78 = .ok (.getfield 7, 3) := by decide +kernel
theorem dX9_meaning_81 : decode cX9_meaning 81 = .ok (.iload 6, 2) := by decide +kernel
theorem dX9_meaning_83 : decode cX9_meaning 83 = .ok (.iaload, 1) := by decide +kernel
theorem dX9_meaning_84 : decode cX9_meaning 84 = .ok (.iload 4, 2) := by decide +kernel
theorem dX9_meaning_86 : decode cX9_meaning 86 = .ok (.if_icmp .ne 7, 3) := by decide +kernel
theorem dX9_meaning_89 : decode cX9_meaning 89 = .ok (.iconst 1, 1) := by decide +kernel
theorem dX9_meaning_90 : decode cX9_meaning 90 = .ok (.goto 4, 3) := by decide +kernel
theorem dX9_meaning_93 : decode cX9_meaning 93 = .ok (.iconst 0, 1) := by decide +kernel
theorem dX9_meaning_94 : decode cX9_meaning 94 = .ok (.istore 7, 2) := by decide +kernel
theorem dX9_meaning_96 : decode cX9_meaning 96 = .ok (.iload 5, 2) := by decide +kernel
theorem dX9_meaning_98 : decode cX9_meaning 98 = .ok (.iload 7, 2) := by decide +kernel
theorem dX9_meaning_100 : decode cX9_meaning 100 = .ok (.ifCond .eq 29, 3) := by decide +kernel
theorem dX9_meaning_103 : decode cX9_meaning 103 = .ok (.aload_n 0, 1) := by decide +kernel
theorem dX9_meaning_104 : decode cX9_meaning 104 = .ok (.getfield 37, 3) := by decide +kernel
theorem dX9_meaning_107 : decode cX9_meaning 107 = .ok (.iload_n 1, 1) := by decide +kernel
theorem dX9_meaning_108 : decode cX9_meaning 108 = .ok (.iaload, 1) := by decide +kernel
theorem dX9_meaning_109 : decode cX9_meaning 109 = .ok (.aload_n 0, 1) := by decide +kernel
theorem dX9_meaning_110 : decode cX9_meaning 110 = .ok (.getfield 13, 3) := by decide +kernel
theorem dX9_meaning_113 : decode cX9_meaning 113 = .ok (.iload 6, 2) := by decide +kernel
theorem dX9_meaning_115 : decode cX9_meaning 115 = .ok (.iaload, 1) := by decide +kernel
theorem dX9_meaning_116 : decode cX9_meaning 116 = .ok (.invokestatic 212, 3) := by decide +kernel
theorem dX9_meaning_119 : decode cX9_meaning 119 = .ok (.if_icmp .gt 10, 3) := by decide +kernel
theorem dX9_meaning_122 : decode cX9_meaning 122 = .ok (.iconst 1, 1) := by decide +kernel
theorem dX9_meaning_123 : decode cX9_meaning 123 = .ok (.iload 6, 2) := by decide +kernel
theorem dX9_meaning_125 : decode cX9_meaning 125 = .ok (.ishl, 1) := by decide +kernel
theorem dX9_meaning_126 : decode cX9_meaning 126 = .ok (.goto 4, 3) := by decide +kernel
theorem dX9_meaning_129 : decode cX9_meaning 129 = .ok (.iconst 0, 1) := by decide +kernel
theorem dX9_meaning_130 : decode cX9_meaning 130 = .ok (.ior, 1) := by decide +kernel
theorem dX9_meaning_131 : decode cX9_meaning 131 = .ok (.istore 5, 2) := by decide +kernel
theorem dX9_meaning_133 : decode cX9_meaning 133 = .ok (.iinc 6 1, 3) := by decide +kernel
theorem dX9_meaning_136 : decode cX9_meaning 136 = .ok (.goto (-106), 3) := by decide +kernel
theorem dX9_meaning_139 : decode cX9_meaning 139 = .ok (.iload 5, 2) := by decide +kernel
theorem dX9_meaning_141 : decode cX9_meaning 141 = .ok (.ireturn, 1) := by decide +kernel
theorem dX9_take_0 : decode cX9_take 0 = .ok (.aload_n 0, 1) := by decide +kernel
theorem dX9_take_1 : decode cX9_take 1 = .ok (.iload_n 1, 1) := by decide +kernel
theorem dX9_take_2 : decode cX9_take 2 = .ok (.iload_n 2, 1) := by decide +kernel
theorem dX9_take_3 : decode cX9_take 3 = .ok (.iload_n 3, 1) := by decide +kernel
theorem dX9_take_4 : decode cX9_take 4 = .ok (.invokevirtual 215, 3) := by decide +kernel
theorem dX9_take_7 : decode cX9_take 7 = .ok (.istore 4, 2) := by decide +kernel
theorem dX9_take_9 : decode cX9_take 9 = .ok (.iload 4, 2) := by decide +kernel
theorem dX9_take_11 : decode cX9_take 11 = .ok (.aload_n 0, 1) := by decide +kernel
theorem dX9_take_12 : decode cX9_take 12 = .ok (.getfield 46, 3) := by decide +kernel
theorem dX9_take_15 : decode cX9_take 15 = .ok (.iconst 0, 1) := by decide +kernel
theorem dX9_take_16 : decode cX9_take 16 = .ok (.iaload, 1) := by decide +kernel
theorem dX9_take_17 : decode cX9_take 17 = .ok (.if_icmp .le 4, 3) := by decide +kernel
theorem dX9_take_20 : decode cX9_take 20 = .ok (.return_, 1) := by decide +kernel
theorem dX9_take_21 : decode cX9_take 21 = .ok (.aload_n 0, 1) := by decide +kernel
theorem dX9_take_22 : decode cX9_take 22 = .ok (.getfield 219, 3) := by decide +kernel
theorem dX9_take_25 : decode cX9_take 25 = .ok (.istore 5, 2) := by decide +kernel
theorem dX9_take_27 : decode cX9_take 27 = .ok (.iload 5, 2) := by decide +kernel
theorem dX9_take_29 : decode cX9_take 29 = .ok (.ifCond .le 23, 3) := by decide +kernel
theorem dX9_take_32 : decode cX9_take 32 = .ok (.aload_n 0, 1) := by decide +kernel
theorem dX9_take_33 : decode cX9_take 33 = .ok (.getfield 58, 3) := by decide +kernel
theorem dX9_take_36 : decode cX9_take 36 = .ok (.iload 5, 2) := by decide +kernel
theorem dX9_take_38 : decode cX9_take 38 = .ok (.iconst 1, 1) := by decide +kernel
theorem dX9_take_39 : decode cX9_take 39 = .ok (.isub, 1) := by decide +kernel
theorem dX9_take_40 : decode cX9_take 40 = .ok (.iaload, 1) := by decide +kernel
theorem dX9_take_41 : decode cX9_take 41 = .ok (.iload 4, 2) := by decide +kernel
theorem dX9_take_43 : decode cX9_take 43 = .ok (.if_icmp .le 9, 3) := by decide +kernel
theorem dX9_take_46 : decode cX9_take 46 = .ok (.iinc 5 (-1), 3) := by decide +kernel
theorem dX9_take_49 : decode cX9_take 49 = .ok (.goto (-22), 3) := by decide +kernel
theorem dX9_take_52 : decode cX9_take 52 = .ok (.iload 5, 2) := by decide +kernel
theorem dX9_take_54 : decode cX9_take 54 = .ok (.bipush 12, 2) := by decide +kernel
theorem dX9_take_56 : decode cX9_take 56 = .ok (.if_icmp .ne 4, 3) := by decide +kernel
theorem dX9_take_59 : decode cX9_take 59 = .ok (.return_, 1) := by decide +kernel
theorem dX9_take_60 : decode cX9_take 60 = .ok (.aload_n 0, 1) := by decide +kernel
theorem dX9_take_61 : decode cX9_take 61 = .ok (.getfield 219, 3) := by decide +kernel
theorem dX9_take_64 : decode cX9_take 64 = .ok (.bipush 12, 2) := by decide +kernel
theorem dX9_take_66 : decode cX9_take 66 = .ok (.if_icmp .ge 10, 3) := by decide +kernel
theorem dX9_take_69 : decode cX9_take 69 = .ok (.aload_n 0, 1) := by decide +kernel
theorem dX9_take_70 : decode cX9_take 70 = .ok (.getfield 219, 3) := by decide +kernel
theorem dX9_take_73 : decode cX9_take 73 = .ok (.goto 5, 3) := by decide +kernel
theorem dX9_take_76 : decode cX9_take 76 = .ok (.bipush 11, 2) := by decide +kernel
theorem dX9_take_78 : decode cX9_take 78 = .ok (.istore 6, 2) := by decide +kernel
theorem dX9_take_80 : decode cX9_take 80 = .ok (.iload 6, 2) := by decide +kernel
theorem dX9_take_82 : decode cX9_take 82 = .ok (.istore 7, 2) := by decide +kernel
theorem dX9_take_84 : decode cX9_take 84 = .ok (.iload 7, 2) := by decide +kernel
theorem dX9_take_86 : decode cX9_take 86 = .ok (.iload 5, 2) := by decide +kernel
theorem dX9_take_88 : decode cX9_take 88 = .ok (.if_icmp .le 66, 3) := by decide +kernel
theorem dX9_take_91 : decode cX9_take 91 = .ok (.aload_n 0, 1) := by decide +kernel
theorem dX9_take_92 : decode cX9_take 92 = .ok (.getfield 58, 3) := by decide +kernel
theorem dX9_take_95 : decode cX9_take 95 = .ok (.iload 7, 2) := by decide +kernel
theorem dX9_take_97 : decode cX9_take 97 = .ok (.aload_n 0, 1) := by decide +kernel
theorem dX9_take_98 : decode cX9_take 98 = .ok (.getfield 58, 3) := by decide +kernel
theorem dX9_take_101 : decode cX9_take 101 = .ok (.iload 7, 2) := by decide +kernel
theorem dX9_take_103 : decode cX9_take 103 = .ok (.iconst 1, 1) := by decide +kernel
theorem dX9_take_104 : decode cX9_take 104 = .ok (.isub, 1) := by decide +kernel
theorem dX9_take_105 : decode cX9_take 105 = .ok (.iaload, 1) := by decide +kernel
theorem dX9_take_106 : decode cX9_take 106 = .ok (.iastore, 1) := by decide +kernel
theorem dX9_take_107 : decode cX9_take 107 = .ok (.iconst 0, 1) := by decide +kernel
theorem dX9_take_108 : decode cX9_take 108 = .ok (.istore 8, 2) := by decide +kernel
theorem dX9_take_110 : decode cX9_take 110 = .ok (.iload 8, 2) := by decide +kernel
theorem dX9_take_112 : decode cX9_take 112 = .ok (.iconst 3, 1) := by decide +kernel
theorem dX9_take_113 : decode cX9_take 113 = .ok (.if_icmp .ge 35, 3) := by decide +kernel
theorem dX9_take_116 : decode cX9_take 116 = .ok (.aload_n 0, 1) := by decide +kernel
theorem dX9_take_117 : decode cX9_take 117 = .ok (.getfield 61, 3) := by decide +kernel
theorem dX9_take_120 : decode cX9_take 120 = .ok (.iconst 3, 1) := by decide +kernel
theorem dX9_take_121 : decode cX9_take 121 = .ok (.iload 7, 2) := by decide +kernel
theorem dX9_take_123 : decode cX9_take 123 = .ok (.imul, 1) := by decide +kernel
theorem dX9_take_124 : decode cX9_take 124 = .ok (.iload 8, 2) := by decide +kernel
theorem dX9_take_126 : decode cX9_take 126 = .ok (.iadd, 1) := by decide +kernel
theorem dX9_take_127 : decode cX9_take 127 = .ok (.aload_n 0, 1) := by decide +kernel
theorem dX9_take_128 : decode cX9_take 128 = .ok (.getfield 61, 3) := by decide +kernel
theorem dX9_take_131 : decode cX9_take 131 = .ok (.iconst 3, 1) := by decide +kernel
theorem dX9_take_132 : decode cX9_take 132 = .ok (.iload 7, 2) := by decide +kernel
theorem dX9_take_134 : decode cX9_take 134 = .ok (.iconst 1, 1) := by decide +kernel
theorem dX9_take_135 : decode cX9_take 135 = .ok (.isub, 1) := by decide +kernel
theorem dX9_take_136 : decode cX9_take 136 = .ok (.imul, 1) := by decide +kernel
theorem dX9_take_137 : decode cX9_take 137 = .ok (.iload 8, 2) := by decide +kernel
theorem dX9_take_139 : decode cX9_take 139 = .ok (.iadd, 1) := by decide +kernel
theorem dX9_take_140 : decode cX9_take 140 = .ok (.iaload, 1) := by decide +kernel
theorem dX9_take_141 : decode cX9_take 141 = .ok (.iastore, 1) := by decide +kernel
theorem dX9_take_142 : decode cX9_take 142 = .ok (.iinc 8 1, 3) := by decide +kernel
theorem dX9_take_145 : decode cX9_take 145 = .ok (.goto (-35), 3) := by decide +kernel
theorem dX9_take_148 : decode cX9_take 148 = .ok (.iinc 7 (-1), 3) := by decide +kernel
theorem dX9_take_151 : decode cX9_take 151 = .ok (.goto (-67), 3) := by decide +kernel
theorem dX9_take_154 : decode cX9_take 154 = .ok (.aload_n 0, 1) := by decide +kernel
theorem dX9_take_155 : decode cX9_take 155 = .ok (.getfield 58, 3) := by decide +kernel
theorem dX9_take_158 : decode cX9_take 158 = .ok (.iload 5, 2) := by decide +kernel
theorem dX9_take_160 : decode cX9_take 160 = .ok (.iload 4, 2) := by decide +kernel
theorem dX9_take_162 : decode cX9_take 162 = .ok (.iastore, 1) := by decide +kernel
theorem dX9_take_163 : decode cX9_take 163 = .ok (.aload_n 0, 1) := by decide +kernel
theorem dX9_take_164 : decode cX9_take 164 = .ok (.getfield 61, 3) := by decide +kernel
theorem dX9_take_167 : decode cX9_take 167 = .ok (.iconst 3, 1) := by decide +kernel
theorem dX9_take_168 : decode cX9_take 168 = .ok (.iload 5, 2) := by decide +kernel
theorem dX9_take_170 : decode cX9_take 170 = .ok (.imul, 1) := by decide +kernel
theorem dX9_take_171 : decode cX9_take 171 = .ok (.iload_n 1, 1) := by decide +kernel
theorem dX9_take_172 : decode cX9_take 172 = .ok (.iastore, 1) := by decide +kernel
theorem dX9_take_173 : decode cX9_take 173 = .ok (.aload_n 0, 1) := by decide +kernel
theorem dX9_take_174 : decode cX9_take 174 = .ok (.getfield 61, 3) := by decide +kernel
theorem dX9_take_177 : decode cX9_take 177 = .ok (.iconst 3, 1) := by decide +kernel
theorem dX9_take_178 : decode cX9_take 178 = .ok (.iload 5, 2) := by decide +kernel
theorem dX9_take_180 : decode cX9_take 180 = .ok (.imul, 1) := by decide +kernel
theorem dX9_take_181 : decode cX9_take 181 = .ok (.iconst 1, 1) := by decide +kernel
theorem dX9_take_182 : decode cX9_take 182 = .ok (.iadd, 1) := by decide +kernel
theorem dX9_take_183 : decode cX9_take 183 = .ok (.iload_n 2, 1) := by decide +kernel
theorem dX9_take_184 : decode cX9_take 184 = .ok (.iastore, 1) := by decide +kernel
theorem dX9_take_185 : decode cX9_take 185 = .ok (.aload_n 0, 1) := by decide +kernel
theorem dX9_take_186 : decode cX9_take 186 = .ok (.getfield 61, 3) := by decide +kernel
theorem dX9_take_189 : decode cX9_take 189 = .ok (.iconst 3, 1) := by decide +kernel
theorem dX9_take_190 : decode cX9_take 190 = .ok (.iload 5, 2) := by decide +kernel
theorem dX9_take_192 : decode cX9_take 192 = .ok (.imul, 1) := by decide +kernel
theorem dX9_take_193 : decode cX9_take 193 = .ok (.iconst 2, 1) := by decide +kernel
theorem dX9_take_194 : decode cX9_take 194 = .ok (.iadd, 1) := by decide +kernel
theorem dX9_take_195 : decode cX9_take 195 = .ok (.iload_n 3, 1) := by decide +kernel
theorem dX9_take_196 : decode cX9_take 196 = .ok (.iastore, 1) := by decide +kernel
theorem dX9_take_197 : decode cX9_take 197 = .ok (.aload_n 0, 1) := by decide +kernel
theorem dX9_take_198 : decode cX9_take 198 = .ok (.iload 6, 2) := by decide +kernel
theorem dX9_take_200 : decode cX9_take 200 = .ok (.iconst 1, 1) := by decide +kernel
theorem dX9_take_201 : decode cX9_take 201 = .ok (.iadd, 1) := by decide +kernel
theorem dX9_take_202 : decode cX9_take 202 = .ok (.putfield 219, 3) := by decide +kernel
theorem dX9_take_205 : decode cX9_take 205 = .ok (.return_, 1) := by decide +kernel
theorem dX9_layReadings_0 : decode cX9_layReadings 0 = .ok (.aload_n 0, 1) := by decide +kernel
theorem dX9_layReadings_1 : decode cX9_layReadings 1 = .ok (.iconst 0, 1) := by decide +kernel
theorem dX9_layReadings_2 : decode cX9_layReadings 2 = .ok (.putfield 219, 3) := by decide +kernel
theorem dX9_layReadings_5 : decode cX9_layReadings 5 = .ok (.iconst 0, 1) := by decide +kernel
theorem dX9_layReadings_6 : decode cX9_layReadings 6 = .ok (.istore_n 1, 1) := by decide +kernel
theorem dX9_layReadings_7 : decode cX9_layReadings 7 = .ok (.iload_n 1, 1) := by decide +kernel
theorem dX9_layReadings_8 : decode cX9_layReadings 8 = .ok (.aload_n 0, 1) := by decide +kernel
theorem dX9_layReadings_9 : decode cX9_layReadings 9 = .ok (.getfield 139, 3) := by decide +kernel
theorem dX9_layReadings_12 : decode cX9_layReadings 12 = .ok (.if_icmp .ge 105, 3) := by decide +kernel
theorem dX9_layReadings_15 : decode cX9_layReadings 15 = .ok (.iconst 0, 1) := by decide +kernel
theorem dX9_layReadings_16 : decode cX9_layReadings 16 = .ok (.istore_n 2, 1) := by decide +kernel
theorem dX9_layReadings_17 : decode cX9_layReadings 17 = .ok (.iload_n 2, 1) := by decide +kernel
theorem dX9_layReadings_18 : decode cX9_layReadings 18 = .ok (.aload_n 0, 1) := by decide +kernel
theorem dX9_layReadings_19 : decode cX9_layReadings 19 = .ok (.getfield 139, 3) := by decide +kernel
theorem dX9_layReadings_22 : decode cX9_layReadings 22 = .ok (.if_icmp .ge 89, 3) := by decide +kernel
theorem dX9_layReadings_25 : decode cX9_layReadings 25 = .ok (.aload_n 0, 1) := by decide +kernel
theorem dX9_layReadings_26 : decode cX9_layReadings 26 = .ok (.getfield 34, 3) := by decide +kernel
theorem dX9_layReadings_29 : decode cX9_layReadings 29 = .ok (.iload_n 1, 1) := by decide +kernel
theorem dX9_layReadings_30 : decode cX9_layReadings 30 = .ok (.iaload, 1) := by decide +kernel
theorem dX9_layReadings_31 : decode cX9_layReadings 31 = .ok (.ifCond .ne 80, 3) := by decide +kernel
theorem dX9_layReadings_34 : decode cX9_layReadings 34 = .ok (.aload_n 0, 1) := by decide +kernel
theorem dX9_layReadings_35 : decode cX9_layReadings 35 = .ok (.getfield 34, 3) := by decide +kernel
theorem dX9_layReadings_38 : decode cX9_layReadings 38 = .ok (.iload_n 2, 1) := by decide +kernel
theorem dX9_layReadings_39 : decode cX9_layReadings 39 = .ok (.iaload, 1) := by decide +kernel
theorem dX9_layReadings_40 : decode cX9_layReadings 40 = .ok (.iconst 1, 1) := by decide +kernel
theorem dX9_layReadings_41 : decode cX9_layReadings 41 = .ok (.if_icmp .eq 13, 3) := by decide +kernel
theorem dX9_layReadings_44 : decode cX9_layReadings 44 = .ok (.aload_n 0, 1) := by decide +kernel
theorem dX9_layReadings_45 : decode cX9_layReadings 45 = .ok (.getfield 34, 3) := by decide +kernel
theorem dX9_layReadings_48 : decode cX9_layReadings 48 = .ok (.iload_n 2, 1) := by decide +kernel
theorem dX9_layReadings_49 : decode cX9_layReadings 49 = .ok (.iaload, 1) := by decide +kernel
theorem dX9_layReadings_50 : decode cX9_layReadings 50 = .ok (.iconst 3, 1) := by decide +kernel
theorem dX9_layReadings_51 : decode cX9_layReadings 51 = .ok (.if_icmp .ne 11, 3) := by decide +kernel
theorem dX9_layReadings_54 : decode cX9_layReadings 54 = .ok (.aload_n 0, 1) := by decide +kernel
theorem dX9_layReadings_55 : decode cX9_layReadings 55 = .ok (.iload_n 1, 1) := by decide +kernel
theorem dX9_layReadings_56 : decode cX9_layReadings 56 = .ok (.iload_n 2, 1) := by decide +kernel
theorem dX9_layReadings_57 : decode cX9_layReadings 57 = .ok (.bipush (-4), 2) := by decide +kernel
theorem dX9_layReadings_59 : decode cX9_layReadings 59 = .ok (.invokevirtual 222, 3) := by decide +kernel
theorem dX9_layReadings_62 : decode cX9_layReadings 62 = .ok (.iconst 0, 1) := by decide +kernel
theorem dX9_layReadings_63 : decode cX9_layReadings 63 = .ok (.istore_n 3, 1) := by decide +kernel
theorem dX9_layReadings_64 : decode cX9_layReadings 64 = .ok (.iload_n 3, 1) := by decide +kernel
theorem dX9_layReadings_65 : decode cX9_layReadings 65 = .ok (.aload_n 0, 1) := by decide +kernel
theorem dX9_layReadings_66 : decode cX9_layReadings 66 = .ok (.getfield 139, 3) := by decide +kernel
theorem dX9_layReadings_69 : decode cX9_layReadings 69 = .ok (.if_icmp .ge 36, 3) := by decide +kernel
theorem dX9_layReadings_72 : decode cX9_layReadings 72 = .ok (.aload_n 0, 1) := by decide +kernel
theorem dX9_layReadings_73 : decode cX9_layReadings 73 = .ok (.getfield 34, 3) := by decide +kernel
theorem dX9_layReadings_76 : decode cX9_layReadings 76 = .ok (.iload_n 2, 1) := by decide +kernel
theorem dX9_layReadings_77 : decode cX9_layReadings 77 = .ok (.iaload, 1) := by decide +kernel
theorem dX9_layReadings_78 : decode cX9_layReadings 78 = .ok (.iconst 1, 1) := by decide +kernel
theorem dX9_layReadings_79 : decode cX9_layReadings 79 = .ok (.if_icmp .ne 26, 3) := by decide +kernel
theorem dX9_layReadings_82 : decode cX9_layReadings 82 = .ok (.aload_n 0, 1) := by decide +kernel
theorem dX9_layReadings_83 : decode cX9_layReadings 83 = .ok (.getfield 34, 3) := by decide +kernel
theorem dX9_layReadings_86 : decode cX9_layReadings 86 = .ok (.iload_n 3, 1) := by decide +kernel
theorem dX9_layReadings_87 : decode cX9_layReadings 87 = .ok (.iaload, 1) := by decide +kernel
theorem dX9_layReadings_88 : decode cX9_layReadings 88 = .ok (.iconst 2, 1) := by decide +kernel
theorem dX9_layReadings_89 : decode cX9_layReadings 89 = .ok (.if_icmp .ne 10, 3) := by decide +kernel
theorem dX9_layReadings_92 : decode cX9_layReadings 92 = .ok (.aload_n 0, 1) := by decide +kernel
theorem dX9_layReadings_93 : decode cX9_layReadings 93 = .ok (.iload_n 1, 1) := by decide +kernel
theorem dX9_layReadings_94 : decode cX9_layReadings 94 = .ok (.iload_n 2, 1) := by decide +kernel
theorem dX9_layReadings_95 : decode cX9_layReadings 95 = .ok (.iload_n 3, 1) := by decide +kernel
theorem dX9_layReadings_96 : decode cX9_layReadings 96 = .ok (.invokevirtual 222, 3) := by decide +kernel
theorem dX9_layReadings_99 : decode cX9_layReadings 99 = .ok (.iinc 3 1, 3) := by decide +kernel
theorem dX9_layReadings_102 : decode cX9_layReadings 102 = .ok (.goto (-38), 3) := by decide +kernel
theorem dX9_layReadings_105 : decode cX9_layReadings 105 = .ok (.iinc 2 1, 3) := by decide +kernel
theorem dX9_layReadings_108 : decode cX9_layReadings 108 = .ok (.goto (-91), 3) := by decide +kernel
theorem dX9_layReadings_111 : decode cX9_layReadings 111 = .ok (.iinc 1 1, 3) := by decide +kernel
theorem dX9_layReadings_114 : decode cX9_layReadings 114 = .ok (.goto (-107), 3) := by decide +kernel
theorem dX9_layReadings_117 : decode cX9_layReadings 117 = .ok (.return_, 1) := by decide +kernel
theorem dX9_hear_0 : decode cX9_hear 0 = .ok (.iload_n 1, 1) := by decide +kernel
theorem dX9_hear_1 : decode cX9_hear 1 = .ok (.i2l, 1) := by decide +kernel
theorem dX9_hear_2 : decode cX9_hear 2 = .ok (.lconst 0, 1) := by decide +kernel
theorem dX9_hear_3 : decode cX9_hear 3 = .ok (.ldc2_w 127, 3) := by decide +kernel
theorem dX9_hear_6 : decode cX9_hear 6 = .ok (.invokestatic 117, 3) := by decide +kernel
theorem dX9_hear_9 : decode cX9_hear 9 = .ok (.ifCond .eq 43, 3) := by decide +kernel
theorem dX9_hear_12 : decode cX9_hear 12 = .ok (.iload_n 2, 1) := by decide +kernel
theorem dX9_hear_13 : decode cX9_hear 13 = .ok (.i2l, 1) := by decide +kernel
theorem dX9_hear_14 : decode cX9_hear 14 = .ok (.lconst 0, 1) := by decide +kernel
theorem dX9_hear_15 : decode cX9_hear 15 = .ok (.ldc2_w 125, 3) := by decide +kernel
theorem dX9_hear_18 : decode cX9_hear 18 = .ok (.invokestatic 117, 3) := by decide +kernel
theorem dX9_hear_21 : decode cX9_hear 21 = .ok (.ifCond .eq 31, 3) := by decide +kernel
theorem dX9_hear_24 : decode cX9_hear 24 = .ok (.iload_n 3, 1) := by decide +kernel
theorem dX9_hear_25 : decode cX9_hear 25 = .ok (.i2l, 1) := by decide +kernel
theorem dX9_hear_26 : decode cX9_hear 26 = .ok (.lconst 1, 1) := by decide +kernel
theorem dX9_hear_27 : decode cX9_hear 27 = .ok (.ldc2_w 148, 3) := by decide +kernel
theorem dX9_hear_30 : decode cX9_hear 30 = .ok (.invokestatic 117, 3) := by decide +kernel
theorem dX9_hear_33 : decode cX9_hear 33 = .ok (.ifCond .eq 19, 3) := by decide +kernel
theorem dX9_hear_36 : decode cX9_hear 36 = .ok (.lload 4, 2) := by decide +kernel
theorem dX9_hear_38 : decode cX9_hear 38 = .ok (.lconst 0, 1) := by decide +kernel
theorem dX9_hear_39 : decode cX9_hear 39 = .ok (.lconst 1, 1) := by decide +kernel
theorem dX9_hear_40 : decode cX9_hear 40 = .ok (.iconst 4, 1) := by decide +kernel
theorem dX9_hear_41 : decode cX9_hear 41 = .ok (.iload_n 3, 1) := by decide +kernel
theorem dX9_hear_42 : decode cX9_hear 42 = .ok (.imul, 1) := by decide +kernel
theorem dX9_hear_43 : decode cX9_hear 43 = .ok (.lshl, 1) := by decide +kernel
theorem dX9_hear_44 : decode cX9_hear 44 = .ok (.lconst 1, 1) := by decide +kernel
theorem dX9_hear_45 : decode cX9_hear 45 = .ok (.lsub, 1) := by decide +kernel
theorem dX9_hear_46 : decode cX9_hear 46 = .ok (.invokestatic 117, 3) := by decide +kernel
theorem dX9_hear_49 : decode cX9_hear 49 = .ok (.ifCond .ne 5, 3) := by decide +kernel
theorem dX9_hear_52 : decode cX9_hear 52 = .ok (.iconst (-1), 1) := by decide +kernel
theorem dX9_hear_53 : decode cX9_hear 53 = .ok (.ireturn, 1) := by decide +kernel
theorem dX9_hear_54 : decode cX9_hear 54 = .ok (.aload_n 0, 1) := by decide +kernel
theorem dX9_hear_55 : decode cX9_hear 55 = .ok (.getfield 28, 3) := by decide +kernel
theorem dX9_hear_58 : decode cX9_hear 58 = .ok (.iload_n 1, 1) := by decide +kernel
theorem dX9_hear_59 : decode cX9_hear 59 = .ok (.iaload, 1) := by decide +kernel
theorem dX9_hear_60 : decode cX9_hear 60 = .ok (.ifCond .ge 6, 3) := by decide +kernel
theorem dX9_hear_63 : decode cX9_hear 63 = .ok (.bipush (-2), 2) := by decide +kernel
theorem dX9_hear_65 : decode cX9_hear 65 = .ok (.ireturn, 1) := by decide +kernel
theorem dX9_hear_66 : decode cX9_hear 66 = .ok (.aload_n 0, 1) := by decide +kernel
theorem dX9_hear_67 : decode cX9_hear 67 = .ok (.iconst 1, 1) := by decide +kernel
theorem dX9_hear_68 : decode cX9_hear 68 = .ok (.putfield 226, 3) := by decide +kernel
theorem dX9_hear_71 : decode cX9_hear 71 = .ok (.aload_n 0, 1) := by decide +kernel
theorem dX9_hear_72 : decode cX9_hear 72 = .ok (.iload_n 1, 1) := by decide +kernel
theorem dX9_hear_73 : decode cX9_hear 73 = .ok (.putfield 202, 3) := by decide +kernel
theorem dX9_hear_76 : decode cX9_hear 76 = .ok (.aload_n 0, 1) := by decide +kernel
theorem dX9_hear_77 : decode cX9_hear 77 = .ok (.iload_n 2, 1) := by decide +kernel
theorem dX9_hear_78 : decode cX9_hear 78 = .ok (.aload_n 0, 1) := by decide +kernel
theorem dX9_hear_79 : decode cX9_hear 79 = .ok (.getfield 46, 3) := by decide +kernel
theorem dX9_hear_82 : decode cX9_hear 82 = .ok (.iconst 2, 1) := by decide +kernel
theorem dX9_hear_83 : decode cX9_hear 83 = .ok (.iaload, 1) := by decide +kernel
theorem dX9_hear_84 : decode cX9_hear 84 = .ok (.if_icmp .ge 7, 3) := by decide +kernel
theorem dX9_hear_87 : decode cX9_hear 87 = .ok (.iconst 1, 1) := by decide +kernel
theorem dX9_hear_88 : decode cX9_hear 88 = .ok (.goto 4, 3) := by decide +kernel
theorem dX9_hear_91 : decode cX9_hear 91 = .ok (.iconst 0, 1) := by decide +kernel
theorem dX9_hear_92 : decode cX9_hear 92 = .ok (.putfield 230, 3) := by decide +kernel
theorem dX9_hear_95 : decode cX9_hear 95 = .ok (.aload_n 0, 1) := by decide +kernel
theorem dX9_hear_96 : decode cX9_hear 96 = .ok (.iload_n 3, 1) := by decide +kernel
theorem dX9_hear_97 : decode cX9_hear 97 = .ok (.putfield 195, 3) := by decide +kernel
theorem dX9_hear_100 : decode cX9_hear 100 = .ok (.iconst 0, 1) := by decide +kernel
theorem dX9_hear_101 : decode cX9_hear 101 = .ok (.istore 6, 2) := by decide +kernel
theorem dX9_hear_103 : decode cX9_hear 103 = .ok (.iload 6, 2) := by decide +kernel
theorem dX9_hear_105 : decode cX9_hear 105 = .ok (.iload_n 3, 1) := by decide +kernel
theorem dX9_hear_106 : decode cX9_hear 106 = .ok (.if_icmp .ge 32, 3) := by decide +kernel
theorem dX9_hear_109 : decode cX9_hear 109 = .ok (.aload_n 0, 1) := by decide +kernel
theorem dX9_hear_110 : decode cX9_hear 110 = .ok (.getfield 95, 3) := by decide +kernel
theorem dX9_hear_113 : decode cX9_hear 113 = .ok (.iload 6, 2) := by decide +kernel
theorem dX9_hear_115 : decode cX9_hear 115 = .ok (.lload 4, 2) := by decide +kernel
theorem dX9_hear_117 : decode cX9_hear 117 = .ok (.iconst 4, 1) := by decide +kernel
theorem dX9_hear_118 : decode cX9_hear 118 = .ok (.iload_n 3, 1) := by decide +kernel
theorem dX9_hear_119 : decode cX9_hear 119 = .ok (.iconst 1, 1) := by decide +kernel
theorem dX9_hear_120 : decode cX9_hear 120 = .ok (.isub, 1) := by decide +kernel
theorem dX9_hear_121 : decode cX9_hear 121 = .ok (.iload 6, 2) := by decide +kernel
theorem dX9_hear_123 : decode cX9_hear 123 = .ok (.isub, 1) := by decide +kernel
theorem dX9_hear_124 : decode cX9_hear 124 = .ok (.imul, 1) := by decide +kernel
theorem dX9_hear_125 : decode cX9_hear 125 = .ok (.lshr, 1) := by decide +kernel
theorem dX9_hear_126 : decode cX9_hear 126 = .ok (.ldc2_w 135, 3) := by decide +kernel
theorem dX9_hear_129 : decode cX9_hear 129 = .ok (.land, 1) := by decide +kernel
theorem dX9_hear_130 : decode cX9_hear 130 = .ok (.l2i, 1) := by decide +kernel
theorem dX9_hear_131 : decode cX9_hear 131 = .ok (.iastore, 1) := by decide +kernel
theorem dX9_hear_132 : decode cX9_hear 132 = .ok (.iinc 6 1, 3) := by decide +kernel
theorem dX9_hear_135 : decode cX9_hear 135 = .ok (.goto (-32), 3) := by decide +kernel
theorem dX9_hear_138 : decode cX9_hear 138 = .ok (.aload_n 0, 1) := by decide +kernel
theorem dX9_hear_139 : decode cX9_hear 139 = .ok (.invokevirtual 233, 3) := by decide +kernel
theorem dX9_hear_142 : decode cX9_hear 142 = .ok (.bipush (-4), 2) := by decide +kernel
theorem dX9_hear_144 : decode cX9_hear 144 = .ok (.istore 6, 2) := by decide +kernel
theorem dX9_hear_146 : decode cX9_hear 146 = .ok (.iconst 0, 1) := by decide +kernel
theorem dX9_hear_147 : decode cX9_hear 147 = .ok (.istore 7, 2) := by decide +kernel
theorem dX9_hear_149 : decode cX9_hear 149 = .ok (.iload 7, 2) := by decide +kernel
theorem dX9_hear_151 : decode cX9_hear 151 = .ok (.aload_n 0, 1) := by decide +kernel
theorem dX9_hear_152 : decode cX9_hear 152 = .ok (.getfield 219, 3) := by decide +kernel
theorem dX9_hear_155 : decode cX9_hear 155 = .ok (.if_icmp .ge 82, 3) := by decide +kernel
theorem dX9_hear_158 : decode cX9_hear 158 = .ok (.aload_n 0, 1) := by decide +kernel
theorem dX9_hear_159 : decode cX9_hear 159 = .ok (.getfield 64, 3) := by decide +kernel
theorem dX9_hear_162 : decode cX9_hear 162 = .ok (.iload 7, 2) := by decide +kernel
theorem dX9_hear_164 : decode cX9_hear 164 = .ok (.aload_n 0, 1) := by decide +kernel
theorem dX9_hear_165 : decode cX9_hear 165 = .ok (.aload_n 0, 1) := by decide +kernel
theorem dX9_hear_166 : decode cX9_hear 166 = .ok (.getfield 61, 3) := by decide +kernel
theorem dX9_hear_169 : decode cX9_hear 169 = .ok (.iconst 3, 1) := by decide +kernel
theorem dX9_hear_170 : decode cX9_hear 170 = .ok (.iload 7, 2) := by decide +kernel
theorem dX9_hear_172 : decode cX9_hear 172 = .ok (.imul, 1) := by decide +kernel
theorem dX9_hear_173 : decode cX9_hear 173 = .ok (.iaload, 1) := by decide +kernel
theorem dX9_hear_174 : decode cX9_hear 174 = .ok (.aload_n 0, 1) := by decide +kernel
theorem dX9_hear_175 : decode cX9_hear 175 = .ok (.getfield 61, 3) := by decide +kernel
theorem dX9_hear_178 : decode cX9_hear 178 = .ok (.iconst 3, 1) := by decide +kernel
theorem dX9_hear_179 : decode cX9_hear 179 = .ok (.iload 7, 2) := by decide +kernel
theorem dX9_hear_181 : decode cX9_hear 181 = .ok (.imul, 1) := by decide +kernel
theorem dX9_hear_182 : decode cX9_hear 182 = .ok (.iconst 1, 1) := by decide +kernel
theorem dX9_hear_183 : decode cX9_hear 183 = .ok (.iadd, 1) := by decide +kernel
theorem dX9_hear_184 : decode cX9_hear 184 = .ok (.iaload, 1) := by decide +kernel
theorem dX9_hear_185 : decode cX9_hear 185 = .ok (.aload_n 0, 1) := by decide +kernel
theorem dX9_hear_186 : decode cX9_hear 186 = .ok (.getfield 61, 3) := by decide +kernel
theorem dX9_hear_189 : decode cX9_hear 189 = .ok (.iconst 3, 1) := by decide +kernel
theorem dX9_hear_190 : decode cX9_hear 190 = .ok (.iload 7, 2) := by decide +kernel
theorem dX9_hear_192 : decode cX9_hear 192 = .ok (.imul, 1) := by decide +kernel
theorem dX9_hear_193 : decode cX9_hear 193 = .ok (.iconst 2, 1) := by decide +kernel
theorem dX9_hear_194 : decode cX9_hear 194 = .ok (.iadd, 1) := by decide +kernel
theorem dX9_hear_195 : decode cX9_hear 195 = .ok (.iaload, 1) := by decide +kernel
theorem dX9_hear_196 : decode cX9_hear 196 = .ok (.invokevirtual 236, 3) := by decide +kernel
theorem dX9_hear_199 : decode cX9_hear 199 = .ok (.iastore, 1) := by decide +kernel
theorem dX9_hear_200 : decode cX9_hear 200 = .ok (.aload_n 0, 1) := by decide +kernel
theorem dX9_hear_201 : decode cX9_hear 201 = .ok (.getfield 64, 3) := by decide +kernel
theorem dX9_hear_204 : decode cX9_hear 204 = .ok (.iload 7, 2) := by decide +kernel
theorem dX9_hear_206 : decode cX9_hear 206 = .ok (.iaload, 1) := by decide +kernel
theorem dX9_hear_207 : decode cX9_hear 207 = .ok (.ifCond .eq 20, 3) := by decide +kernel
theorem dX9_hear_210 : decode cX9_hear 210 = .ok (.iload 6, 2) := by decide +kernel
theorem dX9_hear_212 : decode cX9_hear 212 = .ok (.bipush (-4), 2) := by decide +kernel
theorem dX9_hear_214 : decode cX9_hear 214 = .ok (.if_icmp .ne 13, 3) := by decide +kernel
theorem dX9_hear_217 : decode cX9_hear 217 = .ok (.aload_n 0, 1) := by decide +kernel
theorem dX9_hear_218 : decode cX9_hear 218 = .ok (.getfield 58, 3) := by decide +kernel
theorem dX9_hear_221 : decode cX9_hear 221 = .ok (.iload 7, 2) := by decide +kernel
theorem dX9_hear_223 : decode cX9_hear 223 = .ok (.iaload, 1) := by decide +kernel
theorem dX9_hear_224 : decode cX9_hear 224 = .ok (.goto 5, 3) := by decide +kernel
theorem dX9_hear_227 : decode cX9_hear 227 = .ok (.iload 6, 2) := by decide +kernel
theorem dX9_hear_229 : decode cX9_hear 229 = .ok (.istore 6, 2) := by decide +kernel
theorem dX9_hear_231 : decode cX9_hear 231 = .ok (.iinc 7 1, 3) := by decide +kernel
theorem dX9_hear_234 : decode cX9_hear 234 = .ok (.goto (-85), 3) := by decide +kernel
theorem dX9_hear_237 : decode cX9_hear 237 = .ok (.iconst 0, 1) := by decide +kernel
theorem dX9_hear_238 : decode cX9_hear 238 = .ok (.istore 7, 2) := by decide +kernel
theorem dX9_hear_240 : decode cX9_hear 240 = .ok (.iload 7, 2) := by decide +kernel
theorem dX9_hear_242 : decode cX9_hear 242 = .ok (.aload_n 0, 1) := by decide +kernel
theorem dX9_hear_243 : decode cX9_hear 243 = .ok (.getfield 219, 3) := by decide +kernel
theorem dX9_hear_246 : decode cX9_hear 246 = .ok (.if_icmp .ge 50, 3) := by decide +kernel
theorem dX9_hear_249 : decode cX9_hear 249 = .ok (.aload_n 0, 1) := by decide +kernel
theorem dX9_hear_250 : decode cX9_hear 250 = .ok (.getfield 67, 3) := by decide +kernel
theorem dX9_hear_253 : decode cX9_hear 253 = .ok (.iload 7, 2) := by decide +kernel
theorem dX9_hear_255 : decode cX9_hear 255 = .ok (.aload_n 0, 1) := by decide +kernel
theorem dX9_hear_256 : decode cX9_hear 256 = .ok (.getfield 64, 3) := by decide +kernel
theorem dX9_hear_259 : decode cX9_hear 259 = .ok (.iload 7, 2) := by decide +kernel
theorem dX9_hear_261 : decode cX9_hear 261 = .ok (.iaload, 1) := by decide +kernel
theorem dX9_hear_262 : decode cX9_hear 262 = .ok (.ifCond .eq 26, 3) := by decide +kernel
theorem dX9_hear_265 : decode cX9_hear 265 = .ok (.aload_n 0, 1) := by decide +kernel
theorem dX9_hear_266 : decode cX9_hear 266 = .ok (.getfield 58, 3) := by decide +kernel
theorem dX9_hear_269 : decode cX9_hear 269 = .ok (.iload 7, 2) := by decide +kernel
theorem dX9_hear_271 : decode cX9_hear 271 = .ok (.iaload, 1) := by decide +kernel
theorem dX9_hear_272 : decode cX9_hear 272 = .ok (.iload 6, 2) := by decide +kernel
theorem dX9_hear_274 : decode cX9_hear 274 = .ok (.aload_n 0, 1) := by decide +kernel
theorem dX9_hear_275 : decode cX9_hear 275 = .ok (.getfield 46, 3) := by decide +kernel
theorem dX9_hear_278 : decode cX9_hear 278 = .ok (.iconst 1, 1) := by decide +kernel
theorem dX9_hear_279 : decode cX9_hear 279 = .ok (.iaload, 1) := by decide +kernel
theorem dX9_hear_280 : decode cX9_hear 280 = .ok (.iadd, 1) := by decide +kernel
theorem dX9_hear_281 : decode cX9_hear 281 = .ok (.if_icmp .gt 7, 3) := by decide +kernel
theorem dX9_hear_284 : decode cX9_hear 284 = .ok (.iconst 1, 1) := by decide +kernel
theorem dX9_hear_285 : decode cX9_hear 285 = .ok (.goto 4, 3) := by decide +kernel
theorem dX9_hear_288 : decode cX9_hear 288 = .ok (.iconst 0, 1) := by decide +kernel
theorem dX9_hear_289 : decode cX9_hear 289 = .ok (.bastore, 1) := by decide +kernel
theorem dX9_hear_290 : decode cX9_hear 290 = .ok (.iinc 7 1, 3) := by decide +kernel
theorem dX9_hear_293 : decode cX9_hear 293 = .ok (.goto (-53), 3) := by decide +kernel
theorem dX9_hear_296 : decode cX9_hear 296 = .ok (.aload_n 0, 1) := by decide +kernel
theorem dX9_hear_297 : decode cX9_hear 297 = .ok (.getfield 219, 3) := by decide +kernel
theorem dX9_hear_300 : decode cX9_hear 300 = .ok (.ireturn, 1) := by decide +kernel
