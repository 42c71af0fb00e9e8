theorem dX7_priceWithSound_52 : decode cX7_priceWithSound 52 = .ok (.bipush 6, 2) := by decide +kernel
theorem dX7_priceWithSound_54 : decode cX7_priceWithSound 54 = .ok (.iadd, 1) := by decide +kernel
theorem dX7_priceWithSound_55 : decode cX7_priceWithSound 55 = .ok (.aload_n 1, 1) := by decide +kernel
theorem dX7_priceWithSound_56 : decode cX7_priceWithSound 56 = .ok (.iload 4, 2) := by decide +kernel
theorem dX7_priceWithSound_58 : decode cX7_priceWithSound 58 = .ok (.iconst 1, 1) := by decide +kernel
theorem dX7_priceWithSound_59 : decode cX7_priceWithSound 59 = .ok (.isub, 1) := by decide +kernel
theorem dX7_priceWithSound_60 : decode cX7_priceWithSound 60 = .ok (.iaload, 1) := by decide +kernel
theorem dX7_priceWithSound_61 : decode cX7_priceWithSound 61 = .ok (.bipush 6, 2) := by decide +kernel
theorem dX7_priceWithSound_63 : decode cX7_priceWithSound 63 = .ok (.iadd, 1) := by decide +kernel
theorem dX7_priceWithSound_64 : decode cX7_priceWithSound 64 = .ok (.invokestatic 52, 3) := by decide +kernel
theorem dX7_priceWithSound_67 : decode cX7_priceWithSound 67 = .ok (.istore 6, 2) := by decide +kernel
theorem dX7_priceWithSound_69 : decode cX7_priceWithSound 69 = .ok (.aload_n 1, 1) := by decide +kernel
theorem dX7_priceWithSound_70 : decode cX7_priceWithSound 70 = .ok (.iload 4, 2) := by decide +kernel
theorem dX7_priceWithSound_72 : decode cX7_priceWithSound 72 = .ok (.iload 5, 2) := by decide +kernel
theorem dX7_priceWithSound_74 : decode cX7_priceWithSound 74 = .ok (.iload 6, 2) := by decide +kernel
theorem dX7_priceWithSound_76 : decode cX7_priceWithSound 76 = .ok (.invokestatic 52, 3) := by decide +kernel
theorem dX7_priceWithSound_79 : decode cX7_priceWithSound 79 = .ok (.iastore, 1) := by decide +kernel
theorem dX7_priceWithSound_80 : decode cX7_priceWithSound 80 = .ok (.iinc 4 1, 3) := by decide +kernel
theorem dX7_priceWithSound_83 : decode cX7_priceWithSound 83 = .ok (.goto (-69), 3) := by decide +kernel
theorem dX7_priceWithSound_86 : decode cX7_priceWithSound 86 = .ok (.return_, 1) := by decide +kernel
theorem dX8_init_0 : decode cX8_init 0 = .ok (.aload_n 0, 1) := by decide +kernel
theorem dX8_init_1 : decode cX8_init 1 = .ok (.invokespecial 1, 3) := by decide +kernel
theorem dX8_init_4 : decode cX8_init 4 = .ok (.aload_n 0, 1) := by decide +kernel
theorem dX8_init_5 : decode cX8_init 5 = .ok (.new 7, 3) := by decide +kernel
theorem dX8_init_8 : decode cX8_init 8 = .ok (.dup, 1) := by decide +kernel
theorem dX8_init_9 : decode cX8_init 9 = .ok (.invokespecial 9, 3) := by decide +kernel
theorem dX8_init_12 : decode cX8_init 12 = .ok (.putfield 10, 3) := by decide +kernel
theorem dX8_init_15 : decode cX8_init 15 = .ok (.aload_n 0, 1) := by decide +kernel
theorem dX8_init_16 : decode cX8_init 16 = .ok (.new 16, 3) := by decide +kernel
theorem dX8_init_19 : decode cX8_init 19 = .ok (.dup, 1) := by decide +kernel
theorem dX8_init_20 : decode cX8_init 20 = .ok (.aload_n 0, 1) := by decide +kernel
theorem dX8_init_21 : decode cX8_init 21 = .ok (.getfield 10, 3) := by decide +kernel
theorem dX8_init_24 : decode cX8_init 24 = .ok (.invokespecial 18, 3) := by decide +kernel
theorem dX8_init_27 : decode cX8_init 27 = .ok (.putfield 21, 3) := by decide +kernel
theorem dX8_init_30 : decode cX8_init 30 = .ok (.aload_n 0, 1) := by decide +kernel
theorem dX8_init_31 : decode cX8_init 31 = .ok (.new 25, 3) := by decide +kernel
theorem dX8_init_34 : decode cX8_init 34 = .ok (.dup, 1) := by decide +kernel
theorem dX8_init_35 : decode cX8_init 35 = .ok (.invokespecial 27, 3) := by decide +kernel
theorem dX8_init_38 : decode cX8_init 38 = .ok (.putfield 28, 3) := by decide +kernel
theorem dX8_init_41 : decode cX8_init 41 = .ok (.aload_n 0, 1) := by decide +kernel
theorem dX8_init_42 : decode cX8_init 42 = .ok (.new 32, 3) := by decide +kernel
theorem dX8_init_45 : decode cX8_init 45 = .ok (.dup, 1) := by decide +kernel
theorem dX8_init_46 : decode cX8_init 46 = .ok (.aload_n 0, 1) := by decide +kernel
theorem dX8_init_47 : decode cX8_init 47 = .ok (.getfield 10, 3) := by decide +kernel
theorem dX8_init_50 : decode cX8_init 50 = .ok (.aload_n 0, 1) := by decide +kernel
theorem dX8_init_51 : decode cX8_init 51 = .ok (.getfield 28, 3) := by decide +kernel
theorem dX8_init_54 : decode cX8_init 54 = .ok (.invokespecial 34, 3) := by decide +kernel
theorem dX8_init_57 : decode cX8_init 57 = .ok (.putfield 37, 3) := by decide +kernel
theorem dX8_init_60 : decode cX8_init 60 = .ok (.aload_n 0, 1) := by decide +kernel
theorem dX8_init_61 : decode cX8_init 61 = .ok (.new 41, 3) := by decide +kernel
theorem dX8_init_64 : decode cX8_init 64 = .ok (.dup, 1) := by decide +kernel
theorem dX8_init_65 : decode cX8_init 65 = .ok (.invokespecial 43, 3) := by decide +kernel
theorem dX8_init_68 : decode cX8_init 68 = .ok (.putfield 44, 3) := by decide +kernel
theorem dX8_init_71 : decode cX8_init 71 = .ok (.aload_n 0, 1) := by decide +kernel
theorem dX8_init_72 : decode cX8_init 72 = .ok (.new 48, 3) := by decide +kernel
theorem dX8_init_75 : decode cX8_init 75 = .ok (.dup, 1) := by decide +kernel
theorem dX8_init_76 : decode cX8_init 76 = .ok (.aload_n 0, 1) := by decide +kernel
theorem dX8_init_77 : decode cX8_init 77 = .ok (.getfield 10, 3) := by decide +kernel
theorem dX8_init_80 : decode cX8_init 80 = .ok (.aload_n 0, 1) := by decide +kernel
theorem dX8_init_81 : decode cX8_init 81 = .ok (.getfield 21, 3) := by decide +kernel
theorem dX8_init_84 : decode cX8_init 84 = .ok (.invokespecial 50, 3) := by decide +kernel
theorem dX8_init_87 : decode cX8_init 87 = .ok (.putfield 53, 3) := by decide +kernel
theorem dX8_init_90 : decode cX8_init 90 = .ok (.aload_n 0, 1) := by decide +kernel
theorem dX8_init_91 : decode cX8_init 91 = .ok (.new 57, 3) := by decide +kernel
theorem dX8_init_94 : decode cX8_init 94 = .ok (.dup, 1) := by decide +kernel
theorem dX8_init_95 : decode cX8_init 95 = .ok (.aload_n 0, 1) := by decide +kernel
theorem dX8_init_96 : decode cX8_init 96 = .ok (.getfield 10, 3) := by decide +kernel
theorem dX8_init_99 : decode cX8_init 99 = .ok (.aload_n 0, 1) := by decide +kernel
theorem dX8_init_100 : decode cX8_init 100 = .ok (.getfield 21, 3) := by decide +kernel
theorem dX8_init_103 : decode cX8_init 103 = .ok (.aload_n 0, 1) := by decide +kernel
theorem dX8_init_104 : decode cX8_init 104 = .ok (.getfield 53, 3) := by decide +kernel
theorem dX8_init_107 : decode cX8_init 107 = .ok (.invokespecial 59, 3) := by decide +kernel
theorem dX8_init_110 : decode cX8_init 110 = .ok (.putfield 62, 3) := by decide +kernel
theorem dX8_init_113 : decode cX8_init 113 = .ok (.aload_n 0, 1) := by decide +kernel
theorem dX8_init_114 : decode cX8_init 114 = .ok (.new 66, 3) := by decide +kernel
theorem dX8_init_117 : decode cX8_init 117 = .ok (.dup, 1) := by decide +kernel
theorem dX8_init_118 : decode cX8_init 118 = .ok (.invokespecial 68, 3) := by decide +kernel
theorem dX8_init_121 : decode cX8_init 121 = .ok (.putfield 69, 3) := by decide +kernel
theorem dX8_init_124 : decode cX8_init 124 = .ok (.aload_n 0, 1) := by decide +kernel
theorem dX8_init_125 : decode cX8_init 125 = .ok (.iconst 3, 1) := by decide +kernel
theorem dX8_init_126 : decode cX8_init 126 = .ok (.newarray .int, 2) := by decide +kernel
theorem dX8_init_128 : decode cX8_init 128 = .ok (.dup, 1) := by decide +kernel
theorem dX8_init_129 : decode cX8_init 129 = .ok (.iconst 0, 1) := by decide +kernel
theorem dX8_init_130 : decode cX8_init 130 = .ok (.bipush 20, 2) := by decide +kernel
theorem dX8_init_132 : decode cX8_init 132 = .ok (.iastore, 1) := by decide +kernel
theorem dX8_init_133 : decode cX8_init 133 = .ok (.dup, 1) := by decide +kernel
theorem dX8_init_134 : decode cX8_init 134 = .ok (.iconst 1, 1) := by decide +kernel
theorem dX8_init_135 : decode cX8_init 135 = .ok (.iconst 3, 1) := by decide +kernel
theorem dX8_init_136 : decode cX8_init 136 = .ok (.iastore, 1) := by decide +kernel
theorem dX8_init_137 : decode cX8_init 137 = .ok (.dup, 1) := by decide +kernel
theorem dX8_init_138 : decode cX8_init 138 = .ok (.iconst 2, 1) := by decide +kernel
theorem dX8_init_139 : decode cX8_init 139 = .ok (.bipush 60, 2) := by decide +kernel
theorem dX8_init_141 : decode cX8_init 141 = .ok (.iastore, 1) := by decide +kernel
theorem dX8_init_142 : decode cX8_init 142 = .ok (.putfield 73, 3) := by decide +kernel
theorem dX8_init_145 : decode cX8_init 145 = .ok (.return_, 1) := by decide +kernel
theorem dX8_thing_0 : decode cX8_thing 0 = .ok (.iload_n 1, 1) := by decide +kernel
theorem dX8_thing_1 : decode cX8_thing 1 = .ok (.iconst 0, 1) := by decide +kernel
theorem dX8_thing_2 : decode cX8_thing 2 = .ok (.iconst 4, 1) := by decide +kernel
theorem dX8_thing_3 : decode cX8_thing 3 = .ok (.invokestatic 77, 3) := by decide +kernel
theorem dX8_thing_6 : decode cX8_thing 6 = .ok (.ifCond .eq 22, 3) := by decide +kernel
theorem dX8_thing_9 : decode cX8_thing 9 = .ok (.iload_n 2, 1) := by decide +kernel
theorem dX8_thing_10 : decode cX8_thing 10 = .ok (.iconst 0, 1) := by decide +kernel
theorem dX8_thing_11 : decode cX8_thing 11 = .ok (.iconst 3, 1) := by decide +kernel
theorem dX8_thing_12 : decode cX8_thing 12 = .ok (.invokestatic 77, 3) := by decide +kernel
theorem dX8_thing_15 : decode cX8_thing 15 = .ok (.ifCond .eq 13, 3) := by decide +kernel
theorem dX8_thing_18 : decode cX8_thing 18 = .ok (.iload_n 3, 1) := by decide +kernel
theorem dX8_thing_19 : decode cX8_thing 19 = .ok (.iconst 0, 1) := by decide +kernel
theorem dX8_thing_20 : decode cX8_thing 20 = .ok (.bipush 100, 2) := by decide +kernel
theorem dX8_thing_22 : decode cX8_thing 22 = .ok (.invokestatic 77, 3) := by decide +kernel
theorem dX8_thing_25 : decode cX8_thing 25 = .ok (.ifCond .ne 5, 3) := by decide +kernel
theorem dX8_thing_28 : decode cX8_thing 28 = .ok (.iconst (-1), 1) := by decide +kernel
theorem dX8_thing_29 : decode cX8_thing 29 = .ok (.ireturn, 1) := by decide +kernel
theorem dX8_thing_30 : decode cX8_thing 30 = .ok (.aload_n 0, 1) := by decide +kernel
theorem dX8_thing_31 : decode cX8_thing 31 = .ok (.getfield 10, 3) := by decide +kernel
theorem dX8_thing_34 : decode cX8_thing 34 = .ok (.iload_n 1, 1) := by decide +kernel
theorem dX8_thing_35 : decode cX8_thing 35 = .ok (.iload_n 2, 1) := by decide +kernel
theorem dX8_thing_36 : decode cX8_thing 36 = .ok (.iload_n 3, 1) := by decide +kernel
theorem dX8_thing_37 : decode cX8_thing 37 = .ok (.invokevirtual 81, 3) := by decide +kernel
theorem dX8_thing_40 : decode cX8_thing 40 = .ok (.ireturn, 1) := by decide +kernel
theorem dX8_go_0 : decode cX8_go 0 = .ok (.iload_n 1, 1) := by decide +kernel
theorem dX8_go_1 : decode cX8_go 1 = .ok (.iconst 0, 1) := by decide +kernel
theorem dX8_go_2 : decode cX8_go 2 = .ok (.iconst 5, 1) := by decide +kernel
theorem dX8_go_3 : decode cX8_go 3 = .ok (.invokestatic 77, 3) := by decide +kernel
theorem dX8_go_6 : decode cX8_go 6 = .ok (.ifCond .eq 12, 3) := by decide +kernel
theorem dX8_go_9 : decode cX8_go 9 = .ok (.iload_n 2, 1) := by decide +kernel
theorem dX8_go_10 : decode cX8_go 10 = .ok (.iconst (-1), 1) := by decide +kernel
theorem dX8_go_11 : decode cX8_go 11 = .ok (.iconst 4, 1) := by decide +kernel
theorem dX8_go_12 : decode cX8_go 12 = .ok (.invokestatic 77, 3) := by decide +kernel
theorem dX8_go_15 : decode cX8_go 15 = .ok (.ifCond .ne 6, 3) := by decide +kernel
theorem dX8_go_18 : decode cX8_go 18 = .ok (.bipush (-100), 2) := by decide +kernel
theorem dX8_go_20 : decode cX8_go 20 = .ok (.ireturn, 1) := by decide +kernel
theorem dX8_go_21 : decode cX8_go 21 = .ok (.aload_n 0, 1) := by decide +kernel
theorem dX8_go_22 : decode cX8_go 22 = .ok (.getfield 10, 3) := by decide +kernel
theorem dX8_go_25 : decode cX8_go 25 = .ok (.iload_n 1, 1) := by decide +kernel
theorem dX8_go_26 : decode cX8_go 26 = .ok (.iload_n 2, 1) := by decide +kernel
theorem dX8_go_27 : decode cX8_go 27 = .ok (.invokevirtual 85, 3) := by decide +kernel
theorem dX8_go_30 : decode cX8_go 30 = .ok (.ireturn, 1) := by decide +kernel
theorem dX8_state_0 : decode cX8_state 0 = .ok (.aload_n 0, 1) := by decide +kernel
theorem dX8_state_1 : decode cX8_state 1 = .ok (.getfield 10, 3) := by decide +kernel
theorem dX8_state_4 : decode cX8_state 4 = .ok (.iload_n 1, 1) := by decide +kernel
theorem dX8_state_5 : decode cX8_state 5 = .ok (.invokevirtual 89, 3) := by decide +kernel
theorem dX8_state_8 : decode cX8_state 8 = .ok (.ifCond .eq 17, 3) := by decide +kernel
theorem dX8_state_11 : decode cX8_state 11 = .ok (.aload_n 0, 1) := by decide +kernel
theorem dX8_state_12 : decode cX8_state 12 = .ok (.getfield 10, 3) := by decide +kernel
theorem dX8_state_15 : decode cX8_state 15 = .ok (.getfield 93, 3) := by decide +kernel
theorem dX8_state_18 : decode cX8_state 18 = .ok (.iload_n 1, 1) := by decide +kernel
theorem dX8_state_19 : decode cX8_state 19 = .ok (.invokestatic 97, 3) := by decide +kernel
theorem dX8_state_22 : decode cX8_state 22 = .ok (.goto 4, 3) := by decide +kernel
theorem dX8_state_25 : decode cX8_state 25 = .ok (.iconst (-1), 1) := by decide +kernel
theorem dX8_state_26 : decode cX8_state 26 = .ok (.ireturn, 1) := by decide +kernel
theorem dX8_doubt_0 : decode cX8_doubt 0 = .ok (.iload_n 1, 1) := by decide +kernel
theorem dX8_doubt_1 : decode cX8_doubt 1 = .ok (.iconst 0, 1) := by decide +kernel
theorem dX8_doubt_2 : decode cX8_doubt 2 = .ok (.bipush 15, 2) := by decide +kernel
theorem dX8_doubt_4 : decode cX8_doubt 4 = .ok (.invokestatic 77, 3) := by decide +kernel
theorem dX8_doubt_7 : decode cX8_doubt 7 = .ok (.ifCond .eq 28, 3) := by decide +kernel
theorem dX8_doubt_10 : decode cX8_doubt 10 = .ok (.iload_n 2, 1) := by decide +kernel
theorem dX8_doubt_11 : decode cX8_doubt 11 = .ok (.iconst 0, 1) := by decide +kernel
theorem dX8_doubt_12 : decode cX8_doubt 12 = .ok (.bipush 15, 2) := by decide +kernel
theorem dX8_doubt_14 : decode cX8_doubt 14 = .ok (.invokestatic 77, 3) := by decide +kernel
theorem dX8_doubt_17 : decode cX8_doubt 17 = .ok (.ifCond .eq 18, 3) := by decide +kernel
theorem dX8_doubt_20 : decode cX8_doubt 20 = .ok (.iload_n 1, 1) := by decide +kernel
theorem dX8_doubt_21 : decode cX8_doubt 21 = .ok (.iload_n 2, 1) := by decide +kernel
theorem dX8_doubt_22 : decode cX8_doubt 22 = .ok (.if_icmp .eq 13, 3) := by decide +kernel
theorem dX8_doubt_25 : decode cX8_doubt 25 = .ok (.iload_n 3, 1) := by decide +kernel
theorem dX8_doubt_26 : decode cX8_doubt 26 = .ok (.iconst 0, 1) := by decide +kernel
theorem dX8_doubt_27 : decode cX8_doubt 27 = .ok (.bipush 9, 2) := by decide +kernel
theorem dX8_doubt_29 : decode cX8_doubt 29 = .ok (.invokestatic 77, 3) := by decide +kernel
theorem dX8_doubt_32 : decode cX8_doubt 32 = .ok (.ifCond .ne 5, 3) := by decide +kernel
theorem dX8_doubt_35 : decode cX8_doubt 35 = .ok (.iconst (-1), 1) := by decide +kernel
theorem dX8_doubt_36 : decode cX8_doubt 36 = .ok (.ireturn, 1) := by decide +kernel
theorem dX8_doubt_37 : decode cX8_doubt 37 = .ok (.aload_n 0, 1) := by decide +kernel
theorem dX8_doubt_38 : decode cX8_doubt 38 = .ok (.getfield 28, 3) := by decide +kernel
theorem dX8_doubt_41 : decode cX8_doubt 41 = .ok (.iload_n 1, 1) := by decide +kernel
theorem dX8_doubt_42 : decode cX8_doubt 42 = .ok (.iload_n 2, 1) := by decide +kernel
theorem dX8_doubt_43 : decode cX8_doubt 43 = .ok (.iload_n 3, 1) := by decide +kernel
theorem dX8_doubt_44 : decode cX8_doubt 44 = .ok (.invokevirtual 100, 3) := by decide +kernel
theorem dX8_doubt_47 : decode cX8_doubt 47 = .ok (.ireturn, 1) := by decide +kernel
theorem dX8_word_0 : decode cX8_word 0 = .ok (.iload_n 1, 1) := by decide +kernel
theorem dX8_word_1 : decode cX8_word 1 = .ok (.iconst 0, 1) := by decide +kernel
theorem dX8_word_2 : decode cX8_word 2 = .ok (.iconst 3, 1) := by decide +kernel
theorem dX8_word_3 : decode cX8_word 3 = .ok (.invokestatic 77, 3) := by decide +kernel
theorem dX8_word_6 : decode cX8_word 6 = .ok (.ifCond .eq 37, 3) := by decide +kernel
theorem dX8_word_9 : decode cX8_word 9 = .ok (.iload_n 2, 1) := by decide +kernel
theorem dX8_word_10 : decode cX8_word 10 = .ok (.iconst 0, 1) := by decide +kernel
theorem dX8_word_11 : decode cX8_word 11 = .ok (.getstatic 103, 3) := by decide +kernel
theorem dX8_word_14 : decode cX8_word 14 = .ok (.iload_n 1, 1) := by decide +kernel
theorem dX8_word_15 : decode cX8_word 15 = .ok (.iaload, 1) := by decide +kernel
theorem dX8_word_16 : decode cX8_word 16 = .ok (.iconst 1, 1) := by decide +kernel
theorem dX8_word_17 : decode cX8_word 17 = .ok (.isub, 1) := by decide +kernel
theorem dX8_word_18 : decode cX8_word 18 = .ok (.invokestatic 77, 3) := by decide +kernel
theorem dX8_word_21 : decode cX8_word 21 = .ok (.ifCond .eq 22, 3) := by decide +kernel
theorem dX8_word_24 : decode cX8_word 24 = .ok (.iload_n 3, 1) := by decide +kernel
theorem dX8_word_25 : decode cX8_word 25 = .ok (.iconst 1, 1) := by decide +kernel
theorem dX8_word_26 : decode cX8_word 26 = .ok (.iconst 4, 1) := by decide +kernel
theorem dX8_word_27 : decode cX8_word 27 = .ok (.invokestatic 77, 3) := by decide +kernel
theorem dX8_word_30 : decode cX8_word 30 = .ok (.ifCond .eq 13, 3) := by decide +kernel
theorem dX8_word_33 : decode cX8_word 33 = .ok (.iload_n 3, 1) := by decide +kernel
theorem dX8_word_34 : decode cX8_word 34 = .ok (.iload 4, 2) := by decide +kernel
theorem dX8_word_36 : decode cX8_word 36 = .ok (.i2l, 1) := by decide +kernel
theorem dX8_word_37 : decode cX8_word 37 = .ok (.invokestatic 106, 3) := by decide +kernel
theorem dX8_word_40 : decode cX8_word 40 = .ok (.ifCond .ne 5, 3) := by decide +kernel
theorem dX8_word_43 : decode cX8_word 43 = .ok (.iconst (-1), 1) := by decide +kernel
theorem dX8_word_44 : decode cX8_word 44 = .ok (.ireturn, 1) := by decide +kernel
theorem dX8_word_45 : decode cX8_word 45 = .ok (.aload_n 0, 1) := by decide +kernel
theorem dX8_word_46 : decode cX8_word 46 = .ok (.getfield 28, 3) := by decide +kernel
theorem dX8_word_49 : decode cX8_word 49 = .ok (.iload_n 1, 1) := by decide +kernel
theorem dX8_word_50 : decode cX8_word 50 = .ok (.iload_n 2, 1) := by decide +kernel
theorem dX8_word_51 : decode cX8_word 51 = .ok (.iload_n 3, 1) := by decide +kernel
theorem dX8_word_52 : decode cX8_word 52 = .ok (.iload 4, 2) := by decide +kernel
theorem dX8_word_54 : decode cX8_word 54 = .ok (.invokevirtual 110, 3) := by decide +kernel
theorem dX8_word_57 : decode cX8_word 57 = .ok (.ireturn, 1) := by decide +kernel
theorem dX8_rule_0 : decode cX8_rule 0 = .ok (.iload_n 1, 1) := by decide +kernel
theorem dX8_rule_1 : decode cX8_rule 1 = .ok (.iconst 0, 1) := by decide +kernel
theorem dX8_rule_2 : decode cX8_rule 2 = .ok (.iconst 2, 1) := by decide +kernel
theorem dX8_rule_3 : decode cX8_rule 3 = .ok (.invokestatic 77, 3) := by decide +kernel
theorem dX8_rule_6 : decode cX8_rule 6 = .ok (.ifCond .eq 16, 3) := by decide +kernel
theorem dX8_rule_9 : decode cX8_rule 9 = .ok (.iload_n 2, 1) := by decide +kernel
theorem dX8_rule_10 : decode cX8_rule 10 = .ok (.iconst 0, 1) := by decide +kernel
theorem dX8_rule_11 : decode cX8_rule 11 = .ok (.getstatic 114, 3) := by decide +kernel
theorem dX8_rule_14 : decode cX8_rule 14 = .ok (.iload_n 1, 1) := by decide +kernel
theorem dX8_rule_15 : decode cX8_rule 15 = .ok (.iaload, 1) := by decide +kernel
theorem dX8_rule_16 : decode cX8_rule 16 = .ok (.invokestatic 77, 3) := by decide +kernel
theorem dX8_rule_19 : decode cX8_rule 19 = .ok (.ifCond .ne 5, 3) := by decide +kernel
theorem dX8_rule_22 : decode cX8_rule 22 = .ok (.iconst (-1), 1) := by decide +kernel
theorem dX8_rule_23 : decode cX8_rule 23 = .ok (.ireturn, 1) := by decide +kernel
theorem dX8_rule_24 : decode cX8_rule 24 = .ok (.aload_n 0, 1) := by decide +kernel
theorem dX8_rule_25 : decode cX8_rule 25 = .ok (.getfield 73, 3) := by decide +kernel
theorem dX8_rule_28 : decode cX8_rule 28 = .ok (.iload_n 1, 1) := by decide +kernel
theorem dX8_rule_29 : decode cX8_rule 29 = .ok (.iaload, 1) := by decide +kernel
theorem dX8_rule_30 : decode cX8_rule 30 = .ok (.istore_n 3, 1) := by decide +kernel
theorem dX8_rule_31 : decode cX8_rule 31 = .ok (.aload_n 0, 1) := by decide +kernel
theorem dX8_rule_32 : decode cX8_rule 32 = .ok (.getfield 73, 3) := by decide +kernel
theorem dX8_rule_35 : decode cX8_rule 35 = .ok (.iload_n 1, 1) := by decide +kernel
theorem dX8_rule_36 : decode cX8_rule 36 = .ok (.iload_n 2, 1) := by decide +kernel
theorem dX8_rule_37 : decode cX8_rule 37 = .ok (.iastore, 1) := by decide +kernel
theorem dX8_rule_38 : decode cX8_rule 38 = .ok (.iload_n 3, 1) := by decide +kernel
theorem dX8_rule_39 : decode cX8_rule 39 = .ok (.ireturn, 1) := by decide +kernel
theorem dX8_write_0 : decode cX8_write 0 = .ok (.iload_n 1, 1) := by decide +kernel
theorem dX8_write_1 : decode cX8_write 1 = .ok (.iconst 1, 1) := by decide +kernel
theorem dX8_write_2 : decode cX8_write 2 = .ok (.bipush 8, 2) := by decide +kernel
theorem dX8_write_4 : decode cX8_write 4 = .ok (.invokestatic 77, 3) := by decide +kernel
theorem dX8_write_7 : decode cX8_write 7 = .ok (.ifCond .eq 15, 3) := by decide +kernel
theorem dX8_write_10 : decode cX8_write 10 = .ok (.aload_n 0, 1) := by decide +kernel
theorem dX8_write_11 : decode cX8_write 11 = .ok (.getfield 21, 3) := by decide +kernel
theorem dX8_write_14 : decode cX8_write 14 = .ok (.iload_n 1, 1) := by decide +kernel
theorem dX8_write_15 : decode cX8_write 15 = .ok (.lload_n 2, 1) := by decide +kernel
theorem dX8_write_16 : decode cX8_write 16 = .ok (.invokevirtual 117, 3) := by decide +kernel
theorem dX8_write_19 : decode cX8_write 19 = .ok (.goto 4, 3) := by decide +kernel
theorem dX8_write_22 : decode cX8_write 22 = .ok (.iconst (-1), 1) := by decide +kernel
theorem dX8_write_23 : decode cX8_write 23 = .ok (.ireturn, 1) := by decide +kernel
theorem dX8_wipe_0 : decode cX8_wipe 0 = .ok (.aload_n 0, 1) := by decide +kernel
theorem dX8_wipe_1 : decode cX8_wipe 1 = .ok (.getfield 21, 3) := by decide +kernel
theorem dX8_wipe_4 : decode cX8_wipe 4 = .ok (.invokevirtual 121, 3) := by decide +kernel
theorem dX8_wipe_7 : decode cX8_wipe 7 = .ok (.ireturn, 1) := by decide +kernel
theorem dX8_fault_0 : decode cX8_fault 0 = .ok (.aload_n 0, 1) := by decide +kernel
theorem dX8_fault_1 : decode cX8_fault 1 = .ok (.getfield 21, 3) := by decide +kernel
theorem dX8_fault_4 : decode cX8_fault 4 = .ok (.invokevirtual 125, 3) := by decide +kernel
theorem dX8_fault_7 : decode cX8_fault 7 = .ok (.ireturn, 1) := by decide +kernel
theorem dX8_force_0 : decode cX8_force 0 = .ok (.aload_n 0, 1) := by decide +kernel
theorem dX8_force_1 : decode cX8_force 1 = .ok (.getfield 21, 3) := by decide +kernel
theorem dX8_force_4 : decode cX8_force 4 = .ok (.invokevirtual 128, 3) := by decide +kernel
theorem dX8_force_7 : decode cX8_force 7 = .ok (.ireturn, 1) := by decide +kernel
theorem dX8_may_0 : decode cX8_may 0 = .ok (.iload_n 1, 1) := by decide +kernel
theorem dX8_may_1 : decode cX8_may 1 = .ok (.iconst 0, 1) := by decide +kernel
theorem dX8_may_2 : decode cX8_may 2 = .ok (.bipush 6, 2) := by decide +kernel
theorem dX8_may_4 : decode cX8_may 4 = .ok (.invokestatic 77, 3) := by decide +kernel
theorem dX8_may_7 : decode cX8_may 7 = .ok (.ifCond .eq 24, 3) := by decide +kernel
theorem dX8_may_10 : decode cX8_may 10 = .ok (.aload_n 0, 1) := by decide +kernel
theorem dX8_may_11 : decode cX8_may 11 = .ok (.getfield 10, 3) := by decide +kernel
theorem dX8_may_14 : decode cX8_may 14 = .ok (.iload_n 2, 1) := by decide +kernel
theorem dX8_may_15 : decode cX8_may 15 = .ok (.invokevirtual 89, 3) := by decide +kernel
theorem dX8_may_18 : decode cX8_may 18 = .ok (.ifCond .eq 13, 3) := by decide +kernel
theorem dX8_may_21 : decode cX8_may 21 = .ok (.iload_n 3, 1) := by decide +kernel
theorem dX8_may_22 : decode cX8_may 22 = .ok (.iconst 0, 1) := by decide +kernel
theorem dX8_may_23 : decode cX8_may 23 = .ok (.bipush 23, 2) := by decide +kernel
theorem dX8_may_25 : decode cX8_may 25 = .ok (.invokestatic 77, 3) := by decide +kernel
theorem dX8_may_28 : decode cX8_may 28 = .ok (.ifCond .ne 5, 3) := by decide +kernel
theorem dX8_may_31 : decode cX8_may 31 = .ok (.iconst (-1), 1) := by decide +kernel
theorem dX8_may_32 : decode cX8_may 32 = .ok (.ireturn, 1) := by decide +kernel
theorem dX8_may_33 : decode cX8_may 33 = .ok (.aload_n 0, 1) := by decide +kernel
theorem dX8_may_34 : decode cX8_may 34 = .ok (.getfield 21, 3) := by decide +kernel
theorem dX8_may_37 : decode cX8_may 37 = .ok (.iload_n 1, 1) := by decide +kernel
theorem dX8_may_38 : decode cX8_may 38 = .ok (.iload_n 2, 1) := by decide +kernel
theorem dX8_may_39 : decode cX8_may 39 = .ok (.iload_n 3, 1) := by decide +kernel
theorem dX8_may_40 : decode cX8_may 40 = .ok (.invokevirtual 131, 3) := by decide +kernel
theorem dX8_may_43 : decode cX8_may 43 = .ok (.ifCond .eq 7, 3) := by decide +kernel
theorem dX8_may_46 : decode cX8_may 46 = .ok (.iconst 1, 1) := by decide +kernel
theorem dX8_may_47 : decode cX8_may 47 = .ok (.goto 4, 3) := by decide +kernel
theorem dX8_may_50 : decode cX8_may 50 = .ok (.iconst 0, 1) := by decide +kernel
theorem dX8_may_51 : decode cX8_may 51 = .ok (.ireturn, 1) := by decide +kernel
theorem dX8_barred_0 : decode cX8_barred 0 = .ok (.aload_n 0, 1) := by decide +kernel
theorem dX8_barred_1 : decode cX8_barred 1 = .ok (.getfield 21, 3) := by decide +kernel
theorem dX8_barred_4 : decode cX8_barred 4 = .ok (.aload_n 0, 1) := by decide +kernel
theorem dX8_barred_5 : decode cX8_barred 5 = .ok (.getfield 10, 3) := by decide +kernel
theorem dX8_barred_8 : decode cX8_barred 8 = .ok (.getfield 93, 3) := by decide +kernel
theorem dX8_barred_11 : decode cX8_barred 11 = .ok (.invokevirtual 134, 3) := by decide +kernel
theorem dX8_barred_14 : decode cX8_barred 14 = .ok (.invokestatic 138, 3) := by decide +kernel
theorem dX8_barred_17 : decode cX8_barred 17 = .ok (.ireturn, 1) := by decide +kernel
theorem dX8_hear_0 : decode cX8_hear 0 = .ok (.iload_n 1, 1) := by decide +kernel
theorem dX8_hear_1 : decode cX8_hear 1 = .ok (.iconst 0, 1) := by decide +kernel
theorem dX8_hear_2 : decode cX8_hear 2 = .ok (.iconst 5, 1) := by decide +kernel
theorem dX8_hear_3 : decode cX8_hear 3 = .ok (.invokestatic 77, 3) := by decide +kernel
theorem dX8_hear_6 : decode cX8_hear 6 = .ok (.ifCond .eq 32, 3) := by decide +kernel
theorem dX8_hear_9 : decode cX8_hear 9 = .ok (.iload_n 2, 1) := by decide +kernel
theorem dX8_hear_10 : decode cX8_hear 10 = .ok (.iconst 0, 1) := by decide +kernel
theorem dX8_hear_11 : decode cX8_hear 11 = .ok (.bipush 100, 2) := by decide +kernel
theorem dX8_hear_13 : decode cX8_hear 13 = .ok (.invokestatic 77, 3) := by decide +kernel
theorem dX8_hear_16 : decode cX8_hear 16 = .ok (.ifCond .eq 22, 3) := by decide +kernel
theorem dX8_hear_19 : decode cX8_hear 19 = .ok (.iload_n 3, 1) := by decide +kernel
theorem dX8_hear_20 : decode cX8_hear 20 = .ok (.iconst 1, 1) := by decide +kernel
theorem dX8_hear_21 : decode cX8_hear 21 = .ok (.bipush 8, 2) := by decide +kernel
theorem dX8_hear_23 : decode cX8_hear 23 = .ok (.invokestatic 77, 3) := by decide +kernel
theorem dX8_hear_26 : decode cX8_hear 26 = .ok (.ifCond .eq 12, 3) := by decide +kernel
theorem dX8_hear_29 : decode cX8_hear 29 = .ok (.iload_n 3, 1) := by decide +kernel
theorem dX8_hear_30 : decode cX8_hear 30 = .ok (.lload 4, 2) := by decide +kernel
theorem dX8_hear_32 : decode cX8_hear 32 = .ok (.invokestatic 106, 3) := by decide +kernel
theorem dX8_hear_35 : decode cX8_hear 35 = .ok (.ifCond .ne 5, 3) := by decide +kernel
theorem dX8_hear_38 : decode cX8_hear 38 = .ok (.iconst (-1), 1) := by decide +kernel
theorem dX8_hear_39 : decode cX8_hear 39 = .ok (.ireturn, 1) := by decide +kernel
theorem dX8_hear_40 : decode cX8_hear 40 = .ok (.aload_n 0, 1) := by decide +kernel
theorem dX8_hear_41 : decode cX8_hear 41 = .ok (.getfield 10, 3) := by decide +kernel
theorem dX8_hear_44 : decode cX8_hear 44 = .ok (.getfield 144, 3) := by decide +kernel
theorem dX8_hear_47 : decode cX8_hear 47 = .ok (.iload_n 1, 1) := by decide +kernel
theorem dX8_hear_48 : decode cX8_hear 48 = .ok (.iaload, 1) := by decide +kernel
theorem dX8_hear_49 : decode cX8_hear 49 = .ok (.iconst (-1), 1) := by decide +kernel
theorem dX8_hear_50 : decode cX8_hear 50 = .ok (.if_icmp .ne 6, 3) := by decide +kernel
theorem dX8_hear_53 : decode cX8_hear 53 = .ok (.bipush (-2), 2) := by decide +kernel
theorem dX8_hear_55 : decode cX8_hear 55 = .ok (.ireturn, 1) := by decide +kernel
theorem dX8_hear_56 : decode cX8_hear 56 = .ok (.aload_n 0, 1) := by decide +kernel
theorem dX8_hear_57 : decode cX8_hear 57 = .ok (.getfield 28, 3) := by decide +kernel
theorem dX8_hear_60 : decode cX8_hear 60 = .ok (.iload_n 3, 1) := by decide +kernel
theorem dX8_hear_61 : decode cX8_hear 61 = .ok (.lload 4, 2) := by decide +kernel
theorem dX8_hear_63 : decode cX8_hear 63 = .ok (.invokevirtual 147, 3) := by decide +kernel
theorem dX8_hear_66 : decode cX8_hear 66 = .ok (.aload_n 0, 1) := by decide +kernel
theorem dX8_hear_67 : decode cX8_hear 67 = .ok (.getfield 37, 3) := by decide +kernel
theorem dX8_hear_70 : decode cX8_hear 70 = .ok (.iload_n 1, 1) := by decide +kernel
theorem dX8_hear_71 : decode cX8_hear 71 = .ok (.iload_n 2, 1) := by decide +kernel
theorem dX8_hear_72 : decode cX8_hear 72 = .ok (.aload_n 0, 1) := by decide +kernel
theorem dX8_hear_73 : decode cX8_hear 73 = .ok (.getfield 73, 3) := by decide +kernel
theorem dX8_hear_76 : decode cX8_hear 76 = .ok (.iconst 2, 1) := by decide +kernel
theorem dX8_hear_77 : decode cX8_hear 77 = .ok (.iaload, 1) := by decide +kernel
theorem dX8_hear_78 : decode cX8_hear 78 = .ok (.if_icmp .ge 8, 3) := by decide +kernel
theorem dX8_hear_81 : decode cX8_hear 81 = .ok (.bipush 6, 2) := by decide +kernel
theorem dX8_hear_83 : decode cX8_hear 83 = .ok (.goto 4, 3) := by decide +kernel
theorem dX8_hear_86 : decode cX8_hear 86 = .ok (.iload_n 1, 1) := by decide +kernel
theorem dX8_hear_87 : decode cX8_hear 87 = .ok (.invokevirtual 151, 3) := by decide +kernel
theorem dX8_hear_90 : decode cX8_hear 90 = .ok (.aload_n 0, 1) := by decide +kernel
theorem dX8_hear_91 : decode cX8_hear 91 = .ok (.getfield 37, 3) := by decide +kernel
theorem dX8_hear_94 : decode cX8_hear 94 = .ok (.aload_n 0, 1) := by decide +kernel
theorem dX8_hear_95 : decode cX8_hear 95 = .ok (.getfield 73, 3) := by decide +kernel
theorem dX8_hear_98 : decode cX8_hear 98 = .ok (.iconst 0, 1) := by decide +kernel
theorem dX8_hear_99 : decode cX8_hear 99 = .ok (.iaload, 1) := by decide +kernel
theorem dX8_hear_100 : decode cX8_hear 100 = .ok (.invokevirtual 155, 3) := by decide +kernel
theorem dX8_hear_103 : decode cX8_hear 103 = .ok (.aload_n 0, 1) := by decide +kernel
theorem dX8_hear_104 : decode cX8_hear 104 = .ok (.getfield 37, 3) := by decide +kernel
theorem dX8_hear_107 : decode cX8_hear 107 = .ok (.aload_n 0, 1) := by decide +kernel
theorem dX8_hear_108 : decode cX8_hear 108 = .ok (.getfield 44, 3) := by decide +kernel
theorem dX8_hear_111 : decode cX8_hear 111 = .ok (.getfield 159, 3) := by decide +kernel
theorem dX8_hear_114 : decode cX8_hear 114 = .ok (.invokevirtual 162, 3) := by decide +kernel
theorem dX8_hear_117 : decode cX8_hear 117 = .ok (.aload_n 0, 1) := by decide +kernel
theorem dX8_hear_118 : decode cX8_hear 118 = .ok (.getfield 37, 3) := by decide +kernel
theorem dX8_hear_121 : decode cX8_hear 121 = .ok (.aload_n 0, 1) := by decide +kernel
theorem dX8_hear_122 : decode cX8_hear 122 = .ok (.getfield 73, 3) := by decide +kernel
theorem dX8_hear_125 : decode cX8_hear 125 = .ok (.iconst 1, 1) := by decide +kernel
theorem dX8_hear_126 : decode cX8_hear 126 = .ok (.iaload, 1) := by decide +kernel
theorem dX8_hear_127 : decode cX8_hear 127 = .ok (.invokevirtual 165, 3) := by decide +kernel
theorem dX8_hear_130 : decode cX8_hear 130 = .ok (.aload_n 0, 1) := by decide +kernel
theorem dX8_hear_131 : decode cX8_hear 131 = .ok (.getfield 37, 3) := by decide +kernel
theorem dX8_hear_134 : decode cX8_hear 134 = .ok (.getfield 168, 3) := by decide +kernel
theorem dX8_hear_137 : decode cX8_hear 137 = .ok (.ireturn, 1) := by decide +kernel
theorem dX8_reading_0 : decode cX8_reading 0 = .ok (.iload_n 1, 1) := by decide +kernel
theorem dX8_reading_1 : decode cX8_reading 1 = .ok (.ifCond .lt 12, 3) := by decide +kernel
theorem dX8_reading_4 : decode cX8_reading 4 = .ok (.iload_n 2, 1) := by decide +kernel
theorem dX8_reading_5 : decode cX8_reading 5 = .ok (.iconst 0, 1) := by decide +kernel
theorem dX8_reading_6 : decode cX8_reading 6 = .ok (.iconst 4, 1) := by decide +kernel
theorem dX8_reading_7 : decode cX8_reading 7 = .ok (.invokestatic 77, 3) := by decide +kernel
theorem dX8_reading_10 : decode cX8_reading 10 = .ok (.ifCond .ne 5, 3) := by decide +kernel
theorem dX8_reading_13 : decode cX8_reading 13 = .ok (.iconst (-1), 1) := by decide +kernel
theorem dX8_reading_14 : decode cX8_reading 14 = .ok (.ireturn, 1) := by decide +kernel
theorem dX8_reading_15 : decode cX8_reading 15 = .ok (.aload_n 0, 1) := by decide +kernel
theorem dX8_reading_16 : decode cX8_reading 16 = .ok (.getfield 37, 3) := by decide +kernel
theorem dX8_reading_19 : decode cX8_reading 19 = .ok (.iload_n 1, 1) := by decide +kernel
theorem dX8_reading_20 : decode cX8_reading 20 = .ok (.iload_n 2, 1) := by decide +kernel
theorem dX8_reading_21 : decode cX8_reading 21 = .ok (.invokevirtual 171, 3) := by decide +kernel
theorem dX8_reading_24 : decode cX8_reading 24 = .ok (.ireturn, 1) := by decide +kernel
theorem dX8_open_0 : decode cX8_open 0 = .ok (.aload_n 0, 1) := by decide +kernel
theorem dX8_open_1 : decode cX8_open 1 = .ok (.getfield 37, 3) := by decide +kernel
theorem dX8_open_4 : decode cX8_open 4 = .ok (.getfield 174, 3) := by decide +kernel
theorem dX8_open_7 : decode cX8_open 7 = .ok (.ifCond .eq 13, 3) := by decide +kernel
theorem dX8_open_10 : decode cX8_open 10 = .ok (.aload_n 0, 1) := by decide +kernel
theorem dX8_open_11 : decode cX8_open 11 = .ok (.getfield 37, 3) := by decide +kernel
theorem dX8_open_14 : decode cX8_open 14 = .ok (.invokevirtual 178, 3) := by decide +kernel
theorem dX8_open_17 : decode cX8_open 17 = .ok (.goto 5, 3) := by decide +kernel
theorem dX8_open_20 : decode cX8_open 20 = .ok (.bipush (-2), 2) := by decide +kernel
theorem dX8_open_22 : decode cX8_open 22 = .ok (.ireturn, 1) := by decide +kernel
theorem dX8_ask_0 : decode cX8_ask 0 = .ok (.aload_n 0, 1) := by decide +kernel
theorem dX8_ask_1 : decode cX8_ask 1 = .ok (.getfield 37, 3) := by decide +kernel
theorem dX8_ask_4 : decode cX8_ask 4 = .ok (.getfield 174, 3) := by decide +kernel
theorem dX8_ask_7 : decode cX8_ask 7 = .ok (.ifCond .ne 6, 3) := by decide +kernel
theorem dX8_ask_10 : decode cX8_ask 10 = .ok (.bipush (-2), 2) := by decide +kernel
theorem dX8_ask_12 : decode cX8_ask 12 = .ok (.ireturn, 1) := by decide +kernel
theorem dX8_ask_13 : decode cX8_ask 13 = .ok (.aload_n 0, 1) := by decide +kernel
theorem dX8_ask_14 : decode cX8_ask 14 = .ok (.getfield 37, 3) := by decide +kernel
theorem dX8_ask_17 : decode cX8_ask 17 = .ok (.invokevirtual 178, 3) := by decide +kernel
theorem dX8_ask_20 : decode cX8_ask 20 = .ok (.iconst 2, 1) := by decide +kernel
theorem dX8_ask_21 : decode cX8_ask 21 = .ok (.if_icmp .ge 8, 3) := by decide +kernel
theorem dX8_ask_24 : decode cX8_ask 24 = .ok (.bipush (-4), 2) := by decide +kernel
theorem dX8_ask_26 : decode cX8_ask 26 = .ok (.goto 10, 3) := by decide +kernel
theorem dX8_ask_29 : decode cX8_ask 29 = .ok (.aload_n 0, 1) := by decide +kernel
theorem dX8_ask_30 : decode cX8_ask 30 = .ok (.getfield 37, 3) := by decide +kernel
theorem dX8_ask_33 : decode cX8_ask 33 = .ok (.invokevirtual 181, 3) := by decide +kernel
theorem dX8_ask_36 : decode cX8_ask 36 = .ok (.ireturn, 1) := by decide +kernel
theorem dX8_answer_0 : decode cX8_answer 0 = .ok (.iload_n 1, 1) := by decide +kernel
theorem dX8_answer_1 : decode cX8_answer 1 = .ok (.iconst 2, 1) := by decide +kernel
theorem dX8_answer_2 : decode cX8_answer 2 = .ok (.if_icmp .ne 7, 3) := by decide +kernel
theorem dX8_answer_5 : decode cX8_answer 5 = .ok (.iconst (-1), 1) := by decide +kernel
theorem dX8_answer_6 : decode cX8_answer 6 = .ok (.goto 4, 3) := by decide +kernel
theorem dX8_answer_9 : decode cX8_answer 9 = .ok (.iconst 0, 1) := by decide +kernel
theorem dX8_answer_10 : decode cX8_answer 10 = .ok (.istore_n 3, 1) := by decide +kernel
theorem dX8_answer_11 : decode cX8_answer 11 = .ok (.iload_n 1, 1) := by decide +kernel
theorem dX8_answer_12 : decode cX8_answer 12 = .ok (.iconst 0, 1) := by decide +kernel
theorem dX8_answer_13 : decode cX8_answer 13 = .ok (.iconst 2, 1) := by decide +kernel
theorem dX8_answer_14 : decode cX8_answer 14 = .ok (.invokestatic 77, 3) := by decide +kernel
theorem dX8_answer_17 : decode cX8_answer 17 = .ok (.ifCond .eq 20, 3) := by decide +kernel
theorem dX8_answer_20 : decode cX8_answer 20 = .ok (.iload_n 2, 1) := by decide +kernel
theorem dX8_answer_21 : decode cX8_answer 21 = .ok (.iload_n 3, 1) := by decide +kernel
theorem dX8_answer_22 : decode cX8_answer 22 = .ok (.aload_n 0, 1) := by decide +kernel
theorem dX8_answer_23 : decode cX8_answer 23 = .ok (.getfield 28, 3) := by decide +kernel
theorem dX8_answer_26 : decode cX8_answer 26 = .ok (.getfield 184, 3) := by decide +kernel
theorem dX8_answer_29 : decode cX8_answer 29 = .ok (.iconst 1, 1) := by decide +kernel
theorem dX8_answer_30 : decode cX8_answer 30 = .ok (.isub, 1) := by decide +kernel
theorem dX8_answer_31 : decode cX8_answer 31 = .ok (.invokestatic 77, 3) := by decide +kernel
theorem dX8_answer_34 : decode cX8_answer 34 = .ok (.ifCond .ne 5, 3) := by decide +kernel
theorem dX8_answer_37 : decode cX8_answer 37 = .ok (.iconst (-1), 1) := by decide +kernel
theorem dX8_answer_38 : decode cX8_answer 38 = .ok (.ireturn, 1) := by decide +kernel
theorem dX8_answer_39 : decode cX8_answer 39 = .ok (.aload_n 0, 1) := by decide +kernel
theorem dX8_answer_40 : decode cX8_answer 40 = .ok (.getfield 37, 3) := by decide +kernel
theorem dX8_answer_43 : decode cX8_answer 43 = .ok (.iload_n 1, 1) := by decide +kernel
theorem dX8_answer_44 : decode cX8_answer 44 = .ok (.iload_n 2, 1) := by decide +kernel
theorem dX8_answer_45 : decode cX8_answer 45 = .ok (.invokevirtual 185, 3) := by decide +kernel
theorem dX8_answer_48 : decode cX8_answer 48 = .ok (.ireturn, 1) := by decide +kernel
theorem dX8_done_0 : decode cX8_done 0 = .ok (.aload_n 0, 1) := by decide +kernel
theorem dX8_done_1 : decode cX8_done 1 = .ok (.getfield 37, 3) := by decide +kernel
theorem dX8_done_4 : decode cX8_done 4 = .ok (.invokevirtual 188, 3) := by decide +kernel
theorem dX8_done_7 : decode cX8_done 7 = .ok (.istore_n 1, 1) := by decide +kernel
theorem dX8_done_8 : decode cX8_done 8 = .ok (.iload_n 1, 1) := by decide +kernel
theorem dX8_done_9 : decode cX8_done 9 = .ok (.ifCond .ge 6, 3) := by decide +kernel
theorem dX8_done_12 : decode cX8_done 12 = .ok (.bipush (-2), 2) := by decide +kernel
theorem dX8_done_14 : decode cX8_done 14 = .ok (.ireturn, 1) := by decide +kernel
theorem dX8_done_15 : decode cX8_done 15 = .ok (.aload_n 0, 1) := by decide +kernel
theorem dX8_done_16 : decode cX8_done 16 = .ok (.getfield 37, 3) := by decide +kernel
theorem dX8_done_19 : decode cX8_done 19 = .ok (.getfield 191, 3) := by decide +kernel
theorem dX8_done_22 : decode cX8_done 22 = .ok (.iload_n 1, 1) := by decide +kernel
theorem dX8_done_23 : decode cX8_done 23 = .ok (.iaload, 1) := by decide +kernel
theorem dX8_done_24 : decode cX8_done 24 = .ok (.istore_n 2, 1) := by decide +kernel
theorem dX8_done_25 : decode cX8_done 25 = .ok (.aload_n 0, 1) := by decide +kernel
theorem dX8_done_26 : decode cX8_done 26 = .ok (.aload_n 0, 1) := by decide +kernel
theorem dX8_done_27 : decode cX8_done 27 = .ok (.getfield 37, 3) := by decide +kernel
theorem dX8_done_30 : decode cX8_done 30 = .ok (.getfield 194, 3) := by decide +kernel
theorem dX8_done_33 : decode cX8_done 33 = .ok (.iload_n 2, 1) := by decide +kernel
theorem dX8_done_34 : decode cX8_done 34 = .ok (.invokevirtual 197, 3) := by decide +kernel
theorem dX8_done_37 : decode cX8_done 37 = .ok (.ifCond .ne 6, 3) := by decide +kernel
theorem dX8_done_40 : decode cX8_done 40 = .ok (.bipush (-2), 2) := by decide +kernel
theorem dX8_done_42 : decode cX8_done 42 = .ok (.ireturn, 1) := by decide +kernel
theorem dX8_done_43 : decode cX8_done 43 = .ok (.aload_n 0, 1) := by decide +kernel
theorem dX8_done_44 : decode cX8_done 44 = .ok (.getfield 44, 3) := by decide +kernel
theorem dX8_done_47 : decode cX8_done 47 = .ok (.getfield 201, 3) := by decide +kernel
theorem dX8_done_50 : decode cX8_done 50 = .ok (.sipush 200, 3) := by decide +kernel
theorem dX8_done_53 : decode cX8_done 53 = .ok (.if_icmp .lt 6, 3) := by decide +kernel
theorem dX8_done_56 : decode cX8_done 56 = .ok (.bipush (-3), 2) := by decide +kernel
theorem dX8_done_58 : decode cX8_done 58 = .ok (.ireturn, 1) := by decide +kernel
theorem dX8_done_59 : decode cX8_done 59 = .ok (.aload_n 0, 1) := by decide +kernel
theorem dX8_done_60 : decode cX8_done 60 = .ok (.getfield 28, 3) := by decide +kernel
theorem dX8_done_63 : decode cX8_done 63 = .ok (.aload_n 0, 1) := by decide +kernel
theorem dX8_done_64 : decode cX8_done 64 = .ok (.getfield 37, 3) := by decide +kernel
theorem dX8_done_67 : decode cX8_done 67 = .ok (.getfield 202, 3) := by decide +kernel
theorem dX8_done_70 : decode cX8_done 70 = .ok (.iload_n 1, 1) := by decide +kernel
theorem dX8_done_71 : decode cX8_done 71 = .ok (.iaload, 1) := by decide +kernel
theorem dX8_done_72 : decode cX8_done 72 = .ok (.invokevirtual 205, 3) := by decide +kernel
theorem dX8_done_75 : decode cX8_done 75 = .ok (.istore_n 3, 1) := by decide +kernel
theorem dX8_done_76 : decode cX8_done 76 = .ok (.aload_n 0, 1) := by decide +kernel
theorem dX8_done_77 : decode cX8_done 77 = .ok (.getfield 21, 3) := by decide +kernel
theorem dX8_done_80 : decode cX8_done 80 = .ok (.aload_n 0, 1) := by decide +kernel
theorem dX8_done_81 : decode cX8_done 81 = .ok (.getfield 10, 3) := by decide +kernel
theorem dX8_done_84 : decode cX8_done 84 = .ok (.getfield 93, 3) := by decide +kernel
theorem dX8_done_87 : decode cX8_done 87 = .ok (.aload_n 0, 1) := by decide +kernel
theorem dX8_done_88 : decode cX8_done 88 = .ok (.getfield 10, 3) := by decide +kernel
theorem dX8_done_91 : decode cX8_done 91 = .ok (.getfield 93, 3) := by decide +kernel
theorem dX8_done_94 : decode cX8_done 94 = .ok (.iload_n 2, 1) := by decide +kernel
theorem dX8_done_95 : decode cX8_done 95 = .ok (.iload_n 3, 1) := by decide +kernel
theorem dX8_done_96 : decode cX8_done 96 = .ok (.invokestatic 209, 3) := by decide +kernel
theorem dX8_done_99 : decode cX8_done 99 = .ok (.invokevirtual 212, 3) := by decide +kernel
theorem dX8_done_102 : decode cX8_done 102 = .ok (.ifCond .eq 6, 3) := by decide +kernel
theorem dX8_done_105 : decode cX8_done 105 = .ok (.bipush (-5), 2) := by decide +kernel
theorem dX8_done_107 : decode cX8_done 107 = .ok (.ireturn, 1) := by decide +kernel
theorem dX8_done_108 : decode cX8_done 108 = .ok (.aload_n 0, 1) := by decide +kernel
theorem dX8_done_109 : decode cX8_done 109 = .ok (.iload_n 2, 1) := by decide +kernel
theorem dX8_done_110 : decode cX8_done 110 = .ok (.iload_n 3, 1) := by decide +kernel
theorem dX8_done_111 : decode cX8_done 111 = .ok (.invokevirtual 215, 3) := by decide +kernel
theorem dX8_done_114 : decode cX8_done 114 = .ok (.istore 4, 2) := by decide +kernel
theorem dX8_done_116 : decode cX8_done 116 = .ok (.aload_n 0, 1) := by decide +kernel
theorem dX8_done_117 : decode cX8_done 117 = .ok (.getfield 37, 3) := by decide +kernel
theorem dX8_done_120 : decode cX8_done 120 = .ok (.invokevirtual 218, 3) := by decide +kernel
theorem dX8_done_123 : decode cX8_done 123 = .ok (.iload 4, 2) := by decide +kernel
theorem dX8_done_125 : decode cX8_done 125 = .ok (.ireturn, 1) := by decide +kernel
theorem dX8_undo_0 : decode cX8_undo 0 = .ok (.aload_n 0, 1) := by decide +kernel
theorem dX8_undo_1 : decode cX8_undo 1 = .ok (.getfield 44, 3) := by decide +kernel
theorem dX8_undo_4 : decode cX8_undo 4 = .ok (.invokevirtual 221, 3) := by decide +kernel
theorem dX8_undo_7 : decode cX8_undo 7 = .ok (.istore_n 1, 1) := by decide +kernel
theorem dX8_undo_8 : decode cX8_undo 8 = .ok (.iload_n 1, 1) := by decide +kernel
theorem dX8_undo_9 : decode cX8_undo 9 = .ok (.ifCond .ge 8, 3) := by decide +kernel
theorem dX8_undo_12 : decode cX8_undo 12 = .ok (.bipush (-2), 2) := by decide +kernel
theorem dX8_undo_14 : decode cX8_undo 14 = .ok (.goto 8, 3) := by decide +kernel
theorem dX8_undo_17 : decode cX8_undo 17 = .ok (.aload_n 0, 1) := by decide +kernel
theorem dX8_undo_18 : decode cX8_undo 18 = .ok (.iload_n 1, 1) := by decide +kernel
theorem dX8_undo_19 : decode cX8_undo 19 = .ok (.invokevirtual 224, 3) := by decide +kernel
theorem dX8_undo_22 : decode cX8_undo 22 = .ok (.ireturn, 1) := by decide +kernel
theorem dX8_when_0 : decode cX8_when 0 = .ok (.aload_n 0, 1) := by decide +kernel
theorem dX8_when_1 : decode cX8_when 1 = .ok (.getfield 10, 3) := by decide +kernel
theorem dX8_when_4 : decode cX8_when 4 = .ok (.iload_n 1, 1) := by decide +kernel
theorem dX8_when_5 : decode cX8_when 5 = .ok (.iload_n 2, 1) := by decide +kernel
theorem dX8_when_6 : decode cX8_when 6 = .ok (.invokevirtual 227, 3) := by decide +kernel
theorem dX8_when_9 : decode cX8_when 9 = .ok (.ifCond .eq 16, 3) := by decide +kernel
theorem dX8_when_12 : decode cX8_when 12 = .ok (.aload_n 0, 1) := by decide +kernel
theorem dX8_when_13 : decode cX8_when 13 = .ok (.getfield 10, 3) := by decide +kernel
theorem dX8_when_16 : decode cX8_when 16 = .ok (.iload_n 3, 1) := by decide +kernel
theorem dX8_when_17 : decode cX8_when 17 = .ok (.iload 4, 2) := by decide +kernel
theorem dX8_when_19 : decode cX8_when 19 = .ok (.invokevirtual 227, 3) := by decide +kernel
theorem dX8_when_22 : decode cX8_when 22 = .ok (.ifCond .ne 5, 3) := by decide +kernel
theorem dX8_when_25 : decode cX8_when 25 = .ok (.iconst (-1), 1) := by decide +kernel
theorem dX8_when_26 : decode cX8_when 26 = .ok (.ireturn, 1) := by decide +kernel
theorem dX8_when_27 : decode cX8_when 27 = .ok (.aload_n 0, 1) := by decide +kernel
theorem dX8_when_28 : decode cX8_when 28 = .ok (.getfield 53, 3) := by decide +kernel
theorem dX8_when_31 : decode cX8_when 31 = .ok (.iload_n 1, 1) := by decide +kernel
theorem dX8_when_32 : decode cX8_when 32 = .ok (.iload_n 2, 1) := by decide +kernel
theorem dX8_when_33 : decode cX8_when 33 = .ok (.iload_n 3, 1) := by decide +kernel
theorem dX8_when_34 : decode cX8_when 34 = .ok (.iload 4, 2) := by decide +kernel
theorem dX8_when_36 : decode cX8_when 36 = .ok (.invokevirtual 230, 3) := by decide +kernel
theorem dX8_when_39 : decode cX8_when 39 = .ok (.ireturn, 1) := by decide +kernel
theorem dX8_at_0 : decode cX8_at 0 = .ok (.iload_n 1, 1) := by decide +kernel
theorem dX8_at_1 : decode cX8_at 1 = .ok (.iconst 0, 1) := by decide +kernel
theorem dX8_at_2 : decode cX8_at 2 = .ok (.bipush 23, 2) := by decide +kernel
theorem dX8_at_4 : decode cX8_at 4 = .ok (.invokestatic 77, 3) := by decide +kernel
theorem dX8_at_7 : decode cX8_at 7 = .ok (.ifCond .eq 15, 3) := by decide +kernel
theorem dX8_at_10 : decode cX8_at 10 = .ok (.aload_n 0, 1) := by decide +kernel
theorem dX8_at_11 : decode cX8_at 11 = .ok (.getfield 10, 3) := by decide +kernel
theorem dX8_at_14 : decode cX8_at 14 = .ok (.iload_n 2, 1) := by decide +kernel
theorem dX8_at_15 : decode cX8_at 15 = .ok (.iload_n 3, 1) := by decide +kernel
theorem dX8_at_16 : decode cX8_at 16 = .ok (.invokevirtual 227, 3) := by decide +kernel
theorem dX8_at_19 : decode cX8_at 19 = .ok (.ifCond .ne 5, 3) := by decide +kernel
theorem dX8_at_22 : decode cX8_at 22 = .ok (.iconst (-1), 1) := by decide +kernel
theorem dX8_at_23 : decode cX8_at 23 = .ok (.ireturn, 1) := by decide +kernel
theorem dX8_at_24 : decode cX8_at 24 = .ok (.aload_n 0, 1) := by decide +kernel
theorem dX8_at_25 : decode cX8_at 25 = .ok (.getfield 53, 3) := by decide +kernel
theorem dX8_at_28 : decode cX8_at 28 = .ok (.iconst (-1), 1) := by decide +kernel
theorem dX8_at_29 : decode cX8_at 29 = .ok (.iload_n 1, 1) := by decide +kernel
theorem dX8_at_30 : decode cX8_at 30 = .ok (.iload_n 2, 1) := by decide +kernel
theorem dX8_at_31 : decode cX8_at 31 = .ok (.iload_n 3, 1) := by decide +kernel
theorem dX8_at_32 : decode cX8_at 32 = .ok (.invokevirtual 230, 3) := by decide +kernel
theorem dX8_at_35 : decode cX8_at 35 = .ok (.ireturn, 1) := by decide +kernel
theorem dX8_ticks_0 : decode cX8_ticks 0 = .ok (.iload_n 1, 1) := by decide +kernel
theorem dX8_ticks_1 : decode cX8_ticks 1 = .ok (.iconst 1, 1) := by decide +kernel
theorem dX8_ticks_2 : decode cX8_ticks 2 = .ok (.bipush 100, 2) := by decide +kernel
theorem dX8_ticks_4 : decode cX8_ticks 4 = .ok (.invokestatic 77, 3) := by decide +kernel
theorem dX8_ticks_7 : decode cX8_ticks 7 = .ok (.ifCond .ne 5, 3) := by decide +kernel
theorem dX8_ticks_10 : decode cX8_ticks 10 = .ok (.iconst (-1), 1) := by decide +kernel
theorem dX8_ticks_11 : decode cX8_ticks 11 = .ok (.ireturn, 1) := by decide +kernel
theorem dX8_ticks_12 : decode cX8_ticks 12 = .ok (.iconst 0, 1) := by decide +kernel
theorem dX8_ticks_13 : decode cX8_ticks 13 = .ok (.istore_n 2, 1) := by decide +kernel
theorem dX8_ticks_14 : decode cX8_ticks 14 = .ok (.iload_n 2, 1) := by decide +kernel
theorem dX8_ticks_15 : decode cX8_ticks 15 = .ok (.iload_n 1, 1) := by decide +kernel
theorem dX8_ticks_16 : decode cX8_ticks 16 = .ok (.if_icmp .ge 30, 3) := by decide +kernel
theorem dX8_ticks_19 : decode cX8_ticks 19 = .ok (.aload_n 0, 1) := by decide +kernel
theorem dX8_ticks_20 : decode cX8_ticks 20 = .ok (.getfield 10, 3) := by decide +kernel
theorem dX8_ticks_23 : decode cX8_ticks 23 = .ok (.invokevirtual 233, 3) := by decide +kernel
theorem dX8_ticks_26 : decode cX8_ticks 26 = .ok (.aload_n 0, 1) := by decide +kernel
theorem dX8_ticks_27 : decode cX8_ticks 27 = .ok (.getfield 53, 3) := by decide +kernel
theorem dX8_ticks_30 : decode cX8_ticks 30 = .ok (.aload_n 0, 1) := by decide +kernel
theorem dX8_ticks_31 : decode cX8_ticks 31 = .ok (.getfield 10, 3) := by decide +kernel
theorem dX8_ticks_34 : decode cX8_ticks 34 = .ok (.invokevirtual 236, 3) := by decide +kernel
theorem dX8_ticks_37 : decode cX8_ticks 37 = .ok (.invokevirtual 239, 3) := by decide +kernel
theorem dX8_ticks_40 : decode cX8_ticks 40 = .ok (.iinc 2 1, 3) := by decide +kernel
theorem dX8_ticks_43 : decode cX8_ticks 43 = .ok (.goto (-29), 3) := by decide +kernel
theorem dX8_ticks_46 : decode cX8_ticks 46 = .ok (.aload_n 0, 1) := by decide +kernel
theorem dX8_ticks_47 : decode cX8_ticks 47 = .ok (.getfield 10, 3) := by decide +kernel
theorem dX8_ticks_50 : decode cX8_ticks 50 = .ok (.getfield 242, 3) := by decide +kernel
theorem dX8_ticks_53 : decode cX8_ticks 53 = .ok (.ireturn, 1) := by decide +kernel
theorem dX8_quarrel_0 : decode cX8_quarrel 0 = .ok (.aload_n 0, 1) := by decide +kernel
theorem dX8_quarrel_1 : decode cX8_quarrel 1 = .ok (.getfield 53, 3) := by decide +kernel
theorem dX8_quarrel_4 : decode cX8_quarrel 4 = .ok (.invokevirtual 245, 3) := by decide +kernel
theorem dX8_quarrel_7 : decode cX8_quarrel 7 = .ok (.ireturn, 1) := by decide +kernel
theorem dX8_wake_0 : decode cX8_wake 0 = .ok (.aload_n 0, 1) := by decide +kernel
theorem dX8_wake_1 : decode cX8_wake 1 = .ok (.getfield 53, 3) := by decide +kernel
theorem dX8_wake_4 : decode cX8_wake 4 = .ok (.invokevirtual 248, 3) := by decide +kernel
theorem dX8_wake_7 : decode cX8_wake 7 = .ok (.ireturn, 1) := by decide +kernel
theorem dX8_show_0 : decode cX8_show 0 = .ok (.aload_n 0, 1) := by decide +kernel
theorem dX8_show_1 : decode cX8_show 1 = .ok (.getfield 62, 3) := by decide +kernel
theorem dX8_show_4 : decode cX8_show 4 = .ok (.invokevirtual 251, 3) := by decide +kernel
theorem dX8_show_7 : decode cX8_show 7 = .ok (.ireturn, 1) := by decide +kernel
theorem dX8_habits_0 : decode cX8_habits 0 = .ok (.iload_n 1, 1) := by decide +kernel
theorem dX8_habits_1 : decode cX8_habits 1 = .ok (.iconst 1, 1) := by decide +kernel
theorem dX8_habits_2 : decode cX8_habits 2 = .ok (.bipush 14, 2) := by decide +kernel
theorem dX8_habits_4 : decode cX8_habits 4 = .ok (.invokestatic 77, 3) := by decide +kernel
theorem dX8_habits_7 : decode cX8_habits 7 = .ok (.ifCond .eq 17, 3) := by decide +kernel
theorem dX8_habits_10 : decode cX8_habits 10 = .ok (.iload_n 2, 1) := by decide +kernel
theorem dX8_habits_11 : decode cX8_habits 11 = .ok (.iconst 1, 1) := by decide +kernel
theorem dX8_habits_12 : decode cX8_habits 12 = .ok (.iload_n 1, 1) := by decide +kernel
theorem dX8_habits_13 : decode cX8_habits 13 = .ok (.invokestatic 77, 3) := by decide +kernel
theorem dX8_habits_16 : decode cX8_habits 16 = .ok (.ifCond .eq 8, 3) := by decide +kernel
theorem dX8_habits_19 : decode cX8_habits 19 = .ok (.iload_n 3, 1) := by decide +kernel
theorem dX8_habits_20 : decode cX8_habits 20 = .ok (.iconst (-1), 1) := by decide +kernel
theorem dX8_habits_21 : decode cX8_habits 21 = .ok (.if_icmp .ge 5, 3) := by decide +kernel
theorem dX8_habits_24 : decode cX8_habits 24 = .ok (.iconst (-1), 1) := by decide +kernel
theorem dX8_habits_25 : decode cX8_habits 25 = .ok (.ireturn, 1) := by decide +kernel
theorem dX8_habits_26 : decode cX8_habits 26 = .ok (.aload_n 0, 1) := by decide +kernel
theorem dX8_habits_27 : decode cX8_habits 27 = .ok (.getfield 69, 3) := by decide +kernel
theorem dX8_habits_30 : decode cX8_habits 30 = .ok (.aload_n 0, 1) := by decide +kernel
theorem dX8_habits_31 : decode cX8_habits 31 = .ok (.getfield 10, 3) := by decide +kernel
theorem dX8_habits_34 : decode cX8_habits 34 = .ok (.invokevirtual 254, 3) := by decide +kernel
theorem dX8_habits_37 : decode cX8_habits 37 = .ok (.iload_n 1, 1) := by decide +kernel
theorem dX8_habits_38 : decode cX8_habits 38 = .ok (.invokevirtual 257, 3) := by decide +kernel
theorem dX8_habits_41 : decode cX8_habits 41 = .ok (.iload_n 3, 1) := by decide +kernel
theorem dX8_habits_42 : decode cX8_habits 42 = .ok (.iconst (-1), 1) := by decide +kernel
theorem dX8_habits_43 : decode cX8_habits 43 = .ok (.if_icmp .ne 14, 3) := by decide +kernel
theorem dX8_habits_46 : decode cX8_habits 46 = .ok (.aload_n 0, 1) := by decide +kernel
theorem dX8_habits_47 : decode cX8_habits 47 = .ok (.getfield 69, 3) := by decide +kernel
theorem dX8_habits_50 : decode cX8_habits 50 = .ok (.iload_n 2, 1) := by decide +kernel
theorem dX8_habits_51 : decode cX8_habits 51 = .ok (.invokevirtual 260, 3) := by decide +kernel
theorem dX8_habits_54 : decode cX8_habits 54 = .ok (.goto 12, 3) := by decide +kernel
theorem dX8_habits_57 : decode cX8_habits 57 = .ok (.aload_n 0, 1) := by decide +kernel
theorem dX8_habits_58 : decode cX8_habits 58 = .ok (.getfield 69, 3) := by decide +kernel
theorem dX8_habits_61 : decode cX8_habits 61 = .ok (.iload_n 2, 1) := by decide +kernel
theorem dX8_habits_62 : decode cX8_habits 62 = .ok (.iload_n 3, 1) := by decide +kernel
theorem dX8_habits_63 : decode cX8_habits 63 = .ok (.invokevirtual 263, 3) := by decide +kernel
theorem dX8_habits_66 : decode cX8_habits 66 = .ok (.ireturn, 1) := by decide +kernel
theorem dX8_keepHabit_0 : decode cX8_keepHabit 0 = .ok (.iload_n 1, 1) := by decide +kernel
theorem dX8_keepHabit_1 : decode cX8_keepHabit 1 = .ok (.ifCond .ge 5, 3) := by decide +kernel
theorem dX8_keepHabit_4 : decode cX8_keepHabit 4 = .ok (.iconst (-1), 1) := by decide +kernel
theorem dX8_keepHabit_5 : decode cX8_keepHabit 5 = .ok (.ireturn, 1) := by decide +kernel
theorem dX8_keepHabit_6 : decode cX8_keepHabit 6 = .ok (.iload_n 1, 1) := by decide +kernel
theorem dX8_keepHabit_7 : decode cX8_keepHabit 7 = .ok (.bipush 100, 2) := by decide +kernel
theorem dX8_keepHabit_9 : decode cX8_keepHabit 9 = .ok (.idiv, 1) := by decide +kernel
theorem dX8_keepHabit_10 : decode cX8_keepHabit 10 = .ok (.istore_n 2, 1) := by decide +kernel
theorem dX8_keepHabit_11 : decode cX8_keepHabit 11 = .ok (.iload_n 1, 1) := by decide +kernel
theorem dX8_keepHabit_12 : decode cX8_keepHabit 12 = .ok (.bipush 10, 2) := by decide +kernel
theorem dX8_keepHabit_14 : decode cX8_keepHabit 14 = .ok (.idiv, 1) := by decide +kernel
theorem dX8_keepHabit_15 : decode cX8_keepHabit 15 = .ok (.bipush 10, 2) := by decide +kernel
theorem dX8_keepHabit_17 : decode cX8_keepHabit 17 = .ok (.irem, 1) := by decide +kernel
theorem dX8_keepHabit_18 : decode cX8_keepHabit 18 = .ok (.istore_n 3, 1) := by decide +kernel
theorem dX8_keepHabit_19 : decode cX8_keepHabit 19 = .ok (.iload_n 1, 1) := by decide +kernel
theorem dX8_keepHabit_20 : decode cX8_keepHabit 20 = .ok (.bipush 10, 2) := by decide +kernel
theorem dX8_keepHabit_22 : decode cX8_keepHabit 22 = .ok (.irem, 1) := by decide +kernel
theorem dX8_keepHabit_23 : decode cX8_keepHabit 23 = .ok (.istore 4, 2) := by decide +kernel
theorem dX8_keepHabit_25 : decode cX8_keepHabit 25 = .ok (.iload_n 2, 1) := by decide +kernel
theorem dX8_keepHabit_26 : decode cX8_keepHabit 26 = .ok (.iconst 0, 1) := by decide +kernel
theorem dX8_keepHabit_27 : decode cX8_keepHabit 27 = .ok (.bipush 23, 2) := by decide +kernel
theorem dX8_keepHabit_29 : decode cX8_keepHabit 29 = .ok (.invokestatic 77, 3) := by decide +kernel
theorem dX8_keepHabit_32 : decode cX8_keepHabit 32 = .ok (.ifCond .eq 16, 3) := by decide +kernel
theorem dX8_keepHabit_35 : decode cX8_keepHabit 35 = .ok (.aload_n 0, 1) := by decide +kernel
theorem dX8_keepHabit_36 : decode cX8_keepHabit 36 = .ok (.getfield 10, 3) := by decide +kernel
theorem dX8_keepHabit_39 : decode cX8_keepHabit 39 = .ok (.iload_n 3, 1) := by decide +kernel
theorem dX8_keepHabit_40 : decode cX8_keepHabit 40 = .ok (.iload 4, 2) := by decide +kernel
theorem dX8_keepHabit_42 : decode cX8_keepHabit 42 = .ok (.invokevirtual 227, 3) := by decide +kernel
theorem dX8_keepHabit_45 : decode cX8_keepHabit 45 = .ok (.ifCond .ne 5, 3) := by decide +kernel
theorem dX8_keepHabit_48 : decode cX8_keepHabit 48 = .ok (.iconst (-1), 1) := by decide +kernel
theorem dX8_keepHabit_49 : decode cX8_keepHabit 49 = .ok (.ireturn, 1) := by decide +kernel
theorem dX8_keepHabit_50 : decode cX8_keepHabit 50 = .ok (.aload_n 0, 1) := by decide +kernel
theorem dX8_keepHabit_51 : decode cX8_keepHabit 51 = .ok (.getfield 53, 3) := by decide +kernel
theorem dX8_keepHabit_54 : decode cX8_keepHabit 54 = .ok (.iconst (-1), 1) := by decide +kernel
theorem dX8_keepHabit_55 : decode cX8_keepHabit 55 = .ok (.iload_n 2, 1) := by decide +kernel
theorem dX8_keepHabit_56 : decode cX8_keepHabit 56 = .ok (.iload_n 3, 1) := by decide +kernel
theorem dX8_keepHabit_57 : decode cX8_keepHabit 57 = .ok (.iload 4, 2) := by decide +kernel
theorem dX8_keepHabit_59 : decode cX8_keepHabit 59 = .ok (.invokevirtual 230, 3) := by decide +kernel
theorem dX8_keepHabit_62 : decode cX8_keepHabit 62 = .ok (.ireturn, 1) := by decide +kernel
theorem dX8_forget_0 : decode cX8_forget 0 = .ok (.iload_n 1, 1) := by decide +kernel
theorem dX8_forget_1 : decode cX8_forget 1 = .ok (.iconst 0, 1) := by decide +kernel
theorem dX8_forget_2 : decode cX8_forget 2 = .ok (.iconst 5, 1) := by decide +kernel
theorem dX8_forget_3 : decode cX8_forget 3 = .ok (.invokestatic 77, 3) := by decide +kernel
theorem dX8_forget_6 : decode cX8_forget 6 = .ok (.ifCond .eq 14, 3) := by decide +kernel
theorem dX8_forget_9 : decode cX8_forget 9 = .ok (.aload_n 0, 1) := by decide +kernel
theorem dX8_forget_10 : decode cX8_forget 10 = .ok (.getfield 69, 3) := by decide +kernel
theorem dX8_forget_13 : decode cX8_forget 13 = .ok (.iload_n 1, 1) := by decide +kernel
theorem dX8_forget_14 : decode cX8_forget 14 = .ok (.invokevirtual 266, 3) := by decide +kernel
theorem dX8_forget_17 : decode cX8_forget 17 = .ok (.goto 4, 3) := by decide +kernel
theorem dX8_forget_20 : decode cX8_forget 20 = .ok (.iconst (-1), 1) := by decide +kernel
theorem dX8_forget_21 : decode cX8_forget 21 = .ok (.ireturn, 1) := by decide +kernel
theorem dX8_cost_0 : decode cX8_cost 0 = .ok (.iload_n 1, 1) := by decide +kernel
theorem dX8_cost_1 : decode cX8_cost 1 = .ok (.iconst (-1), 1) := by decide +kernel
theorem dX8_cost_2 : decode cX8_cost 2 = .ok (.if_icmp .ne 11, 3) := by decide +kernel
theorem dX8_cost_5 : decode cX8_cost 5 = .ok (.aload_n 0, 1) := by decide +kernel
theorem dX8_cost_6 : decode cX8_cost 6 = .ok (.getfield 10, 3) := by decide +kernel
theorem dX8_cost_9 : decode cX8_cost 9 = .ok (.invokevirtual 269, 3) := by decide +kernel
theorem dX8_cost_12 : decode cX8_cost 12 = .ok (.ireturn, 1) := by decide +kernel
theorem dX8_cost_13 : decode cX8_cost 13 = .ok (.aload_n 0, 1) := by decide +kernel
theorem dX8_cost_14 : decode cX8_cost 14 = .ok (.getfield 10, 3) := by decide +kernel
theorem dX8_cost_17 : decode cX8_cost 17 = .ok (.iload_n 1, 1) := by decide +kernel
theorem dX8_cost_18 : decode cX8_cost 18 = .ok (.invokevirtual 89, 3) := by decide +kernel
theorem dX8_cost_21 : decode cX8_cost 21 = .ok (.ifCond .eq 15, 3) := by decide +kernel
theorem dX8_cost_24 : decode cX8_cost 24 = .ok (.aload_n 0, 1) := by decide +kernel
theorem dX8_cost_25 : decode cX8_cost 25 = .ok (.getfield 10, 3) := by decide +kernel
theorem dX8_cost_28 : decode cX8_cost 28 = .ok (.getfield 272, 3) := by decide +kernel
theorem dX8_cost_31 : decode cX8_cost 31 = .ok (.iload_n 1, 1) := by decide +kernel
theorem dX8_cost_32 : decode cX8_cost 32 = .ok (.iaload, 1) := by decide +kernel
theorem dX8_cost_33 : decode cX8_cost 33 = .ok (.goto 4, 3) := by decide +kernel
theorem dX8_cost_36 : decode cX8_cost 36 = .ok (.iconst (-1), 1) := by decide +kernel
theorem dX8_cost_37 : decode cX8_cost 37 = .ok (.ireturn, 1) := by decide +kernel
theorem dX8_why_0 : decode cX8_why 0 = .ok (.aload_n 0, 1) := by decide +kernel
theorem dX8_why_1 : decode cX8_why 1 = .ok (.getfield 10, 3) := by decide +kernel
theorem dX8_why_4 : decode cX8_why 4 = .ok (.iload_n 1, 1) := by decide +kernel
theorem dX8_why_5 : decode cX8_why 5 = .ok (.invokevirtual 89, 3) := by decide +kernel
theorem dX8_why_8 : decode cX8_why 8 = .ok (.ifCond .eq 15, 3) := by decide +kernel
theorem dX8_why_11 : decode cX8_why 11 = .ok (.aload_n 0, 1) := by decide +kernel
theorem dX8_why_12 : decode cX8_why 12 = .ok (.getfield 10, 3) := by decide +kernel
theorem dX8_why_15 : decode cX8_why 15 = .ok (.getfield 275, 3) := by decide +kernel
theorem dX8_why_18 : decode cX8_why 18 = .ok (.iload_n 1, 1) := by decide +kernel
theorem dX8_why_19 : decode cX8_why 19 = .ok (.iaload, 1) := by decide +kernel
theorem dX8_why_20 : decode cX8_why 20 = .ok (.goto 4, 3) := by decide +kernel
theorem dX8_why_23 : decode cX8_why 23 = .ok (.iconst (-1), 1) := by decide +kernel
theorem dX8_why_24 : decode cX8_why 24 = .ok (.ireturn, 1) := by decide +kernel
theorem dX8_count_0 : decode cX8_count 0 = .ok (.iload_n 1, 1) := by decide +kernel
theorem dX8_count_1 : decode cX8_count 1 = .ok (.tableswitch 135 0 9 #[55, 63, 71, 79, 87, 95, 103, 111, 119, 127], 55) := by decide +kernel
theorem dX8_count_56 : decode cX8_count 56 = .ok (.aload_n 0, 1) := by decide +kernel
theorem dX8_count_57 : decode cX8_count 57 = .ok (.getfield 10, 3) := by decide +kernel
theorem dX8_count_60 : decode cX8_count 60 = .ok (.getfield 278, 3) := by decide +kernel
theorem dX8_count_63 : decode cX8_count 63 = .ok (.ireturn, 1) := by decide +kernel
theorem dX8_count_64 : decode cX8_count 64 = .ok (.aload_n 0, 1) := by decide +kernel
theorem dX8_count_65 : decode cX8_count 65 = .ok (.getfield 28, 3) := by decide +kernel
theorem dX8_count_68 : decode cX8_count 68 = .ok (.getfield 184, 3) := by decide +kernel
theorem dX8_count_71 : decode cX8_count 71 = .ok (.ireturn, 1) := by decide +kernel
theorem dX8_count_72 : decode cX8_count 72 = .ok (.aload_n 0, 1) := by decide +kernel
theorem dX8_count_73 : decode cX8_count 73 = .ok (.getfield 21, 3) := by decide +kernel
theorem dX8_count_76 : decode cX8_count 76 = .ok (.getfield 281, 3) := by decide +kernel
theorem dX8_count_79 : decode cX8_count 79 = .ok (.ireturn, 1) := by decide +kernel
theorem dX8_count_80 : decode cX8_count 80 = .ok (.aload_n 0, 1) := by decide +kernel
theorem dX8_count_81 : decode cX8_count 81 = .ok (.getfield 21, 3) := by decide +kernel
theorem dX8_count_84 : decode cX8_count 84 = .ok (.getfield 284, 3) := by decide +kernel
theorem dX8_count_87 : decode cX8_count 87 = .ok (.ireturn, 1) := by decide +kernel
theorem dX8_count_88 : decode cX8_count 88 = .ok (.aload_n 0, 1) := by decide +kernel
theorem dX8_count_89 : decode cX8_count 89 = .ok (.getfield 53, 3) := by decide +kernel
theorem dX8_count_92 : decode cX8_count 92 = .ok (.getfield 287, 3) := by decide +kernel
theorem dX8_count_95 : decode cX8_count 95 = .ok (.ireturn, 1) := by decide +kernel
theorem dX8_count_96 : decode cX8_count 96 = .ok (.aload_n 0, 1) := by decide +kernel
theorem dX8_count_97 : decode cX8_count 97 = .ok (.getfield 53, 3) := by decide +kernel
theorem dX8_count_100 : decode cX8_count 100 = .ok (.getfield 288, 3) := by decide +kernel
theorem dX8_count_103 : decode cX8_count 103 = .ok (.ireturn, 1) := by decide +kernel
theorem dX8_count_104 : decode cX8_count 104 = .ok (.aload_n 0, 1) := by decide +kernel
theorem dX8_count_105 : decode cX8_count 105 = .ok (.getfield 44, 3) := by decide +kernel
theorem dX8_count_108 : decode cX8_count 108 = .ok (.getfield 201, 3) := by decide +kernel
theorem dX8_count_111 : decode cX8_count 111 = .ok (.ireturn, 1) := by decide +kernel
theorem dX8_count_112 : decode cX8_count 112 = .ok (.aload_n 0, 1) := by decide +kernel
theorem dX8_count_113 : decode cX8_count 113 = .ok (.getfield 69, 3) := by decide +kernel
theorem dX8_count_116 : decode cX8_count 116 = .ok (.getfield 291, 3) := by decide +kernel
theorem dX8_count_119 : decode cX8_count 119 = .ok (.ireturn, 1) := by decide +kernel
theorem dX8_count_120 : decode cX8_count 120 = .ok (.aload_n 0, 1) := by decide +kernel
theorem dX8_count_121 : decode cX8_count 121 = .ok (.getfield 10, 3) := by decide +kernel
theorem dX8_count_124 : decode cX8_count 124 = .ok (.getfield 242, 3) := by decide +kernel
theorem dX8_count_127 : decode cX8_count 127 = .ok (.ireturn, 1) := by decide +kernel
theorem dX8_count_128 : decode cX8_count 128 = .ok (.aload_n 0, 1) := by decide +kernel
theorem dX8_count_129 : decode cX8_count 129 = .ok (.getfield 69, 3) := by decide +kernel
theorem dX8_count_132 : decode cX8_count 132 = .ok (.getfield 292, 3) := by decide +kernel
theorem dX8_count_135 : decode cX8_count 135 = .ok (.ireturn, 1) := by decide +kernel
theorem dX8_count_136 : decode cX8_count 136 = .ok (.iconst (-1), 1) := by decide +kernel
theorem dX8_count_137 : decode cX8_count 137 = .ok (.ireturn, 1) := by decide +kernel
theorem dX8_mayTurnAll_0 : decode cX8_mayTurnAll 0 = .ok (.iconst 0, 1) := by decide +kernel
theorem dX8_mayTurnAll_1 : decode cX8_mayTurnAll 1 = .ok (.istore_n 3, 1) := by decide +kernel
theorem dX8_mayTurnAll_2 : decode cX8_mayTurnAll 2 = .ok (.iload_n 3, 1) := by decide +kernel
theorem dX8_mayTurnAll_3 : decode cX8_mayTurnAll 3 = .ok (.aload_n 0, 1) := by decide +kernel
theorem dX8_mayTurnAll_4 : decode cX8_mayTurnAll 4 = .ok (.getfield 10, 3) := by decide +kernel
theorem dX8_mayTurnAll_7 : decode cX8_mayTurnAll 7 = .ok (.getfield 278, 3) := by decide +kernel
theorem dX8_mayTurnAll_10 : decode cX8_mayTurnAll 10 = .ok (.if_icmp .ge 38, 3) := by decide +kernel
theorem dX8_mayTurnAll_13 : decode cX8_mayTurnAll 13 = .ok (.iload_n 2, 1) := by decide +kernel
theorem dX8_mayTurnAll_14 : decode cX8_mayTurnAll 14 = .ok (.iload_n 3, 1) := by decide +kernel
theorem dX8_mayTurnAll_15 : decode cX8_mayTurnAll 15 = .ok (.invokestatic 295, 3) := by decide +kernel
theorem dX8_mayTurnAll_18 : decode cX8_mayTurnAll 18 = .ok (.ifCond .eq 24, 3) := by decide +kernel
theorem dX8_mayTurnAll_21 : decode cX8_mayTurnAll 21 = .ok (.aload_n 0, 1) := by decide +kernel
theorem dX8_mayTurnAll_22 : decode cX8_mayTurnAll 22 = .ok (.getfield 21, 3) := by decide +kernel
theorem dX8_mayTurnAll_25 : decode cX8_mayTurnAll 25 = .ok (.iload_n 1, 1) := by decide +kernel
theorem dX8_mayTurnAll_26 : decode cX8_mayTurnAll 26 = .ok (.iload_n 3, 1) := by decide +kernel
theorem dX8_mayTurnAll_27 : decode cX8_mayTurnAll 27 = .ok (.aload_n 0, 1) := by decide +kernel
theorem dX8_mayTurnAll_28 : decode cX8_mayTurnAll 28 = .ok (.getfield 10, 3) := by decide +kernel
theorem dX8_mayTurnAll_31 : decode cX8_mayTurnAll 31 = .ok (.invokevirtual 236, 3) := by decide +kernel
theorem dX8_mayTurnAll_34 : decode cX8_mayTurnAll 34 = .ok (.invokevirtual 131, 3) := by decide +kernel
theorem dX8_mayTurnAll_37 : decode cX8_mayTurnAll 37 = .ok (.ifCond .ne 5, 3) := by decide +kernel
theorem dX8_mayTurnAll_40 : decode cX8_mayTurnAll 40 = .ok (.iconst 0, 1) := by decide +kernel
theorem dX8_mayTurnAll_41 : decode cX8_mayTurnAll 41 = .ok (.ireturn, 1) := by decide +kernel
theorem dX8_mayTurnAll_42 : decode cX8_mayTurnAll 42 = .ok (.iinc 3 1, 3) := by decide +kernel
theorem dX8_mayTurnAll_45 : decode cX8_mayTurnAll 45 = .ok (.goto (-43), 3) := by decide +kernel
theorem dX8_mayTurnAll_48 : decode cX8_mayTurnAll 48 = .ok (.iconst 1, 1) := by decide +kernel
theorem dX8_mayTurnAll_49 : decode cX8_mayTurnAll 49 = .ok (.ireturn, 1) := by decide +kernel
theorem dX8_carryOut_0 : decode cX8_carryOut 0 = .ok (.aload_n 0, 1) := by decide +kernel
theorem dX8_carryOut_1 : decode cX8_carryOut 1 = .ok (.getfield 10, 3) := by decide +kernel
theorem dX8_carryOut_4 : decode cX8_carryOut 4 = .ok (.iload_n 1, 1) := by decide +kernel
theorem dX8_carryOut_5 : decode cX8_carryOut 5 = .ok (.iload_n 2, 1) := by decide +kernel
theorem dX8_carryOut_6 : decode cX8_carryOut 6 = .ok (.invokevirtual 298, 3) := by decide +kernel
theorem dX8_carryOut_9 : decode cX8_carryOut 9 = .ok (.istore_n 3, 1) := by decide +kernel
theorem dX8_carryOut_10 : decode cX8_carryOut 10 = .ok (.aload_n 0, 1) := by decide +kernel
theorem dX8_carryOut_11 : decode cX8_carryOut 11 = .ok (.getfield 44, 3) := by decide +kernel
theorem dX8_carryOut_14 : decode cX8_carryOut 14 = .ok (.iload_n 1, 1) := by decide +kernel
theorem dX8_carryOut_15 : decode cX8_carryOut 15 = .ok (.iload_n 3, 1) := by decide +kernel
theorem dX8_carryOut_16 : decode cX8_carryOut 16 = .ok (.aload_n 0, 1) := by decide +kernel
theorem dX8_carryOut_17 : decode cX8_carryOut 17 = .ok (.getfield 10, 3) := by decide +kernel
theorem dX8_carryOut_20 : decode cX8_carryOut 20 = .ok (.getfield 93, 3) := by decide +kernel
theorem dX8_carryOut_23 : decode cX8_carryOut 23 = .ok (.invokevirtual 301, 3) := by decide +kernel
theorem dX8_carryOut_26 : decode cX8_carryOut 26 = .ok (.istore 4, 2) := by decide +kernel
theorem dX8_carryOut_28 : decode cX8_carryOut 28 = .ok (.aload_n 0, 1) := by decide +kernel
theorem dX8_carryOut_29 : decode cX8_carryOut 29 = .ok (.getfield 53, 3) := by decide +kernel
theorem dX8_carryOut_32 : decode cX8_carryOut 32 = .ok (.invokevirtual 303, 3) := by decide +kernel
theorem dX8_carryOut_35 : decode cX8_carryOut 35 = .ok (.iconst 0, 1) := by decide +kernel
theorem dX8_carryOut_36 : decode cX8_carryOut 36 = .ok (.istore 5, 2) := by decide +kernel
theorem dX8_carryOut_38 : decode cX8_carryOut 38 = .ok (.iload 5, 2) := by decide +kernel
theorem dX8_carryOut_40 : decode cX8_carryOut 40 = .ok (.bipush 10, 2) := by decide +kernel
theorem dX8_carryOut_42 : decode cX8_carryOut 42 = .ok (.if_icmp .ge 84, 3) := by decide +kernel
theorem dX8_carryOut_45 : decode cX8_carryOut 45 = .ok (.iload_n 1, 1) := by decide +kernel
theorem dX8_carryOut_46 : decode cX8_carryOut 46 = .ok (.iload 5, 2) := by decide +kernel
theorem dX8_carryOut_48 : decode cX8_carryOut 48 = .ok (.invokestatic 295, 3) := by decide +kernel
theorem dX8_carryOut_51 : decode cX8_carryOut 51 = .ok (.ifCond .eq 34, 3) := by decide +kernel
theorem dX8_carryOut_54 : decode cX8_carryOut 54 = .ok (.aload_n 0, 1) := by decide +kernel
theorem dX8_carryOut_55 : decode cX8_carryOut 55 = .ok (.getfield 69, 3) := by decide +kernel
theorem dX8_carryOut_58 : decode cX8_carryOut 58 = .ok (.aload_n 0, 1) := by decide +kernel
theorem dX8_carryOut_59 : decode cX8_carryOut 59 = .ok (.getfield 37, 3) := by decide +kernel
theorem dX8_carryOut_62 : decode cX8_carryOut 62 = .ok (.getfield 306, 3) := by decide +kernel
theorem dX8_carryOut_65 : decode cX8_carryOut 65 = .ok (.aload_n 0, 1) := by decide +kernel
theorem dX8_carryOut_66 : decode cX8_carryOut 66 = .ok (.getfield 10, 3) := by decide +kernel
theorem dX8_carryOut_69 : decode cX8_carryOut 69 = .ok (.invokevirtual 254, 3) := by decide +kernel
theorem dX8_carryOut_72 : decode cX8_carryOut 72 = .ok (.aload_n 0, 1) := by decide +kernel
theorem dX8_carryOut_73 : decode cX8_carryOut 73 = .ok (.getfield 10, 3) := by decide +kernel
theorem dX8_carryOut_76 : decode cX8_carryOut 76 = .ok (.invokevirtual 236, 3) := by decide +kernel
theorem dX8_carryOut_79 : decode cX8_carryOut 79 = .ok (.iload 5, 2) := by decide +kernel
theorem dX8_carryOut_81 : decode cX8_carryOut 81 = .ok (.iload_n 2, 1) := by decide +kernel
theorem dX8_carryOut_82 : decode cX8_carryOut 82 = .ok (.invokevirtual 309, 3) := by decide +kernel
theorem dX8_carryOut_85 : decode cX8_carryOut 85 = .ok (.iload_n 3, 1) := by decide +kernel
theorem dX8_carryOut_86 : decode cX8_carryOut 86 = .ok (.iload 5, 2) := by decide +kernel
theorem dX8_carryOut_88 : decode cX8_carryOut 88 = .ok (.invokestatic 295, 3) := by decide +kernel
theorem dX8_carryOut_91 : decode cX8_carryOut 91 = .ok (.ifCond .eq 29, 3) := by decide +kernel
theorem dX8_carryOut_94 : decode cX8_carryOut 94 = .ok (.aload_n 0, 1) := by decide +kernel
theorem dX8_carryOut_95 : decode cX8_carryOut 95 = .ok (.getfield 10, 3) := by decide +kernel
theorem dX8_carryOut_98 : decode cX8_carryOut 98 = .ok (.iload 5, 2) := by decide +kernel
theorem dX8_carryOut_100 : decode cX8_carryOut 100 = .ok (.iload_n 2, 1) := by decide +kernel
theorem dX8_carryOut_101 : decode cX8_carryOut 101 = .ok (.sipush 1000, 3) := by decide +kernel
theorem dX8_carryOut_104 : decode cX8_carryOut 104 = .ok (.iload 4, 2) := by decide +kernel
theorem dX8_carryOut_106 : decode cX8_carryOut 106 = .ok (.iadd, 1) := by decide +kernel
theorem dX8_carryOut_107 : decode cX8_carryOut 107 = .ok (.invokevirtual 312, 3) := by decide +kernel
theorem dX8_carryOut_110 : decode cX8_carryOut 110 = .ok (.aload_n 0, 1) := by decide +kernel
theorem dX8_carryOut_111 : decode cX8_carryOut 111 = .ok (.getfield 53, 3) := by decide +kernel
theorem dX8_carryOut_114 : decode cX8_carryOut 114 = .ok (.iload 5, 2) := by decide +kernel
theorem dX8_carryOut_116 : decode cX8_carryOut 116 = .ok (.iload_n 2, 1) := by decide +kernel
theorem dX8_carryOut_117 : decode cX8_carryOut 117 = .ok (.invokevirtual 316, 3) := by decide +kernel
theorem dX8_carryOut_120 : decode cX8_carryOut 120 = .ok (.iinc 5 1, 3) := by decide +kernel
theorem dX8_carryOut_123 : decode cX8_carryOut 123 = .ok (.goto (-85), 3) := by decide +kernel
theorem dX8_carryOut_126 : decode cX8_carryOut 126 = .ok (.aload_n 0, 1) := by decide +kernel
theorem dX8_carryOut_127 : decode cX8_carryOut 127 = .ok (.getfield 53, 3) := by decide +kernel
theorem dX8_carryOut_130 : decode cX8_carryOut 130 = .ok (.iload_n 3, 1) := by decide +kernel
theorem dX8_carryOut_131 : decode cX8_carryOut 131 = .ok (.invokestatic 319, 3) := by decide +kernel
theorem dX8_carryOut_134 : decode cX8_carryOut 134 = .ok (.invokevirtual 323, 3) := by decide +kernel
theorem dX8_carryOut_137 : decode cX8_carryOut 137 = .ok (.iload_n 3, 1) := by decide +kernel
theorem dX8_carryOut_138 : decode cX8_carryOut 138 = .ok (.ireturn, 1) := by decide +kernel
theorem dX8_takeBack_0 : decode cX8_takeBack 0 = .ok (.aload_n 0, 1) := by decide +kernel
theorem dX8_takeBack_1 : decode cX8_takeBack 1 = .ok (.getfield 44, 3) := by decide +kernel
theorem dX8_takeBack_4 : decode cX8_takeBack 4 = .ok (.getfield 326, 3) := by decide +kernel
theorem dX8_takeBack_7 : decode cX8_takeBack 7 = .ok (.iload_n 1, 1) := by decide +kernel
theorem dX8_takeBack_8 : decode cX8_takeBack 8 = .ok (.iconst 1, 1) := by decide +kernel
theorem dX8_takeBack_9 : decode cX8_takeBack 9 = .ok (.bastore, 1) := by decide +kernel
theorem dX8_takeBack_10 : decode cX8_takeBack 10 = .ok (.iconst 0, 1) := by decide +kernel
theorem dX8_takeBack_11 : decode cX8_takeBack 11 = .ok (.istore_n 2, 1) := by decide +kernel
theorem dX8_takeBack_12 : decode cX8_takeBack 12 = .ok (.iconst 0, 1) := by decide +kernel
theorem dX8_takeBack_13 : decode cX8_takeBack 13 = .ok (.istore_n 3, 1) := by decide +kernel
theorem dX8_takeBack_14 : decode cX8_takeBack 14 = .ok (.iload_n 3, 1) := by decide +kernel
theorem dX8_takeBack_15 : decode cX8_takeBack 15 = .ok (.aload_n 0, 1) := by decide +kernel
theorem dX8_takeBack_16 : decode cX8_takeBack 16 = .ok (.getfield 10, 3) := by decide +kernel
theorem dX8_takeBack_19 : decode cX8_takeBack 19 = .ok (.getfield 278, 3) := by decide +kernel
theorem dX8_takeBack_22 : decode cX8_takeBack 22 = .ok (.if_icmp .ge 74, 3) := by decide +kernel
theorem dX8_takeBack_25 : decode cX8_takeBack 25 = .ok (.aload_n 0, 1) := by decide +kernel
theorem dX8_takeBack_26 : decode cX8_takeBack 26 = .ok (.getfield 44, 3) := by decide +kernel
theorem dX8_takeBack_29 : decode cX8_takeBack 29 = .ok (.getfield 330, 3) := by decide +kernel
theorem dX8_takeBack_32 : decode cX8_takeBack 32 = .ok (.iload_n 1, 1) := by decide +kernel
theorem dX8_takeBack_33 : decode cX8_takeBack 33 = .ok (.iaload, 1) := by decide +kernel
theorem dX8_takeBack_34 : decode cX8_takeBack 34 = .ok (.iload_n 3, 1) := by decide +kernel
theorem dX8_takeBack_35 : decode cX8_takeBack 35 = .ok (.invokestatic 295, 3) := by decide +kernel
theorem dX8_takeBack_38 : decode cX8_takeBack 38 = .ok (.ifCond .eq 52, 3) := by decide +kernel
theorem dX8_takeBack_41 : decode cX8_takeBack 41 = .ok (.aload_n 0, 1) := by decide +kernel
theorem dX8_takeBack_42 : decode cX8_takeBack 42 = .ok (.getfield 10, 3) := by decide +kernel
theorem dX8_takeBack_45 : decode cX8_takeBack 45 = .ok (.getfield 275, 3) := by decide +kernel
theorem dX8_takeBack_48 : decode cX8_takeBack 48 = .ok (.iload_n 3, 1) := by decide +kernel
theorem dX8_takeBack_49 : decode cX8_takeBack 49 = .ok (.iaload, 1) := by decide +kernel
theorem dX8_takeBack_50 : decode cX8_takeBack 50 = .ok (.sipush 1000, 3) := by decide +kernel
theorem dX8_takeBack_53 : decode cX8_takeBack 53 = .ok (.iload_n 1, 1) := by decide +kernel
theorem dX8_takeBack_54 : decode cX8_takeBack 54 = .ok (.iadd, 1) := by decide +kernel
theorem dX8_takeBack_55 : decode cX8_takeBack 55 = .ok (.if_icmp .ne 35, 3) := by decide +kernel
theorem dX8_takeBack_58 : decode cX8_takeBack 58 = .ok (.aload_n 0, 1) := by decide +kernel
theorem dX8_takeBack_59 : decode cX8_takeBack 59 = .ok (.getfield 10, 3) := by decide +kernel
theorem dX8_takeBack_62 : decode cX8_takeBack 62 = .ok (.iload_n 3, 1) := by decide +kernel
theorem dX8_takeBack_63 : decode cX8_takeBack 63 = .ok (.aload_n 0, 1) := by decide +kernel
theorem dX8_takeBack_64 : decode cX8_takeBack 64 = .ok (.getfield 44, 3) := by decide +kernel
theorem dX8_takeBack_67 : decode cX8_takeBack 67 = .ok (.getfield 333, 3) := by decide +kernel
theorem dX8_takeBack_70 : decode cX8_takeBack 70 = .ok (.iload_n 1, 1) := by decide +kernel
theorem dX8_takeBack_71 : decode cX8_takeBack 71 = .ok (.iaload, 1) := by decide +kernel
theorem dX8_takeBack_72 : decode cX8_takeBack 72 = .ok (.iload_n 3, 1) := by decide +kernel
theorem dX8_takeBack_73 : decode cX8_takeBack 73 = .ok (.invokestatic 97, 3) := by decide +kernel
theorem dX8_takeBack_76 : decode cX8_takeBack 76 = .ok (.sipush 3000, 3) := by decide +kernel
theorem dX8_takeBack_79 : decode cX8_takeBack 79 = .ok (.iload_n 1, 1) := by decide +kernel
theorem dX8_takeBack_80 : decode cX8_takeBack 80 = .ok (.iadd, 1) := by decide +kernel
theorem dX8_takeBack_81 : decode cX8_takeBack 81 = .ok (.invokevirtual 312, 3) := by decide +kernel
theorem dX8_takeBack_84 : decode cX8_takeBack 84 = .ok (.iload_n 2, 1) := by decide +kernel
theorem dX8_takeBack_85 : decode cX8_takeBack 85 = .ok (.iconst 1, 1) := by decide +kernel
theorem dX8_takeBack_86 : decode cX8_takeBack 86 = .ok (.iload_n 3, 1) := by decide +kernel
theorem dX8_takeBack_87 : decode cX8_takeBack 87 = .ok (.ishl, 1) := by decide +kernel
theorem dX8_takeBack_88 : decode cX8_takeBack 88 = .ok (.ior, 1) := by decide +kernel
theorem dX8_takeBack_89 : decode cX8_takeBack 89 = .ok (.istore_n 2, 1) := by decide +kernel
theorem dX8_takeBack_90 : decode cX8_takeBack 90 = .ok (.iinc 3 1, 3) := by decide +kernel
theorem dX8_takeBack_93 : decode cX8_takeBack 93 = .ok (.goto (-79), 3) := by decide +kernel
theorem dX8_takeBack_96 : decode cX8_takeBack 96 = .ok (.iload_n 2, 1) := by decide +kernel
theorem dX8_takeBack_97 : decode cX8_takeBack 97 = .ok (.ireturn, 1) := by decide +kernel
theorem dX8_within_0 : decode cX8_within 0 = .ok (.iload_n 0, 1) := by decide +kernel
theorem dX8_within_1 : decode cX8_within 1 = .ok (.iload_n 1, 1) := by decide +kernel
theorem dX8_within_2 : decode cX8_within 2 = .ok (.if_icmp .lt 12, 3) := by decide +kernel
theorem dX8_within_5 : decode cX8_within 5 = .ok (.iload_n 0, 1) := by decide +kernel
theorem dX8_within_6 : decode cX8_within 6 = .ok (.iload_n 2, 1) := by decide +kernel
theorem dX8_within_7 : decode cX8_within 7 = .ok (.if_icmp .gt 7, 3) := by decide +kernel
theorem dX8_within_10 : decode cX8_within 10 = .ok (.iconst 1, 1) := by decide +kernel
theorem dX8_within_11 : decode cX8_within 11 = .ok (.goto 4, 3) := by decide +kernel
theorem dX8_within_14 : decode cX8_within 14 = .ok (.iconst 0, 1) := by decide +kernel
theorem dX8_within_15 : decode cX8_within 15 = .ok (.ireturn, 1) := by decide +kernel
theorem dX8_fitsSounds_0 : decode cX8_fitsSounds 0 = .ok (.lload_n 1, 1) := by decide +kernel
theorem dX8_fitsSounds_1 : decode cX8_fitsSounds 1 = .ok (.lconst 0, 1) := by decide +kernel
theorem dX8_fitsSounds_2 : decode cX8_fitsSounds 2 = .ok (.lcmp, 1) := by decide +kernel
theorem dX8_fitsSounds_3 : decode cX8_fitsSounds 3 = .ok (.ifCond .lt 17, 3) := by decide +kernel
theorem dX8_fitsSounds_6 : decode cX8_fitsSounds 6 = .ok (.lload_n 1, 1) := by decide +kernel
theorem dX8_fitsSounds_7 : decode cX8_fitsSounds 7 = .ok (.lconst 1, 1) := by decide +kernel
theorem dX8_fitsSounds_8 : decode cX8_fitsSounds 8 = .ok (.iconst 4, 1) := by decide +kernel
theorem dX8_fitsSounds_9 : decode cX8_fitsSounds 9 = .ok (.iload_n 0, 1) := by decide +kernel
theorem dX8_fitsSounds_10 : decode cX8_fitsSounds 10 = .ok (.imul, 1) := by decide +kernel
theorem dX8_fitsSounds_11 : decode cX8_fitsSounds 11 = .ok (.lshl, 1) := by decide +kernel
theorem dX8_fitsSounds_12 : decode cX8_fitsSounds 12 = .ok (.lcmp, 1) := by decide +kernel
theorem dX8_fitsSounds_13 : decode cX8_fitsSounds 13 = .ok (.ifCond .ge 7, 3) := by decide +kernel
theorem dX8_fitsSounds_16 : decode cX8_fitsSounds 16 = .ok (.iconst 1, 1) := by decide +kernel
theorem dX8_fitsSounds_17 : decode cX8_fitsSounds 17 = .ok (.goto 4, 3) := by decide +kernel
theorem dX8_fitsSounds_20 : decode cX8_fitsSounds 20 = .ok (.iconst 0, 1) := by decide +kernel
theorem dX8_fitsSounds_21 : decode cX8_fitsSounds 21 = .ok (.ireturn, 1) := by decide +kernel
theorem dX8_isIn_0 : decode cX8_isIn 0 = .ok (.iload_n 0, 1) := by decide +kernel
theorem dX8_isIn_1 : decode cX8_isIn 1 = .ok (.iload_n 1, 1) := by decide +kernel
theorem dX8_isIn_2 : decode cX8_isIn 2 = .ok (.ishr, 1) := by decide +kernel
theorem dX8_isIn_3 : decode cX8_isIn 3 = .ok (.iconst 1, 1) := by decide +kernel
theorem dX8_isIn_4 : decode cX8_isIn 4 = .ok (.iand, 1) := by decide +kernel
theorem dX8_isIn_5 : decode cX8_isIn 5 = .ok (.ifCond .eq 7, 3) := by decide +kernel
theorem dX8_isIn_8 : decode cX8_isIn 8 = .ok (.iconst 1, 1) := by decide +kernel
theorem dX8_isIn_9 : decode cX8_isIn 9 = .ok (.goto 4, 3) := by decide +kernel
theorem dX8_isIn_12 : decode cX8_isIn 12 = .ok (.iconst 0, 1) := by decide +kernel
theorem dX8_isIn_13 : decode cX8_isIn 13 = .ok (.ireturn, 1) := by decide +kernel
theorem dX8_stateIn_0 : decode cX8_stateIn 0 = .ok (.iload_n 0, 1) := by decide +kernel
theorem dX8_stateIn_1 : decode cX8_stateIn 1 = .ok (.iconst 2, 1) := by decide +kernel
theorem dX8_stateIn_2 : decode cX8_stateIn 2 = .ok (.iload_n 1, 1) := by decide +kernel
theorem dX8_stateIn_3 : decode cX8_stateIn 3 = .ok (.imul, 1) := by decide +kernel
theorem dX8_stateIn_4 : decode cX8_stateIn 4 = .ok (.ishr, 1) := by decide +kernel
theorem dX8_stateIn_5 : decode cX8_stateIn 5 = .ok (.iconst 3, 1) := by decide +kernel
theorem dX8_stateIn_6 : decode cX8_stateIn 6 = .ok (.iand, 1) := by decide +kernel
theorem dX8_stateIn_7 : decode cX8_stateIn 7 = .ok (.ireturn, 1) := by decide +kernel
theorem dX8_with_0 : decode cX8_with 0 = .ok (.iload_n 0, 1) := by decide +kernel
theorem dX8_with_1 : decode cX8_with 1 = .ok (.iconst 3, 1) := by decide +kernel
theorem dX8_with_2 : decode cX8_with 2 = .ok (.iconst 2, 1) := by decide +kernel
theorem dX8_with_3 : decode cX8_with 3 = .ok (.iload_n 1, 1) := by decide +kernel
theorem dX8_with_4 : decode cX8_with 4 = .ok (.imul, 1) := by decide +kernel
theorem dX8_with_5 : decode cX8_with 5 = .ok (.ishl, 1) := by decide +kernel
theorem dX8_with_6 : decode cX8_with 6 = .ok (.iconst (-1), 1) := by decide +kernel
theorem dX8_with_7 : decode cX8_with 7 = .ok (.ixor, 1) := by decide +kernel
theorem dX8_with_8 : decode cX8_with 8 = .ok (.iand, 1) := by decide +kernel
theorem dX8_with_9 : decode cX8_with 9 = .ok (.iload_n 2, 1) := by decide +kernel
theorem dX8_with_10 : decode cX8_with 10 = .ok (.iconst 2, 1) := by decide +kernel
theorem dX8_with_11 : decode cX8_with 11 = .ok (.iload_n 1, 1) := by decide +kernel
theorem dX8_with_12 : decode cX8_with 12 = .ok (.imul, 1) := by decide +kernel
theorem dX8_with_13 : decode cX8_with 13 = .ok (.ishl, 1) := by decide +kernel
theorem dX8_with_14 : decode cX8_with 14 = .ok (.ior, 1) := by decide +kernel
theorem dX8_with_15 : decode cX8_with 15 = .ok (.ireturn, 1) := by decide +kernel
theorem dX8_withAll_0 : decode cX8_withAll 0 = .ok (.iload_n 0, 1) := by decide +kernel
theorem dX8_withAll_1 : decode cX8_withAll 1 = .ok (.istore_n 3, 1) := by decide +kernel
theorem dX8_withAll_2 : decode cX8_withAll 2 = .ok (.iconst 0, 1) := by decide +kernel
theorem dX8_withAll_3 : decode cX8_withAll 3 = .ok (.istore 4, 2) := by decide +kernel
theorem dX8_withAll_5 : decode cX8_withAll 5 = .ok (.iload 4, 2) := by decide +kernel
theorem dX8_withAll_7 : decode cX8_withAll 7 = .ok (.bipush 10, 2) := by decide +kernel
theorem dX8_withAll_9 : decode cX8_withAll 9 = .ok (.if_icmp .ge 26, 3) := by decide +kernel
theorem dX8_withAll_12 : decode cX8_withAll 12 = .ok (.iload_n 1, 1) := by decide +kernel
theorem dX8_withAll_13 : decode cX8_withAll 13 = .ok (.iload 4, 2) := by decide +kernel
theorem dX8_withAll_15 : decode cX8_withAll 15 = .ok (.invokestatic 295, 3) := by decide +kernel
theorem dX8_withAll_18 : decode cX8_withAll 18 = .ok (.ifCond .eq 11, 3) := by decide +kernel
theorem dX8_withAll_21 : decode cX8_withAll 21 = .ok (.iload_n 3, 1) := by decide +kernel
theorem dX8_withAll_22 : decode cX8_withAll 22 = .ok (.iload 4, 2) := by decide +kernel
theorem dX8_withAll_24 : decode cX8_withAll 24 = .ok (.iload_n 2, 1) := by decide +kernel
theorem dX8_withAll_25 : decode cX8_withAll 25 = .ok (.invokestatic 336, 3) := by decide +kernel
theorem dX8_withAll_28 : decode cX8_withAll 28 = .ok (.istore_n 3, 1) := by decide +kernel
theorem dX8_withAll_29 : decode cX8_withAll 29 = .ok (.iinc 4 1, 3) := by decide +kernel
theorem dX8_withAll_32 : decode cX8_withAll 32 = .ok (.goto (-27), 3) := by decide +kernel
theorem dX8_withAll_35 : decode cX8_withAll 35 = .ok (.iload_n 3, 1) := by decide +kernel
theorem dX8_withAll_36 : decode cX8_withAll 36 = .ok (.ireturn, 1) := by decide +kernel
theorem dX9_init_0 : decode cX9_init 0 = .ok (.aload_n 0, 1) := by decide +kernel
theorem dX9_init_1 : decode cX9_init 1 = .ok (.invokespecial 1, 3) := by decide +kernel
theorem dX9_init_4 : decode cX9_init 4 = .ok (.aload_n 0, 1) := by decide +kernel
theorem dX9_init_5 : decode cX9_init 5 = .ok (.bipush 10, 2) := by decide +kernel
theorem dX9_init_7 : decode cX9_init 7 = .ok (.newarray .int, 2) := by decide +kernel
theorem dX9_init_9 : decode cX9_init 9 = .ok (.putfield 7, 3) := by decide +kernel
theorem dX9_init_12 : decode cX9_init 12 = .ok (.aload_n 0, 1) := by decide +kernel
theorem dX9_init_13 : decode cX9_init 13 = .ok (.bipush 10, 2) := by decide +kernel
theorem dX9_init_15 : decode cX9_init 15 = .ok (.newarray .int, 2) := by decide +kernel
theorem dX9_init_17 : decode cX9_init 17 = .ok (.putfield 13, 3) := by decide +kernel
theorem dX9_init_20 : decode cX9_init 20 = .ok (.aload_n 0, 1) := by decide +kernel
theorem dX9_init_21 : decode cX9_init 21 = .ok (.bipush 10, 2) := by decide +kernel
theorem dX9_init_23 : decode cX9_init 23 = .ok (.newarray .int, 2) := by decide +kernel
theorem dX9_init_25 : decode cX9_init 25 = .ok (.putfield 16, 3) := by decide +kernel
theorem dX9_init_28 : decode cX9_init 28 = .ok (.aload_n 0, 1) := by decide +kernel
theorem dX9_init_29 : decode cX9_init 29 = .ok (.bipush 10, 2) := by decide +kernel
theorem dX9_init_31 : decode cX9_init 31 = .ok (.newarray .int, 2) := by decide +kernel
theorem dX9_init_33 : decode cX9_init 33 = .ok (.putfield 19, 3) := by decide +kernel
theorem dX9_init_36 : decode cX9_init 36 = .ok (.aload_n 0, 1) := by decide +kernel
theorem dX9_init_37 : decode cX9_init 37 = .ok (.bipush 10, 2) := by decide +kernel
theorem dX9_init_39 : decode cX9_init 39 = .ok (.newarray .int, 2) := by decide +kernel
theorem dX9_init_41 : decode cX9_init 41 = .ok (.putfield 22, 3) := by decide +kernel
theorem dX9_init_44 : decode cX9_init 44 = .ok (.aload_n 0, 1) := by decide +kernel
theorem dX9_init_45 : decode cX9_init 45 = .ok (.bipush 10, 2) := by decide +kernel
theorem dX9_init_47 : decode cX9_init 47 = .ok (.newarray .int, 2) := by decide +kernel
theorem dX9_init_49 : decode cX9_init 49 = .ok (.putfield 25, 3) := by decide +kernel
theorem dX9_init_52 : decode cX9_init 52 = .ok (.aload_n 0, 1) := by decide +kernel
theorem dX9_init_53 : decode cX9_init 53 = .ok (.bipush 6, 2) := by decide +kernel
theorem dX9_init_55 : decode cX9_init 55 = .ok (.newarray .int, 2) := by decide +kernel
theorem dX9_init_57 : decode cX9_init 57 = .ok (.dup, 1) := by decide +kernel
theorem dX9_init_58 : decode cX9_init 58 = .ok (.iconst 0, 1) := by decide +kernel
theorem dX9_init_59 : decode cX9_init 59 = .ok (.iconst (-1), 1) := by decide +kernel
theorem dX9_init_60 : decode cX9_init 60 = .ok (.iastore, 1) := by decide +kernel
theorem dX9_init_61 : decode cX9_init 61 = .ok (.dup, 1) := by decide +kernel
theorem dX9_init_62 : decode cX9_init 62 = .ok (.iconst 1, 1) := by decide +kernel
theorem dX9_init_63 : decode cX9_init 63 = .ok (.iconst (-1), 1) := by decide +kernel
theorem dX9_init_64 : decode cX9_init 64 = .ok (.iastore, 1) := by decide +kernel
theorem dX9_init_65 : decode cX9_init 65 = .ok (.dup, 1) := by decide +kernel
theorem dX9_init_66 : decode cX9_init 66 = .ok (.iconst 2, 1) := by decide +kernel
theorem dX9_init_67 : decode cX9_init 67 = .ok (.iconst (-1), 1) := by decide +kernel
theorem dX9_init_68 : decode cX9_init 68 = .ok (.iastore, 1) := by decide +kernel
theorem dX9_init_69 : decode cX9_init 69 = .ok (.dup, 1) := by decide +kernel
theorem dX9_init_70 : decode cX9_init 70 = .ok (.iconst 3, 1) := by decide +kernel
theorem dX9_init_71 : decode cX9_init 71 = .ok (.iconst (-1), 1) := by decide +kernel
theorem dX9_init_72 : decode cX9_init 72 = .ok (.iastore, 1) := by decide +kernel
theorem dX9_init_73 : decode cX9_init 73 = .ok (.dup, 1) := by decide +kernel
theorem dX9_init_74 : decode cX9_init 74 = .ok (.iconst 4, 1) := by decide +kernel
theorem dX9_init_75 : decode cX9_init 75 = .ok (.iconst (-1), 1) := by decide +kernel
theorem dX9_init_76 : decode cX9_init 76 = .ok (.iastore, 1) := by decide +kernel
theorem dX9_init_77 : decode cX9_init 77 = .ok (.dup, 1) := by decide +kernel
theorem dX9_init_78 : decode cX9_init 78 = .ok (.iconst 5, 1) := by decide +kernel
theorem dX9_init_79 : decode cX9_init 79 = .ok (.iconst (-1), 1) := by decide +kernel
theorem dX9_init_80 : decode cX9_init 80 = .ok (.iastore, 1) := by decide +kernel
theorem dX9_init_81 : decode cX9_init 81 = .ok (.putfield 28, 3) := by decide +kernel
theorem dX9_init_84 : decode cX9_init 84 = .ok (.aload_n 0, 1) := by decide +kernel
theorem dX9_init_85 : decode cX9_init 85 = .ok (.sipush 256, 3) := by decide +kernel
theorem dX9_init_88 : decode cX9_init 88 = .ok (.newarray .int, 2) := by decide +kernel
theorem dX9_init_90 : decode cX9_init 90 = .ok (.putfield 31, 3) := by decide +kernel
theorem dX9_init_93 : decode cX9_init 93 = .ok (.aload_n 0, 1) := by decide +kernel
theorem dX9_init_94 : decode cX9_init 94 = .ok (.bipush 16, 2) := by decide +kernel
theorem dX9_init_96 : decode cX9_init 96 = .ok (.newarray .int, 2) := by decide +kernel
theorem dX9_init_98 : decode cX9_init 98 = .ok (.putfield 34, 3) := by decide +kernel
theorem dX9_init_101 : decode cX9_init 101 = .ok (.aload_n 0, 1) := by decide +kernel
theorem dX9_init_102 : decode cX9_init 102 = .ok (.bipush 16, 2) := by decide +kernel
theorem dX9_init_104 : decode cX9_init 104 = .ok (.newarray .int, 2) := by decide +kernel
theorem dX9_init_106 : decode cX9_init 106 = .ok (.putfield 37, 3) := by decide +kernel
theorem dX9_init_109 : decode cX9_init 109 = .ok (.aload_n 0, 1) := by decide +kernel
theorem dX9_init_110 : decode cX9_init 110 = .ok (.bipush 16, 2) := by decide +kernel
theorem dX9_init_112 : decode cX9_init 112 = .ok (.newarray .int, 2) := by decide +kernel
theorem dX9_init_114 : decode cX9_init 114 = .ok (.putfield 40, 3) := by decide +kernel
theorem dX9_init_117 : decode cX9_init 117 = .ok (.aload_n 0, 1) := by decide +kernel
theorem dX9_init_118 : decode cX9_init 118 = .ok (.bipush 64, 2) := by decide +kernel
theorem dX9_init_120 : decode cX9_init 120 = .ok (.newarray .int, 2) := by decide +kernel
theorem dX9_init_122 : decode cX9_init 122 = .ok (.putfield 43, 3) := by decide +kernel
theorem dX9_init_125 : decode cX9_init 125 = .ok (.aload_n 0, 1) := by decide +kernel
theorem dX9_init_126 : decode cX9_init 126 = .ok (.iconst 3, 1) := by decide +kernel
theorem dX9_init_127 : decode cX9_init 127 = .ok (.newarray .int, 2) := by decide +kernel
theorem dX9_init_129 : decode cX9_init 129 = .ok (.dup, 1) := by decide +kernel
theorem dX9_init_130 : decode cX9_init 130 = .ok (.iconst 0, 1) := by decide +kernel
theorem dX9_init_131 : decode cX9_init 131 = .ok (.bipush 20, 2) := by decide +kernel
theorem dX9_init_133 : decode cX9_init 133 = .ok (.iastore, 1) := by decide +kernel
theorem dX9_init_134 : decode cX9_init 134 = .ok (.dup, 1) := by decide +kernel
theorem dX9_init_135 : decode cX9_init 135 = .ok (.iconst 1, 1) := by decide +kernel
theorem dX9_init_136 : decode cX9_init 136 = .ok (.iconst 3, 1) := by decide +kernel
theorem dX9_init_137 : decode cX9_init 137 = .ok (.iastore, 1) := by decide +kernel
theorem dX9_init_138 : decode cX9_init 138 = .ok (.dup, 1) := by decide +kernel
theorem dX9_init_139 : decode cX9_init 139 = .ok (.iconst 2, 1) := by decide +kernel
theorem dX9_init_140 : decode cX9_init 140 = .ok (.bipush 60, 2) := by decide +kernel
theorem dX9_init_142 : decode cX9_init 142 = .ok (.iastore, 1) := by decide +kernel
theorem dX9_init_143 : decode cX9_init 143 = .ok (.putfield 46, 3) := by decide +kernel
theorem dX9_init_146 : decode cX9_init 146 = .ok (.aload_n 0, 1) := by decide +kernel
theorem dX9_init_147 : decode cX9_init 147 = .ok (.sipush 200, 3) := by decide +kernel
theorem dX9_init_150 : decode cX9_init 150 = .ok (.newarray .int, 2) := by decide +kernel
theorem dX9_init_152 : decode cX9_init 152 = .ok (.putfield 49, 3) := by decide +kernel
theorem dX9_init_155 : decode cX9_init 155 = .ok (.aload_n 0, 1) := by decide +kernel
theorem dX9_init_156 : decode cX9_init 156 = .ok (.iconst 2, 1) := by decide +kernel
theorem dX9_init_157 : decode cX9_init 157 = .ok (.newarray .int, 2) := by decide +kernel
theorem dX9_init_159 : decode cX9_init 159 = .ok (.putfield 52, 3) := by decide +kernel
theorem dX9_init_162 : decode cX9_init 162 = .ok (.aload_n 0, 1) := by decide +kernel
theorem dX9_init_163 : decode cX9_init 163 = .ok (.sipush 480, 3) := by decide +kernel
theorem dX9_init_166 : decode cX9_init 166 = .ok (.newarray .int, 2) := by decide +kernel
theorem dX9_init_168 : decode cX9_init 168 = .ok (.putfield 55, 3) := by decide +kernel
theorem dX9_init_171 : decode cX9_init 171 = .ok (.aload_n 0, 1) := by decide +kernel
theorem dX9_init_172 : decode cX9_init 172 = .ok (.bipush 12, 2) := by decide +kernel
theorem dX9_init_174 : decode cX9_init 174 = .ok (.newarray .int, 2) := by decide +kernel
theorem dX9_init_176 : decode cX9_init 176 = .ok (.putfield 58, 3) := by decide +kernel
theorem dX9_init_179 : decode cX9_init 179 = .ok (.aload_n 0, 1) := by decide +kernel
theorem dX9_init_180 : decode cX9_init 180 = .ok (.bipush 36, 2) := by decide +kernel
theorem dX9_init_182 : decode cX9_init 182 = .ok (.newarray .int, 2) := by decide +kernel
theorem dX9_init_184 : decode cX9_init 184 = .ok (.putfield 61, 3) := by decide +kernel
theorem dX9_init_187 : decode cX9_init 187 = .ok (.aload_n 0, 1) := by decide +kernel
theorem dX9_init_188 : decode cX9_init 188 = .ok (.bipush 12, 2) := by decide +kernel
theorem dX9_init_190 : decode cX9_init 190 = .ok (.newarray .int, 2) := by decide +kernel
theorem dX9_init_192 : decode cX9_init 192 = .ok (.putfield 64, 3) := by decide +kernel
theorem dX9_init_195 : decode cX9_init 195 = .ok (.aload_n 0, 1) := by decide +kernel
theorem dX9_init_196 : decode cX9_init 196 = .ok (.bipush 12, 2) := by decide +kernel
theorem dX9_init_198 : decode cX9_init 198 = .ok (.newarray .boolean, 2) := by decide +kernel
theorem dX9_init_200 : decode cX9_init 200 = .ok (.putfield 67, 3) := by decide +kernel
theorem dX9_init_203 : decode cX9_init 203 = .ok (.aload_n 0, 1) := by decide +kernel
theorem dX9_init_204 : decode cX9_init 204 = .ok (.sipush 200, 3) := by decide +kernel
theorem dX9_init_207 : decode cX9_init 207 = .ok (.newarray .int, 2) := by decide +kernel
theorem dX9_init_209 : decode cX9_init 209 = .ok (.putfield 71, 3) := by decide +kernel
theorem dX9_init_212 : decode cX9_init 212 = .ok (.aload_n 0, 1) := by decide +kernel
theorem dX9_init_213 : decode cX9_init 213 = .ok (.sipush 200, 3) := by decide +kernel
theorem dX9_init_216 : decode cX9_init 216 = .ok (.newarray .int, 2) := by decide +kernel
theorem dX9_init_218 : decode cX9_init 218 = .ok (.putfield 74, 3) := by decide +kernel
theorem dX9_init_221 : decode cX9_init 221 = .ok (.aload_n 0, 1) := by decide +kernel
theorem dX9_init_222 : decode cX9_init 222 = .ok (.sipush 200, 3) := by decide +kernel
theorem dX9_init_225 : decode cX9_init 225 = .ok (.newarray .boolean, 2) := by decide +kernel
theorem dX9_init_227 : decode cX9_init 227 = .ok (.putfield 77, 3) := by decide +kernel
theorem dX9_init_230 : decode cX9_init 230 = .ok (.aload_n 0, 1) := by decide +kernel
theorem dX9_init_231 : decode cX9_init 231 = .ok (.bipush 40, 2) := by decide +kernel
theorem dX9_init_233 : decode cX9_init 233 = .ok (.newarray .int, 2) := by decide +kernel
theorem dX9_init_235 : decode cX9_init 235 = .ok (.putfield 80, 3) := by decide +kernel
theorem dX9_init_238 : decode cX9_init 238 = .ok (.aload_n 0, 1) := by decide +kernel
theorem dX9_init_239 : decode cX9_init 239 = .ok (.sipush 300, 3) := by decide +kernel
theorem dX9_init_242 : decode cX9_init 242 = .ok (.newarray .int, 2) := by decide +kernel
theorem dX9_init_244 : decode cX9_init 244 = .ok (.putfield 83, 3) := by decide +kernel
theorem dX9_init_247 : decode cX9_init 247 = .ok (.aload_n 0, 1) := by decide +kernel
theorem dX9_init_248 : decode cX9_init 248 = .ok (.iconst 5, 1) := by decide +kernel
theorem dX9_init_249 : decode cX9_init 249 = .ok (.newarray .int, 2) := by decide +kernel
theorem dX9_init_251 : decode cX9_init 251 = .ok (.putfield 86, 3) := by decide +kernel
theorem dX9_init_254 : decode cX9_init 254 = .ok (.aload_n 0, 1) := by decide +kernel
theorem dX9_init_255 : decode cX9_init 255 = .ok (.bipush 40, 2) := by decide +kernel
theorem dX9_init_257 : decode cX9_init 257 = .ok (.newarray .boolean, 2) := by decide +kernel
theorem dX9_init_259 : decode cX9_init 259 = .ok (.putfield 89, 3) := by decide +kernel
theorem dX9_init_262 : decode cX9_init 262 = .ok (.aload_n 0, 1) := by decide +kernel
theorem dX9_init_263 : decode cX9_init 263 = .ok (.bipush 12, 2) := by decide +kernel
theorem dX9_init_265 : decode cX9_init 265 = .ok (.newarray .int, 2) := by decide +kernel
theorem dX9_init_267 : decode cX9_init 267 = .ok (.putfield 92, 3) := by decide +kernel
theorem dX9_init_270 : decode cX9_init 270 = .ok (.aload_n 0, 1) := by decide +kernel
theorem dX9_init_271 : decode cX9_init 271 = .ok (.bipush 8, 2) := by decide +kernel
theorem dX9_init_273 : decode cX9_init 273 = .ok (.newarray .int, 2) := by decide +kernel
theorem dX9_init_275 : decode cX9_init 275 = .ok (.putfield 95, 3) := by decide +kernel
theorem dX9_init_278 : decode cX9_init 278 = .ok (.aload_n 0, 1) := by decide +kernel
theorem dX9_init_279 : decode cX9_init 279 = .ok (.bipush 9, 2) := by decide +kernel
theorem dX9_init_281 : decode cX9_init 281 = .ok (.newarray .int, 2) := by decide +kernel
theorem dX9_init_283 : decode cX9_init 283 = .ok (.putfield 98, 3) := by decide +kernel
theorem dX9_init_286 : decode cX9_init 286 = .ok (.aload_n 0, 1) := by decide +kernel
theorem dX9_init_287 : decode cX9_init 287 = .ok (.sipush 400, 3) := by decide +kernel
theorem dX9_init_290 : decode cX9_init 290 = .ok (.newarray .int, 2) := by decide +kernel
theorem dX9_init_292 : decode cX9_init 292 = .ok (.putfield 101, 3) := by decide +kernel
theorem dX9_init_295 : decode cX9_init 295 = .ok (.aload_n 0, 1) := by decide +kernel
theorem dX9_init_296 : decode cX9_init 296 = .ok (.bipush 8, 2) := by decide +kernel
theorem dX9_init_298 : decode cX9_init 298 = .ok (.newarray .int, 2) := by decide +kernel
theorem dX9_init_300 : decode cX9_init 300 = .ok (.putfield 104, 3) := by decide +kernel
theorem dX9_init_303 : decode cX9_init 303 = .ok (.aload_n 0, 1) := by decide +kernel
theorem dX9_init_304 : decode cX9_init 304 = .ok (.bipush 8, 2) := by decide +kernel
theorem dX9_init_306 : decode cX9_init 306 = .ok (.newarray .int, 2) := by decide +kernel
theorem dX9_init_308 : decode cX9_init 308 = .ok (.putfield 107, 3) := by decide +kernel
theorem dX9_init_311 : decode cX9_init 311 = .ok (.aload_n 0, 1) := by decide +kernel
theorem dX9_init_312 : decode cX9_init 312 = .ok (.bipush 80, 2) := by decide +kernel
theorem dX9_init_314 : decode cX9_init 314 = .ok (.newarray .int, 2) := by decide +kernel
theorem dX9_init_316 : decode cX9_init 316 = .ok (.putfield 110, 3) := by decide +kernel
theorem dX9_init_319 : decode cX9_init 319 = .ok (.iconst 0, 1) := by decide +kernel
theorem dX9_init_320 : decode cX9_init 320 = .ok (.istore_n 1, 1) := by decide +kernel
theorem dX9_init_321 : decode cX9_init 321 = .ok (.iload_n 1, 1) := by decide +kernel
theorem dX9_init_322 : decode cX9_init 322 = .ok (.sipush 256, 3) := by decide +kernel
theorem dX9_init_325 : decode cX9_init 325 = .ok (.if_icmp .ge 32, 3) := by decide +kernel
theorem dX9_init_328 : decode cX9_init 328 = .ok (.aload_n 0, 1) := by decide +kernel
theorem dX9_init_329 : decode cX9_init 329 = .ok (.getfield 31, 3) := by decide +kernel
theorem dX9_init_332 : decode cX9_init 332 = .ok (.iload_n 1, 1) := by decide +kernel
theorem dX9_init_333 : decode cX9_init 333 = .ok (.iload_n 1, 1) := by decide +kernel
theorem dX9_init_334 : decode cX9_init 334 = .ok (.bipush 16, 2) := by decide +kernel
theorem dX9_init_336 : decode cX9_init 336 = .ok (.idiv, 1) := by decide +kernel
theorem dX9_init_337 : decode cX9_init 337 = .ok (.iload_n 1, 1) := by decide +kernel
theorem dX9_init_338 : decode cX9_init 338 = .ok (.bipush 16, 2) := by decide +kernel
theorem dX9_init_340 : decode cX9_init 340 = .ok (.irem, 1) := by decide +kernel
theorem dX9_init_341 : decode cX9_init 341 = .ok (.if_icmp .ne 7, 3) := by decide +kernel
theorem dX9_init_344 : decode cX9_init 344 = .ok (.iconst 0, 1) := by decide +kernel
theorem dX9_init_345 : decode cX9_init 345 = .ok (.goto 5, 3) := by decide +kernel
theorem dX9_init_348 : decode cX9_init 348 = .ok (.bipush 9, 2) := by decide +kernel
theorem dX9_init_350 : decode cX9_init 350 = .ok (.iastore, 1) := by decide +kernel
theorem dX9_init_351 : decode cX9_init 351 = .ok (.iinc 1 1, 3) := by decide +kernel
theorem dX9_init_354 : decode cX9_init 354 = .ok (.goto (-33), 3) := by decide +kernel
theorem dX9_init_357 : decode cX9_init 357 = .ok (.return_, 1) := by decide +kernel
theorem dX9_in_0 : decode cX9_in 0 = .ok (.lload_n 0, 1) := by decide +kernel
theorem dX9_in_1 : decode cX9_in 1 = .ok (.lload_n 2, 1) := by decide +kernel
theorem dX9_in_2 : decode cX9_in 2 = .ok (.lcmp, 1) := by decide +kernel
theorem dX9_in_3 : decode cX9_in 3 = .ok (.ifCond .lt 14, 3) := by decide +kernel
theorem dX9_in_6 : decode cX9_in 6 = .ok (.lload_n 0, 1) := by decide +kernel
theorem dX9_in_7 : decode cX9_in 7 = .ok (.lload 4, 2) := by decide +kernel
theorem dX9_in_9 : decode cX9_in 9 = .ok (.lcmp, 1) := by decide +kernel
theorem dX9_in_10 : decode cX9_in 10 = .ok (.ifCond .gt 7, 3) := by decide +kernel
theorem dX9_in_13 : decode cX9_in 13 = .ok (.iconst 1, 1) := by decide +kernel
theorem dX9_in_14 : decode cX9_in 14 = .ok (.goto 4, 3) := by decide +kernel
theorem dX9_in_17 : decode cX9_in 17 = .ok (.iconst 0, 1) := by decide +kernel
theorem dX9_in_18 : decode cX9_in 18 = .ok (.ireturn, 1) := by decide +kernel
theorem dX9_has_0 : decode cX9_has 0 = .ok (.iload_n 0, 1) := by decide +kernel
theorem dX9_has_1 : decode cX9_has 1 = .ok (.iload_n 1, 1) := by decide +kernel
theorem dX9_has_2 : decode cX9_has 2 = .ok (.ishr, 1) := by decide +kernel
theorem dX9_has_3 : decode cX9_has 3 = .ok (.iconst 1, 1) := by decide +kernel
theorem dX9_has_4 : decode cX9_has 4 = .ok (.iand, 1) := by decide +kernel
theorem dX9_has_5 : decode cX9_has 5 = .ok (.iconst 1, 1) := by decide +kernel
theorem dX9_has_6 : decode cX9_has 6 = .ok (.if_icmp .ne 7, 3) := by decide +kernel
theorem dX9_has_9 : decode cX9_has 9 = .ok (.iconst 1, 1) := by decide +kernel
theorem dX9_has_10 : decode cX9_has 10 = .ok (.goto 4, 3) := by decide +kernel
theorem dX9_has_13 : decode cX9_has 13 = .ok (.iconst 0, 1) := by decide +kernel
theorem dX9_has_14 : decode cX9_has 14 = .ok (.ireturn, 1) := by decide +kernel
theorem dX9_isThing_0 : decode cX9_isThing 0 = .ok (.iload_n 1, 1) := by decide +kernel
theorem dX9_isThing_1 : decode cX9_isThing 1 = .ok (.i2l, 1) := by decide +kernel
theorem dX9_isThing_2 : decode cX9_isThing 2 = .ok (.lconst 0, 1) := by decide +kernel
theorem dX9_isThing_3 : decode cX9_isThing 3 = .ok (.aload_n 0, 1) := by decide +kernel
theorem dX9_isThing_4 : decode cX9_isThing 4 = .ok (.getfield 113, 3) := by decide +kernel
theorem dX9_isThing_7 : decode cX9_isThing 7 = .ok (.iconst 1, 1) := by decide +kernel
theorem dX9_isThing_8 : decode cX9_isThing 8 = .ok (.isub, 1) := by decide +kernel
theorem dX9_isThing_9 : decode cX9_isThing 9 = .ok (.i2l, 1) := by decide +kernel
theorem dX9_isThing_10 : decode cX9_isThing 10 = .ok (.invokestatic 117, 3) := by decide +kernel
theorem dX9_isThing_13 : decode cX9_isThing 13 = .ok (.ireturn, 1) := by decide +kernel
theorem dX9_greatest_0 : decode cX9_greatest 0 = .ok (.iload_n 0, 1) := by decide +kernel
theorem dX9_greatest_1 : decode cX9_greatest 1 = .ok (.ifCond .ne 7, 3) := by decide +kernel
theorem dX9_greatest_4 : decode cX9_greatest 4 = .ok (.iconst 3, 1) := by decide +kernel
theorem dX9_greatest_5 : decode cX9_greatest 5 = .ok (.goto 13, 3) := by decide +kernel
theorem dX9_greatest_8 : decode cX9_greatest 8 = .ok (.iload_n 0, 1) := by decide +kernel
theorem dX9_greatest_9 : decode cX9_greatest 9 = .ok (.iconst 2, 1) := by decide +kernel
theorem dX9_greatest_10 : decode cX9_greatest 10 = .ok (.if_icmp .ne 7, 3) := by decide +kernel
theorem dX9_greatest_13 : decode cX9_greatest 13 = .ok (.iconst 2, 1) := by decide +kernel
theorem dX9_greatest_14 : decode cX9_greatest 14 = .ok (.goto 4, 3) := by decide +kernel
theorem dX9_greatest_17 : decode cX9_greatest 17 = .ok (.iconst 1, 1) := by decide +kernel
theorem dX9_greatest_18 : decode cX9_greatest 18 = .ok (.ireturn, 1) := by decide +kernel
theorem dX9_thing_0 : decode cX9_thing 0 = .ok (.iload_n 1, 1) := by decide +kernel
theorem dX9_thing_1 : decode cX9_thing 1 = .ok (.i2l, 1) := by decide +kernel
theorem dX9_thing_2 : decode cX9_thing 2 = .ok (.lconst 0, 1) := by decide +kernel
theorem dX9_thing_3 : decode cX9_thing 3 = .ok (.ldc2_w 121, 3) := by decide +kernel
theorem dX9_thing_6 : decode cX9_thing 6 = .ok (.invokestatic 117, 3) := by decide +kernel
theorem dX9_thing_9 : decode cX9_thing 9 = .ok (.ifCond .eq 27, 3) := by decide +kernel
theorem dX9_thing_12 : decode cX9_thing 12 = .ok (.iload_n 2, 1) := by decide +kernel
theorem dX9_thing_13 : decode cX9_thing 13 = .ok (.i2l, 1) := by decide +kernel
theorem dX9_thing_14 : decode cX9_thing 14 = .ok (.lconst 0, 1) := by decide +kernel
theorem dX9_thing_15 : decode cX9_thing 15 = .ok (.ldc2_w 123, 3) := by decide +kernel
theorem dX9_thing_18 : decode cX9_thing 18 = .ok (.invokestatic 117, 3) := by decide +kernel
theorem dX9_thing_21 : decode cX9_thing 21 = .ok (.ifCond .eq 15, 3) := by decide +kernel
theorem dX9_thing_24 : decode cX9_thing 24 = .ok (.iload_n 3, 1) := by decide +kernel
theorem dX9_thing_25 : decode cX9_thing 25 = .ok (.i2l, 1) := by decide +kernel
theorem dX9_thing_26 : decode cX9_thing 26 = .ok (.lconst 0, 1) := by decide +kernel
theorem dX9_thing_27 : decode cX9_thing 27 = .ok (.ldc2_w 125, 3) := by decide +kernel
theorem dX9_thing_30 : decode cX9_thing 30 = .ok (.invokestatic 117, 3) := by decide +kernel
theorem dX9_thing_33 : decode cX9_thing 33 = .ok (.ifCond .ne 5, 3) := by decide +kernel
theorem dX9_thing_36 : decode cX9_thing 36 = .ok (.iconst (-1), 1) := by decide +kernel
theorem dX9_thing_37 : decode cX9_thing 37 = .ok (.ireturn, 1) := by decide +kernel
theorem dX9_thing_38 : decode cX9_thing 38 = .ok (.aload_n 0, 1) := by decide +kernel
theorem dX9_thing_39 : decode cX9_thing 39 = .ok (.getfield 113, 3) := by decide +kernel
theorem dX9_thing_42 : decode cX9_thing 42 = .ok (.bipush 10, 2) := by decide +kernel
theorem dX9_thing_44 : decode cX9_thing 44 = .ok (.if_icmp .ne 6, 3) := by decide +kernel
theorem dX9_thing_47 : decode cX9_thing 47 = .ok (.bipush (-3), 2) := by decide +kernel
theorem dX9_thing_49 : decode cX9_thing 49 = .ok (.ireturn, 1) := by decide +kernel
theorem dX9_thing_50 : decode cX9_thing 50 = .ok (.aload_n 0, 1) := by decide +kernel
theorem dX9_thing_51 : decode cX9_thing 51 = .ok (.getfield 7, 3) := by decide +kernel
theorem dX9_thing_54 : decode cX9_thing 54 = .ok (.aload_n 0, 1) := by decide +kernel
theorem dX9_thing_55 : decode cX9_thing 55 = .ok (.getfield 113, 3) := by decide +kernel
theorem dX9_thing_58 : decode cX9_thing 58 = .ok (.iload_n 1, 1) := by decide +kernel
theorem dX9_thing_59 : decode cX9_thing 59 = .ok (.iastore, 1) := by decide +kernel
theorem dX9_thing_60 : decode cX9_thing 60 = .ok (.aload_n 0, 1) := by decide +kernel
theorem dX9_thing_61 : decode cX9_thing 61 = .ok (.getfield 13, 3) := by decide +kernel
theorem dX9_thing_64 : decode cX9_thing 64 = .ok (.aload_n 0, 1) := by decide +kernel
theorem dX9_thing_65 : decode cX9_thing 65 = .ok (.getfield 113, 3) := by decide +kernel
theorem dX9_thing_68 : decode cX9_thing 68 = .ok (.iload_n 2, 1) := by decide +kernel
theorem dX9_thing_69 : decode cX9_thing 69 = .ok (.iastore, 1) := by decide +kernel
theorem dX9_thing_70 : decode cX9_thing 70 = .ok (.aload_n 0, 1) := by decide +kernel
theorem dX9_thing_71 : decode cX9_thing 71 = .ok (.getfield 16, 3) := by decide +kernel
theorem dX9_thing_74 : decode cX9_thing 74 = .ok (.aload_n 0, 1) := by decide +kernel
theorem dX9_thing_75 : decode cX9_thing 75 = .ok (.getfield 113, 3) := by decide +kernel
theorem dX9_thing_78 : decode cX9_thing 78 = .ok (.iload_n 3, 1) := by decide +kernel
theorem dX9_thing_79 : decode cX9_thing 79 = .ok (.iastore, 1) := by decide +kernel
theorem dX9_thing_80 : decode cX9_thing 80 = .ok (.aload_n 0, 1) := by decide +kernel
theorem dX9_thing_81 : decode cX9_thing 81 = .ok (.getfield 25, 3) := by decide +kernel
theorem dX9_thing_84 : decode cX9_thing 84 = .ok (.aload_n 0, 1) := by decide +kernel
theorem dX9_thing_85 : decode cX9_thing 85 = .ok (.getfield 113, 3) := by decide +kernel
theorem dX9_thing_88 : decode cX9_thing 88 = .ok (.bipush (-4), 2) := by decide +kernel
theorem dX9_thing_90 : decode cX9_thing 90 = .ok (.iastore, 1) := by decide +kernel
theorem dX9_thing_91 : decode cX9_thing 91 = .ok (.aload_n 0, 1) := by decide +kernel
theorem dX9_thing_92 : decode cX9_thing 92 = .ok (.dup, 1) := by decide +kernel
theorem dX9_thing_93 : decode cX9_thing 93 = .ok (.getfield 113, 3) := by decide +kernel
theorem dX9_thing_96 : decode cX9_thing 96 = .ok (.iconst 1, 1) := by decide +kernel
theorem dX9_thing_97 : decode cX9_thing 97 = .ok (.iadd, 1) := by decide +kernel
theorem dX9_thing_98 : decode cX9_thing 98 = .ok (.putfield 113, 3) := by decide +kernel
theorem dX9_thing_101 : decode cX9_thing 101 = .ok (.aload_n 0, 1) := by decide +kernel
theorem dX9_thing_102 : decode cX9_thing 102 = .ok (.getfield 113, 3) := by decide +kernel
theorem dX9_thing_105 : decode cX9_thing 105 = .ok (.iconst 1, 1) := by decide +kernel
theorem dX9_thing_106 : decode cX9_thing 106 = .ok (.isub, 1) := by decide +kernel
theorem dX9_thing_107 : decode cX9_thing 107 = .ok (.ireturn, 1) := by decide +kernel
theorem dX9_go_0 : decode cX9_go 0 = .ok (.iload_n 1, 1) := by decide +kernel
theorem dX9_go_1 : decode cX9_go 1 = .ok (.i2l, 1) := by decide +kernel
theorem dX9_go_2 : decode cX9_go 2 = .ok (.lconst 0, 1) := by decide +kernel
theorem dX9_go_3 : decode cX9_go 3 = .ok (.ldc2_w 127, 3) := by decide +kernel
theorem dX9_go_6 : decode cX9_go 6 = .ok (.invokestatic 117, 3) := by decide +kernel
theorem dX9_go_9 : decode cX9_go 9 = .ok (.ifCond .eq 17, 3) := by decide +kernel
theorem dX9_go_12 : decode cX9_go 12 = .ok (.iload_n 2, 1) := by decide +kernel
theorem dX9_go_13 : decode cX9_go 13 = .ok (.i2l, 1) := by decide +kernel
theorem dX9_go_14 : decode cX9_go 14 = .ok (.ldc2_w 129, 3) := by decide +kernel
theorem dX9_go_17 : decode cX9_go 17 = .ok (.ldc2_w 121, 3) := by decide +kernel
theorem dX9_go_20 : decode cX9_go 20 = .ok (.invokestatic 117, 3) := by decide +kernel
theorem dX9_go_23 : decode cX9_go 23 = .ok (.ifCond .ne 6, 3) := by decide +kernel
theorem dX9_go_26 : decode cX9_go 26 = .ok (.bipush (-100), 2) := by decide +kernel
theorem dX9_go_28 : decode cX9_go 28 = .ok (.ireturn, 1) := by decide +kernel
theorem dX9_go_29 : decode cX9_go 29 = .ok (.aload_n 0, 1) := by decide +kernel
theorem dX9_go_30 : decode cX9_go 30 = .ok (.getfield 28, 3) := by decide +kernel
theorem dX9_go_33 : decode cX9_go 33 = .ok (.iload_n 1, 1) := by decide +kernel
theorem dX9_go_34 : decode cX9_go 34 = .ok (.iaload, 1) := by decide +kernel
theorem dX9_go_35 : decode cX9_go 35 = .ok (.istore_n 3, 1) := by decide +kernel
theorem dX9_go_36 : decode cX9_go 36 = .ok (.aload_n 0, 1) := by decide +kernel
theorem dX9_go_37 : decode cX9_go 37 = .ok (.getfield 28, 3) := by decide +kernel
theorem dX9_go_40 : decode cX9_go 40 = .ok (.iload_n 1, 1) := by decide +kernel
theorem dX9_go_41 : decode cX9_go 41 = .ok (.iload_n 2, 1) := by decide +kernel
theorem dX9_go_42 : decode cX9_go 42 = .ok (.iastore, 1) := by decide +kernel
theorem dX9_go_43 : decode cX9_go 43 = .ok (.iload_n 3, 1) := by decide +kernel
theorem dX9_go_44 : decode cX9_go 44 = .ok (.ireturn, 1) := by decide +kernel
theorem dX9_state_0 : decode cX9_state 0 = .ok (.aload_n 0, 1) := by decide +kernel
theorem dX9_state_1 : decode cX9_state 1 = .ok (.iload_n 1, 1) := by decide +kernel
theorem dX9_state_2 : decode cX9_state 2 = .ok (.invokevirtual 131, 3) := by decide +kernel
theorem dX9_state_5 : decode cX9_state 5 = .ok (.ifCond .eq 12, 3) := by decide +kernel
theorem dX9_state_8 : decode cX9_state 8 = .ok (.aload_n 0, 1) := by decide +kernel
theorem dX9_state_9 : decode cX9_state 9 = .ok (.getfield 22, 3) := by decide +kernel
theorem dX9_state_12 : decode cX9_state 12 = .ok (.iload_n 1, 1) := by decide +kernel
theorem dX9_state_13 : decode cX9_state 13 = .ok (.iaload, 1) := by decide +kernel
theorem dX9_state_14 : decode cX9_state 14 = .ok (.goto 4, 3) := by decide +kernel
theorem dX9_state_17 : decode cX9_state 17 = .ok (.iconst (-1), 1) := by decide +kernel
theorem dX9_state_18 : decode cX9_state 18 = .ok (.ireturn, 1) := by decide +kernel
theorem dX9_doubt_0 : decode cX9_doubt 0 = .ok (.iload_n 1, 1) := by decide +kernel
theorem dX9_doubt_1 : decode cX9_doubt 1 = .ok (.i2l, 1) := by decide +kernel
theorem dX9_doubt_2 : decode cX9_doubt 2 = .ok (.lconst 0, 1) := by decide +kernel
theorem dX9_doubt_3 : decode cX9_doubt 3 = .ok (.ldc2_w 135, 3) := by decide +kernel
theorem dX9_doubt_6 : decode cX9_doubt 6 = .ok (.invokestatic 117, 3) := by decide +kernel
theorem dX9_doubt_9 : decode cX9_doubt 9 = .ok (.ifCond .eq 32, 3) := by decide +kernel
theorem dX9_doubt_12 : decode cX9_doubt 12 = .ok (.iload_n 2, 1) := by decide +kernel
theorem dX9_doubt_13 : decode cX9_doubt 13 = .ok (.i2l, 1) := by decide +kernel
theorem dX9_doubt_14 : decode cX9_doubt 14 = .ok (.lconst 0, 1) := by decide +kernel
theorem dX9_doubt_15 : decode cX9_doubt 15 = .ok (.ldc2_w 135, 3) := by decide +kernel
theorem dX9_doubt_18 : decode cX9_doubt 18 = .ok (.invokestatic 117, 3) := by decide +kernel
theorem dX9_doubt_21 : decode cX9_doubt 21 = .ok (.ifCond .eq 20, 3) := by decide +kernel
theorem dX9_doubt_24 : decode cX9_doubt 24 = .ok (.iload_n 1, 1) := by decide +kernel
theorem dX9_doubt_25 : decode cX9_doubt 25 = .ok (.iload_n 2, 1) := by decide +kernel
theorem dX9_doubt_26 : decode cX9_doubt 26 = .ok (.if_icmp .eq 15, 3) := by decide +kernel
theorem dX9_doubt_29 : decode cX9_doubt 29 = .ok (.iload_n 3, 1) := by decide +kernel
theorem dX9_doubt_30 : decode cX9_doubt 30 = .ok (.i2l, 1) := by decide +kernel
theorem dX9_doubt_31 : decode cX9_doubt 31 = .ok (.lconst 0, 1) := by decide +kernel
theorem dX9_doubt_32 : decode cX9_doubt 32 = .ok (.ldc2_w 137, 3) := by decide +kernel
theorem dX9_doubt_35 : decode cX9_doubt 35 = .ok (.invokestatic 117, 3) := by decide +kernel
theorem dX9_doubt_38 : decode cX9_doubt 38 = .ok (.ifCond .ne 5, 3) := by decide +kernel
theorem dX9_doubt_41 : decode cX9_doubt 41 = .ok (.iconst (-1), 1) := by decide +kernel
theorem dX9_doubt_42 : decode cX9_doubt 42 = .ok (.ireturn, 1) := by decide +kernel
theorem dX9_doubt_43 : decode cX9_doubt 43 = .ok (.aload_n 0, 1) := by decide +kernel
theorem dX9_doubt_44 : decode cX9_doubt 44 = .ok (.getfield 31, 3) := by decide +kernel
theorem dX9_doubt_47 : decode cX9_doubt 47 = .ok (.bipush 16, 2) := by decide +kernel
theorem dX9_doubt_49 : decode cX9_doubt 49 = .ok (.iload_n 1, 1) := by decide +kernel
theorem dX9_doubt_50 : decode cX9_doubt 50 = .ok (.imul, 1) := by decide +kernel
theorem dX9_doubt_51 : decode cX9_doubt 51 = .ok (.iload_n 2, 1) := by decide +kernel
theorem dX9_doubt_52 : decode cX9_doubt 52 = .ok (.iadd, 1) := by decide +kernel
theorem dX9_doubt_53 : decode cX9_doubt 53 = .ok (.iaload, 1) := by decide +kernel
theorem dX9_doubt_54 : decode cX9_doubt 54 = .ok (.istore 4, 2) := by decide +kernel
theorem dX9_doubt_56 : decode cX9_doubt 56 = .ok (.aload_n 0, 1) := by decide +kernel
theorem dX9_doubt_57 : decode cX9_doubt 57 = .ok (.getfield 31, 3) := by decide +kernel
theorem dX9_doubt_60 : decode cX9_doubt 60 = .ok (.bipush 16, 2) := by decide +kernel
theorem dX9_doubt_62 : decode cX9_doubt 62 = .ok (.iload_n 1, 1) := by decide +kernel
theorem dX9_doubt_63 : decode cX9_doubt 63 = .ok (.imul, 1) := by decide +kernel
theorem dX9_doubt_64 : decode cX9_doubt 64 = .ok (.iload_n 2, 1) := by decide +kernel
theorem dX9_doubt_65 : decode cX9_doubt 65 = .ok (.iadd, 1) := by decide +kernel
theorem dX9_doubt_66 : decode cX9_doubt 66 = .ok (.iload_n 3, 1) := by decide +kernel
theorem dX9_doubt_67 : decode cX9_doubt 67 = .ok (.iastore, 1) := by decide +kernel
theorem dX9_doubt_68 : decode cX9_doubt 68 = .ok (.iload 4, 2) := by decide +kernel
theorem dX9_doubt_70 : decode cX9_doubt 70 = .ok (.ireturn, 1) := by decide +kernel
theorem dX9_word_0 : decode cX9_word 0 = .ok (.iload_n 1, 1) := by decide +kernel
theorem dX9_word_1 : decode cX9_word 1 = .ok (.i2l, 1) := by decide +kernel
theorem dX9_word_2 : decode cX9_word 2 = .ok (.lconst 0, 1) := by decide +kernel
theorem dX9_word_3 : decode cX9_word 3 = .ok (.ldc2_w 123, 3) := by decide +kernel
theorem dX9_word_6 : decode cX9_word 6 = .ok (.invokestatic 117, 3) := by decide +kernel
theorem dX9_word_9 : decode cX9_word 9 = .ok (.ifCond .eq 65, 3) := by decide +kernel
theorem dX9_word_12 : decode cX9_word 12 = .ok (.iload_n 2, 1) := by decide +kernel
theorem dX9_word_13 : decode cX9_word 13 = .ok (.i2l, 1) := by decide +kernel
theorem dX9_word_14 : decode cX9_word 14 = .ok (.lconst 0, 1) := by decide +kernel
theorem dX9_word_15 : decode cX9_word 15 = .ok (.iload_n 1, 1) := by decide +kernel
theorem dX9_word_16 : decode cX9_word 16 = .ok (.iconst 2, 1) := by decide +kernel
theorem dX9_word_17 : decode cX9_word 17 = .ok (.if_icmp .ne 9, 3) := by decide +kernel
theorem dX9_word_20 : decode cX9_word 20 = .ok (.ldc2_w 121, 3) := by decide +kernel
theorem dX9_word_23 : decode cX9_word 23 = .ok (.goto 15, 3) := by decide +kernel
theorem dX9_word_26 : decode cX9_word 26 = .ok (.iload_n 1, 1) := by decide +kernel
theorem dX9_word_27 : decode cX9_word 27 = .ok (.iconst 3, 1) := by decide +kernel
theorem dX9_word_28 : decode cX9_word 28 = .ok (.if_icmp .ne 7, 3) := by decide +kernel
theorem dX9_word_31 : decode cX9_word 31 = .ok (.lconst 0, 1) := by decide +kernel
theorem dX9_word_32 : decode cX9_word 32 = .ok (.goto 6, 3) := by decide +kernel
theorem dX9_word_35 : decode cX9_word 35 = .ok (.ldc2_w 123, 3) := by decide +kernel
theorem dX9_word_38 : decode cX9_word 38 = .ok (.invokestatic 117, 3) := by decide +kernel
theorem dX9_word_41 : decode cX9_word 41 = .ok (.ifCond .eq 33, 3) := by decide +kernel
theorem dX9_word_44 : decode cX9_word 44 = .ok (.iload_n 3, 1) := by decide +kernel
theorem dX9_word_45 : decode cX9_word 45 = .ok (.i2l, 1) := by decide +kernel
theorem dX9_word_46 : decode cX9_word 46 = .ok (.lconst 1, 1) := by decide +kernel
theorem dX9_word_47 : decode cX9_word 47 = .ok (.ldc2_w 121, 3) := by decide +kernel
theorem dX9_word_50 : decode cX9_word 50 = .ok (.invokestatic 117, 3) := by decide +kernel
